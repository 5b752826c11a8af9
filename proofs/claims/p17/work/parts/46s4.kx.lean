set_option maxHeartbeats 4000000 in
theorem u_T_centreX (l : Launch) (d_ : Nat) (Mz : zMem) (hW : zKW d_ Mz) (hnow : zf Mz 0 2 = some (d_ + 0)) (a0_ : Int) (ha0_a : -2147483648 ≤ a0_) (ha0_b : a0_ < 2147483648) : zC l m_T_centre 0 0 [.ref 0, .int (Int32.ofInt a0_)] Mz (zqcI d_ [] [] [] [] Mz (fun v N => True)) := by
  refine zC_of (L0 := [some (.ref 0), some (.int (Int32.ofInt a0_))]) md_T_centre (Nat.le_of_ble_eq_true rfl) rfl ?_ zQ0
  have hf : zFc d_ [] [] [] [] Mz Mz := zFc.rf
  refine zw_aload_n (pc := 0) (n := 0) (x := 0) rfl (zdal_p dlB_T_centre_57 (i := 0) rfl) ?_
  refine zw_getF (pc := 1) f_T_28 rfl ((hf.w hW).ka (o := 0) (by decide)) (hf.now hnow) (zdal_p dlB_T_centre_57 (i := 1) rfl) ?_
  refine zw_getF (pc := 4) f_T_85 rfl ((hf.w hW).kr (o := 0) (by decide)) ((hf.w hW).lr (o := 0) (s := 1) (r := 12) (by decide)) (zdal_p dlB_T_centre_57 (i := 2) rfl) ?_
  refine zw_iload_n (pc := 7) (n := 1) (x := Int32.ofInt a0_) rfl (zdal_p dlB_T_centre_57 (i := 3) rfl) ?_
  refine zk_callV hf.x (pc := 8) [.int (Int32.ofInt a0_)] [] l_T_143 (u_Sorts_hasSortX l d_ Mz (hf.w hW) a0_ ha0_a ha0_b) rfl rfl ((hf.w hW).kr (o := 12) (by decide)) (by decide) (by decide) (Nat.le_of_ble_eq_true rfl) (zdal_p dlB_T_centre_57 (i := 4) rfl) ?_
  rintro _ N1_ ⟨v2_, rfl, ⟨hv2_a, hv2_b⟩, hsN1_, hp0_N1_⟩
  obtain rfl := hsN1_.eq.symm
  replace hp0_N1_ : (v2_ = 0 ∨ v2_ = 1) := hp0_N1_
  show zW l m_T_centre (zn Mz + 0, zw Mz + 0) Mz 11 [some (.ref 0), some (.int (Int32.ofInt a0_))] [.int (Int32.ofInt v2_)] _
  refine zr_if_eq (pc := 11) (tgt := 41) ⟨hv2_a, hv2_b⟩ (by decide) (zdal_p dlB_T_centre_57 (i := 5) rfl) (fun hc_11 => ?_) (fun hc_11 => ?_)
  · skip
    refine zw_iconst (pc := 41) (v := Int32.ofInt (-1)) (by decide) (zdal_p dlB_T_centre_57 (i := 17) rfl) ?_
    exact zk_iret (pc := 42) (ty := .int) rfl rfl ⟨by omega, by omega⟩ hf trivial (zdal_p dlB_T_centre_57 (i := 18) rfl)
  · skip
    refine zw_aload_n (pc := 14) (n := 0) (x := 0) rfl (zdal_p dlB_T_centre_57 (i := 6) rfl) ?_
    refine zw_getF (pc := 15) f_T_28 rfl ((hf.w hW).ka (o := 0) (by decide)) (hf.now hnow) (zdal_p dlB_T_centre_57 (i := 7) rfl) ?_
    refine zw_getF (pc := 18) f_T_61 rfl ((hf.w hW).kr (o := 0) (by decide)) ((hf.w hW).lr (o := 0) (s := 0) (r := 1) (by decide)) (zdal_p dlB_T_centre_57 (i := 8) rfl) ?_
    refine zw_aload_n (pc := 21) (n := 0) (x := 0) rfl (zdal_p dlB_T_centre_57 (i := 9) rfl) ?_
    refine zw_getF (pc := 22) f_T_28 rfl ((hf.w hW).ka (o := 0) (by decide)) (hf.now hnow) (zdal_p dlB_T_centre_57 (i := 10) rfl) ?_
    refine zw_getF (pc := 25) f_T_85 rfl ((hf.w hW).kr (o := 0) (by decide)) ((hf.w hW).lr (o := 0) (s := 1) (r := 12) (by decide)) (zdal_p dlB_T_centre_57 (i := 11) rfl) ?_
    refine zw_getF (pc := 28) f_T_146 rfl ((hf.w hW).kr (o := 12) (by decide)) ((hf.w hW).lr (o := 12) (s := 4) (r := 19) (by decide)) (zdal_p dlB_T_centre_57 (i := 12) rfl) ?_
    refine zw_iload_n (pc := 31) (n := 1) (x := Int32.ofInt a0_) rfl (zdal_p dlB_T_centre_57 (i := 13) rfl) ?_
    refine zk_atG hf.x (pc := 32) l_T_118 ((hf.w hW).kr (o := 19) (by decide)) ((hf.w hW).lr (o := 19) (s := 0) (r := 20) (by decide)) ((hf.w hW).rr (o := 20) (t := 1) (n := 27) (by decide)) (by decide) ⟨by omega, by omega⟩ (by decide) (Nat.le_of_ble_eq_true rfl) (zdal_p dlB_T_centre_57 (i := 14) rfl) (fun v3_ hv3_ hv3_a hv3_b => ?_)
    clear hv3_
    refine zk_callV hf.x (pc := 35) [.int (Int32.ofInt v3_)] [] l_T_208 (u_Group_centreOfX l d_ Mz (hf.w hW) v3_ hv3_a hv3_b) rfl rfl ((hf.w hW).kr (o := 1) (by decide)) (by decide) (by decide) (Nat.le_of_ble_eq_true rfl) (zdal_p dlB_T_centre_57 (i := 15) rfl) ?_
    rintro _ N4_ ⟨v5_, rfl, ⟨hv5_a, hv5_b⟩, hsN4_, -⟩
    obtain rfl := hsN4_.eq.symm
    show zW l m_T_centre (zn Mz + 0, zw Mz + 0) Mz 38 [some (.ref 0), some (.int (Int32.ofInt a0_))] [.int (Int32.ofInt v5_)] _
    refine zw_goto (pc := 38) (tgt := 42) (by decide) (zdal_p dlB_T_centre_57 (i := 16) rfl) ?_
    exact zk_iret (pc := 42) (ty := .int) rfl rfl ⟨by omega, by omega⟩ hf trivial (zdal_p dlB_T_centre_57 (i := 18) rfl)
set_option maxHeartbeats 4000000 in
theorem u_Sums_totalOfWorkX (l : Launch) (d_ : Nat) (Mz : zMem) (hW : zKW d_ Mz) : zC l m_Sums_totalOfWork 0 0 [.ref (d_ + 23)] Mz (zqcI d_ [] [] [] [] Mz (fun v N => True)) := by
  refine zC_of (L0 := [some (.ref (d_ + 23)), none, none, none]) md_Sums_totalOfWork (Nat.le_of_ble_eq_true rfl) rfl ?_ zQ0
  have hf : zFc d_ [] [] [] [] Mz Mz := zFc.rf
  refine zw_lconst (pc := 0) (v := Int64.ofInt 0) (by decide) (zdal_p dlB_Sums_totalOfWork_60 (i := 0) rfl) ?_
  refine zw_lstore_n (pc := 1) (i := 1) (L2 := [some (.ref (d_ + 23)), some (.long (Int64.ofInt 0)), none, none]) rfl (by decide) rfl (zdal_p dlB_Sums_totalOfWork_60 (i := 1) rfl) ?_
  refine zw_iconst (pc := 2) (v := Int32.ofInt 0) (by decide) (zdal_p dlB_Sums_totalOfWork_60 (i := 2) rfl) ?_
  refine zw_istore_n (pc := 3) (i := 3) (L2 := [some (.ref (d_ + 23)), some (.long (Int64.ofInt 0)), none, some (.int (Int32.ofInt 0))]) rfl (by decide) rfl (zdal_p dlB_Sums_totalOfWork_60 (i := 3) rfl) ?_
  have lp_4 : ∀ (n : Nat) (u1_ : Int) (hu1_a : -9223372036854775808 ≤ u1_) (hu1_b : u1_ < 9223372036854775808) (u2_ : Int) (hu2_a : -2147483648 ≤ u2_) (hu2_b : u2_ < 2147483648) (i3_ : 0 ≤ u2_), (ze Mz (d_ + 12) 7 - u2_).toNat < n → zW l m_Sums_totalOfWork (zn Mz + 0, zw Mz + 0) Mz 4 [some (.ref (d_ + 23)), some (.long (Int64.ofInt u1_)), none, some (.int (Int32.ofInt u2_))] [] (zqcI d_ [] [] [] [] Mz (fun v N => True)) := by
    intro n
    induction n with
    | zero =>
      intro u1_ hu1_a hu1_b u2_ hu2_a hu2_b i3_ h0
      exact absurd h0 (Nat.not_lt_zero _)
    | succ n ih_4 =>
      intro u1_ hu1_a hu1_b u2_ hu2_a hu2_b i3_ hlt_4
      refine zw_iload_n (pc := 4) (n := 3) (x := Int32.ofInt u2_) rfl (zdal_p dlB_Sums_totalOfWork_60 (i := 4) rfl) ?_
      refine zw_aload_n (pc := 5) (n := 0) (x := (d_ + 23)) rfl (zdal_p dlB_Sums_totalOfWork_60 (i := 5) rfl) ?_
      refine zw_getF (pc := 6) f_Sums_23 rfl ((hf.w hW).kr (o := 23) (by decide)) ((hf.w hW).lr (o := 23) (s := 0) (r := 12) (by decide)) (zdal_p dlB_Sums_totalOfWork_60 (i := 6) rfl) ?_
      refine zk_getI (pc := 9) f_Sums_35 rfl ((hf.w hW).kr (o := 12) (by decide)) (zdal_p dlB_Sums_totalOfWork_60 (i := 7) rfl) ?_
      have hr4_ := ze_r Mz (d_ + 12) 7
      refine zr_icmp_ge (pc := 12) (tgt := 31) ⟨hu2_a, hu2_b⟩ ⟨(ze_r Mz (d_ + 12) 7).1, (ze_r Mz (d_ + 12) 7).2⟩ (by decide) (zdal_p dlB_Sums_totalOfWork_60 (i := 8) rfl) (fun hc_12 => ?_) (fun hc_12 => ?_)
      · skip
        refine zw_lload_n (pc := 31) (n := 1) (x := Int64.ofInt u1_) rfl (zdal_p dlB_Sums_totalOfWork_60 (i := 18) rfl) ?_
        refine zr_l2i (pc := 32) (zdal_p dlB_Sums_totalOfWork_60 (i := 19) rfl) ?_
        refine zr_nmI (fun v5_ hv5_ => ?_)
        obtain ⟨hv5_a, hv5_b⟩ := hv5_
        exact zk_iret (pc := 33) (ty := .int) rfl rfl ⟨by omega, by omega⟩ hf trivial (zdal_p dlB_Sums_totalOfWork_60 (i := 20) rfl)
      · skip
        refine zw_lload_n (pc := 15) (n := 1) (x := Int64.ofInt u1_) rfl (zdal_p dlB_Sums_totalOfWork_60 (i := 9) rfl) ?_
        refine zw_aload_n (pc := 16) (n := 0) (x := (d_ + 23)) rfl (zdal_p dlB_Sums_totalOfWork_60 (i := 10) rfl) ?_
        refine zw_bipush (pc := 17) (v := Int32.ofInt 39) (by decide) (zdal_p dlB_Sums_totalOfWork_60 (i := 11) rfl) ?_
        refine zw_iload_n (pc := 19) (n := 3) (x := Int32.ofInt u2_) rfl (zdal_p dlB_Sums_totalOfWork_60 (i := 12) rfl) ?_
        refine zk_callV hf.x (pc := 20) [.int (Int32.ofInt 39), .int (Int32.ofInt u2_)] [.long (Int64.ofInt u1_)] l_Sums_67 (u_Sums_numberAtX l d_ Mz (hf.w hW) 39 (by decide) (by decide) u2_ hu2_a hu2_b) rfl rfl ((hf.w hW).kr (o := 23) (by decide)) (by decide) (by decide) (Nat.le_of_ble_eq_true rfl) (zdal_p dlB_Sums_totalOfWork_60 (i := 13) rfl) ?_
        rintro _ N6_ ⟨v7_, rfl, ⟨hv7_a, hv7_b⟩, hsN6_, -⟩
        obtain rfl := hsN6_.eq.symm
        show zW l m_Sums_totalOfWork (zn Mz + 0, zw Mz + 0) Mz 23 [some (.ref (d_ + 23)), some (.long (Int64.ofInt u1_)), none, some (.int (Int32.ofInt u2_))] [.long (Int64.ofInt v7_), .long (Int64.ofInt u1_)] _
        refine zr_ladd (pc := 23) (zdal_p dlB_Sums_totalOfWork_60 (i := 14) rfl) ?_
        refine zr_nmJ (fun v8_ hv8_ => ?_)
        obtain ⟨hv8_a, hv8_b⟩ := hv8_
        refine zw_lstore_n (pc := 24) (i := 1) (L2 := [some (.ref (d_ + 23)), some (.long (Int64.ofInt v8_)), none, some (.int (Int32.ofInt u2_))]) rfl (by decide) rfl (zdal_p dlB_Sums_totalOfWork_60 (i := 15) rfl) ?_
        refine zr_iinc (pc := 25) (i := 3) (a := u2_) (n := 1) (L2 := [some (.ref (d_ + 23)), some (.long (Int64.ofInt v8_)), none, some (.int (Int32.ofInt (u2_ + 1)))]) rfl (by decide) rfl (zdal_p dlB_Sums_totalOfWork_60 (i := 16) rfl) ?_
        obtain ⟨v9_, hv9_a, hv9_b, hv9_e, hv9_d⟩ := zk_gen (u2_ + 1)
        rw [hv9_e]
        refine zw_goto (pc := 28) (tgt := 4) (by decide) (zdal_p dlB_Sums_totalOfWork_60 (i := 17) rfl) ?_
        exact ih_4 v8_ hv8_a hv8_b v9_ hv9_a hv9_b (show 0 ≤ v9_ by first | with_reducible assumption | assumption | omega) (by omega)
  exact lp_4 _ 0 (by decide) (by decide) 0 (by decide) (by decide) (show 0 ≤ (0 : Int) by first | with_reducible assumption | assumption | omega) (Nat.lt_succ_self _)
set_option maxHeartbeats 4000000 in
theorem u_T_pairsX (l : Launch) (d_ : Nat) (Mz : zMem) (hW : zKW d_ Mz) (hnow : zf Mz 0 2 = some (d_ + 0)) (a0_ : Int) (ha0_a : -2147483648 ≤ a0_) (ha0_b : a0_ < 2147483648) (a1_ : Int) (ha1_a : -2147483648 ≤ a1_) (ha1_b : a1_ < 2147483648) : zC l m_T_pairs 0 0 [.ref 0, .int (Int32.ofInt a0_), .int (Int32.ofInt a1_)] Mz (zqcI d_ [] [] [] [25, 27] Mz (fun v N => True)) := by
  refine zC_of (L0 := [some (.ref 0), some (.int (Int32.ofInt a0_)), some (.int (Int32.ofInt a1_))]) md_T_pairs (Nat.le_of_ble_eq_true rfl) rfl ?_ zQ0
  have hf : zFc d_ [] [] [] [25, 27] Mz Mz := zFc.rf
  refine zw_aload_n (pc := 0) (n := 0) (x := 0) rfl (zdal_p dlB_T_pairs_58 (i := 0) rfl) ?_
  refine zw_getF (pc := 1) f_T_28 rfl ((hf.w hW).ka (o := 0) (by decide)) (hf.now hnow) (zdal_p dlB_T_pairs_58 (i := 1) rfl) ?_
  refine zw_getF (pc := 4) f_T_85 rfl ((hf.w hW).kr (o := 0) (by decide)) ((hf.w hW).lr (o := 0) (s := 1) (r := 12) (by decide)) (zdal_p dlB_T_pairs_58 (i := 2) rfl) ?_
  refine zw_iload_n (pc := 7) (n := 1) (x := Int32.ofInt a0_) rfl (zdal_p dlB_T_pairs_58 (i := 3) rfl) ?_
  refine zk_callV hf.x (pc := 8) [.int (Int32.ofInt a0_)] [] l_T_143 (u_Sorts_hasSortX l d_ Mz (hf.w hW) a0_ ha0_a ha0_b) rfl rfl ((hf.w hW).kr (o := 12) (by decide)) (by decide) (by decide) (Nat.le_of_ble_eq_true rfl) (zdal_p dlB_T_pairs_58 (i := 4) rfl) ?_
  rintro _ N1_ ⟨v2_, rfl, ⟨hv2_a, hv2_b⟩, hsN1_, hp0_N1_⟩
  obtain rfl := hsN1_.eq.symm
  replace hp0_N1_ : (v2_ = 0 ∨ v2_ = 1) := hp0_N1_
  show zW l m_T_pairs (zn Mz + 0, zw Mz + 0) Mz 11 [some (.ref 0), some (.int (Int32.ofInt a0_)), some (.int (Int32.ofInt a1_))] [.int (Int32.ofInt v2_)] _
  refine zr_if_eq (pc := 11) (tgt := 28) ⟨hv2_a, hv2_b⟩ (by decide) (zdal_p dlB_T_pairs_58 (i := 5) rfl) (fun hc_11 => ?_) (fun hc_11 => ?_)
  · skip
    refine zw_iconst (pc := 28) (v := Int32.ofInt (-1)) (by decide) (zdal_p dlB_T_pairs_58 (i := 12) rfl) ?_
    exact zk_iret (pc := 29) (ty := .int) rfl rfl ⟨by omega, by omega⟩ hf trivial (zdal_p dlB_T_pairs_58 (i := 13) rfl)
  · skip
    refine zw_aload_n (pc := 14) (n := 0) (x := 0) rfl (zdal_p dlB_T_pairs_58 (i := 6) rfl) ?_
    refine zw_getF (pc := 15) f_T_28 rfl ((hf.w hW).ka (o := 0) (by decide)) (hf.now hnow) (zdal_p dlB_T_pairs_58 (i := 7) rfl) ?_
    refine zw_getF (pc := 18) f_T_85 rfl ((hf.w hW).kr (o := 0) (by decide)) ((hf.w hW).lr (o := 0) (s := 1) (r := 12) (by decide)) (zdal_p dlB_T_pairs_58 (i := 8) rfl) ?_
    refine zw_iload_n (pc := 21) (n := 2) (x := Int32.ofInt a1_) rfl (zdal_p dlB_T_pairs_58 (i := 9) rfl) ?_
    refine zk_callV hf.x (pc := 22) [.int (Int32.ofInt a1_)] [] l_T_143 (u_Sorts_hasSortX l d_ Mz (hf.w hW) a1_ ha1_a ha1_b) rfl rfl ((hf.w hW).kr (o := 12) (by decide)) (by decide) (by decide) (Nat.le_of_ble_eq_true rfl) (zdal_p dlB_T_pairs_58 (i := 10) rfl) ?_
    rintro _ N3_ ⟨v4_, rfl, ⟨hv4_a, hv4_b⟩, hsN3_, hp0_N3_⟩
    obtain rfl := hsN3_.eq.symm
    replace hp0_N3_ : (v4_ = 0 ∨ v4_ = 1) := hp0_N3_
    show zW l m_T_pairs (zn Mz + 0, zw Mz + 0) Mz 25 [some (.ref 0), some (.int (Int32.ofInt a0_)), some (.int (Int32.ofInt a1_))] [.int (Int32.ofInt v4_)] _
    refine zr_if_ne (pc := 25) (tgt := 30) ⟨hv4_a, hv4_b⟩ (by decide) (zdal_p dlB_T_pairs_58 (i := 11) rfl) (fun hc_25 => ?_) (fun hc_25 => ?_)
    · skip
      refine zw_aload_n (pc := 30) (n := 0) (x := 0) rfl (zdal_p dlB_T_pairs_58 (i := 14) rfl) ?_
      refine zw_getF (pc := 31) f_T_28 rfl ((hf.w hW).ka (o := 0) (by decide)) (hf.now hnow) (zdal_p dlB_T_pairs_58 (i := 15) rfl) ?_
      refine zw_getF (pc := 34) f_T_169 rfl ((hf.w hW).kr (o := 0) (by decide)) ((hf.w hW).lr (o := 0) (s := 2) (r := 23) (by decide)) (zdal_p dlB_T_pairs_58 (i := 16) rfl) ?_
      refine zw_iload_n (pc := 37) (n := 1) (x := Int32.ofInt a0_) rfl (zdal_p dlB_T_pairs_58 (i := 17) rfl) ?_
      refine zw_iload_n (pc := 38) (n := 2) (x := Int32.ofInt a1_) rfl (zdal_p dlB_T_pairs_58 (i := 18) rfl) ?_
      refine zk_callV hf.x (pc := 39) [.int (Int32.ofInt a0_), .int (Int32.ofInt a1_)] [] l_T_173 (u_Sums_putProductX l d_ Mz (hf.w hW) a0_ ha0_a ha0_b a1_ ha1_a ha1_b) rfl rfl ((hf.w hW).kr (o := 23) (by decide)) (by decide) (by decide) (Nat.le_of_ble_eq_true rfl) (zdal_p dlB_T_pairs_58 (i := 19) rfl) ?_
      rintro _ N5_ ⟨rfl, hsN5_, -⟩
      have hf_N5_ : zFc d_ [] [] [] [25, 27] Mz N5_ := hf.tr hsN5_ (by decide) (by decide) (by decide) (by decide)
      show zW l m_T_pairs (zn Mz + 0, zw Mz + 0) N5_ 42 [some (.ref 0), some (.int (Int32.ofInt a0_)), some (.int (Int32.ofInt a1_))] [] _
      refine zw_aload_n (pc := 42) (n := 0) (x := 0) rfl (zdal_p dlB_T_pairs_58 (i := 20) rfl) ?_
      refine zw_getF (pc := 43) f_T_28 rfl ((hf_N5_.w hW).ka (o := 0) (by decide)) (hf_N5_.now hnow) (zdal_p dlB_T_pairs_58 (i := 21) rfl) ?_
      refine zw_getF (pc := 46) f_T_169 rfl ((hf_N5_.w hW).kr (o := 0) (by decide)) ((hf_N5_.w hW).lr (o := 0) (s := 2) (r := 23) (by decide)) (zdal_p dlB_T_pairs_58 (i := 22) rfl) ?_
      refine zk_callV hf_N5_.x (pc := 49) [] [] l_T_211 (u_Sums_totalOfWorkX l d_ N5_ (hf_N5_.w hW) ) rfl rfl ((hf_N5_.w hW).kr (o := 23) (by decide)) (by decide) (by decide) (Nat.le_of_ble_eq_true rfl) (zdal_p dlB_T_pairs_58 (i := 23) rfl) ?_
      rintro _ N7_ ⟨v8_, rfl, ⟨hv8_a, hv8_b⟩, hsN7_, -⟩
      obtain rfl := hsN7_.eq.symm
      show zW l m_T_pairs (zn Mz + 0, zw Mz + 0) N5_ 52 [some (.ref 0), some (.int (Int32.ofInt a0_)), some (.int (Int32.ofInt a1_))] [.int (Int32.ofInt v8_)] _
      exact zk_iret (pc := 52) (ty := .int) rfl rfl ⟨by omega, by omega⟩ hf_N5_ trivial (zdal_p dlB_T_pairs_59 (i := 0) rfl)
    · skip
      refine zw_iconst (pc := 28) (v := Int32.ofInt (-1)) (by decide) (zdal_p dlB_T_pairs_58 (i := 12) rfl) ?_
      exact zk_iret (pc := 29) (ty := .int) rfl rfl ⟨by omega, by omega⟩ hf trivial (zdal_p dlB_T_pairs_58 (i := 13) rfl)
set_option maxHeartbeats 4000000 in
theorem u_Group_commutingPairsX (l : Launch) (d_ : Nat) (Mz : zMem) (hW : zKW d_ Mz) : zC l m_Group_commutingPairs 0 0 [.ref (d_ + 1)] Mz (zqcI d_ [] [] [] [] Mz (fun v N => True)) := by
  refine zC_of (L0 := [some (.ref (d_ + 1)), none, none]) md_Group_commutingPairs (Nat.le_of_ble_eq_true rfl) rfl ?_ zQ0
  have hf : zFc d_ [] [] [] [] Mz Mz := zFc.rf
  refine zw_iconst (pc := 0) (v := Int32.ofInt 0) (by decide) (zdal_p dlB_Group_commutingPairs_62 (i := 0) rfl) ?_
  refine zw_istore_n (pc := 1) (i := 1) (L2 := [some (.ref (d_ + 1)), some (.int (Int32.ofInt 0)), none]) rfl (by decide) rfl (zdal_p dlB_Group_commutingPairs_62 (i := 1) rfl) ?_
  refine zw_iconst (pc := 2) (v := Int32.ofInt 0) (by decide) (zdal_p dlB_Group_commutingPairs_62 (i := 2) rfl) ?_
  refine zw_istore_n (pc := 3) (i := 2) (L2 := [some (.ref (d_ + 1)), some (.int (Int32.ofInt 0)), some (.int (Int32.ofInt 0))]) rfl (by decide) rfl (zdal_p dlB_Group_commutingPairs_62 (i := 3) rfl) ?_
  have lp_4 : ∀ (n : Nat) (u1_ : Int) (hu1_a : -2147483648 ≤ u1_) (hu1_b : u1_ < 2147483648) (u2_ : Int) (hu2_a : -2147483648 ≤ u2_) (hu2_b : u2_ < 2147483648) (i3_ : 0 ≤ u2_), (ze Mz (d_ + 1) 7 - u2_).toNat < n → zW l m_Group_commutingPairs (zn Mz + 0, zw Mz + 0) Mz 4 [some (.ref (d_ + 1)), some (.int (Int32.ofInt u1_)), some (.int (Int32.ofInt u2_))] [] (zqcI d_ [] [] [] [] Mz (fun v N => True)) := by
    intro n
    induction n with
    | zero =>
      intro u1_ hu1_a hu1_b u2_ hu2_a hu2_b i3_ h0
      exact absurd h0 (Nat.not_lt_zero _)
    | succ n ih_4 =>
      intro u1_ hu1_a hu1_b u2_ hu2_a hu2_b i3_ hlt_4
      refine zw_iload_n (pc := 4) (n := 2) (x := Int32.ofInt u2_) rfl (zdal_p dlB_Group_commutingPairs_62 (i := 4) rfl) ?_
      refine zw_aload_n (pc := 5) (n := 0) (x := (d_ + 1)) rfl (zdal_p dlB_Group_commutingPairs_62 (i := 5) rfl) ?_
      refine zk_getI (pc := 6) f_Group_39 rfl ((hf.w hW).kr (o := 1) (by decide)) (zdal_p dlB_Group_commutingPairs_62 (i := 6) rfl) ?_
      have hr4_ := ze_r Mz (d_ + 1) 7
      refine zr_icmp_ge (pc := 9) (tgt := 33) ⟨hu2_a, hu2_b⟩ ⟨(ze_r Mz (d_ + 1) 7).1, (ze_r Mz (d_ + 1) 7).2⟩ (by decide) (zdal_p dlB_Group_commutingPairs_62 (i := 7) rfl) (fun hc_9 => ?_) (fun hc_9 => ?_)
      · skip
        refine zw_iload_n (pc := 33) (n := 1) (x := Int32.ofInt u1_) rfl (zdal_p dlB_Group_commutingPairs_62 (i := 19) rfl) ?_
        exact zk_iret (pc := 34) (ty := .int) rfl rfl ⟨by omega, by omega⟩ hf trivial (zdal_p dlB_Group_commutingPairs_62 (i := 20) rfl)
      · skip
        refine zw_iload_n (pc := 12) (n := 1) (x := Int32.ofInt u1_) rfl (zdal_p dlB_Group_commutingPairs_62 (i := 8) rfl) ?_
        refine zw_aload_n (pc := 13) (n := 0) (x := (d_ + 1)) rfl (zdal_p dlB_Group_commutingPairs_62 (i := 9) rfl) ?_
        refine zw_iload_n (pc := 14) (n := 2) (x := Int32.ofInt u2_) rfl (zdal_p dlB_Group_commutingPairs_62 (i := 10) rfl) ?_
        refine zw_aload_n (pc := 15) (n := 0) (x := (d_ + 1)) rfl (zdal_p dlB_Group_commutingPairs_62 (i := 11) rfl) ?_
        refine zk_callV hf.x (pc := 16) [] [.int (Int32.ofInt u2_), .ref (d_ + 1), .int (Int32.ofInt u1_)] l_Group_93 (u_Group_everyoneX l d_ Mz (hf.w hW) ) rfl rfl ((hf.w hW).kr (o := 1) (by decide)) (by decide) (by decide) (Nat.le_of_ble_eq_true rfl) (zdal_p dlB_Group_commutingPairs_62 (i := 12) rfl) ?_
        rintro _ N5_ ⟨v6_, rfl, ⟨hv6_a, hv6_b⟩, hsN5_, -⟩
        obtain rfl := hsN5_.eq.symm
        show zW l m_Group_commutingPairs (zn Mz + 0, zw Mz + 0) Mz 19 [some (.ref (d_ + 1)), some (.int (Int32.ofInt u1_)), some (.int (Int32.ofInt u2_))] [.int (Int32.ofInt v6_), .int (Int32.ofInt u2_), .ref (d_ + 1), .int (Int32.ofInt u1_)] _
        refine zk_callV hf.x (pc := 19) [.int (Int32.ofInt u2_), .int (Int32.ofInt v6_)] [.int (Int32.ofInt u1_)] l_Group_97 (u_Group_commutingWithX l d_ Mz (hf.w hW) u2_ hu2_a hu2_b v6_ hv6_a hv6_b) rfl rfl ((hf.w hW).kr (o := 1) (by decide)) (by decide) (by decide) (Nat.le_of_ble_eq_true rfl) (zdal_p dlB_Group_commutingPairs_62 (i := 13) rfl) ?_
        rintro _ N7_ ⟨v8_, rfl, ⟨hv8_a, hv8_b⟩, hsN7_, -⟩
        obtain rfl := hsN7_.eq.symm
        show zW l m_Group_commutingPairs (zn Mz + 0, zw Mz + 0) Mz 22 [some (.ref (d_ + 1)), some (.int (Int32.ofInt u1_)), some (.int (Int32.ofInt u2_))] [.int (Int32.ofInt v8_), .int (Int32.ofInt u1_)] _
        refine zr_callS hf.x (pc := 22) [.int (Int32.ofInt v8_)] [.int (Int32.ofInt u1_)] l_Group_83 (u_Integer_bitCountX l d_ Mz (hf.w hW) v8_ hv8_a hv8_b) rfl rfl (by decide) (Nat.le_of_ble_eq_true rfl) (zdal_p dlB_Group_commutingPairs_62 (i := 14) rfl) ?_
        rintro _ N9_ ⟨v10_, rfl, ⟨hv10_a, hv10_b⟩, hsN9_, ⟨hp0_N9_, hp1_N9_⟩⟩
        obtain rfl := hsN9_.eq.symm
        show zW l m_Group_commutingPairs (zn Mz + 0, zw Mz + 0) Mz 25 [some (.ref (d_ + 1)), some (.int (Int32.ofInt u1_)), some (.int (Int32.ofInt u2_))] [.int (Int32.ofInt v10_), .int (Int32.ofInt u1_)] _
        refine zr_iadd (pc := 25) (zdal_p dlB_Group_commutingPairs_62 (i := 15) rfl) ?_
        refine zr_nmI (fun v11_ hv11_ => ?_)
        obtain ⟨hv11_a, hv11_b⟩ := hv11_
        refine zw_istore_n (pc := 26) (i := 1) (L2 := [some (.ref (d_ + 1)), some (.int (Int32.ofInt v11_)), some (.int (Int32.ofInt u2_))]) rfl (by decide) rfl (zdal_p dlB_Group_commutingPairs_62 (i := 16) rfl) ?_
        refine zr_iinc (pc := 27) (i := 2) (a := u2_) (n := 1) (L2 := [some (.ref (d_ + 1)), some (.int (Int32.ofInt v11_)), some (.int (Int32.ofInt (u2_ + 1)))]) rfl (by decide) rfl (zdal_p dlB_Group_commutingPairs_62 (i := 17) rfl) ?_
        obtain ⟨v12_, hv12_a, hv12_b, hv12_e, hv12_d⟩ := zk_gen (u2_ + 1)
        rw [hv12_e]
        refine zw_goto (pc := 30) (tgt := 4) (by decide) (zdal_p dlB_Group_commutingPairs_62 (i := 18) rfl) ?_
        exact ih_4 v11_ hv11_a hv11_b v12_ hv12_a hv12_b (show 0 ≤ v12_ by first | with_reducible assumption | assumption | omega) (by omega)
  exact lp_4 _ 0 (by decide) (by decide) 0 (by decide) (by decide) (show 0 ≤ (0 : Int) by first | with_reducible assumption | assumption | omega) (Nat.lt_succ_self _)
set_option maxHeartbeats 4000000 in
theorem u_T_alikeX (l : Launch) (d_ : Nat) (Mz : zMem) (hW : zKW d_ Mz) (hnow : zf Mz 0 2 = some (d_ + 0)) : zC l m_T_alike 0 0 [.ref 0] Mz (zqcI d_ [] [] [] [] Mz (fun v N => True)) := by
  refine zC_of (L0 := [some (.ref 0)]) md_T_alike (Nat.le_of_ble_eq_true rfl) rfl ?_ zQ0
  have hf : zFc d_ [] [] [] [] Mz Mz := zFc.rf
  refine zw_aload_n (pc := 0) (n := 0) (x := 0) rfl (zdal_p dlB_T_alike_61 (i := 0) rfl) ?_
  refine zw_getF (pc := 1) f_T_28 rfl ((hf.w hW).ka (o := 0) (by decide)) (hf.now hnow) (zdal_p dlB_T_alike_61 (i := 1) rfl) ?_
  refine zw_getF (pc := 4) f_T_61 rfl ((hf.w hW).kr (o := 0) (by decide)) ((hf.w hW).lr (o := 0) (s := 0) (r := 1) (by decide)) (zdal_p dlB_T_alike_61 (i := 2) rfl) ?_
  refine zk_callV hf.x (pc := 7) [] [] l_T_214 (u_Group_commutingPairsX l d_ Mz (hf.w hW) ) rfl rfl ((hf.w hW).kr (o := 1) (by decide)) (by decide) (by decide) (Nat.le_of_ble_eq_true rfl) (zdal_p dlB_T_alike_61 (i := 3) rfl) ?_
  rintro _ N1_ ⟨v2_, rfl, ⟨hv2_a, hv2_b⟩, hsN1_, -⟩
  obtain rfl := hsN1_.eq.symm
  show zW l m_T_alike (zn Mz + 0, zw Mz + 0) Mz 10 [some (.ref 0)] [.int (Int32.ofInt v2_)] _
  exact zk_iret (pc := 10) (ty := .int) rfl rfl ⟨by omega, by omega⟩ hf trivial (zdal_p dlB_T_alike_61 (i := 4) rfl)
set_option maxHeartbeats 4000000 in
theorem u_T_meetX (l : Launch) (d_ : Nat) (Mz : zMem) (hW : zKW d_ Mz) (hnow : zf Mz 0 2 = some (d_ + 0)) (a0_ : Int) (ha0_a : -2147483648 ≤ a0_) (ha0_b : a0_ < 2147483648) (a1_ : Int) (ha1_a : -2147483648 ≤ a1_) (ha1_b : a1_ < 2147483648) : zC l m_T_meet 0 0 [.ref 0, .int (Int32.ofInt a0_), .int (Int32.ofInt a1_)] Mz (zqcI d_ [] [] [] [11] Mz (fun v N => True)) := by
  refine zC_of (L0 := [some (.ref 0), some (.int (Int32.ofInt a0_)), some (.int (Int32.ofInt a1_)), none]) md_T_meet (Nat.le_of_ble_eq_true rfl) rfl ?_ zQ0
  have hf : zFc d_ [] [] [] [11] Mz Mz := zFc.rf
  refine zw_aload_n (pc := 0) (n := 0) (x := 0) rfl (zdal_p dlB_T_meet_63 (i := 0) rfl) ?_
  refine zw_getF (pc := 1) f_T_28 rfl ((hf.w hW).ka (o := 0) (by decide)) (hf.now hnow) (zdal_p dlB_T_meet_63 (i := 1) rfl) ?_
  refine zw_getF (pc := 4) f_T_85 rfl ((hf.w hW).kr (o := 0) (by decide)) ((hf.w hW).lr (o := 0) (s := 1) (r := 12) (by decide)) (zdal_p dlB_T_meet_63 (i := 2) rfl) ?_
  refine zw_astore_n (pc := 7) (i := 3) (L2 := [some (.ref 0), some (.int (Int32.ofInt a0_)), some (.int (Int32.ofInt a1_)), some (.ref (d_ + 12))]) rfl (by decide) rfl (zdal_p dlB_T_meet_63 (i := 3) rfl) ?_
  refine zw_aload_n (pc := 8) (n := 3) (x := (d_ + 12)) rfl (zdal_p dlB_T_meet_63 (i := 4) rfl) ?_
  refine zw_iload_n (pc := 9) (n := 1) (x := Int32.ofInt a0_) rfl (zdal_p dlB_T_meet_63 (i := 5) rfl) ?_
  refine zk_callV hf.x (pc := 10) [.int (Int32.ofInt a0_)] [] l_T_143 (u_Sorts_hasSortX l d_ Mz (hf.w hW) a0_ ha0_a ha0_b) rfl rfl ((hf.w hW).kr (o := 12) (by decide)) (by decide) (by decide) (Nat.le_of_ble_eq_true rfl) (zdal_p dlB_T_meet_63 (i := 6) rfl) ?_
  rintro _ N1_ ⟨v2_, rfl, ⟨hv2_a, hv2_b⟩, hsN1_, hp0_N1_⟩
  obtain rfl := hsN1_.eq.symm
  replace hp0_N1_ : (v2_ = 0 ∨ v2_ = 1) := hp0_N1_
  show zW l m_T_meet (zn Mz + 0, zw Mz + 0) Mz 13 [some (.ref 0), some (.int (Int32.ofInt a0_)), some (.int (Int32.ofInt a1_)), some (.ref (d_ + 12))] [.int (Int32.ofInt v2_)] _
  refine zr_if_eq (pc := 13) (tgt := 24) ⟨hv2_a, hv2_b⟩ (by decide) (zdal_p dlB_T_meet_63 (i := 7) rfl) (fun hc_13 => ?_) (fun hc_13 => ?_)
  · skip
    refine zw_iconst (pc := 24) (v := Int32.ofInt (-1)) (by decide) (zdal_p dlB_T_meet_63 (i := 12) rfl) ?_
    exact zk_iret (pc := 25) (ty := .int) rfl rfl ⟨by omega, by omega⟩ hf trivial (zdal_p dlB_T_meet_63 (i := 13) rfl)
  · skip
    refine zw_aload_n (pc := 16) (n := 3) (x := (d_ + 12)) rfl (zdal_p dlB_T_meet_63 (i := 8) rfl) ?_
    refine zw_iload_n (pc := 17) (n := 2) (x := Int32.ofInt a1_) rfl (zdal_p dlB_T_meet_63 (i := 9) rfl) ?_
    refine zk_callV hf.x (pc := 18) [.int (Int32.ofInt a1_)] [] l_T_143 (u_Sorts_hasSortX l d_ Mz (hf.w hW) a1_ ha1_a ha1_b) rfl rfl ((hf.w hW).kr (o := 12) (by decide)) (by decide) (by decide) (Nat.le_of_ble_eq_true rfl) (zdal_p dlB_T_meet_63 (i := 10) rfl) ?_
    rintro _ N3_ ⟨v4_, rfl, ⟨hv4_a, hv4_b⟩, hsN3_, hp0_N3_⟩
    obtain rfl := hsN3_.eq.symm
    replace hp0_N3_ : (v4_ = 0 ∨ v4_ = 1) := hp0_N3_
    show zW l m_T_meet (zn Mz + 0, zw Mz + 0) Mz 21 [some (.ref 0), some (.int (Int32.ofInt a0_)), some (.int (Int32.ofInt a1_)), some (.ref (d_ + 12))] [.int (Int32.ofInt v4_)] _
    refine zr_if_ne (pc := 21) (tgt := 26) ⟨hv4_a, hv4_b⟩ (by decide) (zdal_p dlB_T_meet_63 (i := 11) rfl) (fun hc_21 => ?_) (fun hc_21 => ?_)
    · skip
      refine zw_aload_n (pc := 26) (n := 3) (x := (d_ + 12)) rfl (zdal_p dlB_T_meet_63 (i := 14) rfl) ?_
      refine zw_aload_n (pc := 27) (n := 3) (x := (d_ + 12)) rfl (zdal_p dlB_T_meet_63 (i := 15) rfl) ?_
      refine zw_getF (pc := 28) f_T_146 rfl ((hf.w hW).kr (o := 12) (by decide)) ((hf.w hW).lr (o := 12) (s := 4) (r := 19) (by decide)) (zdal_p dlB_T_meet_63 (i := 16) rfl) ?_
      refine zw_iload_n (pc := 31) (n := 1) (x := Int32.ofInt a0_) rfl (zdal_p dlB_T_meet_63 (i := 17) rfl) ?_
      refine zk_atG hf.x (pc := 32) l_T_118 ((hf.w hW).kr (o := 19) (by decide)) ((hf.w hW).lr (o := 19) (s := 0) (r := 20) (by decide)) ((hf.w hW).rr (o := 20) (t := 1) (n := 27) (by decide)) (by decide) ⟨by omega, by omega⟩ (by decide) (Nat.le_of_ble_eq_true rfl) (zdal_p dlB_T_meet_63 (i := 18) rfl) (fun v5_ hv5_ hv5_a hv5_b => ?_)
      clear hv5_
      refine zw_aload_n (pc := 35) (n := 3) (x := (d_ + 12)) rfl (zdal_p dlB_T_meet_63 (i := 19) rfl) ?_
      refine zw_getF (pc := 36) f_T_146 rfl ((hf.w hW).kr (o := 12) (by decide)) ((hf.w hW).lr (o := 12) (s := 4) (r := 19) (by decide)) (zdal_p dlB_T_meet_63 (i := 20) rfl) ?_
      refine zw_iload_n (pc := 39) (n := 2) (x := Int32.ofInt a1_) rfl (zdal_p dlB_T_meet_63 (i := 21) rfl) ?_
      refine zk_atG hf.x (pc := 40) l_T_118 ((hf.w hW).kr (o := 19) (by decide)) ((hf.w hW).lr (o := 19) (s := 0) (r := 20) (by decide)) ((hf.w hW).rr (o := 20) (t := 1) (n := 27) (by decide)) (by decide) ⟨by omega, by omega⟩ (by decide) (Nat.le_of_ble_eq_true rfl) (zdal_p dlB_T_meet_63 (i := 22) rfl) (fun v6_ hv6_ hv6_a hv6_b => ?_)
      clear hv6_
      refine zr_iand (pc := 43) (zdal_p dlB_T_meet_63 (i := 23) rfl) ?_
      have hr7_ := zand_r v5_ v6_
      refine zr_nmI (fun v8_ hv8_ => ?_)
      obtain ⟨hv8_a, hv8_b⟩ := hv8_
      refine zk_callV hf.x (pc := 44) [.int (Int32.ofInt v8_)] [] l_T_140 (u_Sorts_spannedSortX l d_ Mz (hf.w hW) v8_ hv8_a hv8_b) rfl rfl ((hf.w hW).kr (o := 12) (by decide)) (by decide) (by decide) (Nat.le_of_ble_eq_true rfl) (zdal_p dlB_T_meet_64 (i := 0) rfl) ?_
      rintro _ N9_ ⟨v10_, rfl, ⟨hv10_a, hv10_b⟩, hsN9_, -⟩
      have hf_N9_ : zFc d_ [] [] [] [11] Mz N9_ := hf.tr hsN9_ (by decide) (by decide) (by decide) (by decide)
      show zW l m_T_meet (zn Mz + 0, zw Mz + 0) N9_ 47 [some (.ref 0), some (.int (Int32.ofInt a0_)), some (.int (Int32.ofInt a1_)), some (.ref (d_ + 12))] [.int (Int32.ofInt v10_)] _
      exact zk_iret (pc := 47) (ty := .int) rfl rfl ⟨by omega, by omega⟩ hf_N9_ trivial (zdal_p dlB_T_meet_64 (i := 1) rfl)
    · skip
      refine zw_iconst (pc := 24) (v := Int32.ofInt (-1)) (by decide) (zdal_p dlB_T_meet_63 (i := 12) rfl) ?_
      exact zk_iret (pc := 25) (ty := .int) rfl rfl ⟨by omega, by omega⟩ hf trivial (zdal_p dlB_T_meet_63 (i := 13) rfl)
set_option maxHeartbeats 4000000 in
theorem u_T_joinX (l : Launch) (d_ : Nat) (Mz : zMem) (hW : zKW d_ Mz) (hnow : zf Mz 0 2 = some (d_ + 0)) (a0_ : Int) (ha0_a : -2147483648 ≤ a0_) (ha0_b : a0_ < 2147483648) (a1_ : Int) (ha1_a : -2147483648 ≤ a1_) (ha1_b : a1_ < 2147483648) : zC l m_T_join 0 0 [.ref 0, .int (Int32.ofInt a0_), .int (Int32.ofInt a1_)] Mz (zqcI d_ [] [] [] [11] Mz (fun v N => True)) := by
  refine zC_of (L0 := [some (.ref 0), some (.int (Int32.ofInt a0_)), some (.int (Int32.ofInt a1_)), none]) md_T_join (Nat.le_of_ble_eq_true rfl) rfl ?_ zQ0
  have hf : zFc d_ [] [] [] [11] Mz Mz := zFc.rf
  refine zw_aload_n (pc := 0) (n := 0) (x := 0) rfl (zdal_p dlB_T_join_65 (i := 0) rfl) ?_
  refine zw_getF (pc := 1) f_T_28 rfl ((hf.w hW).ka (o := 0) (by decide)) (hf.now hnow) (zdal_p dlB_T_join_65 (i := 1) rfl) ?_
  refine zw_getF (pc := 4) f_T_85 rfl ((hf.w hW).kr (o := 0) (by decide)) ((hf.w hW).lr (o := 0) (s := 1) (r := 12) (by decide)) (zdal_p dlB_T_join_65 (i := 2) rfl) ?_
  refine zw_astore_n (pc := 7) (i := 3) (L2 := [some (.ref 0), some (.int (Int32.ofInt a0_)), some (.int (Int32.ofInt a1_)), some (.ref (d_ + 12))]) rfl (by decide) rfl (zdal_p dlB_T_join_65 (i := 3) rfl) ?_
  refine zw_aload_n (pc := 8) (n := 3) (x := (d_ + 12)) rfl (zdal_p dlB_T_join_65 (i := 4) rfl) ?_
  refine zw_iload_n (pc := 9) (n := 1) (x := Int32.ofInt a0_) rfl (zdal_p dlB_T_join_65 (i := 5) rfl) ?_
  refine zk_callV hf.x (pc := 10) [.int (Int32.ofInt a0_)] [] l_T_143 (u_Sorts_hasSortX l d_ Mz (hf.w hW) a0_ ha0_a ha0_b) rfl rfl ((hf.w hW).kr (o := 12) (by decide)) (by decide) (by decide) (Nat.le_of_ble_eq_true rfl) (zdal_p dlB_T_join_65 (i := 6) rfl) ?_
  rintro _ N1_ ⟨v2_, rfl, ⟨hv2_a, hv2_b⟩, hsN1_, hp0_N1_⟩
  obtain rfl := hsN1_.eq.symm
  replace hp0_N1_ : (v2_ = 0 ∨ v2_ = 1) := hp0_N1_
  show zW l m_T_join (zn Mz + 0, zw Mz + 0) Mz 13 [some (.ref 0), some (.int (Int32.ofInt a0_)), some (.int (Int32.ofInt a1_)), some (.ref (d_ + 12))] [.int (Int32.ofInt v2_)] _
  refine zr_if_eq (pc := 13) (tgt := 24) ⟨hv2_a, hv2_b⟩ (by decide) (zdal_p dlB_T_join_65 (i := 7) rfl) (fun hc_13 => ?_) (fun hc_13 => ?_)
  · skip
    refine zw_iconst (pc := 24) (v := Int32.ofInt (-1)) (by decide) (zdal_p dlB_T_join_65 (i := 12) rfl) ?_
    exact zk_iret (pc := 25) (ty := .int) rfl rfl ⟨by omega, by omega⟩ hf trivial (zdal_p dlB_T_join_65 (i := 13) rfl)
  · skip
    refine zw_aload_n (pc := 16) (n := 3) (x := (d_ + 12)) rfl (zdal_p dlB_T_join_65 (i := 8) rfl) ?_
    refine zw_iload_n (pc := 17) (n := 2) (x := Int32.ofInt a1_) rfl (zdal_p dlB_T_join_65 (i := 9) rfl) ?_
    refine zk_callV hf.x (pc := 18) [.int (Int32.ofInt a1_)] [] l_T_143 (u_Sorts_hasSortX l d_ Mz (hf.w hW) a1_ ha1_a ha1_b) rfl rfl ((hf.w hW).kr (o := 12) (by decide)) (by decide) (by decide) (Nat.le_of_ble_eq_true rfl) (zdal_p dlB_T_join_65 (i := 10) rfl) ?_
    rintro _ N3_ ⟨v4_, rfl, ⟨hv4_a, hv4_b⟩, hsN3_, hp0_N3_⟩
    obtain rfl := hsN3_.eq.symm
    replace hp0_N3_ : (v4_ = 0 ∨ v4_ = 1) := hp0_N3_
    show zW l m_T_join (zn Mz + 0, zw Mz + 0) Mz 21 [some (.ref 0), some (.int (Int32.ofInt a0_)), some (.int (Int32.ofInt a1_)), some (.ref (d_ + 12))] [.int (Int32.ofInt v4_)] _
    refine zr_if_ne (pc := 21) (tgt := 26) ⟨hv4_a, hv4_b⟩ (by decide) (zdal_p dlB_T_join_65 (i := 11) rfl) (fun hc_21 => ?_) (fun hc_21 => ?_)
    · skip
      refine zw_aload_n (pc := 26) (n := 3) (x := (d_ + 12)) rfl (zdal_p dlB_T_join_65 (i := 14) rfl) ?_
      refine zw_aload_n (pc := 27) (n := 3) (x := (d_ + 12)) rfl (zdal_p dlB_T_join_65 (i := 15) rfl) ?_
      refine zw_getF (pc := 28) f_T_146 rfl ((hf.w hW).kr (o := 12) (by decide)) ((hf.w hW).lr (o := 12) (s := 4) (r := 19) (by decide)) (zdal_p dlB_T_join_65 (i := 16) rfl) ?_
      refine zw_iload_n (pc := 31) (n := 1) (x := Int32.ofInt a0_) rfl (zdal_p dlB_T_join_65 (i := 17) rfl) ?_
      refine zk_atG hf.x (pc := 32) l_T_118 ((hf.w hW).kr (o := 19) (by decide)) ((hf.w hW).lr (o := 19) (s := 0) (r := 20) (by decide)) ((hf.w hW).rr (o := 20) (t := 1) (n := 27) (by decide)) (by decide) ⟨by omega, by omega⟩ (by decide) (Nat.le_of_ble_eq_true rfl) (zdal_p dlB_T_join_65 (i := 18) rfl) (fun v5_ hv5_ hv5_a hv5_b => ?_)
      clear hv5_
      refine zw_aload_n (pc := 35) (n := 3) (x := (d_ + 12)) rfl (zdal_p dlB_T_join_65 (i := 19) rfl) ?_
      refine zw_getF (pc := 36) f_T_146 rfl ((hf.w hW).kr (o := 12) (by decide)) ((hf.w hW).lr (o := 12) (s := 4) (r := 19) (by decide)) (zdal_p dlB_T_join_65 (i := 20) rfl) ?_
      refine zw_iload_n (pc := 39) (n := 2) (x := Int32.ofInt a1_) rfl (zdal_p dlB_T_join_65 (i := 21) rfl) ?_
      refine zk_atG hf.x (pc := 40) l_T_118 ((hf.w hW).kr (o := 19) (by decide)) ((hf.w hW).lr (o := 19) (s := 0) (r := 20) (by decide)) ((hf.w hW).rr (o := 20) (t := 1) (n := 27) (by decide)) (by decide) ⟨by omega, by omega⟩ (by decide) (Nat.le_of_ble_eq_true rfl) (zdal_p dlB_T_join_65 (i := 22) rfl) (fun v6_ hv6_ hv6_a hv6_b => ?_)
      clear hv6_
      refine zr_ior (pc := 43) (zdal_p dlB_T_join_65 (i := 23) rfl) ?_
      have hr7_ := zor_r v5_ v6_
      refine zr_nmI (fun v8_ hv8_ => ?_)
      obtain ⟨hv8_a, hv8_b⟩ := hv8_
      refine zk_callV hf.x (pc := 44) [.int (Int32.ofInt v8_)] [] l_T_140 (u_Sorts_spannedSortX l d_ Mz (hf.w hW) v8_ hv8_a hv8_b) rfl rfl ((hf.w hW).kr (o := 12) (by decide)) (by decide) (by decide) (Nat.le_of_ble_eq_true rfl) (zdal_p dlB_T_join_66 (i := 0) rfl) ?_
      rintro _ N9_ ⟨v10_, rfl, ⟨hv10_a, hv10_b⟩, hsN9_, -⟩
      have hf_N9_ : zFc d_ [] [] [] [11] Mz N9_ := hf.tr hsN9_ (by decide) (by decide) (by decide) (by decide)
      show zW l m_T_join (zn Mz + 0, zw Mz + 0) N9_ 47 [some (.ref 0), some (.int (Int32.ofInt a0_)), some (.int (Int32.ofInt a1_)), some (.ref (d_ + 12))] [.int (Int32.ofInt v10_)] _
      exact zk_iret (pc := 47) (ty := .int) rfl rfl ⟨by omega, by omega⟩ hf_N9_ trivial (zdal_p dlB_T_join_66 (i := 1) rfl)
    · skip
      refine zw_iconst (pc := 24) (v := Int32.ofInt (-1)) (by decide) (zdal_p dlB_T_join_65 (i := 12) rfl) ?_
      exact zk_iret (pc := 25) (ty := .int) rfl rfl ⟨by omega, by omega⟩ hf trivial (zdal_p dlB_T_join_65 (i := 13) rfl)
set_option maxHeartbeats 4000000 in
theorem u_Group_countRepeatingX (l : Launch) (d_ : Nat) (Mz : zMem) (hW : zKW d_ Mz) (a0_ : Int) (ha0_a : -2147483648 ≤ a0_) (ha0_b : a0_ < 2147483648) : zC l m_Group_countRepeating 0 0 [.ref (d_ + 1), .int (Int32.ofInt a0_)] Mz (zqcI d_ [] [] [] [] Mz (fun v N => True)) := by
  refine zC_of (L0 := [some (.ref (d_ + 1)), some (.int (Int32.ofInt a0_)), none, none]) md_Group_countRepeating (Nat.le_of_ble_eq_true rfl) rfl ?_ zQ0
  have hf : zFc d_ [] [] [] [] Mz Mz := zFc.rf
  refine zw_iconst (pc := 0) (v := Int32.ofInt 0) (by decide) (zdal_p dlB_Group_countRepeating_68 (i := 0) rfl) ?_
  refine zw_istore_n (pc := 1) (i := 2) (L2 := [some (.ref (d_ + 1)), some (.int (Int32.ofInt a0_)), some (.int (Int32.ofInt 0)), none]) rfl (by decide) rfl (zdal_p dlB_Group_countRepeating_68 (i := 1) rfl) ?_
  refine zw_iconst (pc := 2) (v := Int32.ofInt 0) (by decide) (zdal_p dlB_Group_countRepeating_68 (i := 2) rfl) ?_
  refine zw_istore_n (pc := 3) (i := 3) (L2 := [some (.ref (d_ + 1)), some (.int (Int32.ofInt a0_)), some (.int (Int32.ofInt 0)), some (.int (Int32.ofInt 0))]) rfl (by decide) rfl (zdal_p dlB_Group_countRepeating_68 (i := 3) rfl) ?_
  have lp_4 : ∀ (n : Nat) (u1_ : Int) (hu1_a : -2147483648 ≤ u1_) (hu1_b : u1_ < 2147483648) (u2_ : Int) (hu2_a : -2147483648 ≤ u2_) (hu2_b : u2_ < 2147483648) (i3_ : 0 ≤ u2_), (ze Mz (d_ + 1) 7 - u2_).toNat < n → zW l m_Group_countRepeating (zn Mz + 0, zw Mz + 0) Mz 4 [some (.ref (d_ + 1)), some (.int (Int32.ofInt a0_)), some (.int (Int32.ofInt u1_)), some (.int (Int32.ofInt u2_))] [] (zqcI d_ [] [] [] [] Mz (fun v N => True)) := by
    intro n
    induction n with
    | zero =>
      intro u1_ hu1_a hu1_b u2_ hu2_a hu2_b i3_ h0
      exact absurd h0 (Nat.not_lt_zero _)
    | succ n ih_4 =>
      intro u1_ hu1_a hu1_b u2_ hu2_a hu2_b i3_ hlt_4
      refine zw_iload_n (pc := 4) (n := 3) (x := Int32.ofInt u2_) rfl (zdal_p dlB_Group_countRepeating_68 (i := 4) rfl) ?_
      refine zw_aload_n (pc := 5) (n := 0) (x := (d_ + 1)) rfl (zdal_p dlB_Group_countRepeating_68 (i := 5) rfl) ?_
      refine zk_getI (pc := 6) f_Group_39 rfl ((hf.w hW).kr (o := 1) (by decide)) (zdal_p dlB_Group_countRepeating_68 (i := 6) rfl) ?_
      have hr4_ := ze_r Mz (d_ + 1) 7
      refine zr_icmp_ge (pc := 9) (tgt := 30) ⟨hu2_a, hu2_b⟩ ⟨(ze_r Mz (d_ + 1) 7).1, (ze_r Mz (d_ + 1) 7).2⟩ (by decide) (zdal_p dlB_Group_countRepeating_68 (i := 7) rfl) (fun hc_9 => ?_) (fun hc_9 => ?_)
      · skip
        refine zw_iload_n (pc := 30) (n := 2) (x := Int32.ofInt u1_) rfl (zdal_p dlB_Group_countRepeating_68 (i := 16) rfl) ?_
        exact zk_iret (pc := 31) (ty := .int) rfl rfl ⟨by omega, by omega⟩ hf trivial (zdal_p dlB_Group_countRepeating_68 (i := 17) rfl)
      · skip
        refine zw_aload_n (pc := 12) (n := 0) (x := (d_ + 1)) rfl (zdal_p dlB_Group_countRepeating_68 (i := 8) rfl) ?_
        refine zw_iload_n (pc := 13) (n := 3) (x := Int32.ofInt u2_) rfl (zdal_p dlB_Group_countRepeating_68 (i := 9) rfl) ?_
        refine zk_callV hf.x (pc := 14) [.int (Int32.ofInt u2_)] [] l_Group_70 (u_Group_repeatsOfX l d_ Mz (hf.w hW) u2_ hu2_a hu2_b) rfl rfl ((hf.w hW).kr (o := 1) (by decide)) (by decide) (by decide) (Nat.le_of_ble_eq_true rfl) (zdal_p dlB_Group_countRepeating_68 (i := 10) rfl) ?_
        rintro _ N5_ ⟨v6_, rfl, ⟨hv6_a, hv6_b⟩, hsN5_, -⟩
        obtain rfl := hsN5_.eq.symm
        show zW l m_Group_countRepeating (zn Mz + 0, zw Mz + 0) Mz 17 [some (.ref (d_ + 1)), some (.int (Int32.ofInt a0_)), some (.int (Int32.ofInt u1_)), some (.int (Int32.ofInt u2_))] [.int (Int32.ofInt v6_)] _
        refine zw_iload_n (pc := 17) (n := 1) (x := Int32.ofInt a0_) rfl (zdal_p dlB_Group_countRepeating_68 (i := 11) rfl) ?_
        refine zr_icmp_ne (pc := 18) (tgt := 24) ⟨hv6_a, hv6_b⟩ ⟨ha0_a, ha0_b⟩ (by decide) (zdal_p dlB_Group_countRepeating_68 (i := 12) rfl) (fun hc_18 => ?_) (fun hc_18 => ?_)
        · skip
          refine zr_iinc (pc := 24) (i := 3) (a := u2_) (n := 1) (L2 := [some (.ref (d_ + 1)), some (.int (Int32.ofInt a0_)), some (.int (Int32.ofInt u1_)), some (.int (Int32.ofInt (u2_ + 1)))]) rfl (by decide) rfl (zdal_p dlB_Group_countRepeating_68 (i := 14) rfl) ?_
          obtain ⟨v7_, hv7_a, hv7_b, hv7_e, hv7_d⟩ := zk_gen (u2_ + 1)
          rw [hv7_e]
          refine zw_goto (pc := 27) (tgt := 4) (by decide) (zdal_p dlB_Group_countRepeating_68 (i := 15) rfl) ?_
          exact ih_4 u1_ hu1_a hu1_b v7_ hv7_a hv7_b (show 0 ≤ v7_ by first | with_reducible assumption | assumption | omega) (by omega)
        · skip
          refine zr_iinc (pc := 21) (i := 2) (a := u1_) (n := 1) (L2 := [some (.ref (d_ + 1)), some (.int (Int32.ofInt a0_)), some (.int (Int32.ofInt (u1_ + 1))), some (.int (Int32.ofInt u2_))]) rfl (by decide) rfl (zdal_p dlB_Group_countRepeating_68 (i := 13) rfl) ?_
          obtain ⟨v8_, hv8_a, hv8_b, hv8_e, hv8_d⟩ := zk_gen (u1_ + 1)
          rw [hv8_e]
          refine zr_iinc (pc := 24) (i := 3) (a := u2_) (n := 1) (L2 := [some (.ref (d_ + 1)), some (.int (Int32.ofInt a0_)), some (.int (Int32.ofInt v8_)), some (.int (Int32.ofInt (u2_ + 1)))]) rfl (by decide) rfl (zdal_p dlB_Group_countRepeating_68 (i := 14) rfl) ?_
          obtain ⟨v9_, hv9_a, hv9_b, hv9_e, hv9_d⟩ := zk_gen (u2_ + 1)
          rw [hv9_e]
          refine zw_goto (pc := 27) (tgt := 4) (by decide) (zdal_p dlB_Group_countRepeating_68 (i := 15) rfl) ?_
          exact ih_4 v8_ hv8_a hv8_b v9_ hv9_a hv9_b (show 0 ≤ v9_ by first | with_reducible assumption | assumption | omega) (by omega)
  exact lp_4 _ 0 (by decide) (by decide) 0 (by decide) (by decide) (show 0 ≤ (0 : Int) by first | with_reducible assumption | assumption | omega) (Nat.lt_succ_self _)
set_option maxHeartbeats 4000000 in
theorem u_T_ordersX (l : Launch) (d_ : Nat) (Mz : zMem) (hW : zKW d_ Mz) (hnow : zf Mz 0 2 = some (d_ + 0)) (a0_ : Int) (ha0_a : -2147483648 ≤ a0_) (ha0_b : a0_ < 2147483648) : zC l m_T_orders 0 0 [.ref 0, .int (Int32.ofInt a0_)] Mz (zqcI d_ [] [] [] [] Mz (fun v N => True)) := by
  refine zC_of (L0 := [some (.ref 0), some (.int (Int32.ofInt a0_))]) md_T_orders (Nat.le_of_ble_eq_true rfl) rfl ?_ zQ0
  have hf : zFc d_ [] [] [] [] Mz Mz := zFc.rf
  refine zw_iload_n (pc := 0) (n := 1) (x := Int32.ofInt a0_) rfl (zdal_p dlB_T_orders_67 (i := 0) rfl) ?_
  refine zw_iconst (pc := 1) (v := Int32.ofInt 1) (by decide) (zdal_p dlB_T_orders_67 (i := 1) rfl) ?_
  refine zr_icmp_lt (pc := 2) (tgt := 25) ⟨ha0_a, ha0_b⟩ ⟨(by decide), (by decide)⟩ (by decide) (zdal_p dlB_T_orders_67 (i := 2) rfl) (fun hc_2 => ?_) (fun hc_2 => ?_)
  · skip
    refine zw_iconst (pc := 25) (v := Int32.ofInt (-1)) (by decide) (zdal_p dlB_T_orders_67 (i := 12) rfl) ?_
    exact zk_iret (pc := 26) (ty := .int) rfl rfl ⟨by omega, by omega⟩ hf trivial (zdal_p dlB_T_orders_67 (i := 13) rfl)
  · skip
    refine zw_iload_n (pc := 5) (n := 1) (x := Int32.ofInt a0_) rfl (zdal_p dlB_T_orders_67 (i := 3) rfl) ?_
    refine zw_bipush (pc := 6) (v := Int32.ofInt 24) (by decide) (zdal_p dlB_T_orders_67 (i := 4) rfl) ?_
    refine zr_icmp_gt (pc := 8) (tgt := 25) ⟨ha0_a, ha0_b⟩ ⟨(by decide), (by decide)⟩ (by decide) (zdal_p dlB_T_orders_67 (i := 5) rfl) (fun hc_8 => ?_) (fun hc_8 => ?_)
    · skip
      refine zw_iconst (pc := 25) (v := Int32.ofInt (-1)) (by decide) (zdal_p dlB_T_orders_67 (i := 12) rfl) ?_
      exact zk_iret (pc := 26) (ty := .int) rfl rfl ⟨by omega, by omega⟩ hf trivial (zdal_p dlB_T_orders_67 (i := 13) rfl)
    · skip
      refine zw_aload_n (pc := 11) (n := 0) (x := 0) rfl (zdal_p dlB_T_orders_67 (i := 6) rfl) ?_
      refine zw_getF (pc := 12) f_T_28 rfl ((hf.w hW).ka (o := 0) (by decide)) (hf.now hnow) (zdal_p dlB_T_orders_67 (i := 7) rfl) ?_
      refine zw_getF (pc := 15) f_T_61 rfl ((hf.w hW).kr (o := 0) (by decide)) ((hf.w hW).lr (o := 0) (s := 0) (r := 1) (by decide)) (zdal_p dlB_T_orders_67 (i := 8) rfl) ?_
      refine zw_iload_n (pc := 18) (n := 1) (x := Int32.ofInt a0_) rfl (zdal_p dlB_T_orders_67 (i := 9) rfl) ?_
      refine zk_callV hf.x (pc := 19) [.int (Int32.ofInt a0_)] [] l_T_217 (u_Group_countRepeatingX l d_ Mz (hf.w hW) a0_ ha0_a ha0_b) rfl rfl ((hf.w hW).kr (o := 1) (by decide)) (by decide) (by decide) (Nat.le_of_ble_eq_true rfl) (zdal_p dlB_T_orders_67 (i := 10) rfl) ?_
      rintro _ N1_ ⟨v2_, rfl, ⟨hv2_a, hv2_b⟩, hsN1_, -⟩
      obtain rfl := hsN1_.eq.symm
      show zW l m_T_orders (zn Mz + 0, zw Mz + 0) Mz 22 [some (.ref 0), some (.int (Int32.ofInt a0_))] [.int (Int32.ofInt v2_)] _
      refine zw_goto (pc := 22) (tgt := 26) (by decide) (zdal_p dlB_T_orders_67 (i := 11) rfl) ?_
      exact zk_iret (pc := 26) (ty := .int) rfl rfl ⟨by omega, by omega⟩ hf trivial (zdal_p dlB_T_orders_67 (i := 13) rfl)
set_option maxHeartbeats 4000000 in
theorem u_Group_countLikeX (l : Launch) (d_ : Nat) (Mz : zMem) (hW : zKW d_ Mz) (a0_ : Int) (ha0_a : -2147483648 ≤ a0_) (ha0_b : a0_ < 2147483648) : zC l m_Group_countLike 0 0 [.ref (d_ + 1), .int (Int32.ofInt a0_)] Mz (zqcI d_ [] [] [] [] Mz (fun v N => True)) := by
  refine zC_of (L0 := [some (.ref (d_ + 1)), some (.int (Int32.ofInt a0_)), none, none]) md_Group_countLike (Nat.le_of_ble_eq_true rfl) rfl ?_ zQ0
  have hf : zFc d_ [] [] [] [] Mz Mz := zFc.rf
  refine zw_iconst (pc := 0) (v := Int32.ofInt 0) (by decide) (zdal_p dlB_Group_countLike_70 (i := 0) rfl) ?_
  refine zw_istore_n (pc := 1) (i := 2) (L2 := [some (.ref (d_ + 1)), some (.int (Int32.ofInt a0_)), some (.int (Int32.ofInt 0)), none]) rfl (by decide) rfl (zdal_p dlB_Group_countLike_70 (i := 1) rfl) ?_
  refine zw_iconst (pc := 2) (v := Int32.ofInt 0) (by decide) (zdal_p dlB_Group_countLike_70 (i := 2) rfl) ?_
  refine zw_istore_n (pc := 3) (i := 3) (L2 := [some (.ref (d_ + 1)), some (.int (Int32.ofInt a0_)), some (.int (Int32.ofInt 0)), some (.int (Int32.ofInt 0))]) rfl (by decide) rfl (zdal_p dlB_Group_countLike_70 (i := 3) rfl) ?_
  have lp_4 : ∀ (n : Nat) (u1_ : Int) (hu1_a : -2147483648 ≤ u1_) (hu1_b : u1_ < 2147483648) (u2_ : Int) (hu2_a : -2147483648 ≤ u2_) (hu2_b : u2_ < 2147483648) (i3_ : 0 ≤ u2_), (ze Mz (d_ + 1) 7 - u2_).toNat < n → zW l m_Group_countLike (zn Mz + 0, zw Mz + 0) Mz 4 [some (.ref (d_ + 1)), some (.int (Int32.ofInt a0_)), some (.int (Int32.ofInt u1_)), some (.int (Int32.ofInt u2_))] [] (zqcI d_ [] [] [] [] Mz (fun v N => True)) := by
    intro n
    induction n with
    | zero =>
      intro u1_ hu1_a hu1_b u2_ hu2_a hu2_b i3_ h0
      exact absurd h0 (Nat.not_lt_zero _)
    | succ n ih_4 =>
      intro u1_ hu1_a hu1_b u2_ hu2_a hu2_b i3_ hlt_4
      refine zw_iload_n (pc := 4) (n := 3) (x := Int32.ofInt u2_) rfl (zdal_p dlB_Group_countLike_70 (i := 4) rfl) ?_
      refine zw_aload_n (pc := 5) (n := 0) (x := (d_ + 1)) rfl (zdal_p dlB_Group_countLike_70 (i := 5) rfl) ?_
      refine zk_getI (pc := 6) f_Group_39 rfl ((hf.w hW).kr (o := 1) (by decide)) (zdal_p dlB_Group_countLike_70 (i := 6) rfl) ?_
      have hr4_ := ze_r Mz (d_ + 1) 7
      refine zr_icmp_ge (pc := 9) (tgt := 29) ⟨hu2_a, hu2_b⟩ ⟨(ze_r Mz (d_ + 1) 7).1, (ze_r Mz (d_ + 1) 7).2⟩ (by decide) (zdal_p dlB_Group_countLike_70 (i := 7) rfl) (fun hc_9 => ?_) (fun hc_9 => ?_)
      · skip
        refine zw_iload_n (pc := 29) (n := 2) (x := Int32.ofInt u1_) rfl (zdal_p dlB_Group_countLike_70 (i := 19) rfl) ?_
        refine zr_callS hf.x (pc := 30) [.int (Int32.ofInt u1_)] [] l_Group_83 (u_Integer_bitCountX l d_ Mz (hf.w hW) u1_ hu1_a hu1_b) rfl rfl (by decide) (Nat.le_of_ble_eq_true rfl) (zdal_p dlB_Group_countLike_70 (i := 20) rfl) ?_
        rintro _ N5_ ⟨v6_, rfl, ⟨hv6_a, hv6_b⟩, hsN5_, ⟨hp0_N5_, hp1_N5_⟩⟩
        obtain rfl := hsN5_.eq.symm
        show zW l m_Group_countLike (zn Mz + 0, zw Mz + 0) Mz 33 [some (.ref (d_ + 1)), some (.int (Int32.ofInt a0_)), some (.int (Int32.ofInt u1_)), some (.int (Int32.ofInt u2_))] [.int (Int32.ofInt v6_)] _
        exact zk_iret (pc := 33) (ty := .int) rfl rfl ⟨by omega, by omega⟩ hf trivial (zdal_p dlB_Group_countLike_70 (i := 21) rfl)
      · skip
        refine zw_iload_n (pc := 12) (n := 2) (x := Int32.ofInt u1_) rfl (zdal_p dlB_Group_countLike_70 (i := 8) rfl) ?_
        refine zw_iconst (pc := 13) (v := Int32.ofInt 1) (by decide) (zdal_p dlB_Group_countLike_70 (i := 9) rfl) ?_
        refine zw_aload_n (pc := 14) (n := 0) (x := (d_ + 1)) rfl (zdal_p dlB_Group_countLike_70 (i := 10) rfl) ?_
        refine zw_iload_n (pc := 15) (n := 1) (x := Int32.ofInt a0_) rfl (zdal_p dlB_Group_countLike_70 (i := 11) rfl) ?_
        refine zw_iload_n (pc := 16) (n := 3) (x := Int32.ofInt u2_) rfl (zdal_p dlB_Group_countLike_70 (i := 12) rfl) ?_
        refine zk_callV hf.x (pc := 17) [.int (Int32.ofInt a0_), .int (Int32.ofInt u2_)] [.int (Int32.ofInt 1), .int (Int32.ofInt u1_)] l_Group_77 (u_Group_turnX l d_ Mz (hf.w hW) a0_ ha0_a ha0_b u2_ hu2_a hu2_b) rfl rfl ((hf.w hW).kr (o := 1) (by decide)) (by decide) (by decide) (Nat.le_of_ble_eq_true rfl) (zdal_p dlB_Group_countLike_70 (i := 13) rfl) ?_
        rintro _ N7_ ⟨v8_, rfl, ⟨hv8_a, hv8_b⟩, hsN7_, -⟩
        obtain rfl := hsN7_.eq.symm
        show zW l m_Group_countLike (zn Mz + 0, zw Mz + 0) Mz 20 [some (.ref (d_ + 1)), some (.int (Int32.ofInt a0_)), some (.int (Int32.ofInt u1_)), some (.int (Int32.ofInt u2_))] [.int (Int32.ofInt v8_), .int (Int32.ofInt 1), .int (Int32.ofInt u1_)] _
        refine zr_ishl (pc := 20) (zdal_p dlB_Group_countLike_70 (i := 14) rfl) ?_
        have hr9_ := zshl_r 1 v8_
        refine zr_nmI (fun v10_ hv10_ => ?_)
        obtain ⟨hv10_a, hv10_b⟩ := hv10_
        refine zr_ior (pc := 21) (zdal_p dlB_Group_countLike_70 (i := 15) rfl) ?_
        have hr11_ := zor_r u1_ v10_
        refine zr_nmI (fun v12_ hv12_ => ?_)
        obtain ⟨hv12_a, hv12_b⟩ := hv12_
        refine zw_istore_n (pc := 22) (i := 2) (L2 := [some (.ref (d_ + 1)), some (.int (Int32.ofInt a0_)), some (.int (Int32.ofInt v12_)), some (.int (Int32.ofInt u2_))]) rfl (by decide) rfl (zdal_p dlB_Group_countLike_70 (i := 16) rfl) ?_
        refine zr_iinc (pc := 23) (i := 3) (a := u2_) (n := 1) (L2 := [some (.ref (d_ + 1)), some (.int (Int32.ofInt a0_)), some (.int (Int32.ofInt v12_)), some (.int (Int32.ofInt (u2_ + 1)))]) rfl (by decide) rfl (zdal_p dlB_Group_countLike_70 (i := 17) rfl) ?_
        obtain ⟨v13_, hv13_a, hv13_b, hv13_e, hv13_d⟩ := zk_gen (u2_ + 1)
        rw [hv13_e]
        refine zw_goto (pc := 26) (tgt := 4) (by decide) (zdal_p dlB_Group_countLike_70 (i := 18) rfl) ?_
        exact ih_4 v12_ hv12_a hv12_b v13_ hv13_a hv13_b (show 0 ≤ v13_ by first | with_reducible assumption | assumption | omega) (by omega)
  exact lp_4 _ 0 (by decide) (by decide) 0 (by decide) (by decide) (show 0 ≤ (0 : Int) by first | with_reducible assumption | assumption | omega) (Nat.lt_succ_self _)
set_option maxHeartbeats 4000000 in
theorem u_T_likesX (l : Launch) (d_ : Nat) (Mz : zMem) (hW : zKW d_ Mz) (hnow : zf Mz 0 2 = some (d_ + 0)) (a0_ : Int) (ha0_a : -2147483648 ≤ a0_) (ha0_b : a0_ < 2147483648) : zC l m_T_likes 0 0 [.ref 0, .int (Int32.ofInt a0_)] Mz (zqcI d_ [] [] [] [] Mz (fun v N => True)) := by
  refine zC_of (L0 := [some (.ref 0), some (.int (Int32.ofInt a0_))]) md_T_likes (Nat.le_of_ble_eq_true rfl) rfl ?_ zQ0
  have hf : zFc d_ [] [] [] [] Mz Mz := zFc.rf
  refine zw_aload_n (pc := 0) (n := 0) (x := 0) rfl (zdal_p dlB_T_likes_69 (i := 0) rfl) ?_
  refine zw_getF (pc := 1) f_T_28 rfl ((hf.w hW).ka (o := 0) (by decide)) (hf.now hnow) (zdal_p dlB_T_likes_69 (i := 1) rfl) ?_
  refine zw_getF (pc := 4) f_T_61 rfl ((hf.w hW).kr (o := 0) (by decide)) ((hf.w hW).lr (o := 0) (s := 0) (r := 1) (by decide)) (zdal_p dlB_T_likes_69 (i := 2) rfl) ?_
  refine zw_iload_n (pc := 7) (n := 1) (x := Int32.ofInt a0_) rfl (zdal_p dlB_T_likes_69 (i := 3) rfl) ?_
  refine zk_callV hf.x (pc := 8) [.int (Int32.ofInt a0_)] [] l_T_108 (u_Group_hasMemberX l d_ Mz (hf.w hW) a0_ ha0_a ha0_b) rfl rfl ((hf.w hW).kr (o := 1) (by decide)) (by decide) (by decide) (Nat.le_of_ble_eq_true rfl) (zdal_p dlB_T_likes_69 (i := 4) rfl) ?_
  rintro _ N1_ ⟨v2_, rfl, ⟨hv2_a, hv2_b⟩, hsN1_, hp0_N1_⟩
  obtain rfl := hsN1_.eq.symm
  replace hp0_N1_ : (v2_ = 0 ∨ v2_ = 1) := hp0_N1_
  show zW l m_T_likes (zn Mz + 0, zw Mz + 0) Mz 11 [some (.ref 0), some (.int (Int32.ofInt a0_))] [.int (Int32.ofInt v2_)] _
  refine zr_if_eq (pc := 11) (tgt := 28) ⟨hv2_a, hv2_b⟩ (by decide) (zdal_p dlB_T_likes_69 (i := 5) rfl) (fun hc_11 => ?_) (fun hc_11 => ?_)
  · skip
    refine zw_iconst (pc := 28) (v := Int32.ofInt (-1)) (by decide) (zdal_p dlB_T_likes_69 (i := 12) rfl) ?_
    exact zk_iret (pc := 29) (ty := .int) rfl rfl ⟨by omega, by omega⟩ hf trivial (zdal_p dlB_T_likes_69 (i := 13) rfl)
  · skip
    refine zw_aload_n (pc := 14) (n := 0) (x := 0) rfl (zdal_p dlB_T_likes_69 (i := 6) rfl) ?_
    refine zw_getF (pc := 15) f_T_28 rfl ((hf.w hW).ka (o := 0) (by decide)) (hf.now hnow) (zdal_p dlB_T_likes_69 (i := 7) rfl) ?_
    refine zw_getF (pc := 18) f_T_61 rfl ((hf.w hW).kr (o := 0) (by decide)) ((hf.w hW).lr (o := 0) (s := 0) (r := 1) (by decide)) (zdal_p dlB_T_likes_69 (i := 8) rfl) ?_
    refine zw_iload_n (pc := 21) (n := 1) (x := Int32.ofInt a0_) rfl (zdal_p dlB_T_likes_69 (i := 9) rfl) ?_
    refine zk_callV hf.x (pc := 22) [.int (Int32.ofInt a0_)] [] l_T_220 (u_Group_countLikeX l d_ Mz (hf.w hW) a0_ ha0_a ha0_b) rfl rfl ((hf.w hW).kr (o := 1) (by decide)) (by decide) (by decide) (Nat.le_of_ble_eq_true rfl) (zdal_p dlB_T_likes_69 (i := 10) rfl) ?_
    rintro _ N3_ ⟨v4_, rfl, ⟨hv4_a, hv4_b⟩, hsN3_, -⟩
    obtain rfl := hsN3_.eq.symm
    show zW l m_T_likes (zn Mz + 0, zw Mz + 0) Mz 25 [some (.ref 0), some (.int (Int32.ofInt a0_))] [.int (Int32.ofInt v4_)] _
    refine zw_goto (pc := 25) (tgt := 29) (by decide) (zdal_p dlB_T_likes_69 (i := 11) rfl) ?_
    exact zk_iret (pc := 29) (ty := .int) rfl rfl ⟨by omega, by omega⟩ hf trivial (zdal_p dlB_T_likes_69 (i := 13) rfl)
set_option maxHeartbeats 4000000 in
theorem u_T_greatestDivisorX (l : Launch) (d_ : Nat) (Mz : zMem) (hW : zKW d_ Mz) (a0_ : Int) (ha0_a : -2147483648 ≤ a0_) (ha0_b : a0_ < 2147483648) (a1_ : Int) (ha1_a : -2147483648 ≤ a1_) (ha1_b : a1_ < 2147483648) : zC l m_T_greatestDivisor 0 0 [.int (Int32.ofInt a0_), .int (Int32.ofInt a1_)] Mz (zqcI d_ [] [] [] [] Mz (fun v N => True)) := by
  refine zC_of (L0 := [some (.int (Int32.ofInt a0_)), some (.int (Int32.ofInt a1_)), none, none, none, none]) md_T_greatestDivisor (Nat.le_of_ble_eq_true rfl) rfl ?_ zQ0
  have hf : zFc d_ [] [] [] [] Mz Mz := zFc.rf
  refine zw_iload_n (pc := 0) (n := 0) (x := Int32.ofInt a0_) rfl (zdal_p dlB_T_greatestDivisor_76 (i := 0) rfl) ?_
  refine zw_istore_n (pc := 1) (i := 2) (L2 := [some (.int (Int32.ofInt a0_)), some (.int (Int32.ofInt a1_)), some (.int (Int32.ofInt a0_)), none, none, none]) rfl (by decide) rfl (zdal_p dlB_T_greatestDivisor_76 (i := 1) rfl) ?_
  refine zw_iload_n (pc := 2) (n := 1) (x := Int32.ofInt a1_) rfl (zdal_p dlB_T_greatestDivisor_76 (i := 2) rfl) ?_
  refine zw_istore_n (pc := 3) (i := 3) (L2 := [some (.int (Int32.ofInt a0_)), some (.int (Int32.ofInt a1_)), some (.int (Int32.ofInt a0_)), some (.int (Int32.ofInt a1_)), none, none]) rfl (by decide) rfl (zdal_p dlB_T_greatestDivisor_76 (i := 3) rfl) ?_
  refine zw_iconst (pc := 4) (v := Int32.ofInt 0) (by decide) (zdal_p dlB_T_greatestDivisor_76 (i := 4) rfl) ?_
  refine zw_istore (pc := 5) (i := 4) (L2 := [some (.int (Int32.ofInt a0_)), some (.int (Int32.ofInt a1_)), some (.int (Int32.ofInt a0_)), some (.int (Int32.ofInt a1_)), some (.int (Int32.ofInt 0)), none]) (by decide) rfl (zdal_p dlB_T_greatestDivisor_76 (i := 5) rfl) ?_
  have lp_7 : ∀ (n : Nat) (u1_ : Int) (hu1_a : -2147483648 ≤ u1_) (hu1_b : u1_ < 2147483648) (u2_ : Int) (hu2_a : -2147483648 ≤ u2_) (hu2_b : u2_ < 2147483648) (u3_ : Int) (hu3_a : -2147483648 ≤ u3_) (hu3_b : u3_ < 2147483648) (i4_ : 0 ≤ u3_), (100 - u3_).toNat < n → zW l m_T_greatestDivisor (zn Mz + 0, zw Mz + 0) Mz 7 [some (.int (Int32.ofInt a0_)), some (.int (Int32.ofInt a1_)), some (.int (Int32.ofInt u1_)), some (.int (Int32.ofInt u2_)), some (.int (Int32.ofInt u3_)), none] [] (zqcI d_ [] [] [] [] Mz (fun v N => True)) := by
    intro n
    induction n with
    | zero =>
      intro u1_ hu1_a hu1_b u2_ hu2_a hu2_b u3_ hu3_a hu3_b i4_ h0
      exact absurd h0 (Nat.not_lt_zero _)
    | succ n ih_7 =>
      intro u1_ hu1_a hu1_b u2_ hu2_a hu2_b u3_ hu3_a hu3_b i4_ hlt_7
      refine zw_iload (pc := 7) (i := 4) (x := Int32.ofInt u3_) rfl (zdal_p dlB_T_greatestDivisor_76 (i := 6) rfl) ?_
      refine zw_bipush (pc := 9) (v := Int32.ofInt 100) (by decide) (zdal_p dlB_T_greatestDivisor_76 (i := 7) rfl) ?_
      refine zr_icmp_ge (pc := 11) (tgt := 34) ⟨hu3_a, hu3_b⟩ ⟨(by decide), (by decide)⟩ (by decide) (zdal_p dlB_T_greatestDivisor_76 (i := 8) rfl) (fun hc_11 => ?_) (fun hc_11 => ?_)
      · skip
        refine zw_iload_n (pc := 34) (n := 2) (x := Int32.ofInt u1_) rfl (zdal_p dlB_T_greatestDivisor_76 (i := 21) rfl) ?_
        exact zk_iret (pc := 35) (ty := .int) rfl rfl ⟨by omega, by omega⟩ hf trivial (zdal_p dlB_T_greatestDivisor_76 (i := 22) rfl)
      · skip
        refine zw_iload_n (pc := 14) (n := 3) (x := Int32.ofInt u2_) rfl (zdal_p dlB_T_greatestDivisor_76 (i := 9) rfl) ?_
        refine zr_if_eq (pc := 15) (tgt := 34) ⟨hu2_a, hu2_b⟩ (by decide) (zdal_p dlB_T_greatestDivisor_76 (i := 10) rfl) (fun hc_15 => ?_) (fun hc_15 => ?_)
        · skip
          refine zw_iload_n (pc := 34) (n := 2) (x := Int32.ofInt u1_) rfl (zdal_p dlB_T_greatestDivisor_76 (i := 21) rfl) ?_
          exact zk_iret (pc := 35) (ty := .int) rfl rfl ⟨by omega, by omega⟩ hf trivial (zdal_p dlB_T_greatestDivisor_76 (i := 22) rfl)
        · skip
          refine zw_iload_n (pc := 18) (n := 2) (x := Int32.ofInt u1_) rfl (zdal_p dlB_T_greatestDivisor_76 (i := 11) rfl) ?_
          refine zw_iload_n (pc := 19) (n := 3) (x := Int32.ofInt u2_) rfl (zdal_p dlB_T_greatestDivisor_76 (i := 12) rfl) ?_
          refine zr_irem (pc := 20) ⟨by omega, by omega⟩ (by omega) (zdal_p dlB_T_greatestDivisor_76 (i := 13) rfl) ?_
          have hr5_ := zrem_r u1_ u2_
          refine zr_nmI (fun v6_ hv6_ => ?_)
          obtain ⟨hv6_a, hv6_b⟩ := hv6_
          refine zw_istore (pc := 21) (i := 5) (L2 := [some (.int (Int32.ofInt a0_)), some (.int (Int32.ofInt a1_)), some (.int (Int32.ofInt u1_)), some (.int (Int32.ofInt u2_)), some (.int (Int32.ofInt u3_)), some (.int (Int32.ofInt v6_))]) (by decide) rfl (zdal_p dlB_T_greatestDivisor_76 (i := 14) rfl) ?_
          refine zw_iload_n (pc := 23) (n := 3) (x := Int32.ofInt u2_) rfl (zdal_p dlB_T_greatestDivisor_76 (i := 15) rfl) ?_
          refine zw_istore_n (pc := 24) (i := 2) (L2 := [some (.int (Int32.ofInt a0_)), some (.int (Int32.ofInt a1_)), some (.int (Int32.ofInt u2_)), some (.int (Int32.ofInt u2_)), some (.int (Int32.ofInt u3_)), some (.int (Int32.ofInt v6_))]) rfl (by decide) rfl (zdal_p dlB_T_greatestDivisor_76 (i := 16) rfl) ?_
          refine zw_iload (pc := 25) (i := 5) (x := Int32.ofInt v6_) rfl (zdal_p dlB_T_greatestDivisor_76 (i := 17) rfl) ?_
          refine zw_istore_n (pc := 27) (i := 3) (L2 := [some (.int (Int32.ofInt a0_)), some (.int (Int32.ofInt a1_)), some (.int (Int32.ofInt u2_)), some (.int (Int32.ofInt v6_)), some (.int (Int32.ofInt u3_)), some (.int (Int32.ofInt v6_))]) rfl (by decide) rfl (zdal_p dlB_T_greatestDivisor_76 (i := 18) rfl) ?_
          refine zr_iinc (pc := 28) (i := 4) (a := u3_) (n := 1) (L2 := [some (.int (Int32.ofInt a0_)), some (.int (Int32.ofInt a1_)), some (.int (Int32.ofInt u2_)), some (.int (Int32.ofInt v6_)), some (.int (Int32.ofInt (u3_ + 1))), some (.int (Int32.ofInt v6_))]) rfl (by decide) rfl (zdal_p dlB_T_greatestDivisor_76 (i := 19) rfl) ?_
          obtain ⟨v7_, hv7_a, hv7_b, hv7_e, hv7_d⟩ := zk_gen (u3_ + 1)
          rw [hv7_e]
          refine zw_goto (pc := 31) (tgt := 7) (by decide) (zdal_p dlB_T_greatestDivisor_76 (i := 20) rfl) ?_
          refine zW_le [some (.int (Int32.ofInt a0_)), some (.int (Int32.ofInt a1_)), some (.int (Int32.ofInt u2_)), some (.int (Int32.ofInt v6_)), some (.int (Int32.ofInt v7_)), none] (⟨rfl, rfl, rfl, rfl, rfl, trivial⟩) ?_
          exact ih_7 u2_ hu2_a hu2_b v6_ hv6_a hv6_b v7_ hv7_a hv7_b (show 0 ≤ v7_ by first | with_reducible assumption | assumption | omega) (by omega)
  exact lp_7 _ a0_ ha0_a ha0_b a1_ ha1_a ha1_b 0 (by decide) (by decide) (show 0 ≤ (0 : Int) by first | with_reducible assumption | assumption | omega) (Nat.lt_succ_self _)
set_option maxHeartbeats 4000000 in
theorem u_Sums_putScaledX (l : Launch) (d_ : Nat) (Mz : zMem) (hW : zKW d_ Mz) (a0_ : Int) (ha0_a : -2147483648 ≤ a0_) (ha0_b : a0_ < 2147483648) (a1_ : Int) (ha1_a : -2147483648 ≤ a1_) (ha1_b : a1_ < 2147483648) : zC l m_Sums_putScaled 0 0 [.ref (d_ + 23), .int (Int32.ofInt a0_), .int (Int32.ofInt a1_)] Mz (zqcV d_ [] [] [] [25, 27] Mz (fun N => True)) := by
  refine zC_of (L0 := [some (.ref (d_ + 23)), some (.int (Int32.ofInt a0_)), some (.int (Int32.ofInt a1_)), none]) md_Sums_putScaled (Nat.le_of_ble_eq_true rfl) rfl ?_ zQ0
  have hf : zFc d_ [] [] [] [25, 27] Mz Mz := zFc.rf
  refine zw_iconst (pc := 0) (v := Int32.ofInt 0) (by decide) (zdal_p dlB_Sums_putScaled_74 (i := 0) rfl) ?_
  refine zw_istore_n (pc := 1) (i := 3) (L2 := [some (.ref (d_ + 23)), some (.int (Int32.ofInt a0_)), some (.int (Int32.ofInt a1_)), some (.int (Int32.ofInt 0))]) rfl (by decide) rfl (zdal_p dlB_Sums_putScaled_74 (i := 1) rfl) ?_
  have lp_2 : ∀ (n : Nat) (u1_ : Int) (hu1_a : -2147483648 ≤ u1_) (hu1_b : u1_ < 2147483648) (N2_ : zMem) (hs3_ : zFc d_ [] [] [] [27] Mz N2_) (i4_ : 0 ≤ u1_), (ze Mz (d_ + 12) 7 - u1_).toNat < n → zW l m_Sums_putScaled (zn Mz + 0, zw Mz + 0) N2_ 2 [some (.ref (d_ + 23)), some (.int (Int32.ofInt a0_)), some (.int (Int32.ofInt a1_)), some (.int (Int32.ofInt u1_))] [] (zqcV d_ [] [] [] [25, 27] Mz (fun N => True)) := by
    intro n
    induction n with
    | zero =>
      intro u1_ hu1_a hu1_b N2_ hs3_ i4_ h0
      exact absurd h0 (Nat.not_lt_zero _)
    | succ n ih_2 =>
      intro u1_ hu1_a hu1_b N2_ hs3_ i4_ hlt_2
      have hf_N2_ : zFc d_ [] [] [] [25, 27] Mz N2_ := hf.tr hs3_ (by decide) (by decide) (by decide) (by decide)
      refine zw_iload_n (pc := 2) (n := 3) (x := Int32.ofInt u1_) rfl (zdal_p dlB_Sums_putScaled_74 (i := 2) rfl) ?_
      refine zw_aload_n (pc := 3) (n := 0) (x := (d_ + 23)) rfl (zdal_p dlB_Sums_putScaled_74 (i := 3) rfl) ?_
      refine zw_getF (pc := 4) f_Sums_23 rfl ((hf_N2_.w hW).kr (o := 23) (by decide)) ((hf_N2_.w hW).lr (o := 23) (s := 0) (r := 12) (by decide)) (zdal_p dlB_Sums_putScaled_74 (i := 4) rfl) ?_
      refine zk_getI (pc := 7) f_Sums_35 rfl ((hf_N2_.w hW).kr (o := 12) (by decide)) (zdal_p dlB_Sums_putScaled_74 (i := 5) rfl) ?_
      rw [hf_N2_.e (by decide)]
      have hr5_ := ze_r Mz (d_ + 12) 7
      refine zr_icmp_ge (pc := 10) (tgt := 41) ⟨hu1_a, hu1_b⟩ ⟨(ze_r Mz (d_ + 12) 7).1, (ze_r Mz (d_ + 12) 7).2⟩ (by decide) (zdal_p dlB_Sums_putScaled_74 (i := 6) rfl) (fun hc_10 => ?_) (fun hc_10 => ?_)
      · skip
        refine zw_aload_n (pc := 41) (n := 0) (x := (d_ + 23)) rfl (zdal_p dlB_Sums_putScaled_74 (i := 21) rfl) ?_
        refine zw_bipush (pc := 42) (v := Int32.ofInt 39) (by decide) (zdal_p dlB_Sums_putScaled_74 (i := 22) rfl) ?_
        refine zk_callV hf_N2_.x (pc := 44) [.int (Int32.ofInt 39)] [] l_Sums_58 (u_Sums_solveX l d_ N2_ (hf_N2_.w hW) 39 (by decide) (by decide)) rfl rfl ((hf_N2_.w hW).kr (o := 23) (by decide)) (by decide) (by decide) (Nat.le_of_ble_eq_true rfl) (zdal_p dlB_Sums_putScaled_74 (i := 23) rfl) ?_
        rintro _ N6_ ⟨rfl, hsN6_, -⟩
        have hf_N6_ : zFc d_ [] [] [] [25, 27] Mz N6_ := hf_N2_.tr hsN6_ (by decide) (by decide) (by decide) (by decide)
        show zW l m_Sums_putScaled (zn Mz + 0, zw Mz + 0) N6_ 47 [some (.ref (d_ + 23)), some (.int (Int32.ofInt a0_)), some (.int (Int32.ofInt a1_)), some (.int (Int32.ofInt u1_))] [] _
        exact zk_vret (pc := 47) rfl hf_N6_ trivial (zdal_p dlB_Sums_putScaled_75 (i := 0) rfl)
      · skip
        refine zw_aload_n (pc := 13) (n := 0) (x := (d_ + 23)) rfl (zdal_p dlB_Sums_putScaled_74 (i := 7) rfl) ?_
        refine zw_getF (pc := 14) f_Sums_20 rfl ((hf_N2_.w hW).kr (o := 23) (by decide)) ((hf_N2_.w hW).lr (o := 23) (s := 2) (r := 26) (by decide)) (zdal_p dlB_Sums_putScaled_74 (i := 8) rfl) ?_
        refine zw_iload_n (pc := 17) (n := 3) (x := Int32.ofInt u1_) rfl (zdal_p dlB_Sums_putScaled_74 (i := 9) rfl) ?_
        refine zw_iload_n (pc := 18) (n := 1) (x := Int32.ofInt a0_) rfl (zdal_p dlB_Sums_putScaled_74 (i := 10) rfl) ?_
        refine zw_iload_n (pc := 19) (n := 3) (x := Int32.ofInt u1_) rfl (zdal_p dlB_Sums_putScaled_74 (i := 11) rfl) ?_
        refine zr_callS hf_N2_.x (pc := 20) [.int (Int32.ofInt a0_), .int (Int32.ofInt u1_)] [.int (Int32.ofInt u1_), .ref (d_ + 26)] l_Sums_61 (u_T_isInX l d_ N2_ (hf_N2_.w hW) a0_ ha0_a ha0_b u1_ hu1_a hu1_b) rfl rfl (by decide) (Nat.le_of_ble_eq_true rfl) (zdal_p dlB_Sums_putScaled_74 (i := 12) rfl) ?_
        rintro _ N8_ ⟨v9_, rfl, ⟨hv9_a, hv9_b⟩, hsN8_, hp0_N8_⟩
        obtain rfl := hsN8_.eq.symm
        replace hp0_N8_ : (v9_ = 0 ∨ v9_ = 1) := hp0_N8_
        show zW l m_Sums_putScaled (zn Mz + 0, zw Mz + 0) N2_ 23 [some (.ref (d_ + 23)), some (.int (Int32.ofInt a0_)), some (.int (Int32.ofInt a1_)), some (.int (Int32.ofInt u1_))] [.int (Int32.ofInt v9_), .int (Int32.ofInt u1_), .ref (d_ + 26)] _
        refine zr_if_eq (pc := 23) (tgt := 31) ⟨hv9_a, hv9_b⟩ (by decide) (zdal_p dlB_Sums_putScaled_74 (i := 13) rfl) (fun hc_23 => ?_) (fun hc_23 => ?_)
        · skip
          refine zw_lconst (pc := 31) (v := Int64.ofInt 0) (by decide) (zdal_p dlB_Sums_putScaled_74 (i := 17) rfl) ?_
          refine zk_stGJ hf_N2_.x (pc := 32) (o := 27) (by decide) l_Sums_31 ((hf_N2_.w hW).kr (o := 26) (by decide)) ((hf_N2_.w hW).lr (o := 26) (s := 0) (r := 27) (by decide)) ((hf_N2_.w hW).rr (o := 27) (t := 2) (n := 27) (by decide)) (by decide) ⟨by omega, by omega⟩ (by decide) (Nat.le_of_ble_eq_true rfl) (zdal_p dlB_Sums_putScaled_74 (i := 18) rfl) (fun N10_ hsN10_ => ?_)
          have hf_N10_ : zFc d_ [] [] [] [25, 27] Mz N10_ := hf_N2_.tr hsN10_ (by decide) (by decide) (by decide) (by decide)
          have hb0_N10_ : zFc d_ [] [] [] [27] Mz N10_ := hs3_.tr hsN10_ (by decide) (by decide) (by decide) (by decide)
          refine zr_iinc (pc := 35) (i := 3) (a := u1_) (n := 1) (L2 := [some (.ref (d_ + 23)), some (.int (Int32.ofInt a0_)), some (.int (Int32.ofInt a1_)), some (.int (Int32.ofInt (u1_ + 1)))]) rfl (by decide) rfl (zdal_p dlB_Sums_putScaled_74 (i := 19) rfl) ?_
          obtain ⟨v11_, hv11_a, hv11_b, hv11_e, hv11_d⟩ := zk_gen (u1_ + 1)
          rw [hv11_e]
          refine zw_goto (pc := 38) (tgt := 2) (by decide) (zdal_p dlB_Sums_putScaled_74 (i := 20) rfl) ?_
          exact ih_2 v11_ hv11_a hv11_b N10_ hb0_N10_ (show 0 ≤ v11_ by first | with_reducible assumption | assumption | omega) (by omega)
        · skip
          refine zw_iload_n (pc := 26) (n := 2) (x := Int32.ofInt a1_) rfl (zdal_p dlB_Sums_putScaled_74 (i := 14) rfl) ?_
          refine zr_i2l (pc := 27) ⟨ha1_a, ha1_b⟩ (zdal_p dlB_Sums_putScaled_74 (i := 15) rfl) ?_
          refine zw_goto (pc := 28) (tgt := 32) (by decide) (zdal_p dlB_Sums_putScaled_74 (i := 16) rfl) ?_
          refine zk_stGJ hf_N2_.x (pc := 32) (o := 27) (by decide) l_Sums_31 ((hf_N2_.w hW).kr (o := 26) (by decide)) ((hf_N2_.w hW).lr (o := 26) (s := 0) (r := 27) (by decide)) ((hf_N2_.w hW).rr (o := 27) (t := 2) (n := 27) (by decide)) (by decide) ⟨by omega, by omega⟩ (by decide) (Nat.le_of_ble_eq_true rfl) (zdal_p dlB_Sums_putScaled_74 (i := 18) rfl) (fun N12_ hsN12_ => ?_)
          have hf_N12_ : zFc d_ [] [] [] [25, 27] Mz N12_ := hf_N2_.tr hsN12_ (by decide) (by decide) (by decide) (by decide)
          have hb0_N12_ : zFc d_ [] [] [] [27] Mz N12_ := hs3_.tr hsN12_ (by decide) (by decide) (by decide) (by decide)
          refine zr_iinc (pc := 35) (i := 3) (a := u1_) (n := 1) (L2 := [some (.ref (d_ + 23)), some (.int (Int32.ofInt a0_)), some (.int (Int32.ofInt a1_)), some (.int (Int32.ofInt (u1_ + 1)))]) rfl (by decide) rfl (zdal_p dlB_Sums_putScaled_74 (i := 19) rfl) ?_
          obtain ⟨v13_, hv13_a, hv13_b, hv13_e, hv13_d⟩ := zk_gen (u1_ + 1)
          rw [hv13_e]
          refine zw_goto (pc := 38) (tgt := 2) (by decide) (zdal_p dlB_Sums_putScaled_74 (i := 20) rfl) ?_
          exact ih_2 v13_ hv13_a hv13_b N12_ hb0_N12_ (show 0 ≤ v13_ by first | with_reducible assumption | assumption | omega) (by omega)
  exact lp_2 _ 0 (by decide) (by decide) Mz zFc.rf (show 0 ≤ (0 : Int) by first | with_reducible assumption | assumption | omega) (Nat.lt_succ_self _)
set_option maxHeartbeats 4000000 in
theorem u_T_peakPartX (l : Launch) (d_ : Nat) (Mz : zMem) (hW : zKW d_ Mz) (hnow : zf Mz 0 2 = some (d_ + 0)) (a0_ : Int) (ha0_a : -2147483648 ≤ a0_) (ha0_b : a0_ < 2147483648) (a1_ : Int) (ha1_a : -2147483648 ≤ a1_) (ha1_b : a1_ < 2147483648) (a2_ : Int) (ha2_a : -2147483648 ≤ a2_) (ha2_b : a2_ < 2147483648) : zC l m_T_peakPart 0 0 [.ref 0, .int (Int32.ofInt a0_), .int (Int32.ofInt a1_), .int (Int32.ofInt a2_)] Mz (zqcI d_ [] [] [] [25, 27] Mz (fun v N => True)) := by
  refine zC_of (L0 := [some (.ref 0), some (.int (Int32.ofInt a0_)), some (.int (Int32.ofInt a1_)), some (.int (Int32.ofInt a2_)), none, none, none]) md_T_peakPart (Nat.le_of_ble_eq_true rfl) rfl ?_ zQ0
  have hf : zFc d_ [] [] [] [25, 27] Mz Mz := zFc.rf
  refine zw_iload_n (pc := 0) (n := 3) (x := Int32.ofInt a2_) rfl (zdal_p dlB_T_peakPart_72 (i := 0) rfl) ?_
  refine zr_if_eq (pc := 1) (tgt := 12) ⟨ha2_a, ha2_b⟩ (by decide) (zdal_p dlB_T_peakPart_72 (i := 1) rfl) (fun hc_1 => ?_) (fun hc_1 => ?_)
  · skip
    refine zw_aload_n (pc := 12) (n := 0) (x := 0) rfl (zdal_p dlB_T_peakPart_72 (i := 7) rfl) ?_
    refine zw_getF (pc := 13) f_T_28 rfl ((hf.w hW).ka (o := 0) (by decide)) (hf.now hnow) (zdal_p dlB_T_peakPart_72 (i := 8) rfl) ?_
    refine zw_getF (pc := 16) f_T_61 rfl ((hf.w hW).kr (o := 0) (by decide)) ((hf.w hW).lr (o := 0) (s := 0) (r := 1) (by decide)) (zdal_p dlB_T_peakPart_72 (i := 9) rfl) ?_
    refine zk_getI (pc := 19) f_T_65 rfl ((hf.w hW).kr (o := 1) (by decide)) (zdal_p dlB_T_peakPart_72 (i := 10) rfl) ?_
    have hr1_ := ze_r Mz (d_ + 1) 7
    refine zw_istore (pc := 22) (i := 4) (L2 := [some (.ref 0), some (.int (Int32.ofInt a0_)), some (.int (Int32.ofInt a1_)), some (.int (Int32.ofInt a2_)), some (.int (Int32.ofInt (ze Mz (d_ + 1) 7))), none, none]) (by decide) rfl (zdal_p dlB_T_peakPart_72 (i := 11) rfl) ?_
    refine zw_aload_n (pc := 24) (n := 0) (x := 0) rfl (zdal_p dlB_T_peakPart_72 (i := 12) rfl) ?_
    refine zw_getF (pc := 25) f_T_28 rfl ((hf.w hW).ka (o := 0) (by decide)) (hf.now hnow) (zdal_p dlB_T_peakPart_72 (i := 13) rfl) ?_
    refine zw_getF (pc := 28) f_T_169 rfl ((hf.w hW).kr (o := 0) (by decide)) ((hf.w hW).lr (o := 0) (s := 2) (r := 23) (by decide)) (zdal_p dlB_T_peakPart_72 (i := 14) rfl) ?_
    refine zw_iload_n (pc := 31) (n := 1) (x := Int32.ofInt a0_) rfl (zdal_p dlB_T_peakPart_72 (i := 15) rfl) ?_
    refine zw_iload (pc := 32) (i := 4) (x := Int32.ofInt (ze Mz (d_ + 1) 7)) rfl (zdal_p dlB_T_peakPart_72 (i := 16) rfl) ?_
    refine zk_callV hf.x (pc := 34) [.int (Int32.ofInt a0_), .int (Int32.ofInt (ze Mz (d_ + 1) 7))] [] l_T_317 (u_Sums_putScaledX l d_ Mz (hf.w hW) a0_ ha0_a ha0_b (ze Mz (d_ + 1) 7) (ze_r Mz (d_ + 1) 7).1 (ze_r Mz (d_ + 1) 7).2) rfl rfl ((hf.w hW).kr (o := 23) (by decide)) (by decide) (by decide) (Nat.le_of_ble_eq_true rfl) (zdal_p dlB_T_peakPart_72 (i := 17) rfl) ?_
    rintro _ N2_ ⟨rfl, hsN2_, -⟩
    have hf_N2_ : zFc d_ [] [] [] [25, 27] Mz N2_ := hf.tr hsN2_ (by decide) (by decide) (by decide) (by decide)
    show zW l m_T_peakPart (zn Mz + 0, zw Mz + 0) N2_ 37 [some (.ref 0), some (.int (Int32.ofInt a0_)), some (.int (Int32.ofInt a1_)), some (.int (Int32.ofInt a2_)), some (.int (Int32.ofInt (ze Mz (d_ + 1) 7))), none, none] [] _
    refine zw_aload_n (pc := 37) (n := 0) (x := 0) rfl (zdal_p dlB_T_peakPart_72 (i := 18) rfl) ?_
    refine zw_getF (pc := 38) f_T_28 rfl ((hf_N2_.w hW).ka (o := 0) (by decide)) (hf_N2_.now hnow) (zdal_p dlB_T_peakPart_72 (i := 19) rfl) ?_
    refine zw_getF (pc := 41) f_T_169 rfl ((hf_N2_.w hW).kr (o := 0) (by decide)) ((hf_N2_.w hW).lr (o := 0) (s := 2) (r := 23) (by decide)) (zdal_p dlB_T_peakPart_72 (i := 20) rfl) ?_
    refine zw_bipush (pc := 44) (v := Int32.ofInt 39) (by decide) (zdal_p dlB_T_peakPart_72 (i := 21) rfl) ?_
    refine zw_iload_n (pc := 46) (n := 2) (x := Int32.ofInt a1_) rfl (zdal_p dlB_T_peakPart_72 (i := 22) rfl) ?_
    refine zk_callV hf_N2_.x (pc := 47) [.int (Int32.ofInt 39), .int (Int32.ofInt a1_)] [] l_T_179 (u_Sums_numberAtX l d_ N2_ (hf_N2_.w hW) 39 (by decide) (by decide) a1_ ha1_a ha1_b) rfl rfl ((hf_N2_.w hW).kr (o := 23) (by decide)) (by decide) (by decide) (Nat.le_of_ble_eq_true rfl) (zdal_p dlB_T_peakPart_72 (i := 23) rfl) ?_
    rintro _ N4_ ⟨v5_, rfl, ⟨hv5_a, hv5_b⟩, hsN4_, -⟩
    obtain rfl := hsN4_.eq.symm
    show zW l m_T_peakPart (zn Mz + 0, zw Mz + 0) N2_ 50 [some (.ref 0), some (.int (Int32.ofInt a0_)), some (.int (Int32.ofInt a1_)), some (.int (Int32.ofInt a2_)), some (.int (Int32.ofInt (ze Mz (d_ + 1) 7))), none, none] [.long (Int64.ofInt v5_)] _
    refine zr_l2i (pc := 50) (zdal_p dlB_T_peakPart_73 (i := 0) rfl) ?_
    refine zr_nmI (fun v6_ hv6_ => ?_)
    obtain ⟨hv6_a, hv6_b⟩ := hv6_
    refine zw_istore (pc := 51) (i := 5) (L2 := [some (.ref 0), some (.int (Int32.ofInt a0_)), some (.int (Int32.ofInt a1_)), some (.int (Int32.ofInt a2_)), some (.int (Int32.ofInt (ze Mz (d_ + 1) 7))), some (.int (Int32.ofInt v6_)), none]) (by decide) rfl (zdal_p dlB_T_peakPart_73 (i := 1) rfl) ?_
    refine zw_iload (pc := 53) (i := 4) (x := Int32.ofInt (ze Mz (d_ + 1) 7)) rfl (zdal_p dlB_T_peakPart_73 (i := 2) rfl) ?_
    refine zw_iload (pc := 55) (i := 5) (x := Int32.ofInt v6_) rfl (zdal_p dlB_T_peakPart_73 (i := 3) rfl) ?_
    refine zk_mabs (pc := 57) x_T_320 (by decide) (Nat.le_of_ble_eq_true rfl) (zdal_p dlB_T_peakPart_73 (i := 4) rfl) ⟨hv6_a, hv6_b⟩ (fun v7_ hv7_ hv7_e => ?_)
    obtain ⟨hv7_a, hv7_b⟩ := hv7_
    refine zr_callS hf_N2_.x (pc := 60) [.int (Int32.ofInt (ze Mz (d_ + 1) 7)), .int (Int32.ofInt v7_)] [] l_T_325 (u_T_greatestDivisorX l d_ N2_ (hf_N2_.w hW) (ze Mz (d_ + 1) 7) (ze_r Mz (d_ + 1) 7).1 (ze_r Mz (d_ + 1) 7).2 v7_ hv7_a hv7_b) rfl rfl (by decide) (Nat.le_of_ble_eq_true rfl) (zdal_p dlB_T_peakPart_73 (i := 5) rfl) ?_
    rintro _ N8_ ⟨v9_, rfl, ⟨hv9_a, hv9_b⟩, hsN8_, -⟩
    obtain rfl := hsN8_.eq.symm
    show zW l m_T_peakPart (zn Mz + 0, zw Mz + 0) N2_ 63 [some (.ref 0), some (.int (Int32.ofInt a0_)), some (.int (Int32.ofInt a1_)), some (.int (Int32.ofInt a2_)), some (.int (Int32.ofInt (ze Mz (d_ + 1) 7))), some (.int (Int32.ofInt v6_)), none] [.int (Int32.ofInt v9_)] _
    refine zw_istore (pc := 63) (i := 6) (L2 := [some (.ref 0), some (.int (Int32.ofInt a0_)), some (.int (Int32.ofInt a1_)), some (.int (Int32.ofInt a2_)), some (.int (Int32.ofInt (ze Mz (d_ + 1) 7))), some (.int (Int32.ofInt v6_)), some (.int (Int32.ofInt v9_))]) (by decide) rfl (zdal_p dlB_T_peakPart_73 (i := 6) rfl) ?_
    refine zw_iload (pc := 65) (i := 6) (x := Int32.ofInt v9_) rfl (zdal_p dlB_T_peakPart_73 (i := 7) rfl) ?_
    refine zr_if_ne (pc := 67) (tgt := 73) ⟨hv9_a, hv9_b⟩ (by decide) (zdal_p dlB_T_peakPart_73 (i := 8) rfl) (fun hc_67 => ?_) (fun hc_67 => ?_)
    · skip
      refine zw_iload_n (pc := 73) (n := 3) (x := Int32.ofInt a2_) rfl (zdal_p dlB_T_peakPart_73 (i := 11) rfl) ?_
      refine zr_if_ne (pc := 74) (tgt := 85) ⟨ha2_a, ha2_b⟩ (by decide) (zdal_p dlB_T_peakPart_73 (i := 12) rfl) (fun hc_74 => ?_) (fun hc_74 => ?_)
      · skip
        refine zw_iload (pc := 85) (i := 4) (x := Int32.ofInt (ze Mz (d_ + 1) 7)) rfl (zdal_p dlB_T_peakPart_73 (i := 17) rfl) ?_
        refine zw_iload (pc := 87) (i := 6) (x := Int32.ofInt v9_) rfl (zdal_p dlB_T_peakPart_73 (i := 18) rfl) ?_
        refine zr_idiv (pc := 89) ⟨by omega, by omega⟩ (by omega) (zdal_p dlB_T_peakPart_73 (i := 19) rfl) ?_
        have hr10_ := zquo_r (ze Mz (d_ + 1) 7) v9_
        refine zr_nmI (fun v11_ hv11_ => ?_)
        obtain ⟨hv11_a, hv11_b⟩ := hv11_
        exact zk_iret (pc := 90) (ty := .int) rfl rfl ⟨by omega, by omega⟩ hf_N2_ trivial (zdal_p dlB_T_peakPart_73 (i := 20) rfl)
      · skip
        refine zw_iload (pc := 77) (i := 5) (x := Int32.ofInt v6_) rfl (zdal_p dlB_T_peakPart_73 (i := 13) rfl) ?_
        refine zw_iload (pc := 79) (i := 6) (x := Int32.ofInt v9_) rfl (zdal_p dlB_T_peakPart_73 (i := 14) rfl) ?_
        refine zr_idiv (pc := 81) ⟨by omega, by omega⟩ (by omega) (zdal_p dlB_T_peakPart_73 (i := 15) rfl) ?_
        have hr12_ := zquo_r v6_ v9_
        refine zr_nmI (fun v13_ hv13_ => ?_)
        obtain ⟨hv13_a, hv13_b⟩ := hv13_
        refine zw_goto (pc := 82) (tgt := 90) (by decide) (zdal_p dlB_T_peakPart_73 (i := 16) rfl) ?_
        exact zk_iret (pc := 90) (ty := .int) rfl rfl ⟨by omega, by omega⟩ hf_N2_ trivial (zdal_p dlB_T_peakPart_73 (i := 20) rfl)
    · skip
      refine zw_ldc (pc := 70) (v := Int32.ofInt (-1000000)) (by rw [show Int32.ofInt (-1000000) = ((-1000000) : Int32) by decide]; exact k_T_204) (zdal_p dlB_T_peakPart_73 (i := 9) rfl) ?_
      exact zk_iret (pc := 72) (ty := .int) rfl rfl ⟨by omega, by omega⟩ hf_N2_ trivial (zdal_p dlB_T_peakPart_73 (i := 10) rfl)
  · skip
    refine zw_iload_n (pc := 4) (n := 3) (x := Int32.ofInt a2_) rfl (zdal_p dlB_T_peakPart_72 (i := 2) rfl) ?_
    refine zw_iconst (pc := 5) (v := Int32.ofInt 1) (by decide) (zdal_p dlB_T_peakPart_72 (i := 3) rfl) ?_
    refine zr_icmp_eq (pc := 6) (tgt := 12) ⟨ha2_a, ha2_b⟩ ⟨(by decide), (by decide)⟩ (by decide) (zdal_p dlB_T_peakPart_72 (i := 4) rfl) (fun hc_6 => ?_) (fun hc_6 => ?_)
    · skip
      refine zw_aload_n (pc := 12) (n := 0) (x := 0) rfl (zdal_p dlB_T_peakPart_72 (i := 7) rfl) ?_
      refine zw_getF (pc := 13) f_T_28 rfl ((hf.w hW).ka (o := 0) (by decide)) (hf.now hnow) (zdal_p dlB_T_peakPart_72 (i := 8) rfl) ?_
      refine zw_getF (pc := 16) f_T_61 rfl ((hf.w hW).kr (o := 0) (by decide)) ((hf.w hW).lr (o := 0) (s := 0) (r := 1) (by decide)) (zdal_p dlB_T_peakPart_72 (i := 9) rfl) ?_
      refine zk_getI (pc := 19) f_T_65 rfl ((hf.w hW).kr (o := 1) (by decide)) (zdal_p dlB_T_peakPart_72 (i := 10) rfl) ?_
      have hr14_ := ze_r Mz (d_ + 1) 7
      refine zw_istore (pc := 22) (i := 4) (L2 := [some (.ref 0), some (.int (Int32.ofInt a0_)), some (.int (Int32.ofInt a1_)), some (.int (Int32.ofInt a2_)), some (.int (Int32.ofInt (ze Mz (d_ + 1) 7))), none, none]) (by decide) rfl (zdal_p dlB_T_peakPart_72 (i := 11) rfl) ?_
      refine zw_aload_n (pc := 24) (n := 0) (x := 0) rfl (zdal_p dlB_T_peakPart_72 (i := 12) rfl) ?_
      refine zw_getF (pc := 25) f_T_28 rfl ((hf.w hW).ka (o := 0) (by decide)) (hf.now hnow) (zdal_p dlB_T_peakPart_72 (i := 13) rfl) ?_
      refine zw_getF (pc := 28) f_T_169 rfl ((hf.w hW).kr (o := 0) (by decide)) ((hf.w hW).lr (o := 0) (s := 2) (r := 23) (by decide)) (zdal_p dlB_T_peakPart_72 (i := 14) rfl) ?_
      refine zw_iload_n (pc := 31) (n := 1) (x := Int32.ofInt a0_) rfl (zdal_p dlB_T_peakPart_72 (i := 15) rfl) ?_
      refine zw_iload (pc := 32) (i := 4) (x := Int32.ofInt (ze Mz (d_ + 1) 7)) rfl (zdal_p dlB_T_peakPart_72 (i := 16) rfl) ?_
      refine zk_callV hf.x (pc := 34) [.int (Int32.ofInt a0_), .int (Int32.ofInt (ze Mz (d_ + 1) 7))] [] l_T_317 (u_Sums_putScaledX l d_ Mz (hf.w hW) a0_ ha0_a ha0_b (ze Mz (d_ + 1) 7) (ze_r Mz (d_ + 1) 7).1 (ze_r Mz (d_ + 1) 7).2) rfl rfl ((hf.w hW).kr (o := 23) (by decide)) (by decide) (by decide) (Nat.le_of_ble_eq_true rfl) (zdal_p dlB_T_peakPart_72 (i := 17) rfl) ?_
      rintro _ N15_ ⟨rfl, hsN15_, -⟩
      have hf_N15_ : zFc d_ [] [] [] [25, 27] Mz N15_ := hf.tr hsN15_ (by decide) (by decide) (by decide) (by decide)
      show zW l m_T_peakPart (zn Mz + 0, zw Mz + 0) N15_ 37 [some (.ref 0), some (.int (Int32.ofInt a0_)), some (.int (Int32.ofInt a1_)), some (.int (Int32.ofInt a2_)), some (.int (Int32.ofInt (ze Mz (d_ + 1) 7))), none, none] [] _
      refine zw_aload_n (pc := 37) (n := 0) (x := 0) rfl (zdal_p dlB_T_peakPart_72 (i := 18) rfl) ?_
      refine zw_getF (pc := 38) f_T_28 rfl ((hf_N15_.w hW).ka (o := 0) (by decide)) (hf_N15_.now hnow) (zdal_p dlB_T_peakPart_72 (i := 19) rfl) ?_
      refine zw_getF (pc := 41) f_T_169 rfl ((hf_N15_.w hW).kr (o := 0) (by decide)) ((hf_N15_.w hW).lr (o := 0) (s := 2) (r := 23) (by decide)) (zdal_p dlB_T_peakPart_72 (i := 20) rfl) ?_
      refine zw_bipush (pc := 44) (v := Int32.ofInt 39) (by decide) (zdal_p dlB_T_peakPart_72 (i := 21) rfl) ?_
      refine zw_iload_n (pc := 46) (n := 2) (x := Int32.ofInt a1_) rfl (zdal_p dlB_T_peakPart_72 (i := 22) rfl) ?_
      refine zk_callV hf_N15_.x (pc := 47) [.int (Int32.ofInt 39), .int (Int32.ofInt a1_)] [] l_T_179 (u_Sums_numberAtX l d_ N15_ (hf_N15_.w hW) 39 (by decide) (by decide) a1_ ha1_a ha1_b) rfl rfl ((hf_N15_.w hW).kr (o := 23) (by decide)) (by decide) (by decide) (Nat.le_of_ble_eq_true rfl) (zdal_p dlB_T_peakPart_72 (i := 23) rfl) ?_
      rintro _ N17_ ⟨v18_, rfl, ⟨hv18_a, hv18_b⟩, hsN17_, -⟩
      obtain rfl := hsN17_.eq.symm
      show zW l m_T_peakPart (zn Mz + 0, zw Mz + 0) N15_ 50 [some (.ref 0), some (.int (Int32.ofInt a0_)), some (.int (Int32.ofInt a1_)), some (.int (Int32.ofInt a2_)), some (.int (Int32.ofInt (ze Mz (d_ + 1) 7))), none, none] [.long (Int64.ofInt v18_)] _
      refine zr_l2i (pc := 50) (zdal_p dlB_T_peakPart_73 (i := 0) rfl) ?_
      refine zr_nmI (fun v19_ hv19_ => ?_)
      obtain ⟨hv19_a, hv19_b⟩ := hv19_
      refine zw_istore (pc := 51) (i := 5) (L2 := [some (.ref 0), some (.int (Int32.ofInt a0_)), some (.int (Int32.ofInt a1_)), some (.int (Int32.ofInt a2_)), some (.int (Int32.ofInt (ze Mz (d_ + 1) 7))), some (.int (Int32.ofInt v19_)), none]) (by decide) rfl (zdal_p dlB_T_peakPart_73 (i := 1) rfl) ?_
      refine zw_iload (pc := 53) (i := 4) (x := Int32.ofInt (ze Mz (d_ + 1) 7)) rfl (zdal_p dlB_T_peakPart_73 (i := 2) rfl) ?_
      refine zw_iload (pc := 55) (i := 5) (x := Int32.ofInt v19_) rfl (zdal_p dlB_T_peakPart_73 (i := 3) rfl) ?_
      refine zk_mabs (pc := 57) x_T_320 (by decide) (Nat.le_of_ble_eq_true rfl) (zdal_p dlB_T_peakPart_73 (i := 4) rfl) ⟨hv19_a, hv19_b⟩ (fun v20_ hv20_ hv20_e => ?_)
      obtain ⟨hv20_a, hv20_b⟩ := hv20_
      refine zr_callS hf_N15_.x (pc := 60) [.int (Int32.ofInt (ze Mz (d_ + 1) 7)), .int (Int32.ofInt v20_)] [] l_T_325 (u_T_greatestDivisorX l d_ N15_ (hf_N15_.w hW) (ze Mz (d_ + 1) 7) (ze_r Mz (d_ + 1) 7).1 (ze_r Mz (d_ + 1) 7).2 v20_ hv20_a hv20_b) rfl rfl (by decide) (Nat.le_of_ble_eq_true rfl) (zdal_p dlB_T_peakPart_73 (i := 5) rfl) ?_
      rintro _ N21_ ⟨v22_, rfl, ⟨hv22_a, hv22_b⟩, hsN21_, -⟩
      obtain rfl := hsN21_.eq.symm
      show zW l m_T_peakPart (zn Mz + 0, zw Mz + 0) N15_ 63 [some (.ref 0), some (.int (Int32.ofInt a0_)), some (.int (Int32.ofInt a1_)), some (.int (Int32.ofInt a2_)), some (.int (Int32.ofInt (ze Mz (d_ + 1) 7))), some (.int (Int32.ofInt v19_)), none] [.int (Int32.ofInt v22_)] _
      refine zw_istore (pc := 63) (i := 6) (L2 := [some (.ref 0), some (.int (Int32.ofInt a0_)), some (.int (Int32.ofInt a1_)), some (.int (Int32.ofInt a2_)), some (.int (Int32.ofInt (ze Mz (d_ + 1) 7))), some (.int (Int32.ofInt v19_)), some (.int (Int32.ofInt v22_))]) (by decide) rfl (zdal_p dlB_T_peakPart_73 (i := 6) rfl) ?_
      refine zw_iload (pc := 65) (i := 6) (x := Int32.ofInt v22_) rfl (zdal_p dlB_T_peakPart_73 (i := 7) rfl) ?_
      refine zr_if_ne (pc := 67) (tgt := 73) ⟨hv22_a, hv22_b⟩ (by decide) (zdal_p dlB_T_peakPart_73 (i := 8) rfl) (fun hc_67 => ?_) (fun hc_67 => ?_)
      · skip
        refine zw_iload_n (pc := 73) (n := 3) (x := Int32.ofInt a2_) rfl (zdal_p dlB_T_peakPart_73 (i := 11) rfl) ?_
        refine zr_if_ne (pc := 74) (tgt := 85) ⟨ha2_a, ha2_b⟩ (by decide) (zdal_p dlB_T_peakPart_73 (i := 12) rfl) (fun hc_74 => ?_) (fun hc_74 => ?_)
        · skip
          refine zw_iload (pc := 85) (i := 4) (x := Int32.ofInt (ze Mz (d_ + 1) 7)) rfl (zdal_p dlB_T_peakPart_73 (i := 17) rfl) ?_
          refine zw_iload (pc := 87) (i := 6) (x := Int32.ofInt v22_) rfl (zdal_p dlB_T_peakPart_73 (i := 18) rfl) ?_
          refine zr_idiv (pc := 89) ⟨by omega, by omega⟩ (by omega) (zdal_p dlB_T_peakPart_73 (i := 19) rfl) ?_
          have hr23_ := zquo_r (ze Mz (d_ + 1) 7) v22_
          refine zr_nmI (fun v24_ hv24_ => ?_)
          obtain ⟨hv24_a, hv24_b⟩ := hv24_
          exact zk_iret (pc := 90) (ty := .int) rfl rfl ⟨by omega, by omega⟩ hf_N15_ trivial (zdal_p dlB_T_peakPart_73 (i := 20) rfl)
        · skip
          refine zw_iload (pc := 77) (i := 5) (x := Int32.ofInt v19_) rfl (zdal_p dlB_T_peakPart_73 (i := 13) rfl) ?_
          refine zw_iload (pc := 79) (i := 6) (x := Int32.ofInt v22_) rfl (zdal_p dlB_T_peakPart_73 (i := 14) rfl) ?_
          refine zr_idiv (pc := 81) ⟨by omega, by omega⟩ (by omega) (zdal_p dlB_T_peakPart_73 (i := 15) rfl) ?_
          have hr25_ := zquo_r v19_ v22_
          refine zr_nmI (fun v26_ hv26_ => ?_)
          obtain ⟨hv26_a, hv26_b⟩ := hv26_
          refine zw_goto (pc := 82) (tgt := 90) (by decide) (zdal_p dlB_T_peakPart_73 (i := 16) rfl) ?_
          exact zk_iret (pc := 90) (ty := .int) rfl rfl ⟨by omega, by omega⟩ hf_N15_ trivial (zdal_p dlB_T_peakPart_73 (i := 20) rfl)
      · skip
        refine zw_ldc (pc := 70) (v := Int32.ofInt (-1000000)) (by rw [show Int32.ofInt (-1000000) = ((-1000000) : Int32) by decide]; exact k_T_204) (zdal_p dlB_T_peakPart_73 (i := 9) rfl) ?_
        exact zk_iret (pc := 72) (ty := .int) rfl rfl ⟨by omega, by omega⟩ hf_N15_ trivial (zdal_p dlB_T_peakPart_73 (i := 10) rfl)
    · skip
      refine zw_ldc (pc := 9) (v := Int32.ofInt (-1000000)) (by rw [show Int32.ofInt (-1000000) = ((-1000000) : Int32) by decide]; exact k_T_204) (zdal_p dlB_T_peakPart_72 (i := 5) rfl) ?_
      exact zk_iret (pc := 11) (ty := .int) rfl rfl ⟨by omega, by omega⟩ hf trivial (zdal_p dlB_T_peakPart_72 (i := 6) rfl)
set_option maxHeartbeats 4000000 in
theorem u_T_peakX (l : Launch) (d_ : Nat) (Mz : zMem) (hW : zKW d_ Mz) (hnow : zf Mz 0 2 = some (d_ + 0)) (a0_ : Int) (ha0_a : -2147483648 ≤ a0_) (ha0_b : a0_ < 2147483648) (a1_ : Int) (ha1_a : -2147483648 ≤ a1_) (ha1_b : a1_ < 2147483648) (a2_ : Int) (ha2_a : -2147483648 ≤ a2_) (ha2_b : a2_ < 2147483648) : zC l m_T_peak 0 0 [.ref 0, .int (Int32.ofInt a0_), .int (Int32.ofInt a1_), .int (Int32.ofInt a2_)] Mz (zqcI d_ [] [] [] [25, 27] Mz (fun v N => True)) := by
  refine zC_of (L0 := [some (.ref 0), some (.int (Int32.ofInt a0_)), some (.int (Int32.ofInt a1_)), some (.int (Int32.ofInt a2_))]) md_T_peak (Nat.le_of_ble_eq_true rfl) rfl ?_ zQ0
  have hf : zFc d_ [] [] [] [25, 27] Mz Mz := zFc.rf
  refine zw_aload_n (pc := 0) (n := 0) (x := 0) rfl (zdal_p dlB_T_peak_71 (i := 0) rfl) ?_
  refine zw_getF (pc := 1) f_T_28 rfl ((hf.w hW).ka (o := 0) (by decide)) (hf.now hnow) (zdal_p dlB_T_peak_71 (i := 1) rfl) ?_
  refine zw_getF (pc := 4) f_T_85 rfl ((hf.w hW).kr (o := 0) (by decide)) ((hf.w hW).lr (o := 0) (s := 1) (r := 12) (by decide)) (zdal_p dlB_T_peak_71 (i := 2) rfl) ?_
  refine zw_iload_n (pc := 7) (n := 1) (x := Int32.ofInt a0_) rfl (zdal_p dlB_T_peak_71 (i := 3) rfl) ?_
  refine zk_callV hf.x (pc := 8) [.int (Int32.ofInt a0_)] [] l_T_143 (u_Sorts_hasSortX l d_ Mz (hf.w hW) a0_ ha0_a ha0_b) rfl rfl ((hf.w hW).kr (o := 12) (by decide)) (by decide) (by decide) (Nat.le_of_ble_eq_true rfl) (zdal_p dlB_T_peak_71 (i := 4) rfl) ?_
  rintro _ N1_ ⟨v2_, rfl, ⟨hv2_a, hv2_b⟩, hsN1_, hp0_N1_⟩
  obtain rfl := hsN1_.eq.symm
  replace hp0_N1_ : (v2_ = 0 ∨ v2_ = 1) := hp0_N1_
  show zW l m_T_peak (zn Mz + 0, zw Mz + 0) Mz 11 [some (.ref 0), some (.int (Int32.ofInt a0_)), some (.int (Int32.ofInt a1_)), some (.int (Int32.ofInt a2_))] [.int (Int32.ofInt v2_)] _
  refine zr_if_eq (pc := 11) (tgt := 28) ⟨hv2_a, hv2_b⟩ (by decide) (zdal_p dlB_T_peak_71 (i := 5) rfl) (fun hc_11 => ?_) (fun hc_11 => ?_)
  · skip
    refine zw_ldc (pc := 28) (v := Int32.ofInt (-1000000)) (by rw [show Int32.ofInt (-1000000) = ((-1000000) : Int32) by decide]; exact k_T_204) (zdal_p dlB_T_peak_71 (i := 12) rfl) ?_
    exact zk_iret (pc := 30) (ty := .int) rfl rfl ⟨by omega, by omega⟩ hf trivial (zdal_p dlB_T_peak_71 (i := 13) rfl)
  · skip
    refine zw_aload_n (pc := 14) (n := 0) (x := 0) rfl (zdal_p dlB_T_peak_71 (i := 6) rfl) ?_
    refine zw_getF (pc := 15) f_T_28 rfl ((hf.w hW).ka (o := 0) (by decide)) (hf.now hnow) (zdal_p dlB_T_peak_71 (i := 7) rfl) ?_
    refine zw_getF (pc := 18) f_T_85 rfl ((hf.w hW).kr (o := 0) (by decide)) ((hf.w hW).lr (o := 0) (s := 1) (r := 12) (by decide)) (zdal_p dlB_T_peak_71 (i := 8) rfl) ?_
    refine zw_iload_n (pc := 21) (n := 2) (x := Int32.ofInt a1_) rfl (zdal_p dlB_T_peak_71 (i := 9) rfl) ?_
    refine zk_callV hf.x (pc := 22) [.int (Int32.ofInt a1_)] [] l_T_143 (u_Sorts_hasSortX l d_ Mz (hf.w hW) a1_ ha1_a ha1_b) rfl rfl ((hf.w hW).kr (o := 12) (by decide)) (by decide) (by decide) (Nat.le_of_ble_eq_true rfl) (zdal_p dlB_T_peak_71 (i := 10) rfl) ?_
    rintro _ N3_ ⟨v4_, rfl, ⟨hv4_a, hv4_b⟩, hsN3_, hp0_N3_⟩
    obtain rfl := hsN3_.eq.symm
    replace hp0_N3_ : (v4_ = 0 ∨ v4_ = 1) := hp0_N3_
    show zW l m_T_peak (zn Mz + 0, zw Mz + 0) Mz 25 [some (.ref 0), some (.int (Int32.ofInt a0_)), some (.int (Int32.ofInt a1_)), some (.int (Int32.ofInt a2_))] [.int (Int32.ofInt v4_)] _
    refine zr_if_ne (pc := 25) (tgt := 31) ⟨hv4_a, hv4_b⟩ (by decide) (zdal_p dlB_T_peak_71 (i := 11) rfl) (fun hc_25 => ?_) (fun hc_25 => ?_)
    · skip
      refine zw_aload_n (pc := 31) (n := 0) (x := 0) rfl (zdal_p dlB_T_peak_71 (i := 14) rfl) ?_
      refine zw_iconst (pc := 32) (v := Int32.ofInt 1) (by decide) (zdal_p dlB_T_peak_71 (i := 15) rfl) ?_
      refine zw_iload_n (pc := 33) (n := 1) (x := Int32.ofInt a0_) rfl (zdal_p dlB_T_peak_71 (i := 16) rfl) ?_
      refine zr_ishl (pc := 34) (zdal_p dlB_T_peak_71 (i := 17) rfl) ?_
      have hr5_ := zshl_r 1 a0_
      refine zr_nmI (fun v6_ hv6_ => ?_)
      obtain ⟨hv6_a, hv6_b⟩ := hv6_
      refine zw_iload_n (pc := 35) (n := 2) (x := Int32.ofInt a1_) rfl (zdal_p dlB_T_peak_71 (i := 18) rfl) ?_
      refine zw_iload_n (pc := 36) (n := 3) (x := Int32.ofInt a2_) rfl (zdal_p dlB_T_peak_71 (i := 19) rfl) ?_
      refine zk_callV hf.x (pc := 37) [.int (Int32.ofInt v6_), .int (Int32.ofInt a1_), .int (Int32.ofInt a2_)] [] l_T_223 (u_T_peakPartX l d_ Mz (hf.w hW) (hf.now hnow) v6_ hv6_a hv6_b a1_ ha1_a ha1_b a2_ ha2_a ha2_b) rfl rfl ((hf.w hW).ka (o := 0) (by decide)) (by decide) (by decide) (Nat.le_of_ble_eq_true rfl) (zdal_p dlB_T_peak_71 (i := 20) rfl) ?_
      rintro _ N7_ ⟨v8_, rfl, ⟨hv8_a, hv8_b⟩, hsN7_, -⟩
      have hf_N7_ : zFc d_ [] [] [] [25, 27] Mz N7_ := hf.tr hsN7_ (by decide) (by decide) (by decide) (by decide)
      show zW l m_T_peak (zn Mz + 0, zw Mz + 0) N7_ 40 [some (.ref 0), some (.int (Int32.ofInt a0_)), some (.int (Int32.ofInt a1_)), some (.int (Int32.ofInt a2_))] [.int (Int32.ofInt v8_)] _
      exact zk_iret (pc := 40) (ty := .int) rfl rfl ⟨by omega, by omega⟩ hf_N7_ trivial (zdal_p dlB_T_peak_71 (i := 21) rfl)
    · skip
      refine zw_ldc (pc := 28) (v := Int32.ofInt (-1000000)) (by rw [show Int32.ofInt (-1000000) = ((-1000000) : Int32) by decide]; exact k_T_204) (zdal_p dlB_T_peak_71 (i := 12) rfl) ?_
      exact zk_iret (pc := 30) (ty := .int) rfl rfl ⟨by omega, by omega⟩ hf trivial (zdal_p dlB_T_peak_71 (i := 13) rfl)
set_option maxHeartbeats 4000000 in
theorem u_T_localX (l : Launch) (d_ : Nat) (Mz : zMem) (hW : zKW d_ Mz) (hnow : zf Mz 0 2 = some (d_ + 0)) (a0_ : Int) (ha0_a : -2147483648 ≤ a0_) (ha0_b : a0_ < 2147483648) (a1_ : Int) (ha1_a : -2147483648 ≤ a1_) (ha1_b : a1_ < 2147483648) (a2_ : Int) (ha2_a : -2147483648 ≤ a2_) (ha2_b : a2_ < 2147483648) (a3_ : Int) (ha3_a : -2147483648 ≤ a3_) (ha3_b : a3_ < 2147483648) : zC l m_T_local 0 0 [.ref 0, .int (Int32.ofInt a0_), .int (Int32.ofInt a1_), .int (Int32.ofInt a2_), .int (Int32.ofInt a3_)] Mz (zqcI d_ [] [] [] [25, 27] Mz (fun v N => True)) := by
  refine zC_of (L0 := [some (.ref 0), some (.int (Int32.ofInt a0_)), some (.int (Int32.ofInt a1_)), some (.int (Int32.ofInt a2_)), some (.int (Int32.ofInt a3_))]) md_T_local (Nat.le_of_ble_eq_true rfl) rfl ?_ zQ0
  have hf : zFc d_ [] [] [] [25, 27] Mz Mz := zFc.rf
  refine zw_iload_n (pc := 0) (n := 1) (x := Int32.ofInt a0_) rfl (zdal_p dlB_T_local_77 (i := 0) rfl) ?_
  refine zr_callS hf.x (pc := 1) [.int (Int32.ofInt a0_)] [] l_T_183 (u_T_isPrimeX l d_ Mz (hf.w hW) a0_ ha0_a ha0_b) rfl rfl (by decide) (Nat.le_of_ble_eq_true rfl) (zdal_p dlB_T_local_77 (i := 1) rfl) ?_
  rintro _ N1_ ⟨v2_, rfl, ⟨hv2_a, hv2_b⟩, hsN1_, ⟨hp0_N1_, hp1_N1_⟩⟩
  obtain rfl := hsN1_.eq.symm
  show zW l m_T_local (zn Mz + 0, zw Mz + 0) Mz 4 [some (.ref 0), some (.int (Int32.ofInt a0_)), some (.int (Int32.ofInt a1_)), some (.int (Int32.ofInt a2_)), some (.int (Int32.ofInt a3_))] [.int (Int32.ofInt v2_)] _
  refine zr_if_eq (pc := 4) (tgt := 35) ⟨hv2_a, hv2_b⟩ (by decide) (zdal_p dlB_T_local_77 (i := 2) rfl) (fun hc_4 => ?_) (fun hc_4 => ?_)
  · skip
    refine zw_ldc (pc := 35) (v := Int32.ofInt (-1000000)) (by rw [show Int32.ofInt (-1000000) = ((-1000000) : Int32) by decide]; exact k_T_204) (zdal_p dlB_T_local_77 (i := 15) rfl) ?_
    exact zk_iret (pc := 37) (ty := .int) rfl rfl ⟨by omega, by omega⟩ hf trivial (zdal_p dlB_T_local_77 (i := 16) rfl)
  · skip
    refine zw_aload_n (pc := 7) (n := 0) (x := 0) rfl (zdal_p dlB_T_local_77 (i := 3) rfl) ?_
    refine zw_getF (pc := 8) f_T_28 rfl ((hf.w hW).ka (o := 0) (by decide)) (hf.now hnow) (zdal_p dlB_T_local_77 (i := 4) rfl) ?_
    refine zw_getF (pc := 11) f_T_85 rfl ((hf.w hW).kr (o := 0) (by decide)) ((hf.w hW).lr (o := 0) (s := 1) (r := 12) (by decide)) (zdal_p dlB_T_local_77 (i := 5) rfl) ?_
    refine zw_iload_n (pc := 14) (n := 2) (x := Int32.ofInt a1_) rfl (zdal_p dlB_T_local_77 (i := 6) rfl) ?_
    refine zk_callV hf.x (pc := 15) [.int (Int32.ofInt a1_)] [] l_T_143 (u_Sorts_hasSortX l d_ Mz (hf.w hW) a1_ ha1_a ha1_b) rfl rfl ((hf.w hW).kr (o := 12) (by decide)) (by decide) (by decide) (Nat.le_of_ble_eq_true rfl) (zdal_p dlB_T_local_77 (i := 7) rfl) ?_
    rintro _ N3_ ⟨v4_, rfl, ⟨hv4_a, hv4_b⟩, hsN3_, hp0_N3_⟩
    obtain rfl := hsN3_.eq.symm
    replace hp0_N3_ : (v4_ = 0 ∨ v4_ = 1) := hp0_N3_
    show zW l m_T_local (zn Mz + 0, zw Mz + 0) Mz 18 [some (.ref 0), some (.int (Int32.ofInt a0_)), some (.int (Int32.ofInt a1_)), some (.int (Int32.ofInt a2_)), some (.int (Int32.ofInt a3_))] [.int (Int32.ofInt v4_)] _
    refine zr_if_eq (pc := 18) (tgt := 35) ⟨hv4_a, hv4_b⟩ (by decide) (zdal_p dlB_T_local_77 (i := 8) rfl) (fun hc_18 => ?_) (fun hc_18 => ?_)
    · skip
      refine zw_ldc (pc := 35) (v := Int32.ofInt (-1000000)) (by rw [show Int32.ofInt (-1000000) = ((-1000000) : Int32) by decide]; exact k_T_204) (zdal_p dlB_T_local_77 (i := 15) rfl) ?_
      exact zk_iret (pc := 37) (ty := .int) rfl rfl ⟨by omega, by omega⟩ hf trivial (zdal_p dlB_T_local_77 (i := 16) rfl)
    · skip
      refine zw_aload_n (pc := 21) (n := 0) (x := 0) rfl (zdal_p dlB_T_local_77 (i := 9) rfl) ?_
      refine zw_getF (pc := 22) f_T_28 rfl ((hf.w hW).ka (o := 0) (by decide)) (hf.now hnow) (zdal_p dlB_T_local_77 (i := 10) rfl) ?_
      refine zw_getF (pc := 25) f_T_85 rfl ((hf.w hW).kr (o := 0) (by decide)) ((hf.w hW).lr (o := 0) (s := 1) (r := 12) (by decide)) (zdal_p dlB_T_local_77 (i := 11) rfl) ?_
      refine zw_iload_n (pc := 28) (n := 3) (x := Int32.ofInt a2_) rfl (zdal_p dlB_T_local_77 (i := 12) rfl) ?_
      refine zk_callV hf.x (pc := 29) [.int (Int32.ofInt a2_)] [] l_T_143 (u_Sorts_hasSortX l d_ Mz (hf.w hW) a2_ ha2_a ha2_b) rfl rfl ((hf.w hW).kr (o := 12) (by decide)) (by decide) (by decide) (Nat.le_of_ble_eq_true rfl) (zdal_p dlB_T_local_77 (i := 13) rfl) ?_
      rintro _ N5_ ⟨v6_, rfl, ⟨hv6_a, hv6_b⟩, hsN5_, hp0_N5_⟩
      obtain rfl := hsN5_.eq.symm
      replace hp0_N5_ : (v6_ = 0 ∨ v6_ = 1) := hp0_N5_
      show zW l m_T_local (zn Mz + 0, zw Mz + 0) Mz 32 [some (.ref 0), some (.int (Int32.ofInt a0_)), some (.int (Int32.ofInt a1_)), some (.int (Int32.ofInt a2_)), some (.int (Int32.ofInt a3_))] [.int (Int32.ofInt v6_)] _
      refine zr_if_ne (pc := 32) (tgt := 38) ⟨hv6_a, hv6_b⟩ (by decide) (zdal_p dlB_T_local_77 (i := 14) rfl) (fun hc_32 => ?_) (fun hc_32 => ?_)
      · skip
        refine zw_aload_n (pc := 38) (n := 0) (x := 0) rfl (zdal_p dlB_T_local_77 (i := 17) rfl) ?_
        refine zw_aload_n (pc := 39) (n := 0) (x := 0) rfl (zdal_p dlB_T_local_77 (i := 18) rfl) ?_
        refine zw_getF (pc := 40) f_T_28 rfl ((hf.w hW).ka (o := 0) (by decide)) (hf.now hnow) (zdal_p dlB_T_local_77 (i := 19) rfl) ?_
        refine zw_getF (pc := 43) f_T_85 rfl ((hf.w hW).kr (o := 0) (by decide)) ((hf.w hW).lr (o := 0) (s := 1) (r := 12) (by decide)) (zdal_p dlB_T_local_77 (i := 20) rfl) ?_
        refine zw_iload_n (pc := 46) (n := 2) (x := Int32.ofInt a1_) rfl (zdal_p dlB_T_local_77 (i := 21) rfl) ?_
        refine zw_iload_n (pc := 47) (n := 1) (x := Int32.ofInt a0_) rfl (zdal_p dlB_T_local_77 (i := 22) rfl) ?_
        refine zk_callV hf.x (pc := 48) [.int (Int32.ofInt a1_), .int (Int32.ofInt a0_)] [.ref 0] l_T_189 (u_Sorts_blockOfX l d_ Mz (hf.w hW) a1_ ha1_a ha1_b a0_ ha0_a ha0_b (show (a0_ = 2 ∨ a0_ = 3 ∨ a0_ = 5) by first | with_reducible assumption | assumption | omega)) rfl rfl ((hf.w hW).kr (o := 12) (by decide)) (by decide) (by decide) (Nat.le_of_ble_eq_true rfl) (zdal_p dlB_T_local_77 (i := 23) rfl) ?_
        rintro _ N7_ ⟨v8_, rfl, ⟨hv8_a, hv8_b⟩, hsN7_, -⟩
        obtain rfl := hsN7_.eq.symm
        show zW l m_T_local (zn Mz + 0, zw Mz + 0) Mz 51 [some (.ref 0), some (.int (Int32.ofInt a0_)), some (.int (Int32.ofInt a1_)), some (.int (Int32.ofInt a2_)), some (.int (Int32.ofInt a3_))] [.int (Int32.ofInt v8_), .ref 0] _
        refine zw_iload_n (pc := 51) (n := 3) (x := Int32.ofInt a2_) rfl (zdal_p dlB_T_local_78 (i := 0) rfl) ?_
        refine zw_iload (pc := 52) (i := 4) (x := Int32.ofInt a3_) rfl (zdal_p dlB_T_local_78 (i := 1) rfl) ?_
        refine zk_callV hf.x (pc := 54) [.int (Int32.ofInt v8_), .int (Int32.ofInt a2_), .int (Int32.ofInt a3_)] [] l_T_223 (u_T_peakPartX l d_ Mz (hf.w hW) (hf.now hnow) v8_ hv8_a hv8_b a2_ ha2_a ha2_b a3_ ha3_a ha3_b) rfl rfl ((hf.w hW).ka (o := 0) (by decide)) (by decide) (by decide) (Nat.le_of_ble_eq_true rfl) (zdal_p dlB_T_local_78 (i := 2) rfl) ?_
        rintro _ N9_ ⟨v10_, rfl, ⟨hv10_a, hv10_b⟩, hsN9_, -⟩
        have hf_N9_ : zFc d_ [] [] [] [25, 27] Mz N9_ := hf.tr hsN9_ (by decide) (by decide) (by decide) (by decide)
        show zW l m_T_local (zn Mz + 0, zw Mz + 0) N9_ 57 [some (.ref 0), some (.int (Int32.ofInt a0_)), some (.int (Int32.ofInt a1_)), some (.int (Int32.ofInt a2_)), some (.int (Int32.ofInt a3_))] [.int (Int32.ofInt v10_)] _
        exact zk_iret (pc := 57) (ty := .int) rfl rfl ⟨by omega, by omega⟩ hf_N9_ trivial (zdal_p dlB_T_local_78 (i := 3) rfl)
      · skip
        refine zw_ldc (pc := 35) (v := Int32.ofInt (-1000000)) (by rw [show Int32.ofInt (-1000000) = ((-1000000) : Int32) by decide]; exact k_T_204) (zdal_p dlB_T_local_77 (i := 15) rfl) ?_
        exact zk_iret (pc := 37) (ty := .int) rfl rfl ⟨by omega, by omega⟩ hf trivial (zdal_p dlB_T_local_77 (i := 16) rfl)
set_option maxHeartbeats 4000000 in
theorem u_Units_bitOfX (l : Launch) (d_ : Nat) (Mz : zMem) (hW : zKW d_ Mz) (a0_ : Int) (ha0_a : -2147483648 ≤ a0_) (ha0_b : a0_ < 2147483648) : zC l m_Units_bitOf 0 0 [.ref (d_ + 28), .int (Int32.ofInt a0_)] Mz (zqcI d_ [] [] [] [] Mz (fun v N => True)) := by
  refine zC_of (L0 := [some (.ref (d_ + 28)), some (.int (Int32.ofInt a0_))]) md_Units_bitOf (Nat.le_of_ble_eq_true rfl) rfl ?_ zQ0
  have hf : zFc d_ [] [] [] [] Mz Mz := zFc.rf
  refine zw_iconst (pc := 0) (v := Int32.ofInt 1) (by decide) (zdal_p dlB_Units_bitOf_87 (i := 0) rfl) ?_
  refine zw_aload_n (pc := 1) (n := 0) (x := (d_ + 28)) rfl (zdal_p dlB_Units_bitOf_87 (i := 1) rfl) ?_
  refine zw_getF (pc := 2) f_Units_23 rfl ((hf.w hW).kr (o := 28) (by decide)) ((hf.w hW).lr (o := 28) (s := 0) (r := 12) (by decide)) (zdal_p dlB_Units_bitOf_87 (i := 2) rfl) ?_
  refine zk_getI (pc := 5) f_Units_35 rfl ((hf.w hW).kr (o := 12) (by decide)) (zdal_p dlB_Units_bitOf_87 (i := 3) rfl) ?_
  have hr1_ := ze_r Mz (d_ + 12) 7
  refine zw_iconst (pc := 8) (v := Int32.ofInt 1) (by decide) (zdal_p dlB_Units_bitOf_87 (i := 4) rfl) ?_
  refine zr_isub (pc := 9) (zdal_p dlB_Units_bitOf_87 (i := 5) rfl) ?_
  refine zr_nmI (fun v2_ hv2_ => ?_)
  obtain ⟨hv2_a, hv2_b⟩ := hv2_
  refine zw_iload_n (pc := 10) (n := 1) (x := Int32.ofInt a0_) rfl (zdal_p dlB_Units_bitOf_87 (i := 6) rfl) ?_
  refine zr_isub (pc := 11) (zdal_p dlB_Units_bitOf_87 (i := 7) rfl) ?_
  refine zr_nmI (fun v3_ hv3_ => ?_)
  obtain ⟨hv3_a, hv3_b⟩ := hv3_
  refine zr_ishl (pc := 12) (zdal_p dlB_Units_bitOf_87 (i := 8) rfl) ?_
  have hr4_ := zshl_r 1 v3_
  refine zr_nmI (fun v5_ hv5_ => ?_)
  obtain ⟨hv5_a, hv5_b⟩ := hv5_
  exact zk_iret (pc := 13) (ty := .int) rfl rfl ⟨by omega, by omega⟩ hf trivial (zdal_p dlB_Units_bitOf_87 (i := 9) rfl)
set_option maxHeartbeats 4000000 in
theorem u_Units_straightenX (l : Launch) (d_ : Nat) (Mz : zMem) (hW : zKW d_ Mz) : zC l m_Units_straighten 0 0 [.ref (d_ + 28)] Mz (zqcV d_ [] [] [] [30] Mz (fun N => True)) := by
  refine zC_of (L0 := [some (.ref (d_ + 28)), none, none, none, none, none]) md_Units_straighten (Nat.le_of_ble_eq_true rfl) rfl ?_ zQ0
  have hf : zFc d_ [] [] [] [30] Mz Mz := zFc.rf
  refine zw_iconst (pc := 0) (v := Int32.ofInt 0) (by decide) (zdal_p dlB_Units_straighten_91 (i := 0) rfl) ?_
  refine zw_istore_n (pc := 1) (i := 1) (L2 := [some (.ref (d_ + 28)), some (.int (Int32.ofInt 0)), none, none, none, none]) rfl (by decide) rfl (zdal_p dlB_Units_straighten_91 (i := 1) rfl) ?_
  refine zw_iconst (pc := 2) (v := Int32.ofInt 0) (by decide) (zdal_p dlB_Units_straighten_91 (i := 2) rfl) ?_
  refine zw_istore_n (pc := 3) (i := 2) (L2 := [some (.ref (d_ + 28)), some (.int (Int32.ofInt 0)), some (.int (Int32.ofInt 0)), none, none, none]) rfl (by decide) rfl (zdal_p dlB_Units_straighten_91 (i := 3) rfl) ?_
  have lp_4 : ∀ (n : Nat) (u1_ : Int) (hu1_a : -2147483648 ≤ u1_) (hu1_b : u1_ < 2147483648) (u2_ : Int) (hu2_a : -2147483648 ≤ u2_) (hu2_b : u2_ < 2147483648) (N3_ : zMem) (hs4_ : zFc d_ [] [] [] [30] Mz N3_) (i5_ : 0 ≤ u2_), (ze Mz (d_ + 12) 7 - u2_).toNat < n → zW l m_Units_straighten (zn Mz + 0, zw Mz + 0) N3_ 4 [some (.ref (d_ + 28)), some (.int (Int32.ofInt u1_)), some (.int (Int32.ofInt u2_)), none, none, none] [] (zqcV d_ [] [] [] [30] Mz (fun N => True)) := by
    intro n
    induction n with
    | zero =>
      intro u1_ hu1_a hu1_b u2_ hu2_a hu2_b N3_ hs4_ i5_ h0
      exact absurd h0 (Nat.not_lt_zero _)
    | succ n ih_4 =>
      intro u1_ hu1_a hu1_b u2_ hu2_a hu2_b N3_ hs4_ i5_ hlt_4
      have hf_N3_ : zFc d_ [] [] [] [30] Mz N3_ := hf.tr hs4_ (by decide) (by decide) (by decide) (by decide)
      refine zw_iload_n (pc := 4) (n := 2) (x := Int32.ofInt u2_) rfl (zdal_p dlB_Units_straighten_91 (i := 4) rfl) ?_
      refine zw_aload_n (pc := 5) (n := 0) (x := (d_ + 28)) rfl (zdal_p dlB_Units_straighten_91 (i := 5) rfl) ?_
      refine zw_getF (pc := 6) f_Units_23 rfl ((hf_N3_.w hW).kr (o := 28) (by decide)) ((hf_N3_.w hW).lr (o := 28) (s := 0) (r := 12) (by decide)) (zdal_p dlB_Units_straighten_91 (i := 6) rfl) ?_
      refine zk_getI (pc := 9) f_Units_35 rfl ((hf_N3_.w hW).kr (o := 12) (by decide)) (zdal_p dlB_Units_straighten_91 (i := 7) rfl) ?_
      rw [hf_N3_.e (by decide)]
      have hr6_ := ze_r Mz (d_ + 12) 7
      refine zr_icmp_ge (pc := 12) (tgt := 167) ⟨hu2_a, hu2_b⟩ ⟨(ze_r Mz (d_ + 12) 7).1, (ze_r Mz (d_ + 12) 7).2⟩ (by decide) (zdal_p dlB_Units_straighten_91 (i := 8) rfl) (fun hc_12 => ?_) (fun hc_12 => ?_)
      · skip
        exact zk_vret (pc := 167) rfl hf_N3_ trivial (zdal_p dlB_Units_straighten_94 (i := 10) rfl)
      · skip
        refine zw_iload_n (pc := 15) (n := 1) (x := Int32.ofInt u1_) rfl (zdal_p dlB_Units_straighten_91 (i := 9) rfl) ?_
        refine zw_istore_n (pc := 16) (i := 3) (L2 := [some (.ref (d_ + 28)), some (.int (Int32.ofInt u1_)), some (.int (Int32.ofInt u2_)), some (.int (Int32.ofInt u1_)), none, none]) rfl (by decide) rfl (zdal_p dlB_Units_straighten_91 (i := 10) rfl) ?_
        have lp_17 : ∀ (n : Nat) (u7_ : Int) (hu7_a : -2147483648 ≤ u7_) (hu7_b : u7_ < 2147483648) (i8_ : u1_ ≤ u7_), (ze Mz (d_ + 28) 3 - u7_).toNat < n → zW l m_Units_straighten (zn Mz + 0, zw Mz + 0) N3_ 17 [some (.ref (d_ + 28)), some (.int (Int32.ofInt u1_)), some (.int (Int32.ofInt u2_)), some (.int (Int32.ofInt u7_)), none, none] [] (zqcV d_ [] [] [] [30] Mz (fun N => True)) := by
          intro n
          induction n with
          | zero =>
            intro u7_ hu7_a hu7_b i8_ h0
            exact absurd h0 (Nat.not_lt_zero _)
          | succ n ih_17 =>
            intro u7_ hu7_a hu7_b i8_ hlt_17
            refine zw_iload_n (pc := 17) (n := 3) (x := Int32.ofInt u7_) rfl (zdal_p dlB_Units_straighten_91 (i := 11) rfl) ?_
            refine zw_aload_n (pc := 18) (n := 0) (x := (d_ + 28)) rfl (zdal_p dlB_Units_straighten_91 (i := 12) rfl) ?_
            refine zk_getI (pc := 19) f_Units_31 rfl ((hf_N3_.w hW).kr (o := 28) (by decide)) (zdal_p dlB_Units_straighten_91 (i := 13) rfl) ?_
            rw [hf_N3_.e (by decide)]
            have hr9_ := ze_r Mz (d_ + 28) 3
            refine zr_icmp_ge (pc := 22) (tgt := 48) ⟨hu7_a, hu7_b⟩ ⟨(ze_r Mz (d_ + 28) 3).1, (ze_r Mz (d_ + 28) 3).2⟩ (by decide) (zdal_p dlB_Units_straighten_91 (i := 14) rfl) (fun hc_22 => ?_) (fun hc_22 => ?_)
            · skip
              refine zw_iload_n (pc := 48) (n := 3) (x := Int32.ofInt u7_) rfl (zdal_p dlB_Units_straighten_92 (i := 2) rfl) ?_
              refine zw_aload_n (pc := 49) (n := 0) (x := (d_ + 28)) rfl (zdal_p dlB_Units_straighten_92 (i := 3) rfl) ?_
              refine zk_getI (pc := 50) f_Units_31 rfl ((hf_N3_.w hW).kr (o := 28) (by decide)) (zdal_p dlB_Units_straighten_92 (i := 4) rfl) ?_
              rw [hf_N3_.e (by decide)]
              refine zr_icmp_lt (pc := 53) (tgt := 59) ⟨hu7_a, hu7_b⟩ ⟨(ze_r Mz (d_ + 28) 3).1, (ze_r Mz (d_ + 28) 3).2⟩ (by decide) (zdal_p dlB_Units_straighten_92 (i := 5) rfl) (fun hc_53 => ?_) (fun hc_53 => ?_)
              · skip
                refine zw_aload_n (pc := 59) (n := 0) (x := (d_ + 28)) rfl (zdal_p dlB_Units_straighten_92 (i := 7) rfl) ?_
                refine zw_getF (pc := 60) f_Units_14 rfl ((hf_N3_.w hW).kr (o := 28) (by decide)) ((hf_N3_.w hW).lr (o := 28) (s := 1) (r := 29) (by decide)) (zdal_p dlB_Units_straighten_92 (i := 8) rfl) ?_
                refine zw_iload_n (pc := 63) (n := 3) (x := Int32.ofInt u7_) rfl (zdal_p dlB_Units_straighten_92 (i := 9) rfl) ?_
                refine zk_atG hf_N3_.x (pc := 64) l_Units_57 ((hf_N3_.w hW).kr (o := 29) (by decide)) ((hf_N3_.w hW).lr (o := 29) (s := 0) (r := 30) (by decide)) ((hf_N3_.w hW).rr (o := 30) (t := 1) (n := 27) (by decide)) (by decide) ⟨by omega, by omega⟩ (by decide) (Nat.le_of_ble_eq_true rfl) (zdal_p dlB_Units_straighten_92 (i := 10) rfl) (fun v10_ hv10_ hv10_a hv10_b => ?_)
                clear hv10_
                refine zw_istore (pc := 67) (i := 4) (L2 := [some (.ref (d_ + 28)), some (.int (Int32.ofInt u1_)), some (.int (Int32.ofInt u2_)), some (.int (Int32.ofInt u7_)), some (.int (Int32.ofInt v10_)), none]) (by decide) rfl (zdal_p dlB_Units_straighten_92 (i := 11) rfl) ?_
                refine zw_aload_n (pc := 69) (n := 0) (x := (d_ + 28)) rfl (zdal_p dlB_Units_straighten_92 (i := 12) rfl) ?_
                refine zw_getF (pc := 70) f_Units_14 rfl ((hf_N3_.w hW).kr (o := 28) (by decide)) ((hf_N3_.w hW).lr (o := 28) (s := 1) (r := 29) (by decide)) (zdal_p dlB_Units_straighten_92 (i := 13) rfl) ?_
                refine zw_iload_n (pc := 73) (n := 3) (x := Int32.ofInt u7_) rfl (zdal_p dlB_Units_straighten_92 (i := 14) rfl) ?_
                refine zw_aload_n (pc := 74) (n := 0) (x := (d_ + 28)) rfl (zdal_p dlB_Units_straighten_92 (i := 15) rfl) ?_
                refine zw_getF (pc := 75) f_Units_14 rfl ((hf_N3_.w hW).kr (o := 28) (by decide)) ((hf_N3_.w hW).lr (o := 28) (s := 1) (r := 29) (by decide)) (zdal_p dlB_Units_straighten_92 (i := 16) rfl) ?_
                refine zw_iload_n (pc := 78) (n := 1) (x := Int32.ofInt u1_) rfl (zdal_p dlB_Units_straighten_92 (i := 17) rfl) ?_
                refine zk_atG hf_N3_.x (pc := 79) l_Units_57 ((hf_N3_.w hW).kr (o := 29) (by decide)) ((hf_N3_.w hW).lr (o := 29) (s := 0) (r := 30) (by decide)) ((hf_N3_.w hW).rr (o := 30) (t := 1) (n := 27) (by decide)) (by decide) ⟨by omega, by omega⟩ (by decide) (Nat.le_of_ble_eq_true rfl) (zdal_p dlB_Units_straighten_92 (i := 18) rfl) (fun v11_ hv11_ hv11_a hv11_b => ?_)
                clear hv11_
                refine zk_stG hf_N3_.x (pc := 82) (o := 30) (by decide) l_Units_40 ((hf_N3_.w hW).kr (o := 29) (by decide)) ((hf_N3_.w hW).lr (o := 29) (s := 0) (r := 30) (by decide)) ((hf_N3_.w hW).rr (o := 30) (t := 1) (n := 27) (by decide)) (by decide) ⟨by omega, by omega⟩ (by decide) (Nat.le_of_ble_eq_true rfl) (zdal_p dlB_Units_straighten_92 (i := 19) rfl) (fun N12_ hsN12_ => ?_)
                have hf_N12_ : zFc d_ [] [] [] [30] Mz N12_ := hf_N3_.tr hsN12_ (by decide) (by decide) (by decide) (by decide)
                have hb0_N12_ : zFc d_ [] [] [] [30] Mz N12_ := hs4_.tr hsN12_ (by decide) (by decide) (by decide) (by decide)
                refine zw_aload_n (pc := 85) (n := 0) (x := (d_ + 28)) rfl (zdal_p dlB_Units_straighten_92 (i := 20) rfl) ?_
                refine zw_getF (pc := 86) f_Units_14 rfl ((hf_N12_.w hW).kr (o := 28) (by decide)) ((hf_N12_.w hW).lr (o := 28) (s := 1) (r := 29) (by decide)) (zdal_p dlB_Units_straighten_92 (i := 21) rfl) ?_
                refine zw_iload_n (pc := 89) (n := 1) (x := Int32.ofInt u1_) rfl (zdal_p dlB_Units_straighten_92 (i := 22) rfl) ?_
                refine zw_iload (pc := 90) (i := 4) (x := Int32.ofInt v10_) rfl (zdal_p dlB_Units_straighten_92 (i := 23) rfl) ?_
                refine zk_stG hf_N12_.x (pc := 92) (o := 30) (by decide) l_Units_40 ((hf_N12_.w hW).kr (o := 29) (by decide)) ((hf_N12_.w hW).lr (o := 29) (s := 0) (r := 30) (by decide)) ((hf_N12_.w hW).rr (o := 30) (t := 1) (n := 27) (by decide)) (by decide) ⟨by omega, by omega⟩ (by decide) (Nat.le_of_ble_eq_true rfl) (zdal_p dlB_Units_straighten_93 (i := 0) rfl) (fun N13_ hsN13_ => ?_)
                have hf_N13_ : zFc d_ [] [] [] [30] Mz N13_ := hf_N12_.tr hsN13_ (by decide) (by decide) (by decide) (by decide)
                have hb0_N13_ : zFc d_ [] [] [] [30] Mz N13_ := hb0_N12_.tr hsN13_ (by decide) (by decide) (by decide) (by decide)
                refine zw_iconst (pc := 95) (v := Int32.ofInt 0) (by decide) (zdal_p dlB_Units_straighten_93 (i := 1) rfl) ?_
                refine zw_istore (pc := 96) (i := 5) (L2 := [some (.ref (d_ + 28)), some (.int (Int32.ofInt u1_)), some (.int (Int32.ofInt u2_)), some (.int (Int32.ofInt u7_)), some (.int (Int32.ofInt v10_)), some (.int (Int32.ofInt 0))]) (by decide) rfl (zdal_p dlB_Units_straighten_93 (i := 2) rfl) ?_
                have lp_98 : ∀ (n : Nat) (u14_ : Int) (hu14_a : -2147483648 ≤ u14_) (hu14_b : u14_ < 2147483648) (N15_ : zMem) (hs16_ : zFc d_ [] [] [] [30] N13_ N15_) (i17_ : 0 ≤ u14_), (ze Mz (d_ + 28) 3 - u14_).toNat < n → zW l m_Units_straighten (zn Mz + 0, zw Mz + 0) N15_ 98 [some (.ref (d_ + 28)), some (.int (Int32.ofInt u1_)), some (.int (Int32.ofInt u2_)), some (.int (Int32.ofInt u7_)), some (.int (Int32.ofInt v10_)), some (.int (Int32.ofInt u14_))] [] (zqcV d_ [] [] [] [30] Mz (fun N => True)) := by
                  intro n
                  induction n with
                  | zero =>
                    intro u14_ hu14_a hu14_b N15_ hs16_ i17_ h0
                    exact absurd h0 (Nat.not_lt_zero _)
                  | succ n ih_98 =>
                    intro u14_ hu14_a hu14_b N15_ hs16_ i17_ hlt_98
                    have hf_N15_ : zFc d_ [] [] [] [30] Mz N15_ := hf_N13_.tr hs16_ (by decide) (by decide) (by decide) (by decide)
                    have hb0_N15_ : zFc d_ [] [] [] [30] Mz N15_ := hb0_N13_.tr hs16_ (by decide) (by decide) (by decide) (by decide)
                    refine zw_iload (pc := 98) (i := 5) (x := Int32.ofInt u14_) rfl (zdal_p dlB_Units_straighten_93 (i := 3) rfl) ?_
                    refine zw_aload_n (pc := 100) (n := 0) (x := (d_ + 28)) rfl (zdal_p dlB_Units_straighten_93 (i := 4) rfl) ?_
                    refine zk_getI (pc := 101) f_Units_31 rfl ((hf_N15_.w hW).kr (o := 28) (by decide)) (zdal_p dlB_Units_straighten_93 (i := 5) rfl) ?_
                    rw [hf_N15_.e (by decide)]
                    refine zr_icmp_ge (pc := 104) (tgt := 158) ⟨hu14_a, hu14_b⟩ ⟨(ze_r Mz (d_ + 28) 3).1, (ze_r Mz (d_ + 28) 3).2⟩ (by decide) (zdal_p dlB_Units_straighten_93 (i := 6) rfl) (fun hc_104 => ?_) (fun hc_104 => ?_)
                    · skip
                      refine zr_iinc (pc := 158) (i := 1) (a := u1_) (n := 1) (L2 := [some (.ref (d_ + 28)), some (.int (Int32.ofInt (u1_ + 1))), some (.int (Int32.ofInt u2_)), some (.int (Int32.ofInt u7_)), some (.int (Int32.ofInt v10_)), some (.int (Int32.ofInt u14_))]) rfl (by decide) rfl (zdal_p dlB_Units_straighten_94 (i := 7) rfl) ?_
                      obtain ⟨v18_, hv18_a, hv18_b, hv18_e, hv18_d⟩ := zk_gen (u1_ + 1)
                      rw [hv18_e]
                      refine zr_iinc (pc := 161) (i := 2) (a := u2_) (n := 1) (L2 := [some (.ref (d_ + 28)), some (.int (Int32.ofInt v18_)), some (.int (Int32.ofInt (u2_ + 1))), some (.int (Int32.ofInt u7_)), some (.int (Int32.ofInt v10_)), some (.int (Int32.ofInt u14_))]) rfl (by decide) rfl (zdal_p dlB_Units_straighten_94 (i := 8) rfl) ?_
                      obtain ⟨v19_, hv19_a, hv19_b, hv19_e, hv19_d⟩ := zk_gen (u2_ + 1)
                      rw [hv19_e]
                      refine zw_goto (pc := 164) (tgt := 4) (by decide) (zdal_p dlB_Units_straighten_94 (i := 9) rfl) ?_
                      refine zW_le [some (.ref (d_ + 28)), some (.int (Int32.ofInt v18_)), some (.int (Int32.ofInt v19_)), none, none, none] (⟨rfl, rfl, rfl, trivial⟩) ?_
                      exact ih_4 v18_ hv18_a hv18_b v19_ hv19_a hv19_b N15_ hb0_N15_ (show 0 ≤ v19_ by first | with_reducible assumption | assumption | omega) (by omega)
                    · skip
                      refine zw_iload (pc := 107) (i := 5) (x := Int32.ofInt u14_) rfl (zdal_p dlB_Units_straighten_93 (i := 7) rfl) ?_
                      refine zw_iload_n (pc := 109) (n := 1) (x := Int32.ofInt u1_) rfl (zdal_p dlB_Units_straighten_93 (i := 8) rfl) ?_
                      refine zr_icmp_eq (pc := 110) (tgt := 152) ⟨hu14_a, hu14_b⟩ ⟨hu1_a, hu1_b⟩ (by decide) (zdal_p dlB_Units_straighten_93 (i := 9) rfl) (fun hc_110 => ?_) (fun hc_110 => ?_)
                      · skip
                        refine zr_iinc (pc := 152) (i := 5) (a := u14_) (n := 1) (L2 := [some (.ref (d_ + 28)), some (.int (Int32.ofInt u1_)), some (.int (Int32.ofInt u2_)), some (.int (Int32.ofInt u7_)), some (.int (Int32.ofInt v10_)), some (.int (Int32.ofInt (u14_ + 1)))]) rfl (by decide) rfl d_Units_straighten_152 ?_
                        obtain ⟨v20_, hv20_a, hv20_b, hv20_e, hv20_d⟩ := zk_gen (u14_ + 1)
                        rw [hv20_e]
                        refine zw_goto (pc := 155) (tgt := 98) (by decide) d_Units_straighten_155 ?_
                        exact ih_98 v20_ hv20_a hv20_b N15_ hs16_ (show 0 ≤ v20_ by first | with_reducible assumption | assumption | omega) (by omega)
                      · skip
                        refine zw_aload_n (pc := 113) (n := 0) (x := (d_ + 28)) rfl (zdal_p dlB_Units_straighten_93 (i := 10) rfl) ?_
                        refine zw_getF (pc := 114) f_Units_14 rfl ((hf_N15_.w hW).kr (o := 28) (by decide)) ((hf_N15_.w hW).lr (o := 28) (s := 1) (r := 29) (by decide)) (zdal_p dlB_Units_straighten_93 (i := 11) rfl) ?_
                        refine zw_iload (pc := 117) (i := 5) (x := Int32.ofInt u14_) rfl (zdal_p dlB_Units_straighten_93 (i := 12) rfl) ?_
                        refine zk_atG hf_N15_.x (pc := 119) l_Units_57 ((hf_N15_.w hW).kr (o := 29) (by decide)) ((hf_N15_.w hW).lr (o := 29) (s := 0) (r := 30) (by decide)) ((hf_N15_.w hW).rr (o := 30) (t := 1) (n := 27) (by decide)) (by decide) ⟨by omega, by omega⟩ (by decide) (Nat.le_of_ble_eq_true rfl) (zdal_p dlB_Units_straighten_93 (i := 13) rfl) (fun v21_ hv21_ hv21_a hv21_b => ?_)
                        clear hv21_
                        refine zw_aload_n (pc := 122) (n := 0) (x := (d_ + 28)) rfl (zdal_p dlB_Units_straighten_93 (i := 14) rfl) ?_
                        refine zw_iload_n (pc := 123) (n := 2) (x := Int32.ofInt u2_) rfl (zdal_p dlB_Units_straighten_93 (i := 15) rfl) ?_
                        refine zk_callV hf_N15_.x (pc := 124) [.int (Int32.ofInt u2_)] [.int (Int32.ofInt v21_)] l_Units_80 (u_Units_bitOfX l d_ N15_ (hf_N15_.w hW) u2_ hu2_a hu2_b) rfl rfl ((hf_N15_.w hW).kr (o := 28) (by decide)) (by decide) (by decide) (Nat.le_of_ble_eq_true rfl) (zdal_p dlB_Units_straighten_93 (i := 16) rfl) ?_
                        rintro _ N22_ ⟨v23_, rfl, ⟨hv23_a, hv23_b⟩, hsN22_, -⟩
                        obtain rfl := hsN22_.eq.symm
                        show zW l m_Units_straighten (zn Mz + 0, zw Mz + 0) N15_ 127 [some (.ref (d_ + 28)), some (.int (Int32.ofInt u1_)), some (.int (Int32.ofInt u2_)), some (.int (Int32.ofInt u7_)), some (.int (Int32.ofInt v10_)), some (.int (Int32.ofInt u14_))] [.int (Int32.ofInt v23_), .int (Int32.ofInt v21_)] _
                        refine zr_iand (pc := 127) (zdal_p dlB_Units_straighten_93 (i := 17) rfl) ?_
                        have hr24_ := zand_r v21_ v23_
                        refine zr_nmI (fun v25_ hv25_ => ?_)
                        obtain ⟨hv25_a, hv25_b⟩ := hv25_
                        refine zr_if_eq (pc := 128) (tgt := 152) ⟨hv25_a, hv25_b⟩ (by decide) (zdal_p dlB_Units_straighten_93 (i := 18) rfl) (fun hc_128 => ?_) (fun hc_128 => ?_)
                        · skip
                          refine zr_iinc (pc := 152) (i := 5) (a := u14_) (n := 1) (L2 := [some (.ref (d_ + 28)), some (.int (Int32.ofInt u1_)), some (.int (Int32.ofInt u2_)), some (.int (Int32.ofInt u7_)), some (.int (Int32.ofInt v10_)), some (.int (Int32.ofInt (u14_ + 1)))]) rfl (by decide) rfl d_Units_straighten_152 ?_
                          obtain ⟨v26_, hv26_a, hv26_b, hv26_e, hv26_d⟩ := zk_gen (u14_ + 1)
                          rw [hv26_e]
                          refine zw_goto (pc := 155) (tgt := 98) (by decide) d_Units_straighten_155 ?_
                          exact ih_98 v26_ hv26_a hv26_b N15_ hs16_ (show 0 ≤ v26_ by first | with_reducible assumption | assumption | omega) (by omega)
                        · skip
                          refine zw_aload_n (pc := 131) (n := 0) (x := (d_ + 28)) rfl (zdal_p dlB_Units_straighten_93 (i := 19) rfl) ?_
                          refine zw_getF (pc := 132) f_Units_14 rfl ((hf_N15_.w hW).kr (o := 28) (by decide)) ((hf_N15_.w hW).lr (o := 28) (s := 1) (r := 29) (by decide)) (zdal_p dlB_Units_straighten_93 (i := 20) rfl) ?_
                          refine zw_iload (pc := 135) (i := 5) (x := Int32.ofInt u14_) rfl (zdal_p dlB_Units_straighten_93 (i := 21) rfl) ?_
                          refine zw_aload_n (pc := 137) (n := 0) (x := (d_ + 28)) rfl (zdal_p dlB_Units_straighten_93 (i := 22) rfl) ?_
                          refine zw_getF (pc := 138) f_Units_14 rfl ((hf_N15_.w hW).kr (o := 28) (by decide)) ((hf_N15_.w hW).lr (o := 28) (s := 1) (r := 29) (by decide)) (zdal_p dlB_Units_straighten_93 (i := 23) rfl) ?_
                          refine zw_iload (pc := 141) (i := 5) (x := Int32.ofInt u14_) rfl (zdal_p dlB_Units_straighten_94 (i := 0) rfl) ?_
                          refine zk_atG hf_N15_.x (pc := 143) l_Units_57 ((hf_N15_.w hW).kr (o := 29) (by decide)) ((hf_N15_.w hW).lr (o := 29) (s := 0) (r := 30) (by decide)) ((hf_N15_.w hW).rr (o := 30) (t := 1) (n := 27) (by decide)) (by decide) ⟨by omega, by omega⟩ (by decide) (Nat.le_of_ble_eq_true rfl) (zdal_p dlB_Units_straighten_94 (i := 1) rfl) (fun v27_ hv27_ hv27_a hv27_b => ?_)
                          clear hv27_
                          refine zw_iload (pc := 146) (i := 4) (x := Int32.ofInt v10_) rfl (zdal_p dlB_Units_straighten_94 (i := 2) rfl) ?_
                          refine zr_ixor (pc := 148) (zdal_p dlB_Units_straighten_94 (i := 3) rfl) ?_
                          have hr28_ := zxor_r v27_ v10_
                          refine zr_nmI (fun v29_ hv29_ => ?_)
                          obtain ⟨hv29_a, hv29_b⟩ := hv29_
                          refine zk_stG hf_N15_.x (pc := 149) (o := 30) (by decide) l_Units_40 ((hf_N15_.w hW).kr (o := 29) (by decide)) ((hf_N15_.w hW).lr (o := 29) (s := 0) (r := 30) (by decide)) ((hf_N15_.w hW).rr (o := 30) (t := 1) (n := 27) (by decide)) (by decide) ⟨by omega, by omega⟩ (by decide) (Nat.le_of_ble_eq_true rfl) (zdal_p dlB_Units_straighten_94 (i := 4) rfl) (fun N30_ hsN30_ => ?_)
                          have hf_N30_ : zFc d_ [] [] [] [30] Mz N30_ := hf_N15_.tr hsN30_ (by decide) (by decide) (by decide) (by decide)
                          have hb0_N30_ : zFc d_ [] [] [] [30] Mz N30_ := hb0_N15_.tr hsN30_ (by decide) (by decide) (by decide) (by decide)
                          have hb1_N30_ : zFc d_ [] [] [] [30] N13_ N30_ := hs16_.tr hsN30_ (by decide) (by decide) (by decide) (by decide)
                          refine zr_iinc (pc := 152) (i := 5) (a := u14_) (n := 1) (L2 := [some (.ref (d_ + 28)), some (.int (Int32.ofInt u1_)), some (.int (Int32.ofInt u2_)), some (.int (Int32.ofInt u7_)), some (.int (Int32.ofInt v10_)), some (.int (Int32.ofInt (u14_ + 1)))]) rfl (by decide) rfl d_Units_straighten_152 ?_
                          obtain ⟨v31_, hv31_a, hv31_b, hv31_e, hv31_d⟩ := zk_gen (u14_ + 1)
                          rw [hv31_e]
                          refine zw_goto (pc := 155) (tgt := 98) (by decide) d_Units_straighten_155 ?_
                          exact ih_98 v31_ hv31_a hv31_b N30_ hb1_N30_ (show 0 ≤ v31_ by first | with_reducible assumption | assumption | omega) (by omega)
                exact lp_98 _ 0 (by decide) (by decide) N13_ zFc.rf (show 0 ≤ (0 : Int) by first | with_reducible assumption | assumption | omega) (Nat.lt_succ_self _)
              · skip
                refine zw_goto (pc := 56) (tgt := 161) (by decide) (zdal_p dlB_Units_straighten_92 (i := 6) rfl) ?_
                refine zr_iinc (pc := 161) (i := 2) (a := u2_) (n := 1) (L2 := [some (.ref (d_ + 28)), some (.int (Int32.ofInt u1_)), some (.int (Int32.ofInt (u2_ + 1))), some (.int (Int32.ofInt u7_)), none, none]) rfl (by decide) rfl (zdal_p dlB_Units_straighten_94 (i := 8) rfl) ?_
                obtain ⟨v32_, hv32_a, hv32_b, hv32_e, hv32_d⟩ := zk_gen (u2_ + 1)
                rw [hv32_e]
                refine zw_goto (pc := 164) (tgt := 4) (by decide) (zdal_p dlB_Units_straighten_94 (i := 9) rfl) ?_
                refine zW_le [some (.ref (d_ + 28)), some (.int (Int32.ofInt u1_)), some (.int (Int32.ofInt v32_)), none, none, none] (⟨rfl, rfl, rfl, trivial⟩) ?_
                exact ih_4 u1_ hu1_a hu1_b v32_ hv32_a hv32_b N3_ hs4_ (show 0 ≤ v32_ by first | with_reducible assumption | assumption | omega) (by omega)
            · skip
              refine zw_aload_n (pc := 25) (n := 0) (x := (d_ + 28)) rfl (zdal_p dlB_Units_straighten_91 (i := 15) rfl) ?_
              refine zw_getF (pc := 26) f_Units_14 rfl ((hf_N3_.w hW).kr (o := 28) (by decide)) ((hf_N3_.w hW).lr (o := 28) (s := 1) (r := 29) (by decide)) (zdal_p dlB_Units_straighten_91 (i := 16) rfl) ?_
              refine zw_iload_n (pc := 29) (n := 3) (x := Int32.ofInt u7_) rfl (zdal_p dlB_Units_straighten_91 (i := 17) rfl) ?_
              refine zk_atG hf_N3_.x (pc := 30) l_Units_57 ((hf_N3_.w hW).kr (o := 29) (by decide)) ((hf_N3_.w hW).lr (o := 29) (s := 0) (r := 30) (by decide)) ((hf_N3_.w hW).rr (o := 30) (t := 1) (n := 27) (by decide)) (by decide) ⟨by omega, by omega⟩ (by decide) (Nat.le_of_ble_eq_true rfl) (zdal_p dlB_Units_straighten_91 (i := 18) rfl) (fun v33_ hv33_ hv33_a hv33_b => ?_)
              clear hv33_
              refine zw_aload_n (pc := 33) (n := 0) (x := (d_ + 28)) rfl (zdal_p dlB_Units_straighten_91 (i := 19) rfl) ?_
              refine zw_iload_n (pc := 34) (n := 2) (x := Int32.ofInt u2_) rfl (zdal_p dlB_Units_straighten_91 (i := 20) rfl) ?_
              refine zk_callV hf_N3_.x (pc := 35) [.int (Int32.ofInt u2_)] [.int (Int32.ofInt v33_)] l_Units_80 (u_Units_bitOfX l d_ N3_ (hf_N3_.w hW) u2_ hu2_a hu2_b) rfl rfl ((hf_N3_.w hW).kr (o := 28) (by decide)) (by decide) (by decide) (Nat.le_of_ble_eq_true rfl) (zdal_p dlB_Units_straighten_91 (i := 21) rfl) ?_
              rintro _ N34_ ⟨v35_, rfl, ⟨hv35_a, hv35_b⟩, hsN34_, -⟩
              obtain rfl := hsN34_.eq.symm
              show zW l m_Units_straighten (zn Mz + 0, zw Mz + 0) N3_ 38 [some (.ref (d_ + 28)), some (.int (Int32.ofInt u1_)), some (.int (Int32.ofInt u2_)), some (.int (Int32.ofInt u7_)), none, none] [.int (Int32.ofInt v35_), .int (Int32.ofInt v33_)] _
              refine zr_iand (pc := 38) (zdal_p dlB_Units_straighten_91 (i := 22) rfl) ?_
              have hr36_ := zand_r v33_ v35_
              refine zr_nmI (fun v37_ hv37_ => ?_)
              obtain ⟨hv37_a, hv37_b⟩ := hv37_
              refine zr_if_ne (pc := 39) (tgt := 48) ⟨hv37_a, hv37_b⟩ (by decide) (zdal_p dlB_Units_straighten_91 (i := 23) rfl) (fun hc_39 => ?_) (fun hc_39 => ?_)
              · skip
                refine zw_iload_n (pc := 48) (n := 3) (x := Int32.ofInt u7_) rfl (zdal_p dlB_Units_straighten_92 (i := 2) rfl) ?_
                refine zw_aload_n (pc := 49) (n := 0) (x := (d_ + 28)) rfl (zdal_p dlB_Units_straighten_92 (i := 3) rfl) ?_
                refine zk_getI (pc := 50) f_Units_31 rfl ((hf_N3_.w hW).kr (o := 28) (by decide)) (zdal_p dlB_Units_straighten_92 (i := 4) rfl) ?_
                rw [hf_N3_.e (by decide)]
                refine zr_icmp_lt (pc := 53) (tgt := 59) ⟨hu7_a, hu7_b⟩ ⟨(ze_r Mz (d_ + 28) 3).1, (ze_r Mz (d_ + 28) 3).2⟩ (by decide) (zdal_p dlB_Units_straighten_92 (i := 5) rfl) (fun hc_53 => ?_) (fun hc_53 => ?_)
                · skip
                  refine zw_aload_n (pc := 59) (n := 0) (x := (d_ + 28)) rfl (zdal_p dlB_Units_straighten_92 (i := 7) rfl) ?_
                  refine zw_getF (pc := 60) f_Units_14 rfl ((hf_N3_.w hW).kr (o := 28) (by decide)) ((hf_N3_.w hW).lr (o := 28) (s := 1) (r := 29) (by decide)) (zdal_p dlB_Units_straighten_92 (i := 8) rfl) ?_
                  refine zw_iload_n (pc := 63) (n := 3) (x := Int32.ofInt u7_) rfl (zdal_p dlB_Units_straighten_92 (i := 9) rfl) ?_
                  refine zk_atG hf_N3_.x (pc := 64) l_Units_57 ((hf_N3_.w hW).kr (o := 29) (by decide)) ((hf_N3_.w hW).lr (o := 29) (s := 0) (r := 30) (by decide)) ((hf_N3_.w hW).rr (o := 30) (t := 1) (n := 27) (by decide)) (by decide) ⟨by omega, by omega⟩ (by decide) (Nat.le_of_ble_eq_true rfl) (zdal_p dlB_Units_straighten_92 (i := 10) rfl) (fun v38_ hv38_ hv38_a hv38_b => ?_)
                  clear hv38_
                  refine zw_istore (pc := 67) (i := 4) (L2 := [some (.ref (d_ + 28)), some (.int (Int32.ofInt u1_)), some (.int (Int32.ofInt u2_)), some (.int (Int32.ofInt u7_)), some (.int (Int32.ofInt v38_)), none]) (by decide) rfl (zdal_p dlB_Units_straighten_92 (i := 11) rfl) ?_
                  refine zw_aload_n (pc := 69) (n := 0) (x := (d_ + 28)) rfl (zdal_p dlB_Units_straighten_92 (i := 12) rfl) ?_
                  refine zw_getF (pc := 70) f_Units_14 rfl ((hf_N3_.w hW).kr (o := 28) (by decide)) ((hf_N3_.w hW).lr (o := 28) (s := 1) (r := 29) (by decide)) (zdal_p dlB_Units_straighten_92 (i := 13) rfl) ?_
                  refine zw_iload_n (pc := 73) (n := 3) (x := Int32.ofInt u7_) rfl (zdal_p dlB_Units_straighten_92 (i := 14) rfl) ?_
                  refine zw_aload_n (pc := 74) (n := 0) (x := (d_ + 28)) rfl (zdal_p dlB_Units_straighten_92 (i := 15) rfl) ?_
                  refine zw_getF (pc := 75) f_Units_14 rfl ((hf_N3_.w hW).kr (o := 28) (by decide)) ((hf_N3_.w hW).lr (o := 28) (s := 1) (r := 29) (by decide)) (zdal_p dlB_Units_straighten_92 (i := 16) rfl) ?_
                  refine zw_iload_n (pc := 78) (n := 1) (x := Int32.ofInt u1_) rfl (zdal_p dlB_Units_straighten_92 (i := 17) rfl) ?_
                  refine zk_atG hf_N3_.x (pc := 79) l_Units_57 ((hf_N3_.w hW).kr (o := 29) (by decide)) ((hf_N3_.w hW).lr (o := 29) (s := 0) (r := 30) (by decide)) ((hf_N3_.w hW).rr (o := 30) (t := 1) (n := 27) (by decide)) (by decide) ⟨by omega, by omega⟩ (by decide) (Nat.le_of_ble_eq_true rfl) (zdal_p dlB_Units_straighten_92 (i := 18) rfl) (fun v39_ hv39_ hv39_a hv39_b => ?_)
                  clear hv39_
                  refine zk_stG hf_N3_.x (pc := 82) (o := 30) (by decide) l_Units_40 ((hf_N3_.w hW).kr (o := 29) (by decide)) ((hf_N3_.w hW).lr (o := 29) (s := 0) (r := 30) (by decide)) ((hf_N3_.w hW).rr (o := 30) (t := 1) (n := 27) (by decide)) (by decide) ⟨by omega, by omega⟩ (by decide) (Nat.le_of_ble_eq_true rfl) (zdal_p dlB_Units_straighten_92 (i := 19) rfl) (fun N40_ hsN40_ => ?_)
                  have hf_N40_ : zFc d_ [] [] [] [30] Mz N40_ := hf_N3_.tr hsN40_ (by decide) (by decide) (by decide) (by decide)
                  have hb0_N40_ : zFc d_ [] [] [] [30] Mz N40_ := hs4_.tr hsN40_ (by decide) (by decide) (by decide) (by decide)
                  refine zw_aload_n (pc := 85) (n := 0) (x := (d_ + 28)) rfl (zdal_p dlB_Units_straighten_92 (i := 20) rfl) ?_
                  refine zw_getF (pc := 86) f_Units_14 rfl ((hf_N40_.w hW).kr (o := 28) (by decide)) ((hf_N40_.w hW).lr (o := 28) (s := 1) (r := 29) (by decide)) (zdal_p dlB_Units_straighten_92 (i := 21) rfl) ?_
                  refine zw_iload_n (pc := 89) (n := 1) (x := Int32.ofInt u1_) rfl (zdal_p dlB_Units_straighten_92 (i := 22) rfl) ?_
                  refine zw_iload (pc := 90) (i := 4) (x := Int32.ofInt v38_) rfl (zdal_p dlB_Units_straighten_92 (i := 23) rfl) ?_
                  refine zk_stG hf_N40_.x (pc := 92) (o := 30) (by decide) l_Units_40 ((hf_N40_.w hW).kr (o := 29) (by decide)) ((hf_N40_.w hW).lr (o := 29) (s := 0) (r := 30) (by decide)) ((hf_N40_.w hW).rr (o := 30) (t := 1) (n := 27) (by decide)) (by decide) ⟨by omega, by omega⟩ (by decide) (Nat.le_of_ble_eq_true rfl) (zdal_p dlB_Units_straighten_93 (i := 0) rfl) (fun N41_ hsN41_ => ?_)
                  have hf_N41_ : zFc d_ [] [] [] [30] Mz N41_ := hf_N40_.tr hsN41_ (by decide) (by decide) (by decide) (by decide)
                  have hb0_N41_ : zFc d_ [] [] [] [30] Mz N41_ := hb0_N40_.tr hsN41_ (by decide) (by decide) (by decide) (by decide)
                  refine zw_iconst (pc := 95) (v := Int32.ofInt 0) (by decide) (zdal_p dlB_Units_straighten_93 (i := 1) rfl) ?_
                  refine zw_istore (pc := 96) (i := 5) (L2 := [some (.ref (d_ + 28)), some (.int (Int32.ofInt u1_)), some (.int (Int32.ofInt u2_)), some (.int (Int32.ofInt u7_)), some (.int (Int32.ofInt v38_)), some (.int (Int32.ofInt 0))]) (by decide) rfl (zdal_p dlB_Units_straighten_93 (i := 2) rfl) ?_
                  have lp_98 : ∀ (n : Nat) (u42_ : Int) (hu42_a : -2147483648 ≤ u42_) (hu42_b : u42_ < 2147483648) (N43_ : zMem) (hs44_ : zFc d_ [] [] [] [30] N41_ N43_) (i45_ : 0 ≤ u42_), (ze Mz (d_ + 28) 3 - u42_).toNat < n → zW l m_Units_straighten (zn Mz + 0, zw Mz + 0) N43_ 98 [some (.ref (d_ + 28)), some (.int (Int32.ofInt u1_)), some (.int (Int32.ofInt u2_)), some (.int (Int32.ofInt u7_)), some (.int (Int32.ofInt v38_)), some (.int (Int32.ofInt u42_))] [] (zqcV d_ [] [] [] [30] Mz (fun N => True)) := by
                    intro n
                    induction n with
                    | zero =>
                      intro u42_ hu42_a hu42_b N43_ hs44_ i45_ h0
                      exact absurd h0 (Nat.not_lt_zero _)
                    | succ n ih_98 =>
                      intro u42_ hu42_a hu42_b N43_ hs44_ i45_ hlt_98
                      have hf_N43_ : zFc d_ [] [] [] [30] Mz N43_ := hf_N41_.tr hs44_ (by decide) (by decide) (by decide) (by decide)
                      have hb0_N43_ : zFc d_ [] [] [] [30] Mz N43_ := hb0_N41_.tr hs44_ (by decide) (by decide) (by decide) (by decide)
                      refine zw_iload (pc := 98) (i := 5) (x := Int32.ofInt u42_) rfl (zdal_p dlB_Units_straighten_93 (i := 3) rfl) ?_
                      refine zw_aload_n (pc := 100) (n := 0) (x := (d_ + 28)) rfl (zdal_p dlB_Units_straighten_93 (i := 4) rfl) ?_
                      refine zk_getI (pc := 101) f_Units_31 rfl ((hf_N43_.w hW).kr (o := 28) (by decide)) (zdal_p dlB_Units_straighten_93 (i := 5) rfl) ?_
                      rw [hf_N43_.e (by decide)]
                      refine zr_icmp_ge (pc := 104) (tgt := 158) ⟨hu42_a, hu42_b⟩ ⟨(ze_r Mz (d_ + 28) 3).1, (ze_r Mz (d_ + 28) 3).2⟩ (by decide) (zdal_p dlB_Units_straighten_93 (i := 6) rfl) (fun hc_104 => ?_) (fun hc_104 => ?_)
                      · skip
                        refine zr_iinc (pc := 158) (i := 1) (a := u1_) (n := 1) (L2 := [some (.ref (d_ + 28)), some (.int (Int32.ofInt (u1_ + 1))), some (.int (Int32.ofInt u2_)), some (.int (Int32.ofInt u7_)), some (.int (Int32.ofInt v38_)), some (.int (Int32.ofInt u42_))]) rfl (by decide) rfl (zdal_p dlB_Units_straighten_94 (i := 7) rfl) ?_
                        obtain ⟨v46_, hv46_a, hv46_b, hv46_e, hv46_d⟩ := zk_gen (u1_ + 1)
                        rw [hv46_e]
                        refine zr_iinc (pc := 161) (i := 2) (a := u2_) (n := 1) (L2 := [some (.ref (d_ + 28)), some (.int (Int32.ofInt v46_)), some (.int (Int32.ofInt (u2_ + 1))), some (.int (Int32.ofInt u7_)), some (.int (Int32.ofInt v38_)), some (.int (Int32.ofInt u42_))]) rfl (by decide) rfl (zdal_p dlB_Units_straighten_94 (i := 8) rfl) ?_
                        obtain ⟨v47_, hv47_a, hv47_b, hv47_e, hv47_d⟩ := zk_gen (u2_ + 1)
                        rw [hv47_e]
                        refine zw_goto (pc := 164) (tgt := 4) (by decide) (zdal_p dlB_Units_straighten_94 (i := 9) rfl) ?_
                        refine zW_le [some (.ref (d_ + 28)), some (.int (Int32.ofInt v46_)), some (.int (Int32.ofInt v47_)), none, none, none] (⟨rfl, rfl, rfl, trivial⟩) ?_
                        exact ih_4 v46_ hv46_a hv46_b v47_ hv47_a hv47_b N43_ hb0_N43_ (show 0 ≤ v47_ by first | with_reducible assumption | assumption | omega) (by omega)
                      · skip
                        refine zw_iload (pc := 107) (i := 5) (x := Int32.ofInt u42_) rfl (zdal_p dlB_Units_straighten_93 (i := 7) rfl) ?_
                        refine zw_iload_n (pc := 109) (n := 1) (x := Int32.ofInt u1_) rfl (zdal_p dlB_Units_straighten_93 (i := 8) rfl) ?_
                        refine zr_icmp_eq (pc := 110) (tgt := 152) ⟨hu42_a, hu42_b⟩ ⟨hu1_a, hu1_b⟩ (by decide) (zdal_p dlB_Units_straighten_93 (i := 9) rfl) (fun hc_110 => ?_) (fun hc_110 => ?_)
                        · skip
                          refine zr_iinc (pc := 152) (i := 5) (a := u42_) (n := 1) (L2 := [some (.ref (d_ + 28)), some (.int (Int32.ofInt u1_)), some (.int (Int32.ofInt u2_)), some (.int (Int32.ofInt u7_)), some (.int (Int32.ofInt v38_)), some (.int (Int32.ofInt (u42_ + 1)))]) rfl (by decide) rfl d_Units_straighten_152 ?_
                          obtain ⟨v48_, hv48_a, hv48_b, hv48_e, hv48_d⟩ := zk_gen (u42_ + 1)
                          rw [hv48_e]
                          refine zw_goto (pc := 155) (tgt := 98) (by decide) d_Units_straighten_155 ?_
                          exact ih_98 v48_ hv48_a hv48_b N43_ hs44_ (show 0 ≤ v48_ by first | with_reducible assumption | assumption | omega) (by omega)
                        · skip
                          refine zw_aload_n (pc := 113) (n := 0) (x := (d_ + 28)) rfl (zdal_p dlB_Units_straighten_93 (i := 10) rfl) ?_
                          refine zw_getF (pc := 114) f_Units_14 rfl ((hf_N43_.w hW).kr (o := 28) (by decide)) ((hf_N43_.w hW).lr (o := 28) (s := 1) (r := 29) (by decide)) (zdal_p dlB_Units_straighten_93 (i := 11) rfl) ?_
                          refine zw_iload (pc := 117) (i := 5) (x := Int32.ofInt u42_) rfl (zdal_p dlB_Units_straighten_93 (i := 12) rfl) ?_
                          refine zk_atG hf_N43_.x (pc := 119) l_Units_57 ((hf_N43_.w hW).kr (o := 29) (by decide)) ((hf_N43_.w hW).lr (o := 29) (s := 0) (r := 30) (by decide)) ((hf_N43_.w hW).rr (o := 30) (t := 1) (n := 27) (by decide)) (by decide) ⟨by omega, by omega⟩ (by decide) (Nat.le_of_ble_eq_true rfl) (zdal_p dlB_Units_straighten_93 (i := 13) rfl) (fun v49_ hv49_ hv49_a hv49_b => ?_)
                          clear hv49_
                          refine zw_aload_n (pc := 122) (n := 0) (x := (d_ + 28)) rfl (zdal_p dlB_Units_straighten_93 (i := 14) rfl) ?_
                          refine zw_iload_n (pc := 123) (n := 2) (x := Int32.ofInt u2_) rfl (zdal_p dlB_Units_straighten_93 (i := 15) rfl) ?_
                          refine zk_callV hf_N43_.x (pc := 124) [.int (Int32.ofInt u2_)] [.int (Int32.ofInt v49_)] l_Units_80 (u_Units_bitOfX l d_ N43_ (hf_N43_.w hW) u2_ hu2_a hu2_b) rfl rfl ((hf_N43_.w hW).kr (o := 28) (by decide)) (by decide) (by decide) (Nat.le_of_ble_eq_true rfl) (zdal_p dlB_Units_straighten_93 (i := 16) rfl) ?_
                          rintro _ N50_ ⟨v51_, rfl, ⟨hv51_a, hv51_b⟩, hsN50_, -⟩
                          obtain rfl := hsN50_.eq.symm
                          show zW l m_Units_straighten (zn Mz + 0, zw Mz + 0) N43_ 127 [some (.ref (d_ + 28)), some (.int (Int32.ofInt u1_)), some (.int (Int32.ofInt u2_)), some (.int (Int32.ofInt u7_)), some (.int (Int32.ofInt v38_)), some (.int (Int32.ofInt u42_))] [.int (Int32.ofInt v51_), .int (Int32.ofInt v49_)] _
                          refine zr_iand (pc := 127) (zdal_p dlB_Units_straighten_93 (i := 17) rfl) ?_
                          have hr52_ := zand_r v49_ v51_
                          refine zr_nmI (fun v53_ hv53_ => ?_)
                          obtain ⟨hv53_a, hv53_b⟩ := hv53_
                          refine zr_if_eq (pc := 128) (tgt := 152) ⟨hv53_a, hv53_b⟩ (by decide) (zdal_p dlB_Units_straighten_93 (i := 18) rfl) (fun hc_128 => ?_) (fun hc_128 => ?_)
                          · skip
                            refine zr_iinc (pc := 152) (i := 5) (a := u42_) (n := 1) (L2 := [some (.ref (d_ + 28)), some (.int (Int32.ofInt u1_)), some (.int (Int32.ofInt u2_)), some (.int (Int32.ofInt u7_)), some (.int (Int32.ofInt v38_)), some (.int (Int32.ofInt (u42_ + 1)))]) rfl (by decide) rfl d_Units_straighten_152 ?_
                            obtain ⟨v54_, hv54_a, hv54_b, hv54_e, hv54_d⟩ := zk_gen (u42_ + 1)
                            rw [hv54_e]
                            refine zw_goto (pc := 155) (tgt := 98) (by decide) d_Units_straighten_155 ?_
                            exact ih_98 v54_ hv54_a hv54_b N43_ hs44_ (show 0 ≤ v54_ by first | with_reducible assumption | assumption | omega) (by omega)
                          · skip
                            refine zw_aload_n (pc := 131) (n := 0) (x := (d_ + 28)) rfl (zdal_p dlB_Units_straighten_93 (i := 19) rfl) ?_
                            refine zw_getF (pc := 132) f_Units_14 rfl ((hf_N43_.w hW).kr (o := 28) (by decide)) ((hf_N43_.w hW).lr (o := 28) (s := 1) (r := 29) (by decide)) (zdal_p dlB_Units_straighten_93 (i := 20) rfl) ?_
                            refine zw_iload (pc := 135) (i := 5) (x := Int32.ofInt u42_) rfl (zdal_p dlB_Units_straighten_93 (i := 21) rfl) ?_
                            refine zw_aload_n (pc := 137) (n := 0) (x := (d_ + 28)) rfl (zdal_p dlB_Units_straighten_93 (i := 22) rfl) ?_
                            refine zw_getF (pc := 138) f_Units_14 rfl ((hf_N43_.w hW).kr (o := 28) (by decide)) ((hf_N43_.w hW).lr (o := 28) (s := 1) (r := 29) (by decide)) (zdal_p dlB_Units_straighten_93 (i := 23) rfl) ?_
                            refine zw_iload (pc := 141) (i := 5) (x := Int32.ofInt u42_) rfl (zdal_p dlB_Units_straighten_94 (i := 0) rfl) ?_
                            refine zk_atG hf_N43_.x (pc := 143) l_Units_57 ((hf_N43_.w hW).kr (o := 29) (by decide)) ((hf_N43_.w hW).lr (o := 29) (s := 0) (r := 30) (by decide)) ((hf_N43_.w hW).rr (o := 30) (t := 1) (n := 27) (by decide)) (by decide) ⟨by omega, by omega⟩ (by decide) (Nat.le_of_ble_eq_true rfl) (zdal_p dlB_Units_straighten_94 (i := 1) rfl) (fun v55_ hv55_ hv55_a hv55_b => ?_)
                            clear hv55_
                            refine zw_iload (pc := 146) (i := 4) (x := Int32.ofInt v38_) rfl (zdal_p dlB_Units_straighten_94 (i := 2) rfl) ?_
                            refine zr_ixor (pc := 148) (zdal_p dlB_Units_straighten_94 (i := 3) rfl) ?_
                            have hr56_ := zxor_r v55_ v38_
                            refine zr_nmI (fun v57_ hv57_ => ?_)
                            obtain ⟨hv57_a, hv57_b⟩ := hv57_
                            refine zk_stG hf_N43_.x (pc := 149) (o := 30) (by decide) l_Units_40 ((hf_N43_.w hW).kr (o := 29) (by decide)) ((hf_N43_.w hW).lr (o := 29) (s := 0) (r := 30) (by decide)) ((hf_N43_.w hW).rr (o := 30) (t := 1) (n := 27) (by decide)) (by decide) ⟨by omega, by omega⟩ (by decide) (Nat.le_of_ble_eq_true rfl) (zdal_p dlB_Units_straighten_94 (i := 4) rfl) (fun N58_ hsN58_ => ?_)
                            have hf_N58_ : zFc d_ [] [] [] [30] Mz N58_ := hf_N43_.tr hsN58_ (by decide) (by decide) (by decide) (by decide)
                            have hb0_N58_ : zFc d_ [] [] [] [30] Mz N58_ := hb0_N43_.tr hsN58_ (by decide) (by decide) (by decide) (by decide)
                            have hb1_N58_ : zFc d_ [] [] [] [30] N41_ N58_ := hs44_.tr hsN58_ (by decide) (by decide) (by decide) (by decide)
                            refine zr_iinc (pc := 152) (i := 5) (a := u42_) (n := 1) (L2 := [some (.ref (d_ + 28)), some (.int (Int32.ofInt u1_)), some (.int (Int32.ofInt u2_)), some (.int (Int32.ofInt u7_)), some (.int (Int32.ofInt v38_)), some (.int (Int32.ofInt (u42_ + 1)))]) rfl (by decide) rfl d_Units_straighten_152 ?_
                            obtain ⟨v59_, hv59_a, hv59_b, hv59_e, hv59_d⟩ := zk_gen (u42_ + 1)
                            rw [hv59_e]
                            refine zw_goto (pc := 155) (tgt := 98) (by decide) d_Units_straighten_155 ?_
                            exact ih_98 v59_ hv59_a hv59_b N58_ hb1_N58_ (show 0 ≤ v59_ by first | with_reducible assumption | assumption | omega) (by omega)
                  exact lp_98 _ 0 (by decide) (by decide) N41_ zFc.rf (show 0 ≤ (0 : Int) by first | with_reducible assumption | assumption | omega) (Nat.lt_succ_self _)
                · skip
                  refine zw_goto (pc := 56) (tgt := 161) (by decide) (zdal_p dlB_Units_straighten_92 (i := 6) rfl) ?_
                  refine zr_iinc (pc := 161) (i := 2) (a := u2_) (n := 1) (L2 := [some (.ref (d_ + 28)), some (.int (Int32.ofInt u1_)), some (.int (Int32.ofInt (u2_ + 1))), some (.int (Int32.ofInt u7_)), none, none]) rfl (by decide) rfl (zdal_p dlB_Units_straighten_94 (i := 8) rfl) ?_
                  obtain ⟨v60_, hv60_a, hv60_b, hv60_e, hv60_d⟩ := zk_gen (u2_ + 1)
                  rw [hv60_e]
                  refine zw_goto (pc := 164) (tgt := 4) (by decide) (zdal_p dlB_Units_straighten_94 (i := 9) rfl) ?_
                  refine zW_le [some (.ref (d_ + 28)), some (.int (Int32.ofInt u1_)), some (.int (Int32.ofInt v60_)), none, none, none] (⟨rfl, rfl, rfl, trivial⟩) ?_
                  exact ih_4 u1_ hu1_a hu1_b v60_ hv60_a hv60_b N3_ hs4_ (show 0 ≤ v60_ by first | with_reducible assumption | assumption | omega) (by omega)
              · skip
                refine zr_iinc (pc := 42) (i := 3) (a := u7_) (n := 1) (L2 := [some (.ref (d_ + 28)), some (.int (Int32.ofInt u1_)), some (.int (Int32.ofInt u2_)), some (.int (Int32.ofInt (u7_ + 1))), none, none]) rfl (by decide) rfl (zdal_p dlB_Units_straighten_92 (i := 0) rfl) ?_
                obtain ⟨v61_, hv61_a, hv61_b, hv61_e, hv61_d⟩ := zk_gen (u7_ + 1)
                rw [hv61_e]
                refine zw_goto (pc := 45) (tgt := 17) (by decide) (zdal_p dlB_Units_straighten_92 (i := 1) rfl) ?_
                exact ih_17 v61_ hv61_a hv61_b (show u1_ ≤ v61_ by first | with_reducible assumption | assumption | omega) (by omega)
        exact lp_17 _ u1_ hu1_a hu1_b (show u1_ ≤ u1_ by first | with_reducible assumption | assumption | omega) (Nat.lt_succ_self _)
  exact lp_4 _ 0 (by decide) (by decide) 0 (by decide) (by decide) Mz zFc.rf (show 0 ≤ (0 : Int) by first | with_reducible assumption | assumption | omega) (Nat.lt_succ_self _)
set_option maxHeartbeats 4000000 in
theorem u_Units_narrowX (l : Launch) (d_ : Nat) (Mz : zMem) (hW : zKW d_ Mz) (a0_ : Int) (ha0_a : -2147483648 ≤ a0_) (ha0_b : a0_ < 2147483648) : zC l m_Units_narrow 0 0 [.ref (d_ + 28), .int (Int32.ofInt a0_)] Mz (zqcV d_ [] [] [(28, 3)] [30] Mz (fun N => True)) := by
  refine zC_of (L0 := [some (.ref (d_ + 28)), some (.int (Int32.ofInt a0_)), none, none]) md_Units_narrow (Nat.le_of_ble_eq_true rfl) rfl ?_ zQ0
  have hf : zFc d_ [] [] [(28, 3)] [30] Mz Mz := zFc.rf
  have r_D28_3 := ze_r Mz (d_ + 28) 3
  refine zw_iconst (pc := 0) (v := Int32.ofInt (-1)) (by decide) (zdal_p dlB_Units_narrow_88 (i := 0) rfl) ?_
  refine zw_istore_n (pc := 1) (i := 2) (L2 := [some (.ref (d_ + 28)), some (.int (Int32.ofInt a0_)), some (.int (Int32.ofInt ((-1)))), none]) rfl (by decide) rfl (zdal_p dlB_Units_narrow_88 (i := 1) rfl) ?_
  refine zw_iconst (pc := 2) (v := Int32.ofInt 0) (by decide) (zdal_p dlB_Units_narrow_88 (i := 2) rfl) ?_
  refine zw_istore_n (pc := 3) (i := 3) (L2 := [some (.ref (d_ + 28)), some (.int (Int32.ofInt a0_)), some (.int (Int32.ofInt ((-1)))), some (.int (Int32.ofInt 0))]) rfl (by decide) rfl (zdal_p dlB_Units_narrow_88 (i := 3) rfl) ?_
  have lp_4 : ∀ (n : Nat) (u1_ : Int) (hu1_a : -2147483648 ≤ u1_) (hu1_b : u1_ < 2147483648) (u2_ : Int) (hu2_a : -2147483648 ≤ u2_) (hu2_b : u2_ < 2147483648) (N3_ : zMem) (hs4_ : zFc d_ [] [] [] [30] Mz N3_) (i5_ : 0 ≤ u2_) (i6_ : ze N3_ (d_ + 28) 3 = ze Mz (d_ + 28) 3), (ze Mz (d_ + 28) 3 - u2_).toNat < n → zW l m_Units_narrow (zn Mz + 0, zw Mz + 0) N3_ 4 [some (.ref (d_ + 28)), some (.int (Int32.ofInt a0_)), some (.int (Int32.ofInt u1_)), some (.int (Int32.ofInt u2_))] [] (zqcV d_ [] [] [(28, 3)] [30] Mz (fun N => True)) := by
    intro n
    induction n with
    | zero =>
      intro u1_ hu1_a hu1_b u2_ hu2_a hu2_b N3_ hs4_ i5_ i6_ h0
      exact absurd h0 (Nat.not_lt_zero _)
    | succ n ih_4 =>
      intro u1_ hu1_a hu1_b u2_ hu2_a hu2_b N3_ hs4_ i5_ i6_ hlt_4
      have hf_N3_ : zFc d_ [] [] [(28, 3)] [30] Mz N3_ := hf.tr hs4_ (by decide) (by decide) (by decide) (by decide)
      have eD28_3_N3_ : ze N3_ (d_ + 28) 3 = ze Mz (d_ + 28) 3 := hs4_.e (by decide)
      refine zw_iload_n (pc := 4) (n := 3) (x := Int32.ofInt u2_) rfl (zdal_p dlB_Units_narrow_88 (i := 4) rfl) ?_
      refine zw_aload_n (pc := 5) (n := 0) (x := (d_ + 28)) rfl (zdal_p dlB_Units_narrow_88 (i := 5) rfl) ?_
      refine zk_getI (pc := 6) f_Units_31 rfl ((hf_N3_.w hW).kr (o := 28) (by decide)) (zdal_p dlB_Units_narrow_88 (i := 6) rfl) ?_
      have hr7_ := ze_r N3_ (d_ + 28) 3
      refine zr_icmp_ge (pc := 9) (tgt := 74) ⟨hu2_a, hu2_b⟩ ⟨(ze_r N3_ (d_ + 28) 3).1, (ze_r N3_ (d_ + 28) 3).2⟩ (by decide) (zdal_p dlB_Units_narrow_88 (i := 7) rfl) (fun hc_9 => ?_) (fun hc_9 => ?_)
      · skip
        refine zw_iload_n (pc := 74) (n := 2) (x := Int32.ofInt u1_) rfl (zdal_p dlB_Units_narrow_89 (i := 16) rfl) ?_
        refine zw_iconst (pc := 75) (v := Int32.ofInt (-1)) (by decide) (zdal_p dlB_Units_narrow_89 (i := 17) rfl) ?_
        refine zr_icmp_eq (pc := 76) (tgt := 108) ⟨hu1_a, hu1_b⟩ ⟨(by decide), (by decide)⟩ (by decide) (zdal_p dlB_Units_narrow_89 (i := 18) rfl) (fun hc_76 => ?_) (fun hc_76 => ?_)
        · skip
          exact zk_vret (pc := 108) rfl hf_N3_ trivial (zdal_p dlB_Units_narrow_90 (i := 10) rfl)
        · skip
          refine zw_aload_n (pc := 79) (n := 0) (x := (d_ + 28)) rfl (zdal_p dlB_Units_narrow_89 (i := 19) rfl) ?_
          refine zw_dup (pc := 80) rfl (zdal_p dlB_Units_narrow_89 (i := 20) rfl) ?_
          refine zk_getI (pc := 81) f_Units_31 rfl ((hf_N3_.w hW).kr (o := 28) (by decide)) (zdal_p dlB_Units_narrow_89 (i := 21) rfl) ?_
          refine zw_iconst (pc := 84) (v := Int32.ofInt 1) (by decide) (zdal_p dlB_Units_narrow_89 (i := 22) rfl) ?_
          refine zr_isub (pc := 85) (zdal_p dlB_Units_narrow_89 (i := 23) rfl) ?_
          refine zr_nmI (fun v8_ hv8_ => ?_)
          obtain ⟨hv8_a, hv8_b⟩ := hv8_
          refine zk_putR (pc := 86) (o := 28) (by decide) f_Units_31 rfl rfl ((hf_N3_.w hW).kr (o := 28) (by decide)) ⟨by omega, by omega⟩ rfl rfl (zdal_p dlB_Units_narrow_90 (i := 0) rfl) (fun N9_ hsN9_ hvN9_ => ?_)
          have hf_N9_ : zFc d_ [] [] [(28, 3)] [30] Mz N9_ := hf_N3_.tr hsN9_ (by decide) (by decide) (by decide) (by decide)
          have rD28_3_N9_ := ze_r N9_ (d_ + 28) 3
          refine zw_aload_n (pc := 89) (n := 0) (x := (d_ + 28)) rfl (zdal_p dlB_Units_narrow_90 (i := 1) rfl) ?_
          refine zw_getF (pc := 90) f_Units_14 rfl ((hf_N9_.w hW).kr (o := 28) (by decide)) ((hf_N9_.w hW).lr (o := 28) (s := 1) (r := 29) (by decide)) (zdal_p dlB_Units_narrow_90 (i := 2) rfl) ?_
          refine zw_iload_n (pc := 93) (n := 2) (x := Int32.ofInt u1_) rfl (zdal_p dlB_Units_narrow_90 (i := 3) rfl) ?_
          refine zw_aload_n (pc := 94) (n := 0) (x := (d_ + 28)) rfl (zdal_p dlB_Units_narrow_90 (i := 4) rfl) ?_
          refine zw_getF (pc := 95) f_Units_14 rfl ((hf_N9_.w hW).kr (o := 28) (by decide)) ((hf_N9_.w hW).lr (o := 28) (s := 1) (r := 29) (by decide)) (zdal_p dlB_Units_narrow_90 (i := 5) rfl) ?_
          refine zw_aload_n (pc := 98) (n := 0) (x := (d_ + 28)) rfl (zdal_p dlB_Units_narrow_90 (i := 6) rfl) ?_
          refine zk_getI (pc := 99) f_Units_31 rfl ((hf_N9_.w hW).kr (o := 28) (by decide)) (zdal_p dlB_Units_narrow_90 (i := 7) rfl) ?_
          have hr10_ := ze_r N9_ (d_ + 28) 3
          refine zk_atG hf_N9_.x (pc := 102) l_Units_57 ((hf_N9_.w hW).kr (o := 29) (by decide)) ((hf_N9_.w hW).lr (o := 29) (s := 0) (r := 30) (by decide)) ((hf_N9_.w hW).rr (o := 30) (t := 1) (n := 27) (by decide)) (by decide) ⟨by omega, by omega⟩ (by decide) (Nat.le_of_ble_eq_true rfl) (zdal_p dlB_Units_narrow_90 (i := 8) rfl) (fun v11_ hv11_ hv11_a hv11_b => ?_)
          clear hv11_
          refine zk_stG hf_N9_.x (pc := 105) (o := 30) (by decide) l_Units_40 ((hf_N9_.w hW).kr (o := 29) (by decide)) ((hf_N9_.w hW).lr (o := 29) (s := 0) (r := 30) (by decide)) ((hf_N9_.w hW).rr (o := 30) (t := 1) (n := 27) (by decide)) (by decide) ⟨by omega, by omega⟩ (by decide) (Nat.le_of_ble_eq_true rfl) (zdal_p dlB_Units_narrow_90 (i := 9) rfl) (fun N12_ hsN12_ => ?_)
          have hf_N12_ : zFc d_ [] [] [(28, 3)] [30] Mz N12_ := hf_N9_.tr hsN12_ (by decide) (by decide) (by decide) (by decide)
          have eD28_3_N12_ : ze N12_ (d_ + 28) 3 = ze N9_ (d_ + 28) 3 := hsN12_.e (by decide)
          exact zk_vret (pc := 108) rfl hf_N12_ trivial (zdal_p dlB_Units_narrow_90 (i := 10) rfl)
      · skip
        refine zw_aload_n (pc := 12) (n := 0) (x := (d_ + 28)) rfl (zdal_p dlB_Units_narrow_88 (i := 8) rfl) ?_
        refine zw_getF (pc := 13) f_Units_14 rfl ((hf_N3_.w hW).kr (o := 28) (by decide)) ((hf_N3_.w hW).lr (o := 28) (s := 1) (r := 29) (by decide)) (zdal_p dlB_Units_narrow_88 (i := 9) rfl) ?_
        refine zw_iload_n (pc := 16) (n := 3) (x := Int32.ofInt u2_) rfl (zdal_p dlB_Units_narrow_88 (i := 10) rfl) ?_
        refine zk_atG hf_N3_.x (pc := 17) l_Units_57 ((hf_N3_.w hW).kr (o := 29) (by decide)) ((hf_N3_.w hW).lr (o := 29) (s := 0) (r := 30) (by decide)) ((hf_N3_.w hW).rr (o := 30) (t := 1) (n := 27) (by decide)) (by decide) ⟨by omega, by omega⟩ (by decide) (Nat.le_of_ble_eq_true rfl) (zdal_p dlB_Units_narrow_88 (i := 11) rfl) (fun v13_ hv13_ hv13_a hv13_b => ?_)
        clear hv13_
        refine zw_iload_n (pc := 20) (n := 1) (x := Int32.ofInt a0_) rfl (zdal_p dlB_Units_narrow_88 (i := 12) rfl) ?_
        refine zr_iand (pc := 21) (zdal_p dlB_Units_narrow_88 (i := 13) rfl) ?_
        have hr14_ := zand_r v13_ a0_
        refine zr_nmI (fun v15_ hv15_ => ?_)
        obtain ⟨hv15_a, hv15_b⟩ := hv15_
        refine zr_callS hf_N3_.x (pc := 22) [.int (Int32.ofInt v15_)] [] l_Units_89 (u_Integer_bitCountX l d_ N3_ (hf_N3_.w hW) v15_ hv15_a hv15_b) rfl rfl (by decide) (Nat.le_of_ble_eq_true rfl) (zdal_p dlB_Units_narrow_88 (i := 14) rfl) ?_
        rintro _ N16_ ⟨v17_, rfl, ⟨hv17_a, hv17_b⟩, hsN16_, ⟨hp0_N16_, hp1_N16_⟩⟩
        obtain rfl := hsN16_.eq.symm
        show zW l m_Units_narrow (zn Mz + 0, zw Mz + 0) N3_ 25 [some (.ref (d_ + 28)), some (.int (Int32.ofInt a0_)), some (.int (Int32.ofInt u1_)), some (.int (Int32.ofInt u2_))] [.int (Int32.ofInt v17_)] _
        refine zw_iconst (pc := 25) (v := Int32.ofInt 1) (by decide) (zdal_p dlB_Units_narrow_88 (i := 15) rfl) ?_
        refine zr_iand (pc := 26) (zdal_p dlB_Units_narrow_88 (i := 16) rfl) ?_
        have hr18_ := zand_r v17_ 1
        refine zr_nmI (fun v19_ hv19_ => ?_)
        obtain ⟨hv19_a, hv19_b⟩ := hv19_
        refine zr_if_ne (pc := 27) (tgt := 33) ⟨hv19_a, hv19_b⟩ (by decide) (zdal_p dlB_Units_narrow_88 (i := 17) rfl) (fun hc_27 => ?_) (fun hc_27 => ?_)
        · skip
          refine zw_iload_n (pc := 33) (n := 2) (x := Int32.ofInt u1_) rfl (zdal_p dlB_Units_narrow_88 (i := 19) rfl) ?_
          refine zw_iconst (pc := 34) (v := Int32.ofInt (-1)) (by decide) (zdal_p dlB_Units_narrow_88 (i := 20) rfl) ?_
          refine zr_icmp_ne (pc := 35) (tgt := 43) ⟨hu1_a, hu1_b⟩ ⟨(by decide), (by decide)⟩ (by decide) (zdal_p dlB_Units_narrow_88 (i := 21) rfl) (fun hc_35 => ?_) (fun hc_35 => ?_)
          · skip
            refine zw_aload_n (pc := 43) (n := 0) (x := (d_ + 28)) rfl (zdal_p dlB_Units_narrow_89 (i := 1) rfl) ?_
            refine zw_getF (pc := 44) f_Units_14 rfl ((hf_N3_.w hW).kr (o := 28) (by decide)) ((hf_N3_.w hW).lr (o := 28) (s := 1) (r := 29) (by decide)) (zdal_p dlB_Units_narrow_89 (i := 2) rfl) ?_
            refine zw_iload_n (pc := 47) (n := 3) (x := Int32.ofInt u2_) rfl (zdal_p dlB_Units_narrow_89 (i := 3) rfl) ?_
            refine zw_aload_n (pc := 48) (n := 0) (x := (d_ + 28)) rfl (zdal_p dlB_Units_narrow_89 (i := 4) rfl) ?_
            refine zw_getF (pc := 49) f_Units_14 rfl ((hf_N3_.w hW).kr (o := 28) (by decide)) ((hf_N3_.w hW).lr (o := 28) (s := 1) (r := 29) (by decide)) (zdal_p dlB_Units_narrow_89 (i := 5) rfl) ?_
            refine zw_iload_n (pc := 52) (n := 3) (x := Int32.ofInt u2_) rfl (zdal_p dlB_Units_narrow_89 (i := 6) rfl) ?_
            refine zk_atG hf_N3_.x (pc := 53) l_Units_57 ((hf_N3_.w hW).kr (o := 29) (by decide)) ((hf_N3_.w hW).lr (o := 29) (s := 0) (r := 30) (by decide)) ((hf_N3_.w hW).rr (o := 30) (t := 1) (n := 27) (by decide)) (by decide) ⟨by omega, by omega⟩ (by decide) (Nat.le_of_ble_eq_true rfl) (zdal_p dlB_Units_narrow_89 (i := 7) rfl) (fun v20_ hv20_ hv20_a hv20_b => ?_)
            clear hv20_
            refine zw_aload_n (pc := 56) (n := 0) (x := (d_ + 28)) rfl (zdal_p dlB_Units_narrow_89 (i := 8) rfl) ?_
            refine zw_getF (pc := 57) f_Units_14 rfl ((hf_N3_.w hW).kr (o := 28) (by decide)) ((hf_N3_.w hW).lr (o := 28) (s := 1) (r := 29) (by decide)) (zdal_p dlB_Units_narrow_89 (i := 9) rfl) ?_
            refine zw_iload_n (pc := 60) (n := 2) (x := Int32.ofInt u1_) rfl (zdal_p dlB_Units_narrow_89 (i := 10) rfl) ?_
            refine zk_atG hf_N3_.x (pc := 61) l_Units_57 ((hf_N3_.w hW).kr (o := 29) (by decide)) ((hf_N3_.w hW).lr (o := 29) (s := 0) (r := 30) (by decide)) ((hf_N3_.w hW).rr (o := 30) (t := 1) (n := 27) (by decide)) (by decide) ⟨by omega, by omega⟩ (by decide) (Nat.le_of_ble_eq_true rfl) (zdal_p dlB_Units_narrow_89 (i := 11) rfl) (fun v21_ hv21_ hv21_a hv21_b => ?_)
            clear hv21_
            refine zr_ixor (pc := 64) (zdal_p dlB_Units_narrow_89 (i := 12) rfl) ?_
            have hr22_ := zxor_r v20_ v21_
            refine zr_nmI (fun v23_ hv23_ => ?_)
            obtain ⟨hv23_a, hv23_b⟩ := hv23_
            refine zk_stG hf_N3_.x (pc := 65) (o := 30) (by decide) l_Units_40 ((hf_N3_.w hW).kr (o := 29) (by decide)) ((hf_N3_.w hW).lr (o := 29) (s := 0) (r := 30) (by decide)) ((hf_N3_.w hW).rr (o := 30) (t := 1) (n := 27) (by decide)) (by decide) ⟨by omega, by omega⟩ (by decide) (Nat.le_of_ble_eq_true rfl) (zdal_p dlB_Units_narrow_89 (i := 13) rfl) (fun N24_ hsN24_ => ?_)
            have hf_N24_ : zFc d_ [] [] [(28, 3)] [30] Mz N24_ := hf_N3_.tr hsN24_ (by decide) (by decide) (by decide) (by decide)
            have hb0_N24_ : zFc d_ [] [] [] [30] Mz N24_ := hs4_.tr hsN24_ (by decide) (by decide) (by decide) (by decide)
            have eD28_3_N24_ : ze N24_ (d_ + 28) 3 = ze N3_ (d_ + 28) 3 := hsN24_.e (by decide)
            refine zr_iinc (pc := 68) (i := 3) (a := u2_) (n := 1) (L2 := [some (.ref (d_ + 28)), some (.int (Int32.ofInt a0_)), some (.int (Int32.ofInt u1_)), some (.int (Int32.ofInt (u2_ + 1)))]) rfl (by decide) rfl (zdal_p dlB_Units_narrow_89 (i := 14) rfl) ?_
            obtain ⟨v25_, hv25_a, hv25_b, hv25_e, hv25_d⟩ := zk_gen (u2_ + 1)
            rw [hv25_e]
            refine zw_goto (pc := 71) (tgt := 4) (by decide) (zdal_p dlB_Units_narrow_89 (i := 15) rfl) ?_
            exact ih_4 u1_ hu1_a hu1_b v25_ hv25_a hv25_b N24_ hb0_N24_ (show 0 ≤ v25_ by first | with_reducible assumption | assumption | omega) (show ze N24_ (d_ + 28) 3 = ze Mz (d_ + 28) 3 by first | with_reducible assumption | assumption | omega) (by omega)
          · skip
            refine zw_iload_n (pc := 38) (n := 3) (x := Int32.ofInt u2_) rfl (zdal_p dlB_Units_narrow_88 (i := 22) rfl) ?_
            refine zw_istore_n (pc := 39) (i := 2) (L2 := [some (.ref (d_ + 28)), some (.int (Int32.ofInt a0_)), some (.int (Int32.ofInt u2_)), some (.int (Int32.ofInt u2_))]) rfl (by decide) rfl (zdal_p dlB_Units_narrow_88 (i := 23) rfl) ?_
            refine zw_goto (pc := 40) (tgt := 68) (by decide) (zdal_p dlB_Units_narrow_89 (i := 0) rfl) ?_
            refine zr_iinc (pc := 68) (i := 3) (a := u2_) (n := 1) (L2 := [some (.ref (d_ + 28)), some (.int (Int32.ofInt a0_)), some (.int (Int32.ofInt u2_)), some (.int (Int32.ofInt (u2_ + 1)))]) rfl (by decide) rfl (zdal_p dlB_Units_narrow_89 (i := 14) rfl) ?_
            obtain ⟨v26_, hv26_a, hv26_b, hv26_e, hv26_d⟩ := zk_gen (u2_ + 1)
            rw [hv26_e]
            refine zw_goto (pc := 71) (tgt := 4) (by decide) (zdal_p dlB_Units_narrow_89 (i := 15) rfl) ?_
            exact ih_4 u2_ hu2_a hu2_b v26_ hv26_a hv26_b N3_ hs4_ (show 0 ≤ v26_ by first | with_reducible assumption | assumption | omega) (show ze N3_ (d_ + 28) 3 = ze Mz (d_ + 28) 3 by first | with_reducible assumption | assumption | omega) (by omega)
        · skip
          refine zw_goto (pc := 30) (tgt := 68) (by decide) (zdal_p dlB_Units_narrow_88 (i := 18) rfl) ?_
          refine zr_iinc (pc := 68) (i := 3) (a := u2_) (n := 1) (L2 := [some (.ref (d_ + 28)), some (.int (Int32.ofInt a0_)), some (.int (Int32.ofInt u1_)), some (.int (Int32.ofInt (u2_ + 1)))]) rfl (by decide) rfl (zdal_p dlB_Units_narrow_89 (i := 14) rfl) ?_
          obtain ⟨v27_, hv27_a, hv27_b, hv27_e, hv27_d⟩ := zk_gen (u2_ + 1)
          rw [hv27_e]
          refine zw_goto (pc := 71) (tgt := 4) (by decide) (zdal_p dlB_Units_narrow_89 (i := 15) rfl) ?_
          exact ih_4 u1_ hu1_a hu1_b v27_ hv27_a hv27_b N3_ hs4_ (show 0 ≤ v27_ by first | with_reducible assumption | assumption | omega) (show ze N3_ (d_ + 28) 3 = ze Mz (d_ + 28) 3 by first | with_reducible assumption | assumption | omega) (by omega)
  exact lp_4 _ ((-1)) (by decide) (by decide) 0 (by decide) (by decide) Mz zFc.rf (show 0 ≤ (0 : Int) by first | with_reducible assumption | assumption | omega) (show ze Mz (d_ + 28) 3 = ze Mz (d_ + 28) 3 by first | with_reducible assumption | assumption | omega) (Nat.lt_succ_self _)
