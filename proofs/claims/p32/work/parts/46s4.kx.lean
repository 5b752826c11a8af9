set_option maxHeartbeats 4000000 in
theorem u_T_centreX (l : Launch) (d_ : Nat) (Mz : zMem) (hW : zKW d_ Mz) (hnow : zf Mz 0 2 = some (d_ + 0)) (a0_ : Int) (ha0_a : -2147483648 ≤ a0_) (ha0_b : a0_ < 2147483648) : zC l m_T_centre 0 0 [.ref 0, .int (Int32.ofInt a0_)] Mz (zqcI d_ [] [] [] [] Mz (fun v N => True)) := by
  refine zC_of (L0 := [some (.ref 0), some (.int (Int32.ofInt a0_))]) md_T_centre (Nat.le_of_ble_eq_true rfl) rfl ?_ zQ0
  have hf : zFc d_ [] [] [] [] Mz Mz := zFc.rf
  refine zw_aload_n (pc := 0) (n := 0) (x := 0) rfl (zdal_p dlB_T_centre_57 (i := 0) rfl) ?_
  refine zw_getF (pc := 1) f_T_28 rfl ((hf.w hW).ka (o := 0) (by decide)) (hf.now hnow) (zdal_p dlB_T_centre_57 (i := 1) rfl) ?_
  refine zw_getF (pc := 4) f_T_85 rfl ((hf.w hW).kr (o := 0) (by decide)) ((hf.w hW).lr (o := 0) (s := 1) (r := 12) (by decide)) (zdal_p dlB_T_centre_57 (i := 2) rfl) ?_
  refine zw_iload_n (pc := 7) (n := 1) (x := Int32.ofInt a0_) rfl (zdal_p dlB_T_centre_57 (i := 3) rfl) ?_
  refine zk_callV hf.x (pc := 8) [.int (Int32.ofInt a0_)] [] l_T_143 (u_Sorts_hasSortX l d_ Mz (hf.w hW) a0_ ha0_a ha0_b) rfl rfl ((hf.w hW).kr (o := 12) (by decide)) (by decide) (by decide) (Nat.le_of_ble_eq_true rfl) (zdal_p dlB_T_centre_57 (i := 4) rfl) ?_
  rintro _ N1_ ⟨v2_, rfl, ⟨hv2_a, hv2_b⟩, hsN1_, hp0_N1_⟩
  obtain rfl := hsN1_.eq.symm
  replace hp0_N1_ : (v2_ = 0 ∨ v2_ = 1) := hp0_N1_
  show zW l m_T_centre (zn Mz + 0, zw Mz + 0) Mz 11 [some (.ref 0), some (.int (Int32.ofInt a0_))] [.int (Int32.ofInt v2_)] _
  refine zr_if_eq (pc := 11) (tgt := 41) ⟨hv2_a, hv2_b⟩ (by decide) (zdal_p dlB_T_centre_57 (i := 5) rfl) (fun hc_11 => ?_) (fun hc_11 => ?_)
  · skip
    refine zw_iconst (pc := 41) (v := Int32.ofInt (-1)) (by decide) (zdal_p dlB_T_centre_57 (i := 17) rfl) ?_
    exact zk_iret (pc := 42) (ty := .int) rfl rfl ⟨by omega, by omega⟩ hf trivial (zdal_p dlB_T_centre_57 (i := 18) rfl)
  · skip
    refine zw_aload_n (pc := 14) (n := 0) (x := 0) rfl (zdal_p dlB_T_centre_57 (i := 6) rfl) ?_
    refine zw_getF (pc := 15) f_T_28 rfl ((hf.w hW).ka (o := 0) (by decide)) (hf.now hnow) (zdal_p dlB_T_centre_57 (i := 7) rfl) ?_
    refine zw_getF (pc := 18) f_T_61 rfl ((hf.w hW).kr (o := 0) (by decide)) ((hf.w hW).lr (o := 0) (s := 0) (r := 1) (by decide)) (zdal_p dlB_T_centre_57 (i := 8) rfl) ?_
    refine zw_aload_n (pc := 21) (n := 0) (x := 0) rfl (zdal_p dlB_T_centre_57 (i := 9) rfl) ?_
    refine zw_getF (pc := 22) f_T_28 rfl ((hf.w hW).ka (o := 0) (by decide)) (hf.now hnow) (zdal_p dlB_T_centre_57 (i := 10) rfl) ?_
    refine zw_getF (pc := 25) f_T_85 rfl ((hf.w hW).kr (o := 0) (by decide)) ((hf.w hW).lr (o := 0) (s := 1) (r := 12) (by decide)) (zdal_p dlB_T_centre_57 (i := 11) rfl) ?_
    refine zw_getF (pc := 28) f_T_146 rfl ((hf.w hW).kr (o := 12) (by decide)) ((hf.w hW).lr (o := 12) (s := 4) (r := 19) (by decide)) (zdal_p dlB_T_centre_57 (i := 12) rfl) ?_
    refine zw_iload_n (pc := 31) (n := 1) (x := Int32.ofInt a0_) rfl (zdal_p dlB_T_centre_57 (i := 13) rfl) ?_
    refine zk_atG hf.x (pc := 32) l_T_118 ((hf.w hW).kr (o := 19) (by decide)) ((hf.w hW).lr (o := 19) (s := 0) (r := 20) (by decide)) ((hf.w hW).rr (o := 20) (t := 1) (n := 27) (by decide)) (by decide) ⟨by omega, by omega⟩ (by decide) (Nat.le_of_ble_eq_true rfl) (zdal_p dlB_T_centre_57 (i := 14) rfl) (fun v3_ hv3_ hv3_a hv3_b => ?_)
    clear hv3_
    refine zk_callV hf.x (pc := 35) [.int (Int32.ofInt v3_)] [] l_T_208 (u_Group_centreOfX l d_ Mz (hf.w hW) v3_ hv3_a hv3_b) rfl rfl ((hf.w hW).kr (o := 1) (by decide)) (by decide) (by decide) (Nat.le_of_ble_eq_true rfl) (zdal_p dlB_T_centre_57 (i := 15) rfl) ?_
    rintro _ N4_ ⟨v5_, rfl, ⟨hv5_a, hv5_b⟩, hsN4_, -⟩
    obtain rfl := hsN4_.eq.symm
    show zW l m_T_centre (zn Mz + 0, zw Mz + 0) Mz 38 [some (.ref 0), some (.int (Int32.ofInt a0_))] [.int (Int32.ofInt v5_)] _
    refine zw_goto (pc := 38) (tgt := 42) (by decide) (zdal_p dlB_T_centre_57 (i := 16) rfl) ?_
    exact zk_iret (pc := 42) (ty := .int) rfl rfl ⟨by omega, by omega⟩ hf trivial (zdal_p dlB_T_centre_57 (i := 18) rfl)
set_option maxHeartbeats 4000000 in
theorem u_Sums_totalOfWorkX (l : Launch) (d_ : Nat) (Mz : zMem) (hW : zKW d_ Mz) : zC l m_Sums_totalOfWork 0 0 [.ref (d_ + 23)] Mz (zqcI d_ [] [] [] [] Mz (fun v N => True)) := by
  refine zC_of (L0 := [some (.ref (d_ + 23)), none, none, none]) md_Sums_totalOfWork (Nat.le_of_ble_eq_true rfl) rfl ?_ zQ0
  have hf : zFc d_ [] [] [] [] Mz Mz := zFc.rf
  refine zw_lconst (pc := 0) (v := Int64.ofInt 0) (by decide) (zdal_p dlB_Sums_totalOfWork_60 (i := 0) rfl) ?_
  refine zw_lstore_n (pc := 1) (i := 1) (L2 := [some (.ref (d_ + 23)), some (.long (Int64.ofInt 0)), none, none]) rfl (by decide) rfl (zdal_p dlB_Sums_totalOfWork_60 (i := 1) rfl) ?_
  refine zw_iconst (pc := 2) (v := Int32.ofInt 0) (by decide) (zdal_p dlB_Sums_totalOfWork_60 (i := 2) rfl) ?_
  refine zw_istore_n (pc := 3) (i := 3) (L2 := [some (.ref (d_ + 23)), some (.long (Int64.ofInt 0)), none, some (.int (Int32.ofInt 0))]) rfl (by decide) rfl (zdal_p dlB_Sums_totalOfWork_60 (i := 3) rfl) ?_
  have lp_4 : ∀ (n : Nat) (u1_ : Int) (hu1_a : -9223372036854775808 ≤ u1_) (hu1_b : u1_ < 9223372036854775808) (u2_ : Int) (hu2_a : -2147483648 ≤ u2_) (hu2_b : u2_ < 2147483648) (i3_ : 0 ≤ u2_), (ze Mz (d_ + 12) 7 - u2_).toNat < n → zW l m_Sums_totalOfWork (zn Mz + 0, zw Mz + 0) Mz 4 [some (.ref (d_ + 23)), some (.long (Int64.ofInt u1_)), none, some (.int (Int32.ofInt u2_))] [] (zqcI d_ [] [] [] [] Mz (fun v N => True)) := by
    intro n
    induction n with
    | zero =>
      intro u1_ hu1_a hu1_b u2_ hu2_a hu2_b i3_ h0
      exact absurd h0 (Nat.not_lt_zero _)
    | succ n ih_4 =>
      intro u1_ hu1_a hu1_b u2_ hu2_a hu2_b i3_ hlt_4
      refine zw_iload_n (pc := 4) (n := 3) (x := Int32.ofInt u2_) rfl (zdal_p dlB_Sums_totalOfWork_60 (i := 4) rfl) ?_
      refine zw_aload_n (pc := 5) (n := 0) (x := (d_ + 23)) rfl (zdal_p dlB_Sums_totalOfWork_60 (i := 5) rfl) ?_
      refine zw_getF (pc := 6) f_Sums_23 rfl ((hf.w hW).kr (o := 23) (by decide)) ((hf.w hW).lr (o := 23) (s := 0) (r := 12) (by decide)) (zdal_p dlB_Sums_totalOfWork_60 (i := 6) rfl) ?_
      refine zk_getI (pc := 9) f_Sums_35 rfl ((hf.w hW).kr (o := 12) (by decide)) (zdal_p dlB_Sums_totalOfWork_60 (i := 7) rfl) ?_
      have hr4_ := ze_r Mz (d_ + 12) 7
      refine zr_icmp_ge (pc := 12) (tgt := 31) ⟨hu2_a, hu2_b⟩ ⟨(ze_r Mz (d_ + 12) 7).1, (ze_r Mz (d_ + 12) 7).2⟩ (by decide) (zdal_p dlB_Sums_totalOfWork_60 (i := 8) rfl) (fun hc_12 => ?_) (fun hc_12 => ?_)
      · skip
        refine zw_lload_n (pc := 31) (n := 1) (x := Int64.ofInt u1_) rfl (zdal_p dlB_Sums_totalOfWork_60 (i := 18) rfl) ?_
        refine zr_l2i (pc := 32) (zdal_p dlB_Sums_totalOfWork_60 (i := 19) rfl) ?_
        refine zr_nmI (fun v5_ hv5_ => ?_)
        obtain ⟨hv5_a, hv5_b⟩ := hv5_
        exact zk_iret (pc := 33) (ty := .int) rfl rfl ⟨by omega, by omega⟩ hf trivial (zdal_p dlB_Sums_totalOfWork_60 (i := 20) rfl)
      · skip
        refine zw_lload_n (pc := 15) (n := 1) (x := Int64.ofInt u1_) rfl (zdal_p dlB_Sums_totalOfWork_60 (i := 9) rfl) ?_
        refine zw_aload_n (pc := 16) (n := 0) (x := (d_ + 23)) rfl (zdal_p dlB_Sums_totalOfWork_60 (i := 10) rfl) ?_
        refine zw_bipush (pc := 17) (v := Int32.ofInt 39) (by decide) (zdal_p dlB_Sums_totalOfWork_60 (i := 11) rfl) ?_
        refine zw_iload_n (pc := 19) (n := 3) (x := Int32.ofInt u2_) rfl (zdal_p dlB_Sums_totalOfWork_60 (i := 12) rfl) ?_
        refine zk_callV hf.x (pc := 20) [.int (Int32.ofInt 39), .int (Int32.ofInt u2_)] [.long (Int64.ofInt u1_)] l_Sums_67 (u_Sums_numberAtX l d_ Mz (hf.w hW) 39 (by decide) (by decide) u2_ hu2_a hu2_b) rfl rfl ((hf.w hW).kr (o := 23) (by decide)) (by decide) (by decide) (Nat.le_of_ble_eq_true rfl) (zdal_p dlB_Sums_totalOfWork_60 (i := 13) rfl) ?_
        rintro _ N6_ ⟨v7_, rfl, ⟨hv7_a, hv7_b⟩, hsN6_, -⟩
        obtain rfl := hsN6_.eq.symm
        show zW l m_Sums_totalOfWork (zn Mz + 0, zw Mz + 0) Mz 23 [some (.ref (d_ + 23)), some (.long (Int64.ofInt u1_)), none, some (.int (Int32.ofInt u2_))] [.long (Int64.ofInt v7_), .long (Int64.ofInt u1_)] _
        refine zr_ladd (pc := 23) (zdal_p dlB_Sums_totalOfWork_60 (i := 14) rfl) ?_
        refine zr_nmJ (fun v8_ hv8_ => ?_)
        obtain ⟨hv8_a, hv8_b⟩ := hv8_
        refine zw_lstore_n (pc := 24) (i := 1) (L2 := [some (.ref (d_ + 23)), some (.long (Int64.ofInt v8_)), none, some (.int (Int32.ofInt u2_))]) rfl (by decide) rfl (zdal_p dlB_Sums_totalOfWork_60 (i := 15) rfl) ?_
        refine zr_iinc (pc := 25) (i := 3) (a := u2_) (n := 1) (L2 := [some (.ref (d_ + 23)), some (.long (Int64.ofInt v8_)), none, some (.int (Int32.ofInt (u2_ + 1)))]) rfl (by decide) rfl (zdal_p dlB_Sums_totalOfWork_60 (i := 16) rfl) ?_
        obtain ⟨v9_, hv9_a, hv9_b, hv9_e, hv9_d⟩ := zk_gen (u2_ + 1)
        rw [hv9_e]
        refine zw_goto (pc := 28) (tgt := 4) (by decide) (zdal_p dlB_Sums_totalOfWork_60 (i := 17) rfl) ?_
        exact ih_4 v8_ hv8_a hv8_b v9_ hv9_a hv9_b (show 0 ≤ v9_ by first | with_reducible assumption | assumption | omega) (by omega)
  exact lp_4 _ 0 (by decide) (by decide) 0 (by decide) (by decide) (show 0 ≤ (0 : Int) by first | with_reducible assumption | assumption | omega) (Nat.lt_succ_self _)
set_option maxHeartbeats 4000000 in
theorem u_T_pairsX (l : Launch) (d_ : Nat) (Mz : zMem) (hW : zKW d_ Mz) (hnow : zf Mz 0 2 = some (d_ + 0)) (a0_ : Int) (ha0_a : -2147483648 ≤ a0_) (ha0_b : a0_ < 2147483648) (a1_ : Int) (ha1_a : -2147483648 ≤ a1_) (ha1_b : a1_ < 2147483648) : zC l m_T_pairs 0 0 [.ref 0, .int (Int32.ofInt a0_), .int (Int32.ofInt a1_)] Mz (zqcI d_ [] [] [] [25, 27] Mz (fun v N => True)) := by
  refine zC_of (L0 := [some (.ref 0), some (.int (Int32.ofInt a0_)), some (.int (Int32.ofInt a1_))]) md_T_pairs (Nat.le_of_ble_eq_true rfl) rfl ?_ zQ0
  have hf : zFc d_ [] [] [] [25, 27] Mz Mz := zFc.rf
  refine zw_aload_n (pc := 0) (n := 0) (x := 0) rfl (zdal_p dlB_T_pairs_58 (i := 0) rfl) ?_
  refine zw_getF (pc := 1) f_T_28 rfl ((hf.w hW).ka (o := 0) (by decide)) (hf.now hnow) (zdal_p dlB_T_pairs_58 (i := 1) rfl) ?_
  refine zw_getF (pc := 4) f_T_85 rfl ((hf.w hW).kr (o := 0) (by decide)) ((hf.w hW).lr (o := 0) (s := 1) (r := 12) (by decide)) (zdal_p dlB_T_pairs_58 (i := 2) rfl) ?_
  refine zw_iload_n (pc := 7) (n := 1) (x := Int32.ofInt a0_) rfl (zdal_p dlB_T_pairs_58 (i := 3) rfl) ?_
  refine zk_callV hf.x (pc := 8) [.int (Int32.ofInt a0_)] [] l_T_143 (u_Sorts_hasSortX l d_ Mz (hf.w hW) a0_ ha0_a ha0_b) rfl rfl ((hf.w hW).kr (o := 12) (by decide)) (by decide) (by decide) (Nat.le_of_ble_eq_true rfl) (zdal_p dlB_T_pairs_58 (i := 4) rfl) ?_
  rintro _ N1_ ⟨v2_, rfl, ⟨hv2_a, hv2_b⟩, hsN1_, hp0_N1_⟩
  obtain rfl := hsN1_.eq.symm
  replace hp0_N1_ : (v2_ = 0 ∨ v2_ = 1) := hp0_N1_
  show zW l m_T_pairs (zn Mz + 0, zw Mz + 0) Mz 11 [some (.ref 0), some (.int (Int32.ofInt a0_)), some (.int (Int32.ofInt a1_))] [.int (Int32.ofInt v2_)] _
  refine zr_if_eq (pc := 11) (tgt := 28) ⟨hv2_a, hv2_b⟩ (by decide) (zdal_p dlB_T_pairs_58 (i := 5) rfl) (fun hc_11 => ?_) (fun hc_11 => ?_)
  · skip
    refine zw_iconst (pc := 28) (v := Int32.ofInt (-1)) (by decide) (zdal_p dlB_T_pairs_58 (i := 12) rfl) ?_
    exact zk_iret (pc := 29) (ty := .int) rfl rfl ⟨by omega, by omega⟩ hf trivial (zdal_p dlB_T_pairs_58 (i := 13) rfl)
  · skip
    refine zw_aload_n (pc := 14) (n := 0) (x := 0) rfl (zdal_p dlB_T_pairs_58 (i := 6) rfl) ?_
    refine zw_getF (pc := 15) f_T_28 rfl ((hf.w hW).ka (o := 0) (by decide)) (hf.now hnow) (zdal_p dlB_T_pairs_58 (i := 7) rfl) ?_
    refine zw_getF (pc := 18) f_T_85 rfl ((hf.w hW).kr (o := 0) (by decide)) ((hf.w hW).lr (o := 0) (s := 1) (r := 12) (by decide)) (zdal_p dlB_T_pairs_58 (i := 8) rfl) ?_
    refine zw_iload_n (pc := 21) (n := 2) (x := Int32.ofInt a1_) rfl (zdal_p dlB_T_pairs_58 (i := 9) rfl) ?_
    refine zk_callV hf.x (pc := 22) [.int (Int32.ofInt a1_)] [] l_T_143 (u_Sorts_hasSortX l d_ Mz (hf.w hW) a1_ ha1_a ha1_b) rfl rfl ((hf.w hW).kr (o := 12) (by decide)) (by decide) (by decide) (Nat.le_of_ble_eq_true rfl) (zdal_p dlB_T_pairs_58 (i := 10) rfl) ?_
    rintro _ N3_ ⟨v4_, rfl, ⟨hv4_a, hv4_b⟩, hsN3_, hp0_N3_⟩
    obtain rfl := hsN3_.eq.symm
    replace hp0_N3_ : (v4_ = 0 ∨ v4_ = 1) := hp0_N3_
    show zW l m_T_pairs (zn Mz + 0, zw Mz + 0) Mz 25 [some (.ref 0), some (.int (Int32.ofInt a0_)), some (.int (Int32.ofInt a1_))] [.int (Int32.ofInt v4_)] _
    refine zr_if_ne (pc := 25) (tgt := 30) ⟨hv4_a, hv4_b⟩ (by decide) (zdal_p dlB_T_pairs_58 (i := 11) rfl) (fun hc_25 => ?_) (fun hc_25 => ?_)
    · skip
      refine zw_aload_n (pc := 30) (n := 0) (x := 0) rfl (zdal_p dlB_T_pairs_58 (i := 14) rfl) ?_
      refine zw_getF (pc := 31) f_T_28 rfl ((hf.w hW).ka (o := 0) (by decide)) (hf.now hnow) (zdal_p dlB_T_pairs_58 (i := 15) rfl) ?_
      refine zw_getF (pc := 34) f_T_169 rfl ((hf.w hW).kr (o := 0) (by decide)) ((hf.w hW).lr (o := 0) (s := 2) (r := 23) (by decide)) (zdal_p dlB_T_pairs_58 (i := 16) rfl) ?_
      refine zw_iload_n (pc := 37) (n := 1) (x := Int32.ofInt a0_) rfl (zdal_p dlB_T_pairs_58 (i := 17) rfl) ?_
      refine zw_iload_n (pc := 38) (n := 2) (x := Int32.ofInt a1_) rfl (zdal_p dlB_T_pairs_58 (i := 18) rfl) ?_
      refine zk_callV hf.x (pc := 39) [.int (Int32.ofInt a0_), .int (Int32.ofInt a1_)] [] l_T_173 (u_Sums_putProductX l d_ Mz (hf.w hW) a0_ ha0_a ha0_b a1_ ha1_a ha1_b) rfl rfl ((hf.w hW).kr (o := 23) (by decide)) (by decide) (by decide) (Nat.le_of_ble_eq_true rfl) (zdal_p dlB_T_pairs_58 (i := 19) rfl) ?_
      rintro _ N5_ ⟨rfl, hsN5_, -⟩
      have hf_N5_ : zFc d_ [] [] [] [25, 27] Mz N5_ := hf.tr hsN5_ (by decide) (by decide) (by decide) (by decide)
      show zW l m_T_pairs (zn Mz + 0, zw Mz + 0) N5_ 42 [some (.ref 0), some (.int (Int32.ofInt a0_)), some (.int (Int32.ofInt a1_))] [] _
      refine zw_aload_n (pc := 42) (n := 0) (x := 0) rfl (zdal_p dlB_T_pairs_58 (i := 20) rfl) ?_
      refine zw_getF (pc := 43) f_T_28 rfl ((hf_N5_.w hW).ka (o := 0) (by decide)) (hf_N5_.now hnow) (zdal_p dlB_T_pairs_58 (i := 21) rfl) ?_
      refine zw_getF (pc := 46) f_T_169 rfl ((hf_N5_.w hW).kr (o := 0) (by decide)) ((hf_N5_.w hW).lr (o := 0) (s := 2) (r := 23) (by decide)) (zdal_p dlB_T_pairs_58 (i := 22) rfl) ?_
      refine zk_callV hf_N5_.x (pc := 49) [] [] l_T_211 (u_Sums_totalOfWorkX l d_ N5_ (hf_N5_.w hW) ) rfl rfl ((hf_N5_.w hW).kr (o := 23) (by decide)) (by decide) (by decide) (Nat.le_of_ble_eq_true rfl) (zdal_p dlB_T_pairs_58 (i := 23) rfl) ?_
      rintro _ N7_ ⟨v8_, rfl, ⟨hv8_a, hv8_b⟩, hsN7_, -⟩
      obtain rfl := hsN7_.eq.symm
      show zW l m_T_pairs (zn Mz + 0, zw Mz + 0) N5_ 52 [some (.ref 0), some (.int (Int32.ofInt a0_)), some (.int (Int32.ofInt a1_))] [.int (Int32.ofInt v8_)] _
      exact zk_iret (pc := 52) (ty := .int) rfl rfl ⟨by omega, by omega⟩ hf_N5_ trivial (zdal_p dlB_T_pairs_59 (i := 0) rfl)
    · skip
      refine zw_iconst (pc := 28) (v := Int32.ofInt (-1)) (by decide) (zdal_p dlB_T_pairs_58 (i := 12) rfl) ?_
      exact zk_iret (pc := 29) (ty := .int) rfl rfl ⟨by omega, by omega⟩ hf trivial (zdal_p dlB_T_pairs_58 (i := 13) rfl)
set_option maxHeartbeats 4000000 in
theorem u_Group_commutingPairsX (l : Launch) (d_ : Nat) (Mz : zMem) (hW : zKW d_ Mz) : zC l m_Group_commutingPairs 0 0 [.ref (d_ + 1)] Mz (zqcI d_ [] [] [] [] Mz (fun v N => True)) := by
  refine zC_of (L0 := [some (.ref (d_ + 1)), none, none]) md_Group_commutingPairs (Nat.le_of_ble_eq_true rfl) rfl ?_ zQ0
  have hf : zFc d_ [] [] [] [] Mz Mz := zFc.rf
  refine zw_iconst (pc := 0) (v := Int32.ofInt 0) (by decide) (zdal_p dlB_Group_commutingPairs_62 (i := 0) rfl) ?_
  refine zw_istore_n (pc := 1) (i := 1) (L2 := [some (.ref (d_ + 1)), some (.int (Int32.ofInt 0)), none]) rfl (by decide) rfl (zdal_p dlB_Group_commutingPairs_62 (i := 1) rfl) ?_
  refine zw_iconst (pc := 2) (v := Int32.ofInt 0) (by decide) (zdal_p dlB_Group_commutingPairs_62 (i := 2) rfl) ?_
  refine zw_istore_n (pc := 3) (i := 2) (L2 := [some (.ref (d_ + 1)), some (.int (Int32.ofInt 0)), some (.int (Int32.ofInt 0))]) rfl (by decide) rfl (zdal_p dlB_Group_commutingPairs_62 (i := 3) rfl) ?_
  have lp_4 : ∀ (n : Nat) (u1_ : Int) (hu1_a : -2147483648 ≤ u1_) (hu1_b : u1_ < 2147483648) (u2_ : Int) (hu2_a : -2147483648 ≤ u2_) (hu2_b : u2_ < 2147483648) (i3_ : 0 ≤ u2_), (ze Mz (d_ + 1) 7 - u2_).toNat < n → zW l m_Group_commutingPairs (zn Mz + 0, zw Mz + 0) Mz 4 [some (.ref (d_ + 1)), some (.int (Int32.ofInt u1_)), some (.int (Int32.ofInt u2_))] [] (zqcI d_ [] [] [] [] Mz (fun v N => True)) := by
    intro n
    induction n with
    | zero =>
      intro u1_ hu1_a hu1_b u2_ hu2_a hu2_b i3_ h0
      exact absurd h0 (Nat.not_lt_zero _)
    | succ n ih_4 =>
      intro u1_ hu1_a hu1_b u2_ hu2_a hu2_b i3_ hlt_4
      refine zw_iload_n (pc := 4) (n := 2) (x := Int32.ofInt u2_) rfl (zdal_p dlB_Group_commutingPairs_62 (i := 4) rfl) ?_
      refine zw_aload_n (pc := 5) (n := 0) (x := (d_ + 1)) rfl (zdal_p dlB_Group_commutingPairs_62 (i := 5) rfl) ?_
      refine zk_getI (pc := 6) f_Group_39 rfl ((hf.w hW).kr (o := 1) (by decide)) (zdal_p dlB_Group_commutingPairs_62 (i := 6) rfl) ?_
      have hr4_ := ze_r Mz (d_ + 1) 7
      refine zr_icmp_ge (pc := 9) (tgt := 33) ⟨hu2_a, hu2_b⟩ ⟨(ze_r Mz (d_ + 1) 7).1, (ze_r Mz (d_ + 1) 7).2⟩ (by decide) (zdal_p dlB_Group_commutingPairs_62 (i := 7) rfl) (fun hc_9 => ?_) (fun hc_9 => ?_)
      · skip
        refine zw_iload_n (pc := 33) (n := 1) (x := Int32.ofInt u1_) rfl (zdal_p dlB_Group_commutingPairs_62 (i := 19) rfl) ?_
        exact zk_iret (pc := 34) (ty := .int) rfl rfl ⟨by omega, by omega⟩ hf trivial (zdal_p dlB_Group_commutingPairs_62 (i := 20) rfl)
      · skip
        refine zw_iload_n (pc := 12) (n := 1) (x := Int32.ofInt u1_) rfl (zdal_p dlB_Group_commutingPairs_62 (i := 8) rfl) ?_
        refine zw_aload_n (pc := 13) (n := 0) (x := (d_ + 1)) rfl (zdal_p dlB_Group_commutingPairs_62 (i := 9) rfl) ?_
        refine zw_iload_n (pc := 14) (n := 2) (x := Int32.ofInt u2_) rfl (zdal_p dlB_Group_commutingPairs_62 (i := 10) rfl) ?_
        refine zw_aload_n (pc := 15) (n := 0) (x := (d_ + 1)) rfl (zdal_p dlB_Group_commutingPairs_62 (i := 11) rfl) ?_
        refine zk_callV hf.x (pc := 16) [] [.int (Int32.ofInt u2_), .ref (d_ + 1), .int (Int32.ofInt u1_)] l_Group_93 (u_Group_everyoneX l d_ Mz (hf.w hW) ) rfl rfl ((hf.w hW).kr (o := 1) (by decide)) (by decide) (by decide) (Nat.le_of_ble_eq_true rfl) (zdal_p dlB_Group_commutingPairs_62 (i := 12) rfl) ?_
        rintro _ N5_ ⟨v6_, rfl, ⟨hv6_a, hv6_b⟩, hsN5_, -⟩
        obtain rfl := hsN5_.eq.symm
        show zW l m_Group_commutingPairs (zn Mz + 0, zw Mz + 0) Mz 19 [some (.ref (d_ + 1)), some (.int (Int32.ofInt u1_)), some (.int (Int32.ofInt u2_))] [.int (Int32.ofInt v6_), .int (Int32.ofInt u2_), .ref (d_ + 1), .int (Int32.ofInt u1_)] _
        refine zk_callV hf.x (pc := 19) [.int (Int32.ofInt u2_), .int (Int32.ofInt v6_)] [.int (Int32.ofInt u1_)] l_Group_97 (u_Group_commutingWithX l d_ Mz (hf.w hW) u2_ hu2_a hu2_b v6_ hv6_a hv6_b) rfl rfl ((hf.w hW).kr (o := 1) (by decide)) (by decide) (by decide) (Nat.le_of_ble_eq_true rfl) (zdal_p dlB_Group_commutingPairs_62 (i := 13) rfl) ?_
        rintro _ N7_ ⟨v8_, rfl, ⟨hv8_a, hv8_b⟩, hsN7_, -⟩
        obtain rfl := hsN7_.eq.symm
        show zW l m_Group_commutingPairs (zn Mz + 0, zw Mz + 0) Mz 22 [some (.ref (d_ + 1)), some (.int (Int32.ofInt u1_)), some (.int (Int32.ofInt u2_))] [.int (Int32.ofInt v8_), .int (Int32.ofInt u1_)] _
        refine zr_callS hf.x (pc := 22) [.int (Int32.ofInt v8_)] [.int (Int32.ofInt u1_)] l_Group_83 (u_Integer_bitCountX l d_ Mz (hf.w hW) v8_ hv8_a hv8_b) rfl rfl (by decide) (Nat.le_of_ble_eq_true rfl) (zdal_p dlB_Group_commutingPairs_62 (i := 14) rfl) ?_
        rintro _ N9_ ⟨v10_, rfl, ⟨hv10_a, hv10_b⟩, hsN9_, ⟨hp0_N9_, hp1_N9_⟩⟩
        obtain rfl := hsN9_.eq.symm
        show zW l m_Group_commutingPairs (zn Mz + 0, zw Mz + 0) Mz 25 [some (.ref (d_ + 1)), some (.int (Int32.ofInt u1_)), some (.int (Int32.ofInt u2_))] [.int (Int32.ofInt v10_), .int (Int32.ofInt u1_)] _
        refine zr_iadd (pc := 25) (zdal_p dlB_Group_commutingPairs_62 (i := 15) rfl) ?_
        refine zr_nmI (fun v11_ hv11_ => ?_)
        obtain ⟨hv11_a, hv11_b⟩ := hv11_
        refine zw_istore_n (pc := 26) (i := 1) (L2 := [some (.ref (d_ + 1)), some (.int (Int32.ofInt v11_)), some (.int (Int32.ofInt u2_))]) rfl (by decide) rfl (zdal_p dlB_Group_commutingPairs_62 (i := 16) rfl) ?_
        refine zr_iinc (pc := 27) (i := 2) (a := u2_) (n := 1) (L2 := [some (.ref (d_ + 1)), some (.int (Int32.ofInt v11_)), some (.int (Int32.ofInt (u2_ + 1)))]) rfl (by decide) rfl (zdal_p dlB_Group_commutingPairs_62 (i := 17) rfl) ?_
        obtain ⟨v12_, hv12_a, hv12_b, hv12_e, hv12_d⟩ := zk_gen (u2_ + 1)
        rw [hv12_e]
        refine zw_goto (pc := 30) (tgt := 4) (by decide) (zdal_p dlB_Group_commutingPairs_62 (i := 18) rfl) ?_
        exact ih_4 v11_ hv11_a hv11_b v12_ hv12_a hv12_b (show 0 ≤ v12_ by first | with_reducible assumption | assumption | omega) (by omega)
  exact lp_4 _ 0 (by decide) (by decide) 0 (by decide) (by decide) (show 0 ≤ (0 : Int) by first | with_reducible assumption | assumption | omega) (Nat.lt_succ_self _)
set_option maxHeartbeats 4000000 in
theorem u_T_alikeX (l : Launch) (d_ : Nat) (Mz : zMem) (hW : zKW d_ Mz) (hnow : zf Mz 0 2 = some (d_ + 0)) : zC l m_T_alike 0 0 [.ref 0] Mz (zqcI d_ [] [] [] [] Mz (fun v N => True)) := by
  refine zC_of (L0 := [some (.ref 0)]) md_T_alike (Nat.le_of_ble_eq_true rfl) rfl ?_ zQ0
  have hf : zFc d_ [] [] [] [] Mz Mz := zFc.rf
  refine zw_aload_n (pc := 0) (n := 0) (x := 0) rfl (zdal_p dlB_T_alike_61 (i := 0) rfl) ?_
  refine zw_getF (pc := 1) f_T_28 rfl ((hf.w hW).ka (o := 0) (by decide)) (hf.now hnow) (zdal_p dlB_T_alike_61 (i := 1) rfl) ?_
  refine zw_getF (pc := 4) f_T_61 rfl ((hf.w hW).kr (o := 0) (by decide)) ((hf.w hW).lr (o := 0) (s := 0) (r := 1) (by decide)) (zdal_p dlB_T_alike_61 (i := 2) rfl) ?_
  refine zk_callV hf.x (pc := 7) [] [] l_T_214 (u_Group_commutingPairsX l d_ Mz (hf.w hW) ) rfl rfl ((hf.w hW).kr (o := 1) (by decide)) (by decide) (by decide) (Nat.le_of_ble_eq_true rfl) (zdal_p dlB_T_alike_61 (i := 3) rfl) ?_
  rintro _ N1_ ⟨v2_, rfl, ⟨hv2_a, hv2_b⟩, hsN1_, -⟩
  obtain rfl := hsN1_.eq.symm
  show zW l m_T_alike (zn Mz + 0, zw Mz + 0) Mz 10 [some (.ref 0)] [.int (Int32.ofInt v2_)] _
  exact zk_iret (pc := 10) (ty := .int) rfl rfl ⟨by omega, by omega⟩ hf trivial (zdal_p dlB_T_alike_61 (i := 4) rfl)
set_option maxHeartbeats 4000000 in
theorem u_T_meetX (l : Launch) (d_ : Nat) (Mz : zMem) (hW : zKW d_ Mz) (hnow : zf Mz 0 2 = some (d_ + 0)) (a0_ : Int) (ha0_a : -2147483648 ≤ a0_) (ha0_b : a0_ < 2147483648) (a1_ : Int) (ha1_a : -2147483648 ≤ a1_) (ha1_b : a1_ < 2147483648) : zC l m_T_meet 0 0 [.ref 0, .int (Int32.ofInt a0_), .int (Int32.ofInt a1_)] Mz (zqcI d_ [] [] [] [11] Mz (fun v N => True)) := by
  refine zC_of (L0 := [some (.ref 0), some (.int (Int32.ofInt a0_)), some (.int (Int32.ofInt a1_)), none]) md_T_meet (Nat.le_of_ble_eq_true rfl) rfl ?_ zQ0
  have hf : zFc d_ [] [] [] [11] Mz Mz := zFc.rf
  refine zw_aload_n (pc := 0) (n := 0) (x := 0) rfl (zdal_p dlB_T_meet_63 (i := 0) rfl) ?_
  refine zw_getF (pc := 1) f_T_28 rfl ((hf.w hW).ka (o := 0) (by decide)) (hf.now hnow) (zdal_p dlB_T_meet_63 (i := 1) rfl) ?_
  refine zw_getF (pc := 4) f_T_85 rfl ((hf.w hW).kr (o := 0) (by decide)) ((hf.w hW).lr (o := 0) (s := 1) (r := 12) (by decide)) (zdal_p dlB_T_meet_63 (i := 2) rfl) ?_
  refine zw_astore_n (pc := 7) (i := 3) (L2 := [some (.ref 0), some (.int (Int32.ofInt a0_)), some (.int (Int32.ofInt a1_)), some (.ref (d_ + 12))]) rfl (by decide) rfl (zdal_p dlB_T_meet_63 (i := 3) rfl) ?_
  refine zw_aload_n (pc := 8) (n := 3) (x := (d_ + 12)) rfl (zdal_p dlB_T_meet_63 (i := 4) rfl) ?_
  refine zw_iload_n (pc := 9) (n := 1) (x := Int32.ofInt a0_) rfl (zdal_p dlB_T_meet_63 (i := 5) rfl) ?_
  refine zk_callV hf.x (pc := 10) [.int (Int32.ofInt a0_)] [] l_T_143 (u_Sorts_hasSortX l d_ Mz (hf.w hW) a0_ ha0_a ha0_b) rfl rfl ((hf.w hW).kr (o := 12) (by decide)) (by decide) (by decide) (Nat.le_of_ble_eq_true rfl) (zdal_p dlB_T_meet_63 (i := 6) rfl) ?_
  rintro _ N1_ ⟨v2_, rfl, ⟨hv2_a, hv2_b⟩, hsN1_, hp0_N1_⟩
  obtain rfl := hsN1_.eq.symm
  replace hp0_N1_ : (v2_ = 0 ∨ v2_ = 1) := hp0_N1_
  show zW l m_T_meet (zn Mz + 0, zw Mz + 0) Mz 13 [some (.ref 0), some (.int (Int32.ofInt a0_)), some (.int (Int32.ofInt a1_)), some (.ref (d_ + 12))] [.int (Int32.ofInt v2_)] _
  refine zr_if_eq (pc := 13) (tgt := 24) ⟨hv2_a, hv2_b⟩ (by decide) (zdal_p dlB_T_meet_63 (i := 7) rfl) (fun hc_13 => ?_) (fun hc_13 => ?_)
  · skip
    refine zw_iconst (pc := 24) (v := Int32.ofInt (-1)) (by decide) (zdal_p dlB_T_meet_63 (i := 12) rfl) ?_
    exact zk_iret (pc := 25) (ty := .int) rfl rfl ⟨by omega, by omega⟩ hf trivial (zdal_p dlB_T_meet_63 (i := 13) rfl)
  · skip
    refine zw_aload_n (pc := 16) (n := 3) (x := (d_ + 12)) rfl (zdal_p dlB_T_meet_63 (i := 8) rfl) ?_
    refine zw_iload_n (pc := 17) (n := 2) (x := Int32.ofInt a1_) rfl (zdal_p dlB_T_meet_63 (i := 9) rfl) ?_
    refine zk_callV hf.x (pc := 18) [.int (Int32.ofInt a1_)] [] l_T_143 (u_Sorts_hasSortX l d_ Mz (hf.w hW) a1_ ha1_a ha1_b) rfl rfl ((hf.w hW).kr (o := 12) (by decide)) (by decide) (by decide) (Nat.le_of_ble_eq_true rfl) (zdal_p dlB_T_meet_63 (i := 10) rfl) ?_
    rintro _ N3_ ⟨v4_, rfl, ⟨hv4_a, hv4_b⟩, hsN3_, hp0_N3_⟩
    obtain rfl := hsN3_.eq.symm
    replace hp0_N3_ : (v4_ = 0 ∨ v4_ = 1) := hp0_N3_
    show zW l m_T_meet (zn Mz + 0, zw Mz + 0) Mz 21 [some (.ref 0), some (.int (Int32.ofInt a0_)), some (.int (Int32.ofInt a1_)), some (.ref (d_ + 12))] [.int (Int32.ofInt v4_)] _
    refine zr_if_ne (pc := 21) (tgt := 26) ⟨hv4_a, hv4_b⟩ (by decide) (zdal_p dlB_T_meet_63 (i := 11) rfl) (fun hc_21 => ?_) (fun hc_21 => ?_)
    · skip
      refine zw_aload_n (pc := 26) (n := 3) (x := (d_ + 12)) rfl (zdal_p dlB_T_meet_63 (i := 14) rfl) ?_
      refine zw_aload_n (pc := 27) (n := 3) (x := (d_ + 12)) rfl (zdal_p dlB_T_meet_63 (i := 15) rfl) ?_
      refine zw_getF (pc := 28) f_T_146 rfl ((hf.w hW).kr (o := 12) (by decide)) ((hf.w hW).lr (o := 12) (s := 4) (r := 19) (by decide)) (zdal_p dlB_T_meet_63 (i := 16) rfl) ?_
      refine zw_iload_n (pc := 31) (n := 1) (x := Int32.ofInt a0_) rfl (zdal_p dlB_T_meet_63 (i := 17) rfl) ?_
      refine zk_atG hf.x (pc := 32) l_T_118 ((hf.w hW).kr (o := 19) (by decide)) ((hf.w hW).lr (o := 19) (s := 0) (r := 20) (by decide)) ((hf.w hW).rr (o := 20) (t := 1) (n := 27) (by decide)) (by decide) ⟨by omega, by omega⟩ (by decide) (Nat.le_of_ble_eq_true rfl) (zdal_p dlB_T_meet_63 (i := 18) rfl) (fun v5_ hv5_ hv5_a hv5_b => ?_)
      clear hv5_
      refine zw_aload_n (pc := 35) (n := 3) (x := (d_ + 12)) rfl (zdal_p dlB_T_meet_63 (i := 19) rfl) ?_
      refine zw_getF (pc := 36) f_T_146 rfl ((hf.w hW).kr (o := 12) (by decide)) ((hf.w hW).lr (o := 12) (s := 4) (r := 19) (by decide)) (zdal_p dlB_T_meet_63 (i := 20) rfl) ?_
      refine zw_iload_n (pc := 39) (n := 2) (x := Int32.ofInt a1_) rfl (zdal_p dlB_T_meet_63 (i := 21) rfl) ?_
      refine zk_atG hf.x (pc := 40) l_T_118 ((hf.w hW).kr (o := 19) (by decide)) ((hf.w hW).lr (o := 19) (s := 0) (r := 20) (by decide)) ((hf.w hW).rr (o := 20) (t := 1) (n := 27) (by decide)) (by decide) ⟨by omega, by omega⟩ (by decide) (Nat.le_of_ble_eq_true rfl) (zdal_p dlB_T_meet_63 (i := 22) rfl) (fun v6_ hv6_ hv6_a hv6_b => ?_)
      clear hv6_
      refine zr_iand (pc := 43) (zdal_p dlB_T_meet_63 (i := 23) rfl) ?_
      have hr7_ := zand_r v5_ v6_
      refine zr_nmI (fun v8_ hv8_ => ?_)
      obtain ⟨hv8_a, hv8_b⟩ := hv8_
      refine zk_callV hf.x (pc := 44) [.int (Int32.ofInt v8_)] [] l_T_140 (u_Sorts_spannedSortX l d_ Mz (hf.w hW) v8_ hv8_a hv8_b) rfl rfl ((hf.w hW).kr (o := 12) (by decide)) (by decide) (by decide) (Nat.le_of_ble_eq_true rfl) (zdal_p dlB_T_meet_64 (i := 0) rfl) ?_
      rintro _ N9_ ⟨v10_, rfl, ⟨hv10_a, hv10_b⟩, hsN9_, -⟩
      have hf_N9_ : zFc d_ [] [] [] [11] Mz N9_ := hf.tr hsN9_ (by decide) (by decide) (by decide) (by decide)
      show zW l m_T_meet (zn Mz + 0, zw Mz + 0) N9_ 47 [some (.ref 0), some (.int (Int32.ofInt a0_)), some (.int (Int32.ofInt a1_)), some (.ref (d_ + 12))] [.int (Int32.ofInt v10_)] _
      exact zk_iret (pc := 47) (ty := .int) rfl rfl ⟨by omega, by omega⟩ hf_N9_ trivial (zdal_p dlB_T_meet_64 (i := 1) rfl)
    · skip
      refine zw_iconst (pc := 24) (v := Int32.ofInt (-1)) (by decide) (zdal_p dlB_T_meet_63 (i := 12) rfl) ?_
      exact zk_iret (pc := 25) (ty := .int) rfl rfl ⟨by omega, by omega⟩ hf trivial (zdal_p dlB_T_meet_63 (i := 13) rfl)
set_option maxHeartbeats 4000000 in
theorem u_T_joinX (l : Launch) (d_ : Nat) (Mz : zMem) (hW : zKW d_ Mz) (hnow : zf Mz 0 2 = some (d_ + 0)) (a0_ : Int) (ha0_a : -2147483648 ≤ a0_) (ha0_b : a0_ < 2147483648) (a1_ : Int) (ha1_a : -2147483648 ≤ a1_) (ha1_b : a1_ < 2147483648) : zC l m_T_join 0 0 [.ref 0, .int (Int32.ofInt a0_), .int (Int32.ofInt a1_)] Mz (zqcI d_ [] [] [] [11] Mz (fun v N => True)) := by
  refine zC_of (L0 := [some (.ref 0), some (.int (Int32.ofInt a0_)), some (.int (Int32.ofInt a1_)), none]) md_T_join (Nat.le_of_ble_eq_true rfl) rfl ?_ zQ0
  have hf : zFc d_ [] [] [] [11] Mz Mz := zFc.rf
  refine zw_aload_n (pc := 0) (n := 0) (x := 0) rfl (zdal_p dlB_T_join_65 (i := 0) rfl) ?_
  refine zw_getF (pc := 1) f_T_28 rfl ((hf.w hW).ka (o := 0) (by decide)) (hf.now hnow) (zdal_p dlB_T_join_65 (i := 1) rfl) ?_
  refine zw_getF (pc := 4) f_T_85 rfl ((hf.w hW).kr (o := 0) (by decide)) ((hf.w hW).lr (o := 0) (s := 1) (r := 12) (by decide)) (zdal_p dlB_T_join_65 (i := 2) rfl) ?_
  refine zw_astore_n (pc := 7) (i := 3) (L2 := [some (.ref 0), some (.int (Int32.ofInt a0_)), some (.int (Int32.ofInt a1_)), some (.ref (d_ + 12))]) rfl (by decide) rfl (zdal_p dlB_T_join_65 (i := 3) rfl) ?_
  refine zw_aload_n (pc := 8) (n := 3) (x := (d_ + 12)) rfl (zdal_p dlB_T_join_65 (i := 4) rfl) ?_
  refine zw_iload_n (pc := 9) (n := 1) (x := Int32.ofInt a0_) rfl (zdal_p dlB_T_join_65 (i := 5) rfl) ?_
  refine zk_callV hf.x (pc := 10) [.int (Int32.ofInt a0_)] [] l_T_143 (u_Sorts_hasSortX l d_ Mz (hf.w hW) a0_ ha0_a ha0_b) rfl rfl ((hf.w hW).kr (o := 12) (by decide)) (by decide) (by decide) (Nat.le_of_ble_eq_true rfl) (zdal_p dlB_T_join_65 (i := 6) rfl) ?_
  rintro _ N1_ ⟨v2_, rfl, ⟨hv2_a, hv2_b⟩, hsN1_, hp0_N1_⟩
  obtain rfl := hsN1_.eq.symm
  replace hp0_N1_ : (v2_ = 0 ∨ v2_ = 1) := hp0_N1_
  show zW l m_T_join (zn Mz + 0, zw Mz + 0) Mz 13 [some (.ref 0), some (.int (Int32.ofInt a0_)), some (.int (Int32.ofInt a1_)), some (.ref (d_ + 12))] [.int (Int32.ofInt v2_)] _
  refine zr_if_eq (pc := 13) (tgt := 24) ⟨hv2_a, hv2_b⟩ (by decide) (zdal_p dlB_T_join_65 (i := 7) rfl) (fun hc_13 => ?_) (fun hc_13 => ?_)
  · skip
    refine zw_iconst (pc := 24) (v := Int32.ofInt (-1)) (by decide) (zdal_p dlB_T_join_65 (i := 12) rfl) ?_
    exact zk_iret (pc := 25) (ty := .int) rfl rfl ⟨by omega, by omega⟩ hf trivial (zdal_p dlB_T_join_65 (i := 13) rfl)
  · skip
    refine zw_aload_n (pc := 16) (n := 3) (x := (d_ + 12)) rfl (zdal_p dlB_T_join_65 (i := 8) rfl) ?_
    refine zw_iload_n (pc := 17) (n := 2) (x := Int32.ofInt a1_) rfl (zdal_p dlB_T_join_65 (i := 9) rfl) ?_
    refine zk_callV hf.x (pc := 18) [.int (Int32.ofInt a1_)] [] l_T_143 (u_Sorts_hasSortX l d_ Mz (hf.w hW) a1_ ha1_a ha1_b) rfl rfl ((hf.w hW).kr (o := 12) (by decide)) (by decide) (by decide) (Nat.le_of_ble_eq_true rfl) (zdal_p dlB_T_join_65 (i := 10) rfl) ?_
    rintro _ N3_ ⟨v4_, rfl, ⟨hv4_a, hv4_b⟩, hsN3_, hp0_N3_⟩
    obtain rfl := hsN3_.eq.symm
    replace hp0_N3_ : (v4_ = 0 ∨ v4_ = 1) := hp0_N3_
    show zW l m_T_join (zn Mz + 0, zw Mz + 0) Mz 21 [some (.ref 0), some (.int (Int32.ofInt a0_)), some (.int (Int32.ofInt a1_)), some (.ref (d_ + 12))] [.int (Int32.ofInt v4_)] _
    refine zr_if_ne (pc := 21) (tgt := 26) ⟨hv4_a, hv4_b⟩ (by decide) (zdal_p dlB_T_join_65 (i := 11) rfl) (fun hc_21 => ?_) (fun hc_21 => ?_)
    · skip
      refine zw_aload_n (pc := 26) (n := 3) (x := (d_ + 12)) rfl (zdal_p dlB_T_join_65 (i := 14) rfl) ?_
      refine zw_aload_n (pc := 27) (n := 3) (x := (d_ + 12)) rfl (zdal_p dlB_T_join_65 (i := 15) rfl) ?_
      refine zw_getF (pc := 28) f_T_146 rfl ((hf.w hW).kr (o := 12) (by decide)) ((hf.w hW).lr (o := 12) (s := 4) (r := 19) (by decide)) (zdal_p dlB_T_join_65 (i := 16) rfl) ?_
      refine zw_iload_n (pc := 31) (n := 1) (x := Int32.ofInt a0_) rfl (zdal_p dlB_T_join_65 (i := 17) rfl) ?_
      refine zk_atG hf.x (pc := 32) l_T_118 ((hf.w hW).kr (o := 19) (by decide)) ((hf.w hW).lr (o := 19) (s := 0) (r := 20) (by decide)) ((hf.w hW).rr (o := 20) (t := 1) (n := 27) (by decide)) (by decide) ⟨by omega, by omega⟩ (by decide) (Nat.le_of_ble_eq_true rfl) (zdal_p dlB_T_join_65 (i := 18) rfl) (fun v5_ hv5_ hv5_a hv5_b => ?_)
      clear hv5_
      refine zw_aload_n (pc := 35) (n := 3) (x := (d_ + 12)) rfl (zdal_p dlB_T_join_65 (i := 19) rfl) ?_
      refine zw_getF (pc := 36) f_T_146 rfl ((hf.w hW).kr (o := 12) (by decide)) ((hf.w hW).lr (o := 12) (s := 4) (r := 19) (by decide)) (zdal_p dlB_T_join_65 (i := 20) rfl) ?_
      refine zw_iload_n (pc := 39) (n := 2) (x := Int32.ofInt a1_) rfl (zdal_p dlB_T_join_65 (i := 21) rfl) ?_
      refine zk_atG hf.x (pc := 40) l_T_118 ((hf.w hW).kr (o := 19) (by decide)) ((hf.w hW).lr (o := 19) (s := 0) (r := 20) (by decide)) ((hf.w hW).rr (o := 20) (t := 1) (n := 27) (by decide)) (by decide) ⟨by omega, by omega⟩ (by decide) (Nat.le_of_ble_eq_true rfl) (zdal_p dlB_T_join_65 (i := 22) rfl) (fun v6_ hv6_ hv6_a hv6_b => ?_)
      clear hv6_
      refine zr_ior (pc := 43) (zdal_p dlB_T_join_65 (i := 23) rfl) ?_
      have hr7_ := zor_r v5_ v6_
      refine zr_nmI (fun v8_ hv8_ => ?_)
      obtain ⟨hv8_a, hv8_b⟩ := hv8_
      refine zk_callV hf.x (pc := 44) [.int (Int32.ofInt v8_)] [] l_T_140 (u_Sorts_spannedSortX l d_ Mz (hf.w hW) v8_ hv8_a hv8_b) rfl rfl ((hf.w hW).kr (o := 12) (by decide)) (by decide) (by decide) (Nat.le_of_ble_eq_true rfl) (zdal_p dlB_T_join_66 (i := 0) rfl) ?_
      rintro _ N9_ ⟨v10_, rfl, ⟨hv10_a, hv10_b⟩, hsN9_, -⟩
      have hf_N9_ : zFc d_ [] [] [] [11] Mz N9_ := hf.tr hsN9_ (by decide) (by decide) (by decide) (by decide)
      show zW l m_T_join (zn Mz + 0, zw Mz + 0) N9_ 47 [some (.ref 0), some (.int (Int32.ofInt a0_)), some (.int (Int32.ofInt a1_)), some (.ref (d_ + 12))] [.int (Int32.ofInt v10_)] _
      exact zk_iret (pc := 47) (ty := .int) rfl rfl ⟨by omega, by omega⟩ hf_N9_ trivial (zdal_p dlB_T_join_66 (i := 1) rfl)
    · skip
      refine zw_iconst (pc := 24) (v := Int32.ofInt (-1)) (by decide) (zdal_p dlB_T_join_65 (i := 12) rfl) ?_
      exact zk_iret (pc := 25) (ty := .int) rfl rfl ⟨by omega, by omega⟩ hf trivial (zdal_p dlB_T_join_65 (i := 13) rfl)
set_option maxHeartbeats 4000000 in
theorem u_Group_countRepeatingX (l : Launch) (d_ : Nat) (Mz : zMem) (hW : zKW d_ Mz) (a0_ : Int) (ha0_a : -2147483648 ≤ a0_) (ha0_b : a0_ < 2147483648) : zC l m_Group_countRepeating 0 0 [.ref (d_ + 1), .int (Int32.ofInt a0_)] Mz (zqcI d_ [] [] [] [] Mz (fun v N => True)) := by
  refine zC_of (L0 := [some (.ref (d_ + 1)), some (.int (Int32.ofInt a0_)), none, none]) md_Group_countRepeating (Nat.le_of_ble_eq_true rfl) rfl ?_ zQ0
  have hf : zFc d_ [] [] [] [] Mz Mz := zFc.rf
  refine zw_iconst (pc := 0) (v := Int32.ofInt 0) (by decide) (zdal_p dlB_Group_countRepeating_68 (i := 0) rfl) ?_
  refine zw_istore_n (pc := 1) (i := 2) (L2 := [some (.ref (d_ + 1)), some (.int (Int32.ofInt a0_)), some (.int (Int32.ofInt 0)), none]) rfl (by decide) rfl (zdal_p dlB_Group_countRepeating_68 (i := 1) rfl) ?_
  refine zw_iconst (pc := 2) (v := Int32.ofInt 0) (by decide) (zdal_p dlB_Group_countRepeating_68 (i := 2) rfl) ?_
  refine zw_istore_n (pc := 3) (i := 3) (L2 := [some (.ref (d_ + 1)), some (.int (Int32.ofInt a0_)), some (.int (Int32.ofInt 0)), some (.int (Int32.ofInt 0))]) rfl (by decide) rfl (zdal_p dlB_Group_countRepeating_68 (i := 3) rfl) ?_
  have lp_4 : ∀ (n : Nat) (u1_ : Int) (hu1_a : -2147483648 ≤ u1_) (hu1_b : u1_ < 2147483648) (u2_ : Int) (hu2_a : -2147483648 ≤ u2_) (hu2_b : u2_ < 2147483648) (i3_ : 0 ≤ u2_), (ze Mz (d_ + 1) 7 - u2_).toNat < n → zW l m_Group_countRepeating (zn Mz + 0, zw Mz + 0) Mz 4 [some (.ref (d_ + 1)), some (.int (Int32.ofInt a0_)), some (.int (Int32.ofInt u1_)), some (.int (Int32.ofInt u2_))] [] (zqcI d_ [] [] [] [] Mz (fun v N => True)) := by
    intro n
    induction n with
    | zero =>
      intro u1_ hu1_a hu1_b u2_ hu2_a hu2_b i3_ h0
      exact absurd h0 (Nat.not_lt_zero _)
    | succ n ih_4 =>
      intro u1_ hu1_a hu1_b u2_ hu2_a hu2_b i3_ hlt_4
      refine zw_iload_n (pc := 4) (n := 3) (x := Int32.ofInt u2_) rfl (zdal_p dlB_Group_countRepeating_68 (i := 4) rfl) ?_
      refine zw_aload_n (pc := 5) (n := 0) (x := (d_ + 1)) rfl (zdal_p dlB_Group_countRepeating_68 (i := 5) rfl) ?_
      refine zk_getI (pc := 6) f_Group_39 rfl ((hf.w hW).kr (o := 1) (by decide)) (zdal_p dlB_Group_countRepeating_68 (i := 6) rfl) ?_
      have hr4_ := ze_r Mz (d_ + 1) 7
      refine zr_icmp_ge (pc := 9) (tgt := 30) ⟨hu2_a, hu2_b⟩ ⟨(ze_r Mz (d_ + 1) 7).1, (ze_r Mz (d_ + 1) 7).2⟩ (by decide) (zdal_p dlB_Group_countRepeating_68 (i := 7) rfl) (fun hc_9 => ?_) (fun hc_9 => ?_)
      · skip
        refine zw_iload_n (pc := 30) (n := 2) (x := Int32.ofInt u1_) rfl (zdal_p dlB_Group_countRepeating_68 (i := 16) rfl) ?_
        exact zk_iret (pc := 31) (ty := .int) rfl rfl ⟨by omega, by omega⟩ hf trivial (zdal_p dlB_Group_countRepeating_68 (i := 17) rfl)
      · skip
        refine zw_aload_n (pc := 12) (n := 0) (x := (d_ + 1)) rfl (zdal_p dlB_Group_countRepeating_68 (i := 8) rfl) ?_
        refine zw_iload_n (pc := 13) (n := 3) (x := Int32.ofInt u2_) rfl (zdal_p dlB_Group_countRepeating_68 (i := 9) rfl) ?_
        refine zk_callV hf.x (pc := 14) [.int (Int32.ofInt u2_)] [] l_Group_70 (u_Group_repeatsOfX l d_ Mz (hf.w hW) u2_ hu2_a hu2_b) rfl rfl ((hf.w hW).kr (o := 1) (by decide)) (by decide) (by decide) (Nat.le_of_ble_eq_true rfl) (zdal_p dlB_Group_countRepeating_68 (i := 10) rfl) ?_
        rintro _ N5_ ⟨v6_, rfl, ⟨hv6_a, hv6_b⟩, hsN5_, -⟩
        obtain rfl := hsN5_.eq.symm
        show zW l m_Group_countRepeating (zn Mz + 0, zw Mz + 0) Mz 17 [some (.ref (d_ + 1)), some (.int (Int32.ofInt a0_)), some (.int (Int32.ofInt u1_)), some (.int (Int32.ofInt u2_))] [.int (Int32.ofInt v6_)] _
        refine zw_iload_n (pc := 17) (n := 1) (x := Int32.ofInt a0_) rfl (zdal_p dlB_Group_countRepeating_68 (i := 11) rfl) ?_
        refine zr_icmp_ne (pc := 18) (tgt := 24) ⟨hv6_a, hv6_b⟩ ⟨ha0_a, ha0_b⟩ (by decide) (zdal_p dlB_Group_countRepeating_68 (i := 12) rfl) (fun hc_18 => ?_) (fun hc_18 => ?_)
        · skip
          refine zr_iinc (pc := 24) (i := 3) (a := u2_) (n := 1) (L2 := [some (.ref (d_ + 1)), some (.int (Int32.ofInt a0_)), some (.int (Int32.ofInt u1_)), some (.int (Int32.ofInt (u2_ + 1)))]) rfl (by decide) rfl (zdal_p dlB_Group_countRepeating_68 (i := 14) rfl) ?_
          obtain ⟨v7_, hv7_a, hv7_b, hv7_e, hv7_d⟩ := zk_gen (u2_ + 1)
          rw [hv7_e]
          refine zw_goto (pc := 27) (tgt := 4) (by decide) (zdal_p dlB_Group_countRepeating_68 (i := 15) rfl) ?_
          exact ih_4 u1_ hu1_a hu1_b v7_ hv7_a hv7_b (show 0 ≤ v7_ by first | with_reducible assumption | assumption | omega) (by omega)
        · skip
          refine zr_iinc (pc := 21) (i := 2) (a := u1_) (n := 1) (L2 := [some (.ref (d_ + 1)), some (.int (Int32.ofInt a0_)), some (.int (Int32.ofInt (u1_ + 1))), some (.int (Int32.ofInt u2_))]) rfl (by decide) rfl (zdal_p dlB_Group_countRepeating_68 (i := 13) rfl) ?_
          obtain ⟨v8_, hv8_a, hv8_b, hv8_e, hv8_d⟩ := zk_gen (u1_ + 1)
          rw [hv8_e]
          refine zr_iinc (pc := 24) (i := 3) (a := u2_) (n := 1) (L2 := [some (.ref (d_ + 1)), some (.int (Int32.ofInt a0_)), some (.int (Int32.ofInt v8_)), some (.int (Int32.ofInt (u2_ + 1)))]) rfl (by decide) rfl (zdal_p dlB_Group_countRepeating_68 (i := 14) rfl) ?_
          obtain ⟨v9_, hv9_a, hv9_b, hv9_e, hv9_d⟩ := zk_gen (u2_ + 1)
          rw [hv9_e]
          refine zw_goto (pc := 27) (tgt := 4) (by decide) (zdal_p dlB_Group_countRepeating_68 (i := 15) rfl) ?_
          exact ih_4 v8_ hv8_a hv8_b v9_ hv9_a hv9_b (show 0 ≤ v9_ by first | with_reducible assumption | assumption | omega) (by omega)
  exact lp_4 _ 0 (by decide) (by decide) 0 (by decide) (by decide) (show 0 ≤ (0 : Int) by first | with_reducible assumption | assumption | omega) (Nat.lt_succ_self _)
set_option maxHeartbeats 4000000 in
theorem u_T_ordersX (l : Launch) (d_ : Nat) (Mz : zMem) (hW : zKW d_ Mz) (hnow : zf Mz 0 2 = some (d_ + 0)) (a0_ : Int) (ha0_a : -2147483648 ≤ a0_) (ha0_b : a0_ < 2147483648) : zC l m_T_orders 0 0 [.ref 0, .int (Int32.ofInt a0_)] Mz (zqcI d_ [] [] [] [] Mz (fun v N => True)) := by
  refine zC_of (L0 := [some (.ref 0), some (.int (Int32.ofInt a0_))]) md_T_orders (Nat.le_of_ble_eq_true rfl) rfl ?_ zQ0
  have hf : zFc d_ [] [] [] [] Mz Mz := zFc.rf
  refine zw_iload_n (pc := 0) (n := 1) (x := Int32.ofInt a0_) rfl (zdal_p dlB_T_orders_67 (i := 0) rfl) ?_
  refine zw_iconst (pc := 1) (v := Int32.ofInt 1) (by decide) (zdal_p dlB_T_orders_67 (i := 1) rfl) ?_
  refine zr_icmp_lt (pc := 2) (tgt := 25) ⟨ha0_a, ha0_b⟩ ⟨(by decide), (by decide)⟩ (by decide) (zdal_p dlB_T_orders_67 (i := 2) rfl) (fun hc_2 => ?_) (fun hc_2 => ?_)
  · skip
    refine zw_iconst (pc := 25) (v := Int32.ofInt (-1)) (by decide) (zdal_p dlB_T_orders_67 (i := 12) rfl) ?_
    exact zk_iret (pc := 26) (ty := .int) rfl rfl ⟨by omega, by omega⟩ hf trivial (zdal_p dlB_T_orders_67 (i := 13) rfl)
  · skip
    refine zw_iload_n (pc := 5) (n := 1) (x := Int32.ofInt a0_) rfl (zdal_p dlB_T_orders_67 (i := 3) rfl) ?_
    refine zw_bipush (pc := 6) (v := Int32.ofInt 24) (by decide) (zdal_p dlB_T_orders_67 (i := 4) rfl) ?_
    refine zr_icmp_gt (pc := 8) (tgt := 25) ⟨ha0_a, ha0_b⟩ ⟨(by decide), (by decide)⟩ (by decide) (zdal_p dlB_T_orders_67 (i := 5) rfl) (fun hc_8 => ?_) (fun hc_8 => ?_)
    · skip
      refine zw_iconst (pc := 25) (v := Int32.ofInt (-1)) (by decide) (zdal_p dlB_T_orders_67 (i := 12) rfl) ?_
      exact zk_iret (pc := 26) (ty := .int) rfl rfl ⟨by omega, by omega⟩ hf trivial (zdal_p dlB_T_orders_67 (i := 13) rfl)
    · skip
      refine zw_aload_n (pc := 11) (n := 0) (x := 0) rfl (zdal_p dlB_T_orders_67 (i := 6) rfl) ?_
      refine zw_getF (pc := 12) f_T_28 rfl ((hf.w hW).ka (o := 0) (by decide)) (hf.now hnow) (zdal_p dlB_T_orders_67 (i := 7) rfl) ?_
      refine zw_getF (pc := 15) f_T_61 rfl ((hf.w hW).kr (o := 0) (by decide)) ((hf.w hW).lr (o := 0) (s := 0) (r := 1) (by decide)) (zdal_p dlB_T_orders_67 (i := 8) rfl) ?_
      refine zw_iload_n (pc := 18) (n := 1) (x := Int32.ofInt a0_) rfl (zdal_p dlB_T_orders_67 (i := 9) rfl) ?_
      refine zk_callV hf.x (pc := 19) [.int (Int32.ofInt a0_)] [] l_T_217 (u_Group_countRepeatingX l d_ Mz (hf.w hW) a0_ ha0_a ha0_b) rfl rfl ((hf.w hW).kr (o := 1) (by decide)) (by decide) (by decide) (Nat.le_of_ble_eq_true rfl) (zdal_p dlB_T_orders_67 (i := 10) rfl) ?_
      rintro _ N1_ ⟨v2_, rfl, ⟨hv2_a, hv2_b⟩, hsN1_, -⟩
      obtain rfl := hsN1_.eq.symm
      show zW l m_T_orders (zn Mz + 0, zw Mz + 0) Mz 22 [some (.ref 0), some (.int (Int32.ofInt a0_))] [.int (Int32.ofInt v2_)] _
      refine zw_goto (pc := 22) (tgt := 26) (by decide) (zdal_p dlB_T_orders_67 (i := 11) rfl) ?_
      exact zk_iret (pc := 26) (ty := .int) rfl rfl ⟨by omega, by omega⟩ hf trivial (zdal_p dlB_T_orders_67 (i := 13) rfl)
set_option maxHeartbeats 4000000 in
theorem u_Group_countLikeX (l : Launch) (d_ : Nat) (Mz : zMem) (hW : zKW d_ Mz) (a0_ : Int) (ha0_a : -2147483648 ≤ a0_) (ha0_b : a0_ < 2147483648) : zC l m_Group_countLike 0 0 [.ref (d_ + 1), .int (Int32.ofInt a0_)] Mz (zqcI d_ [] [] [] [] Mz (fun v N => True)) := by
  refine zC_of (L0 := [some (.ref (d_ + 1)), some (.int (Int32.ofInt a0_)), none, none]) md_Group_countLike (Nat.le_of_ble_eq_true rfl) rfl ?_ zQ0
  have hf : zFc d_ [] [] [] [] Mz Mz := zFc.rf
  refine zw_iconst (pc := 0) (v := Int32.ofInt 0) (by decide) (zdal_p dlB_Group_countLike_70 (i := 0) rfl) ?_
  refine zw_istore_n (pc := 1) (i := 2) (L2 := [some (.ref (d_ + 1)), some (.int (Int32.ofInt a0_)), some (.int (Int32.ofInt 0)), none]) rfl (by decide) rfl (zdal_p dlB_Group_countLike_70 (i := 1) rfl) ?_
  refine zw_iconst (pc := 2) (v := Int32.ofInt 0) (by decide) (zdal_p dlB_Group_countLike_70 (i := 2) rfl) ?_
  refine zw_istore_n (pc := 3) (i := 3) (L2 := [some (.ref (d_ + 1)), some (.int (Int32.ofInt a0_)), some (.int (Int32.ofInt 0)), some (.int (Int32.ofInt 0))]) rfl (by decide) rfl (zdal_p dlB_Group_countLike_70 (i := 3) rfl) ?_
  have lp_4 : ∀ (n : Nat) (u1_ : Int) (hu1_a : -2147483648 ≤ u1_) (hu1_b : u1_ < 2147483648) (u2_ : Int) (hu2_a : -2147483648 ≤ u2_) (hu2_b : u2_ < 2147483648) (i3_ : 0 ≤ u2_), (ze Mz (d_ + 1) 7 - u2_).toNat < n → zW l m_Group_countLike (zn Mz + 0, zw Mz + 0) Mz 4 [some (.ref (d_ + 1)), some (.int (Int32.ofInt a0_)), some (.int (Int32.ofInt u1_)), some (.int (Int32.ofInt u2_))] [] (zqcI d_ [] [] [] [] Mz (fun v N => True)) := by
    intro n
    induction n with
    | zero =>
      intro u1_ hu1_a hu1_b u2_ hu2_a hu2_b i3_ h0
      exact absurd h0 (Nat.not_lt_zero _)
    | succ n ih_4 =>
      intro u1_ hu1_a hu1_b u2_ hu2_a hu2_b i3_ hlt_4
      refine zw_iload_n (pc := 4) (n := 3) (x := Int32.ofInt u2_) rfl (zdal_p dlB_Group_countLike_70 (i := 4) rfl) ?_
      refine zw_aload_n (pc := 5) (n := 0) (x := (d_ + 1)) rfl (zdal_p dlB_Group_countLike_70 (i := 5) rfl) ?_
      refine zk_getI (pc := 6) f_Group_39 rfl ((hf.w hW).kr (o := 1) (by decide)) (zdal_p dlB_Group_countLike_70 (i := 6) rfl) ?_
      have hr4_ := ze_r Mz (d_ + 1) 7
      refine zr_icmp_ge (pc := 9) (tgt := 29) ⟨hu2_a, hu2_b⟩ ⟨(ze_r Mz (d_ + 1) 7).1, (ze_r Mz (d_ + 1) 7).2⟩ (by decide) (zdal_p dlB_Group_countLike_70 (i := 7) rfl) (fun hc_9 => ?_) (fun hc_9 => ?_)
      · skip
        refine zw_iload_n (pc := 29) (n := 2) (x := Int32.ofInt u1_) rfl (zdal_p dlB_Group_countLike_70 (i := 19) rfl) ?_
        refine zr_callS hf.x (pc := 30) [.int (Int32.ofInt u1_)] [] l_Group_83 (u_Integer_bitCountX l d_ Mz (hf.w hW) u1_ hu1_a hu1_b) rfl rfl (by decide) (Nat.le_of_ble_eq_true rfl) (zdal_p dlB_Group_countLike_70 (i := 20) rfl) ?_
        rintro _ N5_ ⟨v6_, rfl, ⟨hv6_a, hv6_b⟩, hsN5_, ⟨hp0_N5_, hp1_N5_⟩⟩
        obtain rfl := hsN5_.eq.symm
        show zW l m_Group_countLike (zn Mz + 0, zw Mz + 0) Mz 33 [some (.ref (d_ + 1)), some (.int (Int32.ofInt a0_)), some (.int (Int32.ofInt u1_)), some (.int (Int32.ofInt u2_))] [.int (Int32.ofInt v6_)] _
        exact zk_iret (pc := 33) (ty := .int) rfl rfl ⟨by omega, by omega⟩ hf trivial (zdal_p dlB_Group_countLike_70 (i := 21) rfl)
      · skip
        refine zw_iload_n (pc := 12) (n := 2) (x := Int32.ofInt u1_) rfl (zdal_p dlB_Group_countLike_70 (i := 8) rfl) ?_
        refine zw_iconst (pc := 13) (v := Int32.ofInt 1) (by decide) (zdal_p dlB_Group_countLike_70 (i := 9) rfl) ?_
        refine zw_aload_n (pc := 14) (n := 0) (x := (d_ + 1)) rfl (zdal_p dlB_Group_countLike_70 (i := 10) rfl) ?_
        refine zw_iload_n (pc := 15) (n := 1) (x := Int32.ofInt a0_) rfl (zdal_p dlB_Group_countLike_70 (i := 11) rfl) ?_
        refine zw_iload_n (pc := 16) (n := 3) (x := Int32.ofInt u2_) rfl (zdal_p dlB_Group_countLike_70 (i := 12) rfl) ?_
        refine zk_callV hf.x (pc := 17) [.int (Int32.ofInt a0_), .int (Int32.ofInt u2_)] [.int (Int32.ofInt 1), .int (Int32.ofInt u1_)] l_Group_77 (u_Group_turnX l d_ Mz (hf.w hW) a0_ ha0_a ha0_b u2_ hu2_a hu2_b) rfl rfl ((hf.w hW).kr (o := 1) (by decide)) (by decide) (by decide) (Nat.le_of_ble_eq_true rfl) (zdal_p dlB_Group_countLike_70 (i := 13) rfl) ?_
        rintro _ N7_ ⟨v8_, rfl, ⟨hv8_a, hv8_b⟩, hsN7_, -⟩
        obtain rfl := hsN7_.eq.symm
        show zW l m_Group_countLike (zn Mz + 0, zw Mz + 0) Mz 20 [some (.ref (d_ + 1)), some (.int (Int32.ofInt a0_)), some (.int (Int32.ofInt u1_)), some (.int (Int32.ofInt u2_))] [.int (Int32.ofInt v8_), .int (Int32.ofInt 1), .int (Int32.ofInt u1_)] _
        refine zr_ishl (pc := 20) (zdal_p dlB_Group_countLike_70 (i := 14) rfl) ?_
        have hr9_ := zshl_r 1 v8_
        refine zr_nmI (fun v10_ hv10_ => ?_)
        obtain ⟨hv10_a, hv10_b⟩ := hv10_
        refine zr_ior (pc := 21) (zdal_p dlB_Group_countLike_70 (i := 15) rfl) ?_
        have hr11_ := zor_r u1_ v10_
        refine zr_nmI (fun v12_ hv12_ => ?_)
        obtain ⟨hv12_a, hv12_b⟩ := hv12_
        refine zw_istore_n (pc := 22) (i := 2) (L2 := [some (.ref (d_ + 1)), some (.int (Int32.ofInt a0_)), some (.int (Int32.ofInt v12_)), some (.int (Int32.ofInt u2_))]) rfl (by decide) rfl (zdal_p dlB_Group_countLike_70 (i := 16) rfl) ?_
        refine zr_iinc (pc := 23) (i := 3) (a := u2_) (n := 1) (L2 := [some (.ref (d_ + 1)), some (.int (Int32.ofInt a0_)), some (.int (Int32.ofInt v12_)), some (.int (Int32.ofInt (u2_ + 1)))]) rfl (by decide) rfl (zdal_p dlB_Group_countLike_70 (i := 17) rfl) ?_
        obtain ⟨v13_, hv13_a, hv13_b, hv13_e, hv13_d⟩ := zk_gen (u2_ + 1)
        rw [hv13_e]
        refine zw_goto (pc := 26) (tgt := 4) (by decide) (zdal_p dlB_Group_countLike_70 (i := 18) rfl) ?_
        exact ih_4 v12_ hv12_a hv12_b v13_ hv13_a hv13_b (show 0 ≤ v13_ by first | with_reducible assumption | assumption | omega) (by omega)
  exact lp_4 _ 0 (by decide) (by decide) 0 (by decide) (by decide) (show 0 ≤ (0 : Int) by first | with_reducible assumption | assumption | omega) (Nat.lt_succ_self _)
set_option maxHeartbeats 4000000 in
theorem u_T_likesX (l : Launch) (d_ : Nat) (Mz : zMem) (hW : zKW d_ Mz) (hnow : zf Mz 0 2 = some (d_ + 0)) (a0_ : Int) (ha0_a : -2147483648 ≤ a0_) (ha0_b : a0_ < 2147483648) : zC l m_T_likes 0 0 [.ref 0, .int (Int32.ofInt a0_)] Mz (zqcI d_ [] [] [] [] Mz (fun v N => True)) := by
  refine zC_of (L0 := [some (.ref 0), some (.int (Int32.ofInt a0_))]) md_T_likes (Nat.le_of_ble_eq_true rfl) rfl ?_ zQ0
  have hf : zFc d_ [] [] [] [] Mz Mz := zFc.rf
  refine zw_aload_n (pc := 0) (n := 0) (x := 0) rfl (zdal_p dlB_T_likes_69 (i := 0) rfl) ?_
  refine zw_getF (pc := 1) f_T_28 rfl ((hf.w hW).ka (o := 0) (by decide)) (hf.now hnow) (zdal_p dlB_T_likes_69 (i := 1) rfl) ?_
  refine zw_getF (pc := 4) f_T_61 rfl ((hf.w hW).kr (o := 0) (by decide)) ((hf.w hW).lr (o := 0) (s := 0) (r := 1) (by decide)) (zdal_p dlB_T_likes_69 (i := 2) rfl) ?_
  refine zw_iload_n (pc := 7) (n := 1) (x := Int32.ofInt a0_) rfl (zdal_p dlB_T_likes_69 (i := 3) rfl) ?_
  refine zk_callV hf.x (pc := 8) [.int (Int32.ofInt a0_)] [] l_T_108 (u_Group_hasMemberX l d_ Mz (hf.w hW) a0_ ha0_a ha0_b) rfl rfl ((hf.w hW).kr (o := 1) (by decide)) (by decide) (by decide) (Nat.le_of_ble_eq_true rfl) (zdal_p dlB_T_likes_69 (i := 4) rfl) ?_
  rintro _ N1_ ⟨v2_, rfl, ⟨hv2_a, hv2_b⟩, hsN1_, hp0_N1_⟩
  obtain rfl := hsN1_.eq.symm
  replace hp0_N1_ : (v2_ = 0 ∨ v2_ = 1) := hp0_N1_
  show zW l m_T_likes (zn Mz + 0, zw Mz + 0) Mz 11 [some (.ref 0), some (.int (Int32.ofInt a0_))] [.int (Int32.ofInt v2_)] _
  refine zr_if_eq (pc := 11) (tgt := 28) ⟨hv2_a, hv2_b⟩ (by decide) (zdal_p dlB_T_likes_69 (i := 5) rfl) (fun hc_11 => ?_) (fun hc_11 => ?_)
  · skip
    refine zw_iconst (pc := 28) (v := Int32.ofInt (-1)) (by decide) (zdal_p dlB_T_likes_69 (i := 12) rfl) ?_
    exact zk_iret (pc := 29) (ty := .int) rfl rfl ⟨by omega, by omega⟩ hf trivial (zdal_p dlB_T_likes_69 (i := 13) rfl)
  · skip
    refine zw_aload_n (pc := 14) (n := 0) (x := 0) rfl (zdal_p dlB_T_likes_69 (i := 6) rfl) ?_
    refine zw_getF (pc := 15) f_T_28 rfl ((hf.w hW).ka (o := 0) (by decide)) (hf.now hnow) (zdal_p dlB_T_likes_69 (i := 7) rfl) ?_
    refine zw_getF (pc := 18) f_T_61 rfl ((hf.w hW).kr (o := 0) (by decide)) ((hf.w hW).lr (o := 0) (s := 0) (r := 1) (by decide)) (zdal_p dlB_T_likes_69 (i := 8) rfl) ?_
    refine zw_iload_n (pc := 21) (n := 1) (x := Int32.ofInt a0_) rfl (zdal_p dlB_T_likes_69 (i := 9) rfl) ?_
    refine zk_callV hf.x (pc := 22) [.int (Int32.ofInt a0_)] [] l_T_220 (u_Group_countLikeX l d_ Mz (hf.w hW) a0_ ha0_a ha0_b) rfl rfl ((hf.w hW).kr (o := 1) (by decide)) (by decide) (by decide) (Nat.le_of_ble_eq_true rfl) (zdal_p dlB_T_likes_69 (i := 10) rfl) ?_
    rintro _ N3_ ⟨v4_, rfl, ⟨hv4_a, hv4_b⟩, hsN3_, -⟩
    obtain rfl := hsN3_.eq.symm
    show zW l m_T_likes (zn Mz + 0, zw Mz + 0) Mz 25 [some (.ref 0), some (.int (Int32.ofInt a0_))] [.int (Int32.ofInt v4_)] _
    refine zw_goto (pc := 25) (tgt := 29) (by decide) (zdal_p dlB_T_likes_69 (i := 11) rfl) ?_
    exact zk_iret (pc := 29) (ty := .int) rfl rfl ⟨by omega, by omega⟩ hf trivial (zdal_p dlB_T_likes_69 (i := 13) rfl)
set_option maxHeartbeats 4000000 in
theorem u_T_greatestDivisorX (l : Launch) (d_ : Nat) (Mz : zMem) (hW : zKW d_ Mz) (a0_ : Int) (ha0_a : -2147483648 ≤ a0_) (ha0_b : a0_ < 2147483648) (a1_ : Int) (ha1_a : -2147483648 ≤ a1_) (ha1_b : a1_ < 2147483648) : zC l m_T_greatestDivisor 0 0 [.int (Int32.ofInt a0_), .int (Int32.ofInt a1_)] Mz (zqcI d_ [] [] [] [] Mz (fun v N => True)) := by
  refine zC_of (L0 := [some (.int (Int32.ofInt a0_)), some (.int (Int32.ofInt a1_)), none, none, none, none]) md_T_greatestDivisor (Nat.le_of_ble_eq_true rfl) rfl ?_ zQ0
  have hf : zFc d_ [] [] [] [] Mz Mz := zFc.rf
  refine zw_iload_n (pc := 0) (n := 0) (x := Int32.ofInt a0_) rfl (zdal_p dlB_T_greatestDivisor_76 (i := 0) rfl) ?_
  refine zw_istore_n (pc := 1) (i := 2) (L2 := [some (.int (Int32.ofInt a0_)), some (.int (Int32.ofInt a1_)), some (.int (Int32.ofInt a0_)), none, none, none]) rfl (by decide) rfl (zdal_p dlB_T_greatestDivisor_76 (i := 1) rfl) ?_
  refine zw_iload_n (pc := 2) (n := 1) (x := Int32.ofInt a1_) rfl (zdal_p dlB_T_greatestDivisor_76 (i := 2) rfl) ?_
  refine zw_istore_n (pc := 3) (i := 3) (L2 := [some (.int (Int32.ofInt a0_)), some (.int (Int32.ofInt a1_)), some (.int (Int32.ofInt a0_)), some (.int (Int32.ofInt a1_)), none, none]) rfl (by decide) rfl (zdal_p dlB_T_greatestDivisor_76 (i := 3) rfl) ?_
  refine zw_iconst (pc := 4) (v := Int32.ofInt 0) (by decide) (zdal_p dlB_T_greatestDivisor_76 (i := 4) rfl) ?_
  refine zw_istore (pc := 5) (i := 4) (L2 := [some (.int (Int32.ofInt a0_)), some (.int (Int32.ofInt a1_)), some (.int (Int32.ofInt a0_)), some (.int (Int32.ofInt a1_)), some (.int (Int32.ofInt 0)), none]) (by decide) rfl (zdal_p dlB_T_greatestDivisor_76 (i := 5) rfl) ?_
  have lp_7 : ∀ (n : Nat) (u1_ : Int) (hu1_a : -2147483648 ≤ u1_) (hu1_b : u1_ < 2147483648) (u2_ : Int) (hu2_a : -2147483648 ≤ u2_) (hu2_b : u2_ < 2147483648) (u3_ : Int) (hu3_a : -2147483648 ≤ u3_) (hu3_b : u3_ < 2147483648) (i4_ : 0 ≤ u3_), (100 - u3_).toNat < n → zW l m_T_greatestDivisor (zn Mz + 0, zw Mz + 0) Mz 7 [some (.int (Int32.ofInt a0_)), some (.int (Int32.ofInt a1_)), some (.int (Int32.ofInt u1_)), some (.int (Int32.ofInt u2_)), some (.int (Int32.ofInt u3_)), none] [] (zqcI d_ [] [] [] [] Mz (fun v N => True)) := by
    intro n
    induction n with
    | zero =>
      intro u1_ hu1_a hu1_b u2_ hu2_a hu2_b u3_ hu3_a hu3_b i4_ h0
      exact absurd h0 (Nat.not_lt_zero _)
    | succ n ih_7 =>
      intro u1_ hu1_a hu1_b u2_ hu2_a hu2_b u3_ hu3_a hu3_b i4_ hlt_7
      refine zw_iload (pc := 7) (i := 4) (x := Int32.ofInt u3_) rfl (zdal_p dlB_T_greatestDivisor_76 (i := 6) rfl) ?_
      refine zw_bipush (pc := 9) (v := Int32.ofInt 100) (by decide) (zdal_p dlB_T_greatestDivisor_76 (i := 7) rfl) ?_
      refine zr_icmp_ge (pc := 11) (tgt := 34) ⟨hu3_a, hu3_b⟩ ⟨(by decide), (by decide)⟩ (by decide) (zdal_p dlB_T_greatestDivisor_76 (i := 8) rfl) (fun hc_11 => ?_) (fun hc_11 => ?_)
      · skip
        refine zw_iload_n (pc := 34) (n := 2) (x := Int32.ofInt u1_) rfl (zdal_p dlB_T_greatestDivisor_76 (i := 21) rfl) ?_
        exact zk_iret (pc := 35) (ty := .int) rfl rfl ⟨by omega, by omega⟩ hf trivial (zdal_p dlB_T_greatestDivisor_76 (i := 22) rfl)
      · skip
        refine zw_iload_n (pc := 14) (n := 3) (x := Int32.ofInt u2_) rfl (zdal_p dlB_T_greatestDivisor_76 (i := 9) rfl) ?_
        refine zr_if_eq (pc := 15) (tgt := 34) ⟨hu2_a, hu2_b⟩ (by decide) (zdal_p dlB_T_greatestDivisor_76 (i := 10) rfl) (fun hc_15 => ?_) (fun hc_15 => ?_)
        · skip
          refine zw_iload_n (pc := 34) (n := 2) (x := Int32.ofInt u1_) rfl (zdal_p dlB_T_greatestDivisor_76 (i := 21) rfl) ?_
          exact zk_iret (pc := 35) (ty := .int) rfl rfl ⟨by omega, by omega⟩ hf trivial (zdal_p dlB_T_greatestDivisor_76 (i := 22) rfl)
        · skip
          refine zw_iload_n (pc := 18) (n := 2) (x := Int32.ofInt u1_) rfl (zdal_p dlB_T_greatestDivisor_76 (i := 11) rfl) ?_
          refine zw_iload_n (pc := 19) (n := 3) (x := Int32.ofInt u2_) rfl (zdal_p dlB_T_greatestDivisor_76 (i := 12) rfl) ?_
          refine zr_irem (pc := 20) ⟨by omega, by omega⟩ (by omega) (zdal_p dlB_T_greatestDivisor_76 (i := 13) rfl) ?_
          have hr5_ := zrem_r u1_ u2_
          refine zr_nmI (fun v6_ hv6_ => ?_)
          obtain ⟨hv6_a, hv6_b⟩ := hv6_
          refine zw_istore (pc := 21) (i := 5) (L2 := [some (.int (Int32.ofInt a0_)), some (.int (Int32.ofInt a1_)), some (.int (Int32.ofInt u1_)), some (.int (Int32.ofInt u2_)), some (.int (Int32.ofInt u3_)), some (.int (Int32.ofInt v6_))]) (by decide) rfl (zdal_p dlB_T_greatestDivisor_76 (i := 14) rfl) ?_
          refine zw_iload_n (pc := 23) (n := 3) (x := Int32.ofInt u2_) rfl (zdal_p dlB_T_greatestDivisor_76 (i := 15) rfl) ?_
          refine zw_istore_n (pc := 24) (i := 2) (L2 := [some (.int (Int32.ofInt a0_)), some (.int (Int32.ofInt a1_)), some (.int (Int32.ofInt u2_)), some (.int (Int32.ofInt u2_)), some (.int (Int32.ofInt u3_)), some (.int (Int32.ofInt v6_))]) rfl (by decide) rfl (zdal_p dlB_T_greatestDivisor_76 (i := 16) rfl) ?_
          refine zw_iload (pc := 25) (i := 5) (x := Int32.ofInt v6_) rfl (zdal_p dlB_T_greatestDivisor_76 (i := 17) rfl) ?_
          refine zw_istore_n (pc := 27) (i := 3) (L2 := [some (.int (Int32.ofInt a0_)), some (.int (Int32.ofInt a1_)), some (.int (Int32.ofInt u2_)), some (.int (Int32.ofInt v6_)), some (.int (Int32.ofInt u3_)), some (.int (Int32.ofInt v6_))]) rfl (by decide) rfl (zdal_p dlB_T_greatestDivisor_76 (i := 18) rfl) ?_
          refine zr_iinc (pc := 28) (i := 4) (a := u3_) (n := 1) (L2 := [some (.int (Int32.ofInt a0_)), some (.int (Int32.ofInt a1_)), some (.int (Int32.ofInt u2_)), some (.int (Int32.ofInt v6_)), some (.int (Int32.ofInt (u3_ + 1))), some (.int (Int32.ofInt v6_))]) rfl (by decide) rfl (zdal_p dlB_T_greatestDivisor_76 (i := 19) rfl) ?_
          obtain ⟨v7_, hv7_a, hv7_b, hv7_e, hv7_d⟩ := zk_gen (u3_ + 1)
          rw [hv7_e]
          refine zw_goto (pc := 31) (tgt := 7) (by decide) (zdal_p dlB_T_greatestDivisor_76 (i := 20) rfl) ?_
          refine zW_le [some (.int (Int32.ofInt a0_)), some (.int (Int32.ofInt a1_)), some (.int (Int32.ofInt u2_)), some (.int (Int32.ofInt v6_)), some (.int (Int32.ofInt v7_)), none] (⟨rfl, rfl, rfl, rfl, rfl, trivial⟩) ?_
          exact ih_7 u2_ hu2_a hu2_b v6_ hv6_a hv6_b v7_ hv7_a hv7_b (show 0 ≤ v7_ by first | with_reducible assumption | assumption | omega) (by omega)
  exact lp_7 _ a0_ ha0_a ha0_b a1_ ha1_a ha1_b 0 (by decide) (by decide) (show 0 ≤ (0 : Int) by first | with_reducible assumption | assumption | omega) (Nat.lt_succ_self _)
set_option maxHeartbeats 4000000 in
theorem u_Sums_putScaledX (l : Launch) (d_ : Nat) (Mz : zMem) (hW : zKW d_ Mz) (a0_ : Int) (ha0_a : -2147483648 ≤ a0_) (ha0_b : a0_ < 2147483648) (a1_ : Int) (ha1_a : -2147483648 ≤ a1_) (ha1_b : a1_ < 2147483648) : zC l m_Sums_putScaled 0 0 [.ref (d_ + 23), .int (Int32.ofInt a0_), .int (Int32.ofInt a1_)] Mz (zqcV d_ [] [] [] [25, 27] Mz (fun N => True)) := by
  refine zC_of (L0 := [some (.ref (d_ + 23)), some (.int (Int32.ofInt a0_)), some (.int (Int32.ofInt a1_)), none]) md_Sums_putScaled (Nat.le_of_ble_eq_true rfl) rfl ?_ zQ0
  have hf : zFc d_ [] [] [] [25, 27] Mz Mz := zFc.rf
  refine zw_iconst (pc := 0) (v := Int32.ofInt 0) (by decide) (zdal_p dlB_Sums_putScaled_74 (i := 0) rfl) ?_
  refine zw_istore_n (pc := 1) (i := 3) (L2 := [some (.ref (d_ + 23)), some (.int (Int32.ofInt a0_)), some (.int (Int32.ofInt a1_)), some (.int (Int32.ofInt 0))]) rfl (by decide) rfl (zdal_p dlB_Sums_putScaled_74 (i := 1) rfl) ?_
  have lp_2 : ∀ (n : Nat) (u1_ : Int) (hu1_a : -2147483648 ≤ u1_) (hu1_b : u1_ < 2147483648) (N2_ : zMem) (hs3_ : zFc d_ [] [] [] [27] Mz N2_) (i4_ : 0 ≤ u1_), (ze Mz (d_ + 12) 7 - u1_).toNat < n → zW l m_Sums_putScaled (zn Mz + 0, zw Mz + 0) N2_ 2 [some (.ref (d_ + 23)), some (.int (Int32.ofInt a0_)), some (.int (Int32.ofInt a1_)), some (.int (Int32.ofInt u1_))] [] (zqcV d_ [] [] [] [25, 27] Mz (fun N => True)) := by
    intro n
    induction n with
    | zero =>
      intro u1_ hu1_a hu1_b N2_ hs3_ i4_ h0
      exact absurd h0 (Nat.not_lt_zero _)
    | succ n ih_2 =>
      intro u1_ hu1_a hu1_b N2_ hs3_ i4_ hlt_2
      have hf_N2_ : zFc d_ [] [] [] [25, 27] Mz N2_ := hf.tr hs3_ (by decide) (by decide) (by decide) (by decide)
      refine zw_iload_n (pc := 2) (n := 3) (x := Int32.ofInt u1_) rfl (zdal_p dlB_Sums_putScaled_74 (i := 2) rfl) ?_
      refine zw_aload_n (pc := 3) (n := 0) (x := (d_ + 23)) rfl (zdal_p dlB_Sums_putScaled_74 (i := 3) rfl) ?_
      refine zw_getF (pc := 4) f_Sums_23 rfl ((hf_N2_.w hW).kr (o := 23) (by decide)) ((hf_N2_.w hW).lr (o := 23) (s := 0) (r := 12) (by decide)) (zdal_p dlB_Sums_putScaled_74 (i := 4) rfl) ?_
      refine zk_getI (pc := 7) f_Sums_35 rfl ((hf_N2_.w hW).kr (o := 12) (by decide)) (zdal_p dlB_Sums_putScaled_74 (i := 5) rfl) ?_
      rw [hf_N2_.e (by decide)]
      have hr5_ := ze_r Mz (d_ + 12) 7
      refine zr_icmp_ge (pc := 10) (tgt := 41) ⟨hu1_a, hu1_b⟩ ⟨(ze_r Mz (d_ + 12) 7).1, (ze_r Mz (d_ + 12) 7).2⟩ (by decide) (zdal_p dlB_Sums_putScaled_74 (i := 6) rfl) (fun hc_10 => ?_) (fun hc_10 => ?_)
      · skip
        refine zw_aload_n (pc := 41) (n := 0) (x := (d_ + 23)) rfl (zdal_p dlB_Sums_putScaled_74 (i := 21) rfl) ?_
        refine zw_bipush (pc := 42) (v := Int32.ofInt 39) (by decide) (zdal_p dlB_Sums_putScaled_74 (i := 22) rfl) ?_
        refine zk_callV hf_N2_.x (pc := 44) [.int (Int32.ofInt 39)] [] l_Sums_58 (u_Sums_solveX l d_ N2_ (hf_N2_.w hW) 39 (by decide) (by decide)) rfl rfl ((hf_N2_.w hW).kr (o := 23) (by decide)) (by decide) (by decide) (Nat.le_of_ble_eq_true rfl) (zdal_p dlB_Sums_putScaled_74 (i := 23) rfl) ?_
        rintro _ N6_ ⟨rfl, hsN6_, -⟩
        have hf_N6_ : zFc d_ [] [] [] [25, 27] Mz N6_ := hf_N2_.tr hsN6_ (by decide) (by decide) (by decide) (by decide)
        show zW l m_Sums_putScaled (zn Mz + 0, zw Mz + 0) N6_ 47 [some (.ref (d_ + 23)), some (.int (Int32.ofInt a0_)), some (.int (Int32.ofInt a1_)), some (.int (Int32.ofInt u1_))] [] _
        exact zk_vret (pc := 47) rfl hf_N6_ trivial (zdal_p dlB_Sums_putScaled_75 (i := 0) rfl)
      · skip
        refine zw_aload_n (pc := 13) (n := 0) (x := (d_ + 23)) rfl (zdal_p dlB_Sums_putScaled_74 (i := 7) rfl) ?_
        refine zw_getF (pc := 14) f_Sums_20 rfl ((hf_N2_.w hW).kr (o := 23) (by decide)) ((hf_N2_.w hW).lr (o := 23) (s := 2) (r := 26) (by decide)) (zdal_p dlB_Sums_putScaled_74 (i := 8) rfl) ?_
        refine zw_iload_n (pc := 17) (n := 3) (x := Int32.ofInt u1_) rfl (zdal_p dlB_Sums_putScaled_74 (i := 9) rfl) ?_
        refine zw_iload_n (pc := 18) (n := 1) (x := Int32.ofInt a0_) rfl (zdal_p dlB_Sums_putScaled_74 (i := 10) rfl) ?_
        refine zw_iload_n (pc := 19) (n := 3) (x := Int32.ofInt u1_) rfl (zdal_p dlB_Sums_putScaled_74 (i := 11) rfl) ?_
        refine zr_callS hf_N2_.x (pc := 20) [.int (Int32.ofInt a0_), .int (Int32.ofInt u1_)] [.int (Int32.ofInt u1_), .ref (d_ + 26)] l_Sums_61 (u_T_isInX l d_ N2_ (hf_N2_.w hW) a0_ ha0_a ha0_b u1_ hu1_a hu1_b) rfl rfl (by decide) (Nat.le_of_ble_eq_true rfl) (zdal_p dlB_Sums_putScaled_74 (i := 12) rfl) ?_
        rintro _ N8_ ⟨v9_, rfl, ⟨hv9_a, hv9_b⟩, hsN8_, hp0_N8_⟩
        obtain rfl := hsN8_.eq.symm
        replace hp0_N8_ : (v9_ = 0 ∨ v9_ = 1) := hp0_N8_
        show zW l m_Sums_putScaled (zn Mz + 0, zw Mz + 0) N2_ 23 [some (.ref (d_ + 23)), some (.int (Int32.ofInt a0_)), some (.int (Int32.ofInt a1_)), some (.int (Int32.ofInt u1_))] [.int (Int32.ofInt v9_), .int (Int32.ofInt u1_), .ref (d_ + 26)] _
        refine zr_if_eq (pc := 23) (tgt := 31) ⟨hv9_a, hv9_b⟩ (by decide) (zdal_p dlB_Sums_putScaled_74 (i := 13) rfl) (fun hc_23 => ?_) (fun hc_23 => ?_)
        · skip
          refine zw_lconst (pc := 31) (v := Int64.ofInt 0) (by decide) (zdal_p dlB_Sums_putScaled_74 (i := 17) rfl) ?_
          refine zk_stGJ hf_N2_.x (pc := 32) (o := 27) (by decide) l_Sums_31 ((hf_N2_.w hW).kr (o := 26) (by decide)) ((hf_N2_.w hW).lr (o := 26) (s := 0) (r := 27) (by decide)) ((hf_N2_.w hW).rr (o := 27) (t := 2) (n := 27) (by decide)) (by decide) ⟨by omega, by omega⟩ (by decide) (Nat.le_of_ble_eq_true rfl) (zdal_p dlB_Sums_putScaled_74 (i := 18) rfl) (fun N10_ hsN10_ => ?_)
          have hf_N10_ : zFc d_ [] [] [] [25, 27] Mz N10_ := hf_N2_.tr hsN10_ (by decide) (by decide) (by decide) (by decide)
          have hb0_N10_ : zFc d_ [] [] [] [27] Mz N10_ := hs3_.tr hsN10_ (by decide) (by decide) (by decide) (by decide)
          refine zr_iinc (pc := 35) (i := 3) (a := u1_) (n := 1) (L2 := [some (.ref (d_ + 23)), some (.int (Int32.ofInt a0_)), some (.int (Int32.ofInt a1_)), some (.int (Int32.ofInt (u1_ + 1)))]) rfl (by decide) rfl (zdal_p dlB_Sums_putScaled_74 (i := 19) rfl) ?_
          obtain ⟨v11_, hv11_a, hv11_b, hv11_e, hv11_d⟩ := zk_gen (u1_ + 1)
          rw [hv11_e]
          refine zw_goto (pc := 38) (tgt := 2) (by decide) (zdal_p dlB_Sums_putScaled_74 (i := 20) rfl) ?_
          exact ih_2 v11_ hv11_a hv11_b N10_ hb0_N10_ (show 0 ≤ v11_ by first | with_reducible assumption | assumption | omega) (by omega)
        · skip
          refine zw_iload_n (pc := 26) (n := 2) (x := Int32.ofInt a1_) rfl (zdal_p dlB_Sums_putScaled_74 (i := 14) rfl) ?_
          refine zr_i2l (pc := 27) ⟨ha1_a, ha1_b⟩ (zdal_p dlB_Sums_putScaled_74 (i := 15) rfl) ?_
          refine zw_goto (pc := 28) (tgt := 32) (by decide) (zdal_p dlB_Sums_putScaled_74 (i := 16) rfl) ?_
          refine zk_stGJ hf_N2_.x (pc := 32) (o := 27) (by decide) l_Sums_31 ((hf_N2_.w hW).kr (o := 26) (by decide)) ((hf_N2_.w hW).lr (o := 26) (s := 0) (r := 27) (by decide)) ((hf_N2_.w hW).rr (o := 27) (t := 2) (n := 27) (by decide)) (by decide) ⟨by omega, by omega⟩ (by decide) (Nat.le_of_ble_eq_true rfl) (zdal_p dlB_Sums_putScaled_74 (i := 18) rfl) (fun N12_ hsN12_ => ?_)
          have hf_N12_ : zFc d_ [] [] [] [25, 27] Mz N12_ := hf_N2_.tr hsN12_ (by decide) (by decide) (by decide) (by decide)
          have hb0_N12_ : zFc d_ [] [] [] [27] Mz N12_ := hs3_.tr hsN12_ (by decide) (by decide) (by decide) (by decide)
          refine zr_iinc (pc := 35) (i := 3) (a := u1_) (n := 1) (L2 := [some (.ref (d_ + 23)), some (.int (Int32.ofInt a0_)), some (.int (Int32.ofInt a1_)), some (.int (Int32.ofInt (u1_ + 1)))]) rfl (by decide) rfl (zdal_p dlB_Sums_putScaled_74 (i := 19) rfl) ?_
          obtain ⟨v13_, hv13_a, hv13_b, hv13_e, hv13_d⟩ := zk_gen (u1_ + 1)
          rw [hv13_e]
          refine zw_goto (pc := 38) (tgt := 2) (by decide) (zdal_p dlB_Sums_putScaled_74 (i := 20) rfl) ?_
          exact ih_2 v13_ hv13_a hv13_b N12_ hb0_N12_ (show 0 ≤ v13_ by first | with_reducible assumption | assumption | omega) (by omega)
  exact lp_2 _ 0 (by decide) (by decide) Mz zFc.rf (show 0 ≤ (0 : Int) by first | with_reducible assumption | assumption | omega) (Nat.lt_succ_self _)
set_option maxHeartbeats 4000000 in
theorem u_T_peakPartX (l : Launch) (d_ : Nat) (Mz : zMem) (hW : zKW d_ Mz) (hnow : zf Mz 0 2 = some (d_ + 0)) (a0_ : Int) (ha0_a : -2147483648 ≤ a0_) (ha0_b : a0_ < 2147483648) (a1_ : Int) (ha1_a : -2147483648 ≤ a1_) (ha1_b : a1_ < 2147483648) (a2_ : Int) (ha2_a : -2147483648 ≤ a2_) (ha2_b : a2_ < 2147483648) : zC l m_T_peakPart 0 0 [.ref 0, .int (Int32.ofInt a0_), .int (Int32.ofInt a1_), .int (Int32.ofInt a2_)] Mz (zqcI d_ [] [] [] [25, 27] Mz (fun v N => True)) := by
  refine zC_of (L0 := [some (.ref 0), some (.int (Int32.ofInt a0_)), some (.int (Int32.ofInt a1_)), some (.int (Int32.ofInt a2_)), none, none, none]) md_T_peakPart (Nat.le_of_ble_eq_true rfl) rfl ?_ zQ0
  have hf : zFc d_ [] [] [] [25, 27] Mz Mz := zFc.rf
  refine zw_iload_n (pc := 0) (n := 3) (x := Int32.ofInt a2_) rfl (zdal_p dlB_T_peakPart_72 (i := 0) rfl) ?_
  refine zr_if_eq (pc := 1) (tgt := 12) ⟨ha2_a, ha2_b⟩ (by decide) (zdal_p dlB_T_peakPart_72 (i := 1) rfl) (fun hc_1 => ?_) (fun hc_1 => ?_)
  · skip
    refine zw_aload_n (pc := 12) (n := 0) (x := 0) rfl (zdal_p dlB_T_peakPart_72 (i := 7) rfl) ?_
    refine zw_getF (pc := 13) f_T_28 rfl ((hf.w hW).ka (o := 0) (by decide)) (hf.now hnow) (zdal_p dlB_T_peakPart_72 (i := 8) rfl) ?_
    refine zw_getF (pc := 16) f_T_61 rfl ((hf.w hW).kr (o := 0) (by decide)) ((hf.w hW).lr (o := 0) (s := 0) (r := 1) (by decide)) (zdal_p dlB_T_peakPart_72 (i := 9) rfl) ?_
    refine zk_getI (pc := 19) f_T_65 rfl ((hf.w hW).kr (o := 1) (by decide)) (zdal_p dlB_T_peakPart_72 (i := 10) rfl) ?_
    have hr1_ := ze_r Mz (d_ + 1) 7
    refine zw_istore (pc := 22) (i := 4) (L2 := [some (.ref 0), some (.int (Int32.ofInt a0_)), some (.int (Int32.ofInt a1_)), some (.int (Int32.ofInt a2_)), some (.int (Int32.ofInt (ze Mz (d_ + 1) 7))), none, none]) (by decide) rfl (zdal_p dlB_T_peakPart_72 (i := 11) rfl) ?_
    refine zw_aload_n (pc := 24) (n := 0) (x := 0) rfl (zdal_p dlB_T_peakPart_72 (i := 12) rfl) ?_
    refine zw_getF (pc := 25) f_T_28 rfl ((hf.w hW).ka (o := 0) (by decide)) (hf.now hnow) (zdal_p dlB_T_peakPart_72 (i := 13) rfl) ?_
    refine zw_getF (pc := 28) f_T_169 rfl ((hf.w hW).kr (o := 0) (by decide)) ((hf.w hW).lr (o := 0) (s := 2) (r := 23) (by decide)) (zdal_p dlB_T_peakPart_72 (i := 14) rfl) ?_
    refine zw_iload_n (pc := 31) (n := 1) (x := Int32.ofInt a0_) rfl (zdal_p dlB_T_peakPart_72 (i := 15) rfl) ?_
    refine zw_iload (pc := 32) (i := 4) (x := Int32.ofInt (ze Mz (d_ + 1) 7)) rfl (zdal_p dlB_T_peakPart_72 (i := 16) rfl) ?_
    refine zk_callV hf.x (pc := 34) [.int (Int32.ofInt a0_), .int (Int32.ofInt (ze Mz (d_ + 1) 7))] [] l_T_317 (u_Sums_putScaledX l d_ Mz (hf.w hW) a0_ ha0_a ha0_b (ze Mz (d_ + 1) 7) (ze_r Mz (d_ + 1) 7).1 (ze_r Mz (d_ + 1) 7).2) rfl rfl ((hf.w hW).kr (o := 23) (by decide)) (by decide) (by decide) (Nat.le_of_ble_eq_true rfl) (zdal_p dlB_T_peakPart_72 (i := 17) rfl) ?_
    rintro _ N2_ ⟨rfl, hsN2_, -⟩
    have hf_N2_ : zFc d_ [] [] [] [25, 27] Mz N2_ := hf.tr hsN2_ (by decide) (by decide) (by decide) (by decide)
    show zW l m_T_peakPart (zn Mz + 0, zw Mz + 0) N2_ 37 [some (.ref 0), some (.int (Int32.ofInt a0_)), some (.int (Int32.ofInt a1_)), some (.int (Int32.ofInt a2_)), some (.int (Int32.ofInt (ze Mz (d_ + 1) 7))), none, none] [] _
    refine zw_aload_n (pc := 37) (n := 0) (x := 0) rfl (zdal_p dlB_T_peakPart_72 (i := 18) rfl) ?_
    refine zw_getF (pc := 38) f_T_28 rfl ((hf_N2_.w hW).ka (o := 0) (by decide)) (hf_N2_.now hnow) (zdal_p dlB_T_peakPart_72 (i := 19) rfl) ?_
    refine zw_getF (pc := 41) f_T_169 rfl ((hf_N2_.w hW).kr (o := 0) (by decide)) ((hf_N2_.w hW).lr (o := 0) (s := 2) (r := 23) (by decide)) (zdal_p dlB_T_peakPart_72 (i := 20) rfl) ?_
    refine zw_bipush (pc := 44) (v := Int32.ofInt 39) (by decide) (zdal_p dlB_T_peakPart_72 (i := 21) rfl) ?_
    refine zw_iload_n (pc := 46) (n := 2) (x := Int32.ofInt a1_) rfl (zdal_p dlB_T_peakPart_72 (i := 22) rfl) ?_
    refine zk_callV hf_N2_.x (pc := 47) [.int (Int32.ofInt 39), .int (Int32.ofInt a1_)] [] l_T_179 (u_Sums_numberAtX l d_ N2_ (hf_N2_.w hW) 39 (by decide) (by decide) a1_ ha1_a ha1_b) rfl rfl ((hf_N2_.w hW).kr (o := 23) (by decide)) (by decide) (by decide) (Nat.le_of_ble_eq_true rfl) (zdal_p dlB_T_peakPart_72 (i := 23) rfl) ?_
    rintro _ N4_ ⟨v5_, rfl, ⟨hv5_a, hv5_b⟩, hsN4_, -⟩
    obtain rfl := hsN4_.eq.symm
    show zW l m_T_peakPart (zn Mz + 0, zw Mz + 0) N2_ 50 [some (.ref 0), some (.int (Int32.ofInt a0_)), some (.int (Int32.ofInt a1_)), some (.int (Int32.ofInt a2_)), some (.int (Int32.ofInt (ze Mz (d_ + 1) 7))), none, none] [.long (Int64.ofInt v5_)] _
    refine zr_l2i (pc := 50) (zdal_p dlB_T_peakPart_73 (i := 0) rfl) ?_
    refine zr_nmI (fun v6_ hv6_ => ?_)
    obtain ⟨hv6_a, hv6_b⟩ := hv6_
    refine zw_istore (pc := 51) (i := 5) (L2 := [some (.ref 0), some (.int (Int32.ofInt a0_)), some (.int (Int32.ofInt a1_)), some (.int (Int32.ofInt a2_)), some (.int (Int32.ofInt (ze Mz (d_ + 1) 7))), some (.int (Int32.ofInt v6_)), none]) (by decide) rfl (zdal_p dlB_T_peakPart_73 (i := 1) rfl) ?_
    refine zw_iload (pc := 53) (i := 4) (x := Int32.ofInt (ze Mz (d_ + 1) 7)) rfl (zdal_p dlB_T_peakPart_73 (i := 2) rfl) ?_
    refine zw_iload (pc := 55) (i := 5) (x := Int32.ofInt v6_) rfl (zdal_p dlB_T_peakPart_73 (i := 3) rfl) ?_
    refine zk_mabs (pc := 57) x_T_320 (by decide) (Nat.le_of_ble_eq_true rfl) (zdal_p dlB_T_peakPart_73 (i := 4) rfl) ⟨hv6_a, hv6_b⟩ (fun v7_ hv7_ hv7_e => ?_)
    obtain ⟨hv7_a, hv7_b⟩ := hv7_
    refine zr_callS hf_N2_.x (pc := 60) [.int (Int32.ofInt (ze Mz (d_ + 1) 7)), .int (Int32.ofInt v7_)] [] l_T_325 (u_T_greatestDivisorX l d_ N2_ (hf_N2_.w hW) (ze Mz (d_ + 1) 7) (ze_r Mz (d_ + 1) 7).1 (ze_r Mz (d_ + 1) 7).2 v7_ hv7_a hv7_b) rfl rfl (by decide) (Nat.le_of_ble_eq_true rfl) (zdal_p dlB_T_peakPart_73 (i := 5) rfl) ?_
    rintro _ N8_ ⟨v9_, rfl, ⟨hv9_a, hv9_b⟩, hsN8_, -⟩
    obtain rfl := hsN8_.eq.symm
    show zW l m_T_peakPart (zn Mz + 0, zw Mz + 0) N2_ 63 [some (.ref 0), some (.int (Int32.ofInt a0_)), some (.int (Int32.ofInt a1_)), some (.int (Int32.ofInt a2_)), some (.int (Int32.ofInt (ze Mz (d_ + 1) 7))), some (.int (Int32.ofInt v6_)), none] [.int (Int32.ofInt v9_)] _
    refine zw_istore (pc := 63) (i := 6) (L2 := [some (.ref 0), some (.int (Int32.ofInt a0_)), some (.int (Int32.ofInt a1_)), some (.int (Int32.ofInt a2_)), some (.int (Int32.ofInt (ze Mz (d_ + 1) 7))), some (.int (Int32.ofInt v6_)), some (.int (Int32.ofInt v9_))]) (by decide) rfl (zdal_p dlB_T_peakPart_73 (i := 6) rfl) ?_
    refine zw_iload (pc := 65) (i := 6) (x := Int32.ofInt v9_) rfl (zdal_p dlB_T_peakPart_73 (i := 7) rfl) ?_
    refine zr_if_ne (pc := 67) (tgt := 73) ⟨hv9_a, hv9_b⟩ (by decide) (zdal_p dlB_T_peakPart_73 (i := 8) rfl) (fun hc_67 => ?_) (fun hc_67 => ?_)
    · skip
      refine zw_iload_n (pc := 73) (n := 3) (x := Int32.ofInt a2_) rfl (zdal_p dlB_T_peakPart_73 (i := 11) rfl) ?_
      refine zr_if_ne (pc := 74) (tgt := 85) ⟨ha2_a, ha2_b⟩ (by decide) (zdal_p dlB_T_peakPart_73 (i := 12) rfl) (fun hc_74 => ?_) (fun hc_74 => ?_)
      · skip
        refine zw_iload (pc := 85) (i := 4) (x := Int32.ofInt (ze Mz (d_ + 1) 7)) rfl (zdal_p dlB_T_peakPart_73 (i := 17) rfl) ?_
        refine zw_iload (pc := 87) (i := 6) (x := Int32.ofInt v9_) rfl (zdal_p dlB_T_peakPart_73 (i := 18) rfl) ?_
        refine zr_idiv (pc := 89) ⟨by omega, by omega⟩ (by omega) (zdal_p dlB_T_peakPart_73 (i := 19) rfl) ?_
        have hr10_ := zquo_r (ze Mz (d_ + 1) 7) v9_
        refine zr_nmI (fun v11_ hv11_ => ?_)
        obtain ⟨hv11_a, hv11_b⟩ := hv11_
        exact zk_iret (pc := 90) (ty := .int) rfl rfl ⟨by omega, by omega⟩ hf_N2_ trivial d_T_peakPart_90
      · skip
        refine zw_iload (pc := 77) (i := 5) (x := Int32.ofInt v6_) rfl (zdal_p dlB_T_peakPart_73 (i := 13) rfl) ?_
        refine zw_iload (pc := 79) (i := 6) (x := Int32.ofInt v9_) rfl (zdal_p dlB_T_peakPart_73 (i := 14) rfl) ?_
        refine zr_idiv (pc := 81) ⟨by omega, by omega⟩ (by omega) (zdal_p dlB_T_peakPart_73 (i := 15) rfl) ?_
        have hr12_ := zquo_r v6_ v9_
        refine zr_nmI (fun v13_ hv13_ => ?_)
        obtain ⟨hv13_a, hv13_b⟩ := hv13_
        refine zw_goto (pc := 82) (tgt := 90) (by decide) (zdal_p dlB_T_peakPart_73 (i := 16) rfl) ?_
        exact zk_iret (pc := 90) (ty := .int) rfl rfl ⟨by omega, by omega⟩ hf_N2_ trivial d_T_peakPart_90
    · skip
      refine zw_ldc (pc := 70) (v := Int32.ofInt (-1000000)) (by rw [show Int32.ofInt (-1000000) = ((-1000000) : Int32) by decide]; exact k_T_204) (zdal_p dlB_T_peakPart_73 (i := 9) rfl) ?_
      exact zk_iret (pc := 72) (ty := .int) rfl rfl ⟨by omega, by omega⟩ hf_N2_ trivial (zdal_p dlB_T_peakPart_73 (i := 10) rfl)
  · skip
    refine zw_iload_n (pc := 4) (n := 3) (x := Int32.ofInt a2_) rfl (zdal_p dlB_T_peakPart_72 (i := 2) rfl) ?_
    refine zw_iconst (pc := 5) (v := Int32.ofInt 1) (by decide) (zdal_p dlB_T_peakPart_72 (i := 3) rfl) ?_
    refine zr_icmp_eq (pc := 6) (tgt := 12) ⟨ha2_a, ha2_b⟩ ⟨(by decide), (by decide)⟩ (by decide) (zdal_p dlB_T_peakPart_72 (i := 4) rfl) (fun hc_6 => ?_) (fun hc_6 => ?_)
    · skip
      refine zw_aload_n (pc := 12) (n := 0) (x := 0) rfl (zdal_p dlB_T_peakPart_72 (i := 7) rfl) ?_
      refine zw_getF (pc := 13) f_T_28 rfl ((hf.w hW).ka (o := 0) (by decide)) (hf.now hnow) (zdal_p dlB_T_peakPart_72 (i := 8) rfl) ?_
      refine zw_getF (pc := 16) f_T_61 rfl ((hf.w hW).kr (o := 0) (by decide)) ((hf.w hW).lr (o := 0) (s := 0) (r := 1) (by decide)) (zdal_p dlB_T_peakPart_72 (i := 9) rfl) ?_
      refine zk_getI (pc := 19) f_T_65 rfl ((hf.w hW).kr (o := 1) (by decide)) (zdal_p dlB_T_peakPart_72 (i := 10) rfl) ?_
      have hr14_ := ze_r Mz (d_ + 1) 7
      refine zw_istore (pc := 22) (i := 4) (L2 := [some (.ref 0), some (.int (Int32.ofInt a0_)), some (.int (Int32.ofInt a1_)), some (.int (Int32.ofInt a2_)), some (.int (Int32.ofInt (ze Mz (d_ + 1) 7))), none, none]) (by decide) rfl (zdal_p dlB_T_peakPart_72 (i := 11) rfl) ?_
      refine zw_aload_n (pc := 24) (n := 0) (x := 0) rfl (zdal_p dlB_T_peakPart_72 (i := 12) rfl) ?_
      refine zw_getF (pc := 25) f_T_28 rfl ((hf.w hW).ka (o := 0) (by decide)) (hf.now hnow) (zdal_p dlB_T_peakPart_72 (i := 13) rfl) ?_
      refine zw_getF (pc := 28) f_T_169 rfl ((hf.w hW).kr (o := 0) (by decide)) ((hf.w hW).lr (o := 0) (s := 2) (r := 23) (by decide)) (zdal_p dlB_T_peakPart_72 (i := 14) rfl) ?_
      refine zw_iload_n (pc := 31) (n := 1) (x := Int32.ofInt a0_) rfl (zdal_p dlB_T_peakPart_72 (i := 15) rfl) ?_
      refine zw_iload (pc := 32) (i := 4) (x := Int32.ofInt (ze Mz (d_ + 1) 7)) rfl (zdal_p dlB_T_peakPart_72 (i := 16) rfl) ?_
      refine zk_callV hf.x (pc := 34) [.int (Int32.ofInt a0_), .int (Int32.ofInt (ze Mz (d_ + 1) 7))] [] l_T_317 (u_Sums_putScaledX l d_ Mz (hf.w hW) a0_ ha0_a ha0_b (ze Mz (d_ + 1) 7) (ze_r Mz (d_ + 1) 7).1 (ze_r Mz (d_ + 1) 7).2) rfl rfl ((hf.w hW).kr (o := 23) (by decide)) (by decide) (by decide) (Nat.le_of_ble_eq_true rfl) (zdal_p dlB_T_peakPart_72 (i := 17) rfl) ?_
      rintro _ N15_ ⟨rfl, hsN15_, -⟩
      have hf_N15_ : zFc d_ [] [] [] [25, 27] Mz N15_ := hf.tr hsN15_ (by decide) (by decide) (by decide) (by decide)
      show zW l m_T_peakPart (zn Mz + 0, zw Mz + 0) N15_ 37 [some (.ref 0), some (.int (Int32.ofInt a0_)), some (.int (Int32.ofInt a1_)), some (.int (Int32.ofInt a2_)), some (.int (Int32.ofInt (ze Mz (d_ + 1) 7))), none, none] [] _
      refine zw_aload_n (pc := 37) (n := 0) (x := 0) rfl (zdal_p dlB_T_peakPart_72 (i := 18) rfl) ?_
      refine zw_getF (pc := 38) f_T_28 rfl ((hf_N15_.w hW).ka (o := 0) (by decide)) (hf_N15_.now hnow) (zdal_p dlB_T_peakPart_72 (i := 19) rfl) ?_
      refine zw_getF (pc := 41) f_T_169 rfl ((hf_N15_.w hW).kr (o := 0) (by decide)) ((hf_N15_.w hW).lr (o := 0) (s := 2) (r := 23) (by decide)) (zdal_p dlB_T_peakPart_72 (i := 20) rfl) ?_
      refine zw_bipush (pc := 44) (v := Int32.ofInt 39) (by decide) (zdal_p dlB_T_peakPart_72 (i := 21) rfl) ?_
      refine zw_iload_n (pc := 46) (n := 2) (x := Int32.ofInt a1_) rfl (zdal_p dlB_T_peakPart_72 (i := 22) rfl) ?_
      refine zk_callV hf_N15_.x (pc := 47) [.int (Int32.ofInt 39), .int (Int32.ofInt a1_)] [] l_T_179 (u_Sums_numberAtX l d_ N15_ (hf_N15_.w hW) 39 (by decide) (by decide) a1_ ha1_a ha1_b) rfl rfl ((hf_N15_.w hW).kr (o := 23) (by decide)) (by decide) (by decide) (Nat.le_of_ble_eq_true rfl) (zdal_p dlB_T_peakPart_72 (i := 23) rfl) ?_
      rintro _ N17_ ⟨v18_, rfl, ⟨hv18_a, hv18_b⟩, hsN17_, -⟩
      obtain rfl := hsN17_.eq.symm
      show zW l m_T_peakPart (zn Mz + 0, zw Mz + 0) N15_ 50 [some (.ref 0), some (.int (Int32.ofInt a0_)), some (.int (Int32.ofInt a1_)), some (.int (Int32.ofInt a2_)), some (.int (Int32.ofInt (ze Mz (d_ + 1) 7))), none, none] [.long (Int64.ofInt v18_)] _
      refine zr_l2i (pc := 50) (zdal_p dlB_T_peakPart_73 (i := 0) rfl) ?_
      refine zr_nmI (fun v19_ hv19_ => ?_)
      obtain ⟨hv19_a, hv19_b⟩ := hv19_
      refine zw_istore (pc := 51) (i := 5) (L2 := [some (.ref 0), some (.int (Int32.ofInt a0_)), some (.int (Int32.ofInt a1_)), some (.int (Int32.ofInt a2_)), some (.int (Int32.ofInt (ze Mz (d_ + 1) 7))), some (.int (Int32.ofInt v19_)), none]) (by decide) rfl (zdal_p dlB_T_peakPart_73 (i := 1) rfl) ?_
      refine zw_iload (pc := 53) (i := 4) (x := Int32.ofInt (ze Mz (d_ + 1) 7)) rfl (zdal_p dlB_T_peakPart_73 (i := 2) rfl) ?_
      refine zw_iload (pc := 55) (i := 5) (x := Int32.ofInt v19_) rfl (zdal_p dlB_T_peakPart_73 (i := 3) rfl) ?_
      refine zk_mabs (pc := 57) x_T_320 (by decide) (Nat.le_of_ble_eq_true rfl) (zdal_p dlB_T_peakPart_73 (i := 4) rfl) ⟨hv19_a, hv19_b⟩ (fun v20_ hv20_ hv20_e => ?_)
      obtain ⟨hv20_a, hv20_b⟩ := hv20_
      refine zr_callS hf_N15_.x (pc := 60) [.int (Int32.ofInt (ze Mz (d_ + 1) 7)), .int (Int32.ofInt v20_)] [] l_T_325 (u_T_greatestDivisorX l d_ N15_ (hf_N15_.w hW) (ze Mz (d_ + 1) 7) (ze_r Mz (d_ + 1) 7).1 (ze_r Mz (d_ + 1) 7).2 v20_ hv20_a hv20_b) rfl rfl (by decide) (Nat.le_of_ble_eq_true rfl) (zdal_p dlB_T_peakPart_73 (i := 5) rfl) ?_
      rintro _ N21_ ⟨v22_, rfl, ⟨hv22_a, hv22_b⟩, hsN21_, -⟩
      obtain rfl := hsN21_.eq.symm
      show zW l m_T_peakPart (zn Mz + 0, zw Mz + 0) N15_ 63 [some (.ref 0), some (.int (Int32.ofInt a0_)), some (.int (Int32.ofInt a1_)), some (.int (Int32.ofInt a2_)), some (.int (Int32.ofInt (ze Mz (d_ + 1) 7))), some (.int (Int32.ofInt v19_)), none] [.int (Int32.ofInt v22_)] _
      refine zw_istore (pc := 63) (i := 6) (L2 := [some (.ref 0), some (.int (Int32.ofInt a0_)), some (.int (Int32.ofInt a1_)), some (.int (Int32.ofInt a2_)), some (.int (Int32.ofInt (ze Mz (d_ + 1) 7))), some (.int (Int32.ofInt v19_)), some (.int (Int32.ofInt v22_))]) (by decide) rfl (zdal_p dlB_T_peakPart_73 (i := 6) rfl) ?_
      refine zw_iload (pc := 65) (i := 6) (x := Int32.ofInt v22_) rfl (zdal_p dlB_T_peakPart_73 (i := 7) rfl) ?_
      refine zr_if_ne (pc := 67) (tgt := 73) ⟨hv22_a, hv22_b⟩ (by decide) (zdal_p dlB_T_peakPart_73 (i := 8) rfl) (fun hc_67 => ?_) (fun hc_67 => ?_)
      · skip
        refine zw_iload_n (pc := 73) (n := 3) (x := Int32.ofInt a2_) rfl (zdal_p dlB_T_peakPart_73 (i := 11) rfl) ?_
        refine zr_if_ne (pc := 74) (tgt := 85) ⟨ha2_a, ha2_b⟩ (by decide) (zdal_p dlB_T_peakPart_73 (i := 12) rfl) (fun hc_74 => ?_) (fun hc_74 => ?_)
        · skip
          refine zw_iload (pc := 85) (i := 4) (x := Int32.ofInt (ze Mz (d_ + 1) 7)) rfl (zdal_p dlB_T_peakPart_73 (i := 17) rfl) ?_
          refine zw_iload (pc := 87) (i := 6) (x := Int32.ofInt v22_) rfl (zdal_p dlB_T_peakPart_73 (i := 18) rfl) ?_
          refine zr_idiv (pc := 89) ⟨by omega, by omega⟩ (by omega) (zdal_p dlB_T_peakPart_73 (i := 19) rfl) ?_
          have hr23_ := zquo_r (ze Mz (d_ + 1) 7) v22_
          refine zr_nmI (fun v24_ hv24_ => ?_)
          obtain ⟨hv24_a, hv24_b⟩ := hv24_
          exact zk_iret (pc := 90) (ty := .int) rfl rfl ⟨by omega, by omega⟩ hf_N15_ trivial d_T_peakPart_90
        · skip
          refine zw_iload (pc := 77) (i := 5) (x := Int32.ofInt v19_) rfl (zdal_p dlB_T_peakPart_73 (i := 13) rfl) ?_
          refine zw_iload (pc := 79) (i := 6) (x := Int32.ofInt v22_) rfl (zdal_p dlB_T_peakPart_73 (i := 14) rfl) ?_
          refine zr_idiv (pc := 81) ⟨by omega, by omega⟩ (by omega) (zdal_p dlB_T_peakPart_73 (i := 15) rfl) ?_
          have hr25_ := zquo_r v19_ v22_
          refine zr_nmI (fun v26_ hv26_ => ?_)
          obtain ⟨hv26_a, hv26_b⟩ := hv26_
          refine zw_goto (pc := 82) (tgt := 90) (by decide) (zdal_p dlB_T_peakPart_73 (i := 16) rfl) ?_
          exact zk_iret (pc := 90) (ty := .int) rfl rfl ⟨by omega, by omega⟩ hf_N15_ trivial d_T_peakPart_90
      · skip
        refine zw_ldc (pc := 70) (v := Int32.ofInt (-1000000)) (by rw [show Int32.ofInt (-1000000) = ((-1000000) : Int32) by decide]; exact k_T_204) (zdal_p dlB_T_peakPart_73 (i := 9) rfl) ?_
        exact zk_iret (pc := 72) (ty := .int) rfl rfl ⟨by omega, by omega⟩ hf_N15_ trivial (zdal_p dlB_T_peakPart_73 (i := 10) rfl)
    · skip
      refine zw_ldc (pc := 9) (v := Int32.ofInt (-1000000)) (by rw [show Int32.ofInt (-1000000) = ((-1000000) : Int32) by decide]; exact k_T_204) (zdal_p dlB_T_peakPart_72 (i := 5) rfl) ?_
      exact zk_iret (pc := 11) (ty := .int) rfl rfl ⟨by omega, by omega⟩ hf trivial (zdal_p dlB_T_peakPart_72 (i := 6) rfl)
set_option maxHeartbeats 4000000 in
theorem u_T_peakX (l : Launch) (d_ : Nat) (Mz : zMem) (hW : zKW d_ Mz) (hnow : zf Mz 0 2 = some (d_ + 0)) (a0_ : Int) (ha0_a : -2147483648 ≤ a0_) (ha0_b : a0_ < 2147483648) (a1_ : Int) (ha1_a : -2147483648 ≤ a1_) (ha1_b : a1_ < 2147483648) (a2_ : Int) (ha2_a : -2147483648 ≤ a2_) (ha2_b : a2_ < 2147483648) : zC l m_T_peak 0 0 [.ref 0, .int (Int32.ofInt a0_), .int (Int32.ofInt a1_), .int (Int32.ofInt a2_)] Mz (zqcI d_ [] [] [] [25, 27] Mz (fun v N => True)) := by
  refine zC_of (L0 := [some (.ref 0), some (.int (Int32.ofInt a0_)), some (.int (Int32.ofInt a1_)), some (.int (Int32.ofInt a2_))]) md_T_peak (Nat.le_of_ble_eq_true rfl) rfl ?_ zQ0
  have hf : zFc d_ [] [] [] [25, 27] Mz Mz := zFc.rf
  refine zw_aload_n (pc := 0) (n := 0) (x := 0) rfl (zdal_p dlB_T_peak_71 (i := 0) rfl) ?_
  refine zw_getF (pc := 1) f_T_28 rfl ((hf.w hW).ka (o := 0) (by decide)) (hf.now hnow) (zdal_p dlB_T_peak_71 (i := 1) rfl) ?_
  refine zw_getF (pc := 4) f_T_85 rfl ((hf.w hW).kr (o := 0) (by decide)) ((hf.w hW).lr (o := 0) (s := 1) (r := 12) (by decide)) (zdal_p dlB_T_peak_71 (i := 2) rfl) ?_
  refine zw_iload_n (pc := 7) (n := 1) (x := Int32.ofInt a0_) rfl (zdal_p dlB_T_peak_71 (i := 3) rfl) ?_
  refine zk_callV hf.x (pc := 8) [.int (Int32.ofInt a0_)] [] l_T_143 (u_Sorts_hasSortX l d_ Mz (hf.w hW) a0_ ha0_a ha0_b) rfl rfl ((hf.w hW).kr (o := 12) (by decide)) (by decide) (by decide) (Nat.le_of_ble_eq_true rfl) (zdal_p dlB_T_peak_71 (i := 4) rfl) ?_
  rintro _ N1_ ⟨v2_, rfl, ⟨hv2_a, hv2_b⟩, hsN1_, hp0_N1_⟩
  obtain rfl := hsN1_.eq.symm
  replace hp0_N1_ : (v2_ = 0 ∨ v2_ = 1) := hp0_N1_
  show zW l m_T_peak (zn Mz + 0, zw Mz + 0) Mz 11 [some (.ref 0), some (.int (Int32.ofInt a0_)), some (.int (Int32.ofInt a1_)), some (.int (Int32.ofInt a2_))] [.int (Int32.ofInt v2_)] _
  refine zr_if_eq (pc := 11) (tgt := 28) ⟨hv2_a, hv2_b⟩ (by decide) (zdal_p dlB_T_peak_71 (i := 5) rfl) (fun hc_11 => ?_) (fun hc_11 => ?_)
  · skip
    refine zw_ldc (pc := 28) (v := Int32.ofInt (-1000000)) (by rw [show Int32.ofInt (-1000000) = ((-1000000) : Int32) by decide]; exact k_T_204) (zdal_p dlB_T_peak_71 (i := 12) rfl) ?_
    exact zk_iret (pc := 30) (ty := .int) rfl rfl ⟨by omega, by omega⟩ hf trivial (zdal_p dlB_T_peak_71 (i := 13) rfl)
  · skip
    refine zw_aload_n (pc := 14) (n := 0) (x := 0) rfl (zdal_p dlB_T_peak_71 (i := 6) rfl) ?_
    refine zw_getF (pc := 15) f_T_28 rfl ((hf.w hW).ka (o := 0) (by decide)) (hf.now hnow) (zdal_p dlB_T_peak_71 (i := 7) rfl) ?_
    refine zw_getF (pc := 18) f_T_85 rfl ((hf.w hW).kr (o := 0) (by decide)) ((hf.w hW).lr (o := 0) (s := 1) (r := 12) (by decide)) (zdal_p dlB_T_peak_71 (i := 8) rfl) ?_
    refine zw_iload_n (pc := 21) (n := 2) (x := Int32.ofInt a1_) rfl (zdal_p dlB_T_peak_71 (i := 9) rfl) ?_
    refine zk_callV hf.x (pc := 22) [.int (Int32.ofInt a1_)] [] l_T_143 (u_Sorts_hasSortX l d_ Mz (hf.w hW) a1_ ha1_a ha1_b) rfl rfl ((hf.w hW).kr (o := 12) (by decide)) (by decide) (by decide) (Nat.le_of_ble_eq_true rfl) (zdal_p dlB_T_peak_71 (i := 10) rfl) ?_
    rintro _ N3_ ⟨v4_, rfl, ⟨hv4_a, hv4_b⟩, hsN3_, hp0_N3_⟩
    obtain rfl := hsN3_.eq.symm
    replace hp0_N3_ : (v4_ = 0 ∨ v4_ = 1) := hp0_N3_
    show zW l m_T_peak (zn Mz + 0, zw Mz + 0) Mz 25 [some (.ref 0), some (.int (Int32.ofInt a0_)), some (.int (Int32.ofInt a1_)), some (.int (Int32.ofInt a2_))] [.int (Int32.ofInt v4_)] _
    refine zr_if_ne (pc := 25) (tgt := 31) ⟨hv4_a, hv4_b⟩ (by decide) (zdal_p dlB_T_peak_71 (i := 11) rfl) (fun hc_25 => ?_) (fun hc_25 => ?_)
    · skip
      refine zw_aload_n (pc := 31) (n := 0) (x := 0) rfl (zdal_p dlB_T_peak_71 (i := 14) rfl) ?_
      refine zw_iconst (pc := 32) (v := Int32.ofInt 1) (by decide) (zdal_p dlB_T_peak_71 (i := 15) rfl) ?_
      refine zw_iload_n (pc := 33) (n := 1) (x := Int32.ofInt a0_) rfl (zdal_p dlB_T_peak_71 (i := 16) rfl) ?_
      refine zr_ishl (pc := 34) (zdal_p dlB_T_peak_71 (i := 17) rfl) ?_
      have hr5_ := zshl_r 1 a0_
      refine zr_nmI (fun v6_ hv6_ => ?_)
      obtain ⟨hv6_a, hv6_b⟩ := hv6_
      refine zw_iload_n (pc := 35) (n := 2) (x := Int32.ofInt a1_) rfl (zdal_p dlB_T_peak_71 (i := 18) rfl) ?_
      refine zw_iload_n (pc := 36) (n := 3) (x := Int32.ofInt a2_) rfl (zdal_p dlB_T_peak_71 (i := 19) rfl) ?_
      refine zk_callV hf.x (pc := 37) [.int (Int32.ofInt v6_), .int (Int32.ofInt a1_), .int (Int32.ofInt a2_)] [] l_T_223 (u_T_peakPartX l d_ Mz (hf.w hW) (hf.now hnow) v6_ hv6_a hv6_b a1_ ha1_a ha1_b a2_ ha2_a ha2_b) rfl rfl ((hf.w hW).ka (o := 0) (by decide)) (by decide) (by decide) (Nat.le_of_ble_eq_true rfl) (zdal_p dlB_T_peak_71 (i := 20) rfl) ?_
      rintro _ N7_ ⟨v8_, rfl, ⟨hv8_a, hv8_b⟩, hsN7_, -⟩
      have hf_N7_ : zFc d_ [] [] [] [25, 27] Mz N7_ := hf.tr hsN7_ (by decide) (by decide) (by decide) (by decide)
      show zW l m_T_peak (zn Mz + 0, zw Mz + 0) N7_ 40 [some (.ref 0), some (.int (Int32.ofInt a0_)), some (.int (Int32.ofInt a1_)), some (.int (Int32.ofInt a2_))] [.int (Int32.ofInt v8_)] _
      exact zk_iret (pc := 40) (ty := .int) rfl rfl ⟨by omega, by omega⟩ hf_N7_ trivial (zdal_p dlB_T_peak_71 (i := 21) rfl)
    · skip
      refine zw_ldc (pc := 28) (v := Int32.ofInt (-1000000)) (by rw [show Int32.ofInt (-1000000) = ((-1000000) : Int32) by decide]; exact k_T_204) (zdal_p dlB_T_peak_71 (i := 12) rfl) ?_
      exact zk_iret (pc := 30) (ty := .int) rfl rfl ⟨by omega, by omega⟩ hf trivial (zdal_p dlB_T_peak_71 (i := 13) rfl)
set_option maxHeartbeats 4000000 in
theorem u_Units_bitOfX (l : Launch) (d_ : Nat) (Mz : zMem) (hW : zKW d_ Mz) (a0_ : Int) (ha0_a : -2147483648 ≤ a0_) (ha0_b : a0_ < 2147483648) : zC l m_Units_bitOf 0 0 [.ref (d_ + 28), .int (Int32.ofInt a0_)] Mz (zqcI d_ [] [] [] [] Mz (fun v N => True)) := by
  refine zC_of (L0 := [some (.ref (d_ + 28)), some (.int (Int32.ofInt a0_))]) md_Units_bitOf (Nat.le_of_ble_eq_true rfl) rfl ?_ zQ0
  have hf : zFc d_ [] [] [] [] Mz Mz := zFc.rf
  refine zw_iconst (pc := 0) (v := Int32.ofInt 1) (by decide) (zdal_p dlB_Units_bitOf_87 (i := 0) rfl) ?_
  refine zw_aload_n (pc := 1) (n := 0) (x := (d_ + 28)) rfl (zdal_p dlB_Units_bitOf_87 (i := 1) rfl) ?_
  refine zw_getF (pc := 2) f_Units_23 rfl ((hf.w hW).kr (o := 28) (by decide)) ((hf.w hW).lr (o := 28) (s := 0) (r := 12) (by decide)) (zdal_p dlB_Units_bitOf_87 (i := 2) rfl) ?_
  refine zk_getI (pc := 5) f_Units_35 rfl ((hf.w hW).kr (o := 12) (by decide)) (zdal_p dlB_Units_bitOf_87 (i := 3) rfl) ?_
  have hr1_ := ze_r Mz (d_ + 12) 7
  refine zw_iconst (pc := 8) (v := Int32.ofInt 1) (by decide) (zdal_p dlB_Units_bitOf_87 (i := 4) rfl) ?_
  refine zr_isub (pc := 9) (zdal_p dlB_Units_bitOf_87 (i := 5) rfl) ?_
  refine zr_nmI (fun v2_ hv2_ => ?_)
  obtain ⟨hv2_a, hv2_b⟩ := hv2_
  refine zw_iload_n (pc := 10) (n := 1) (x := Int32.ofInt a0_) rfl (zdal_p dlB_Units_bitOf_87 (i := 6) rfl) ?_
  refine zr_isub (pc := 11) (zdal_p dlB_Units_bitOf_87 (i := 7) rfl) ?_
  refine zr_nmI (fun v3_ hv3_ => ?_)
  obtain ⟨hv3_a, hv3_b⟩ := hv3_
  refine zr_ishl (pc := 12) (zdal_p dlB_Units_bitOf_87 (i := 8) rfl) ?_
  have hr4_ := zshl_r 1 v3_
  refine zr_nmI (fun v5_ hv5_ => ?_)
  obtain ⟨hv5_a, hv5_b⟩ := hv5_
  exact zk_iret (pc := 13) (ty := .int) rfl rfl ⟨by omega, by omega⟩ hf trivial (zdal_p dlB_Units_bitOf_87 (i := 9) rfl)
set_option maxHeartbeats 4000000 in
theorem u_Units_straightenX (l : Launch) (d_ : Nat) (Mz : zMem) (hW : zKW d_ Mz) : zC l m_Units_straighten 0 0 [.ref (d_ + 28)] Mz (zqcV d_ [] [] [] [30] Mz (fun N => True)) := by
  refine zC_of (L0 := [some (.ref (d_ + 28)), none, none, none, none, none]) md_Units_straighten (Nat.le_of_ble_eq_true rfl) rfl ?_ zQ0
  have hf : zFc d_ [] [] [] [30] Mz Mz := zFc.rf
  refine zw_iconst (pc := 0) (v := Int32.ofInt 0) (by decide) (zdal_p dlB_Units_straighten_91 (i := 0) rfl) ?_
  refine zw_istore_n (pc := 1) (i := 1) (L2 := [some (.ref (d_ + 28)), some (.int (Int32.ofInt 0)), none, none, none, none]) rfl (by decide) rfl (zdal_p dlB_Units_straighten_91 (i := 1) rfl) ?_
  refine zw_iconst (pc := 2) (v := Int32.ofInt 0) (by decide) (zdal_p dlB_Units_straighten_91 (i := 2) rfl) ?_
  refine zw_istore_n (pc := 3) (i := 2) (L2 := [some (.ref (d_ + 28)), some (.int (Int32.ofInt 0)), some (.int (Int32.ofInt 0)), none, none, none]) rfl (by decide) rfl (zdal_p dlB_Units_straighten_91 (i := 3) rfl) ?_
  have lp_4 : ∀ (n : Nat) (u1_ : Int) (hu1_a : -2147483648 ≤ u1_) (hu1_b : u1_ < 2147483648) (u2_ : Int) (hu2_a : -2147483648 ≤ u2_) (hu2_b : u2_ < 2147483648) (N3_ : zMem) (hs4_ : zFc d_ [] [] [] [30] Mz N3_) (i5_ : 0 ≤ u2_), (ze Mz (d_ + 12) 7 - u2_).toNat < n → zW l m_Units_straighten (zn Mz + 0, zw Mz + 0) N3_ 4 [some (.ref (d_ + 28)), some (.int (Int32.ofInt u1_)), some (.int (Int32.ofInt u2_)), none, none, none] [] (zqcV d_ [] [] [] [30] Mz (fun N => True)) := by
    intro n
    induction n with
    | zero =>
      intro u1_ hu1_a hu1_b u2_ hu2_a hu2_b N3_ hs4_ i5_ h0
      exact absurd h0 (Nat.not_lt_zero _)
    | succ n ih_4 =>
      intro u1_ hu1_a hu1_b u2_ hu2_a hu2_b N3_ hs4_ i5_ hlt_4
      have hf_N3_ : zFc d_ [] [] [] [30] Mz N3_ := hf.tr hs4_ (by decide) (by decide) (by decide) (by decide)
      refine zw_iload_n (pc := 4) (n := 2) (x := Int32.ofInt u2_) rfl (zdal_p dlB_Units_straighten_91 (i := 4) rfl) ?_
      refine zw_aload_n (pc := 5) (n := 0) (x := (d_ + 28)) rfl (zdal_p dlB_Units_straighten_91 (i := 5) rfl) ?_
      refine zw_getF (pc := 6) f_Units_23 rfl ((hf_N3_.w hW).kr (o := 28) (by decide)) ((hf_N3_.w hW).lr (o := 28) (s := 0) (r := 12) (by decide)) (zdal_p dlB_Units_straighten_91 (i := 6) rfl) ?_
      refine zk_getI (pc := 9) f_Units_35 rfl ((hf_N3_.w hW).kr (o := 12) (by decide)) (zdal_p dlB_Units_straighten_91 (i := 7) rfl) ?_
      rw [hf_N3_.e (by decide)]
      have hr6_ := ze_r Mz (d_ + 12) 7
      refine zr_icmp_ge (pc := 12) (tgt := 167) ⟨hu2_a, hu2_b⟩ ⟨(ze_r Mz (d_ + 12) 7).1, (ze_r Mz (d_ + 12) 7).2⟩ (by decide) (zdal_p dlB_Units_straighten_91 (i := 8) rfl) (fun hc_12 => ?_) (fun hc_12 => ?_)
      · skip
        exact zk_vret (pc := 167) rfl hf_N3_ trivial (zdal_p dlB_Units_straighten_94 (i := 10) rfl)
      · skip
        refine zw_iload_n (pc := 15) (n := 1) (x := Int32.ofInt u1_) rfl (zdal_p dlB_Units_straighten_91 (i := 9) rfl) ?_
        refine zw_istore_n (pc := 16) (i := 3) (L2 := [some (.ref (d_ + 28)), some (.int (Int32.ofInt u1_)), some (.int (Int32.ofInt u2_)), some (.int (Int32.ofInt u1_)), none, none]) rfl (by decide) rfl (zdal_p dlB_Units_straighten_91 (i := 10) rfl) ?_
        have lp_17 : ∀ (n : Nat) (u7_ : Int) (hu7_a : -2147483648 ≤ u7_) (hu7_b : u7_ < 2147483648) (i8_ : u1_ ≤ u7_), (ze Mz (d_ + 28) 3 - u7_).toNat < n → zW l m_Units_straighten (zn Mz + 0, zw Mz + 0) N3_ 17 [some (.ref (d_ + 28)), some (.int (Int32.ofInt u1_)), some (.int (Int32.ofInt u2_)), some (.int (Int32.ofInt u7_)), none, none] [] (zqcV d_ [] [] [] [30] Mz (fun N => True)) := by
          intro n
          induction n with
          | zero =>
            intro u7_ hu7_a hu7_b i8_ h0
            exact absurd h0 (Nat.not_lt_zero _)
          | succ n ih_17 =>
            intro u7_ hu7_a hu7_b i8_ hlt_17
            refine zw_iload_n (pc := 17) (n := 3) (x := Int32.ofInt u7_) rfl (zdal_p dlB_Units_straighten_91 (i := 11) rfl) ?_
            refine zw_aload_n (pc := 18) (n := 0) (x := (d_ + 28)) rfl (zdal_p dlB_Units_straighten_91 (i := 12) rfl) ?_
            refine zk_getI (pc := 19) f_Units_31 rfl ((hf_N3_.w hW).kr (o := 28) (by decide)) (zdal_p dlB_Units_straighten_91 (i := 13) rfl) ?_
            rw [hf_N3_.e (by decide)]
            have hr9_ := ze_r Mz (d_ + 28) 3
            refine zr_icmp_ge (pc := 22) (tgt := 48) ⟨hu7_a, hu7_b⟩ ⟨(ze_r Mz (d_ + 28) 3).1, (ze_r Mz (d_ + 28) 3).2⟩ (by decide) (zdal_p dlB_Units_straighten_91 (i := 14) rfl) (fun hc_22 => ?_) (fun hc_22 => ?_)
            · skip
              refine zw_iload_n (pc := 48) (n := 3) (x := Int32.ofInt u7_) rfl (zdal_p dlB_Units_straighten_92 (i := 2) rfl) ?_
              refine zw_aload_n (pc := 49) (n := 0) (x := (d_ + 28)) rfl (zdal_p dlB_Units_straighten_92 (i := 3) rfl) ?_
              refine zk_getI (pc := 50) f_Units_31 rfl ((hf_N3_.w hW).kr (o := 28) (by decide)) (zdal_p dlB_Units_straighten_92 (i := 4) rfl) ?_
              rw [hf_N3_.e (by decide)]
              refine zr_icmp_lt (pc := 53) (tgt := 59) ⟨hu7_a, hu7_b⟩ ⟨(ze_r Mz (d_ + 28) 3).1, (ze_r Mz (d_ + 28) 3).2⟩ (by decide) (zdal_p dlB_Units_straighten_92 (i := 5) rfl) (fun hc_53 => ?_) (fun hc_53 => ?_)
              · skip
                refine zw_aload_n (pc := 59) (n := 0) (x := (d_ + 28)) rfl (zdal_p dlB_Units_straighten_92 (i := 7) rfl) ?_
                refine zw_getF (pc := 60) f_Units_14 rfl ((hf_N3_.w hW).kr (o := 28) (by decide)) ((hf_N3_.w hW).lr (o := 28) (s := 1) (r := 29) (by decide)) (zdal_p dlB_Units_straighten_92 (i := 8) rfl) ?_
                refine zw_iload_n (pc := 63) (n := 3) (x := Int32.ofInt u7_) rfl (zdal_p dlB_Units_straighten_92 (i := 9) rfl) ?_
                refine zk_atG hf_N3_.x (pc := 64) l_Units_57 ((hf_N3_.w hW).kr (o := 29) (by decide)) ((hf_N3_.w hW).lr (o := 29) (s := 0) (r := 30) (by decide)) ((hf_N3_.w hW).rr (o := 30) (t := 1) (n := 27) (by decide)) (by decide) ⟨by omega, by omega⟩ (by decide) (Nat.le_of_ble_eq_true rfl) (zdal_p dlB_Units_straighten_92 (i := 10) rfl) (fun v10_ hv10_ hv10_a hv10_b => ?_)
                clear hv10_
                refine zw_istore (pc := 67) (i := 4) (L2 := [some (.ref (d_ + 28)), some (.int (Int32.ofInt u1_)), some (.int (Int32.ofInt u2_)), some (.int (Int32.ofInt u7_)), some (.int (Int32.ofInt v10_)), none]) (by decide) rfl (zdal_p dlB_Units_straighten_92 (i := 11) rfl) ?_
                refine zw_aload_n (pc := 69) (n := 0) (x := (d_ + 28)) rfl (zdal_p dlB_Units_straighten_92 (i := 12) rfl) ?_
                refine zw_getF (pc := 70) f_Units_14 rfl ((hf_N3_.w hW).kr (o := 28) (by decide)) ((hf_N3_.w hW).lr (o := 28) (s := 1) (r := 29) (by decide)) (zdal_p dlB_Units_straighten_92 (i := 13) rfl) ?_
                refine zw_iload_n (pc := 73) (n := 3) (x := Int32.ofInt u7_) rfl (zdal_p dlB_Units_straighten_92 (i := 14) rfl) ?_
                refine zw_aload_n (pc := 74) (n := 0) (x := (d_ + 28)) rfl (zdal_p dlB_Units_straighten_92 (i := 15) rfl) ?_
                refine zw_getF (pc := 75) f_Units_14 rfl ((hf_N3_.w hW).kr (o := 28) (by decide)) ((hf_N3_.w hW).lr (o := 28) (s := 1) (r := 29) (by decide)) (zdal_p dlB_Units_straighten_92 (i := 16) rfl) ?_
                refine zw_iload_n (pc := 78) (n := 1) (x := Int32.ofInt u1_) rfl (zdal_p dlB_Units_straighten_92 (i := 17) rfl) ?_
                refine zk_atG hf_N3_.x (pc := 79) l_Units_57 ((hf_N3_.w hW).kr (o := 29) (by decide)) ((hf_N3_.w hW).lr (o := 29) (s := 0) (r := 30) (by decide)) ((hf_N3_.w hW).rr (o := 30) (t := 1) (n := 27) (by decide)) (by decide) ⟨by omega, by omega⟩ (by decide) (Nat.le_of_ble_eq_true rfl) (zdal_p dlB_Units_straighten_92 (i := 18) rfl) (fun v11_ hv11_ hv11_a hv11_b => ?_)
                clear hv11_
                refine zk_stG hf_N3_.x (pc := 82) (o := 30) (by decide) l_Units_40 ((hf_N3_.w hW).kr (o := 29) (by decide)) ((hf_N3_.w hW).lr (o := 29) (s := 0) (r := 30) (by decide)) ((hf_N3_.w hW).rr (o := 30) (t := 1) (n := 27) (by decide)) (by decide) ⟨by omega, by omega⟩ (by decide) (Nat.le_of_ble_eq_true rfl) (zdal_p dlB_Units_straighten_92 (i := 19) rfl) (fun N12_ hsN12_ => ?_)
                have hf_N12_ : zFc d_ [] [] [] [30] Mz N12_ := hf_N3_.tr hsN12_ (by decide) (by decide) (by decide) (by decide)
                have hb0_N12_ : zFc d_ [] [] [] [30] Mz N12_ := hs4_.tr hsN12_ (by decide) (by decide) (by decide) (by decide)
                refine zw_aload_n (pc := 85) (n := 0) (x := (d_ + 28)) rfl (zdal_p dlB_Units_straighten_92 (i := 20) rfl) ?_
                refine zw_getF (pc := 86) f_Units_14 rfl ((hf_N12_.w hW).kr (o := 28) (by decide)) ((hf_N12_.w hW).lr (o := 28) (s := 1) (r := 29) (by decide)) (zdal_p dlB_Units_straighten_92 (i := 21) rfl) ?_
                refine zw_iload_n (pc := 89) (n := 1) (x := Int32.ofInt u1_) rfl (zdal_p dlB_Units_straighten_92 (i := 22) rfl) ?_
                refine zw_iload (pc := 90) (i := 4) (x := Int32.ofInt v10_) rfl (zdal_p dlB_Units_straighten_92 (i := 23) rfl) ?_
                refine zk_stG hf_N12_.x (pc := 92) (o := 30) (by decide) l_Units_40 ((hf_N12_.w hW).kr (o := 29) (by decide)) ((hf_N12_.w hW).lr (o := 29) (s := 0) (r := 30) (by decide)) ((hf_N12_.w hW).rr (o := 30) (t := 1) (n := 27) (by decide)) (by decide) ⟨by omega, by omega⟩ (by decide) (Nat.le_of_ble_eq_true rfl) (zdal_p dlB_Units_straighten_93 (i := 0) rfl) (fun N13_ hsN13_ => ?_)
                have hf_N13_ : zFc d_ [] [] [] [30] Mz N13_ := hf_N12_.tr hsN13_ (by decide) (by decide) (by decide) (by decide)
                have hb0_N13_ : zFc d_ [] [] [] [30] Mz N13_ := hb0_N12_.tr hsN13_ (by decide) (by decide) (by decide) (by decide)
                refine zw_iconst (pc := 95) (v := Int32.ofInt 0) (by decide) (zdal_p dlB_Units_straighten_93 (i := 1) rfl) ?_
                refine zw_istore (pc := 96) (i := 5) (L2 := [some (.ref (d_ + 28)), some (.int (Int32.ofInt u1_)), some (.int (Int32.ofInt u2_)), some (.int (Int32.ofInt u7_)), some (.int (Int32.ofInt v10_)), some (.int (Int32.ofInt 0))]) (by decide) rfl (zdal_p dlB_Units_straighten_93 (i := 2) rfl) ?_
                have lp_98 : ∀ (n : Nat) (u14_ : Int) (hu14_a : -2147483648 ≤ u14_) (hu14_b : u14_ < 2147483648) (N15_ : zMem) (hs16_ : zFc d_ [] [] [] [30] N13_ N15_) (i17_ : 0 ≤ u14_), (ze Mz (d_ + 28) 3 - u14_).toNat < n → zW l m_Units_straighten (zn Mz + 0, zw Mz + 0) N15_ 98 [some (.ref (d_ + 28)), some (.int (Int32.ofInt u1_)), some (.int (Int32.ofInt u2_)), some (.int (Int32.ofInt u7_)), some (.int (Int32.ofInt v10_)), some (.int (Int32.ofInt u14_))] [] (zqcV d_ [] [] [] [30] Mz (fun N => True)) := by
                  intro n
                  induction n with
                  | zero =>
                    intro u14_ hu14_a hu14_b N15_ hs16_ i17_ h0
                    exact absurd h0 (Nat.not_lt_zero _)
                  | succ n ih_98 =>
                    intro u14_ hu14_a hu14_b N15_ hs16_ i17_ hlt_98
                    have hf_N15_ : zFc d_ [] [] [] [30] Mz N15_ := hf_N13_.tr hs16_ (by decide) (by decide) (by decide) (by decide)
                    have hb0_N15_ : zFc d_ [] [] [] [30] Mz N15_ := hb0_N13_.tr hs16_ (by decide) (by decide) (by decide) (by decide)
                    refine zw_iload (pc := 98) (i := 5) (x := Int32.ofInt u14_) rfl (zdal_p dlB_Units_straighten_93 (i := 3) rfl) ?_
                    refine zw_aload_n (pc := 100) (n := 0) (x := (d_ + 28)) rfl (zdal_p dlB_Units_straighten_93 (i := 4) rfl) ?_
                    refine zk_getI (pc := 101) f_Units_31 rfl ((hf_N15_.w hW).kr (o := 28) (by decide)) (zdal_p dlB_Units_straighten_93 (i := 5) rfl) ?_
                    rw [hf_N15_.e (by decide)]
                    refine zr_icmp_ge (pc := 104) (tgt := 158) ⟨hu14_a, hu14_b⟩ ⟨(ze_r Mz (d_ + 28) 3).1, (ze_r Mz (d_ + 28) 3).2⟩ (by decide) (zdal_p dlB_Units_straighten_93 (i := 6) rfl) (fun hc_104 => ?_) (fun hc_104 => ?_)
                    · skip
                      refine zr_iinc (pc := 158) (i := 1) (a := u1_) (n := 1) (L2 := [some (.ref (d_ + 28)), some (.int (Int32.ofInt (u1_ + 1))), some (.int (Int32.ofInt u2_)), some (.int (Int32.ofInt u7_)), some (.int (Int32.ofInt v10_)), some (.int (Int32.ofInt u14_))]) rfl (by decide) rfl (zdal_p dlB_Units_straighten_94 (i := 7) rfl) ?_
                      obtain ⟨v18_, hv18_a, hv18_b, hv18_e, hv18_d⟩ := zk_gen (u1_ + 1)
                      rw [hv18_e]
                      refine zr_iinc (pc := 161) (i := 2) (a := u2_) (n := 1) (L2 := [some (.ref (d_ + 28)), some (.int (Int32.ofInt v18_)), some (.int (Int32.ofInt (u2_ + 1))), some (.int (Int32.ofInt u7_)), some (.int (Int32.ofInt v10_)), some (.int (Int32.ofInt u14_))]) rfl (by decide) rfl (zdal_p dlB_Units_straighten_94 (i := 8) rfl) ?_
                      obtain ⟨v19_, hv19_a, hv19_b, hv19_e, hv19_d⟩ := zk_gen (u2_ + 1)
                      rw [hv19_e]
                      refine zw_goto (pc := 164) (tgt := 4) (by decide) (zdal_p dlB_Units_straighten_94 (i := 9) rfl) ?_
                      refine zW_le [some (.ref (d_ + 28)), some (.int (Int32.ofInt v18_)), some (.int (Int32.ofInt v19_)), none, none, none] (⟨rfl, rfl, rfl, trivial⟩) ?_
                      exact ih_4 v18_ hv18_a hv18_b v19_ hv19_a hv19_b N15_ hb0_N15_ (show 0 ≤ v19_ by first | with_reducible assumption | assumption | omega) (by omega)
                    · skip
                      refine zw_iload (pc := 107) (i := 5) (x := Int32.ofInt u14_) rfl (zdal_p dlB_Units_straighten_93 (i := 7) rfl) ?_
                      refine zw_iload_n (pc := 109) (n := 1) (x := Int32.ofInt u1_) rfl (zdal_p dlB_Units_straighten_93 (i := 8) rfl) ?_
                      refine zr_icmp_eq (pc := 110) (tgt := 152) ⟨hu14_a, hu14_b⟩ ⟨hu1_a, hu1_b⟩ (by decide) (zdal_p dlB_Units_straighten_93 (i := 9) rfl) (fun hc_110 => ?_) (fun hc_110 => ?_)
                      · skip
                        refine zr_iinc (pc := 152) (i := 5) (a := u14_) (n := 1) (L2 := [some (.ref (d_ + 28)), some (.int (Int32.ofInt u1_)), some (.int (Int32.ofInt u2_)), some (.int (Int32.ofInt u7_)), some (.int (Int32.ofInt v10_)), some (.int (Int32.ofInt (u14_ + 1)))]) rfl (by decide) rfl d_Units_straighten_152 ?_
                        obtain ⟨v20_, hv20_a, hv20_b, hv20_e, hv20_d⟩ := zk_gen (u14_ + 1)
                        rw [hv20_e]
                        refine zw_goto (pc := 155) (tgt := 98) (by decide) d_Units_straighten_155 ?_
                        exact ih_98 v20_ hv20_a hv20_b N15_ hs16_ (show 0 ≤ v20_ by first | with_reducible assumption | assumption | omega) (by omega)
                      · skip
                        refine zw_aload_n (pc := 113) (n := 0) (x := (d_ + 28)) rfl (zdal_p dlB_Units_straighten_93 (i := 10) rfl) ?_
                        refine zw_getF (pc := 114) f_Units_14 rfl ((hf_N15_.w hW).kr (o := 28) (by decide)) ((hf_N15_.w hW).lr (o := 28) (s := 1) (r := 29) (by decide)) (zdal_p dlB_Units_straighten_93 (i := 11) rfl) ?_
                        refine zw_iload (pc := 117) (i := 5) (x := Int32.ofInt u14_) rfl (zdal_p dlB_Units_straighten_93 (i := 12) rfl) ?_
                        refine zk_atG hf_N15_.x (pc := 119) l_Units_57 ((hf_N15_.w hW).kr (o := 29) (by decide)) ((hf_N15_.w hW).lr (o := 29) (s := 0) (r := 30) (by decide)) ((hf_N15_.w hW).rr (o := 30) (t := 1) (n := 27) (by decide)) (by decide) ⟨by omega, by omega⟩ (by decide) (Nat.le_of_ble_eq_true rfl) (zdal_p dlB_Units_straighten_93 (i := 13) rfl) (fun v21_ hv21_ hv21_a hv21_b => ?_)
                        clear hv21_
                        refine zw_aload_n (pc := 122) (n := 0) (x := (d_ + 28)) rfl (zdal_p dlB_Units_straighten_93 (i := 14) rfl) ?_
                        refine zw_iload_n (pc := 123) (n := 2) (x := Int32.ofInt u2_) rfl (zdal_p dlB_Units_straighten_93 (i := 15) rfl) ?_
                        refine zk_callV hf_N15_.x (pc := 124) [.int (Int32.ofInt u2_)] [.int (Int32.ofInt v21_)] l_Units_80 (u_Units_bitOfX l d_ N15_ (hf_N15_.w hW) u2_ hu2_a hu2_b) rfl rfl ((hf_N15_.w hW).kr (o := 28) (by decide)) (by decide) (by decide) (Nat.le_of_ble_eq_true rfl) (zdal_p dlB_Units_straighten_93 (i := 16) rfl) ?_
                        rintro _ N22_ ⟨v23_, rfl, ⟨hv23_a, hv23_b⟩, hsN22_, -⟩
                        obtain rfl := hsN22_.eq.symm
                        show zW l m_Units_straighten (zn Mz + 0, zw Mz + 0) N15_ 127 [some (.ref (d_ + 28)), some (.int (Int32.ofInt u1_)), some (.int (Int32.ofInt u2_)), some (.int (Int32.ofInt u7_)), some (.int (Int32.ofInt v10_)), some (.int (Int32.ofInt u14_))] [.int (Int32.ofInt v23_), .int (Int32.ofInt v21_)] _
                        refine zr_iand (pc := 127) (zdal_p dlB_Units_straighten_93 (i := 17) rfl) ?_
                        have hr24_ := zand_r v21_ v23_
                        refine zr_nmI (fun v25_ hv25_ => ?_)
                        obtain ⟨hv25_a, hv25_b⟩ := hv25_
                        refine zr_if_eq (pc := 128) (tgt := 152) ⟨hv25_a, hv25_b⟩ (by decide) (zdal_p dlB_Units_straighten_93 (i := 18) rfl) (fun hc_128 => ?_) (fun hc_128 => ?_)
                        · skip
                          refine zr_iinc (pc := 152) (i := 5) (a := u14_) (n := 1) (L2 := [some (.ref (d_ + 28)), some (.int (Int32.ofInt u1_)), some (.int (Int32.ofInt u2_)), some (.int (Int32.ofInt u7_)), some (.int (Int32.ofInt v10_)), some (.int (Int32.ofInt (u14_ + 1)))]) rfl (by decide) rfl d_Units_straighten_152 ?_
                          obtain ⟨v26_, hv26_a, hv26_b, hv26_e, hv26_d⟩ := zk_gen (u14_ + 1)
                          rw [hv26_e]
                          refine zw_goto (pc := 155) (tgt := 98) (by decide) d_Units_straighten_155 ?_
                          exact ih_98 v26_ hv26_a hv26_b N15_ hs16_ (show 0 ≤ v26_ by first | with_reducible assumption | assumption | omega) (by omega)
                        · skip
                          refine zw_aload_n (pc := 131) (n := 0) (x := (d_ + 28)) rfl (zdal_p dlB_Units_straighten_93 (i := 19) rfl) ?_
                          refine zw_getF (pc := 132) f_Units_14 rfl ((hf_N15_.w hW).kr (o := 28) (by decide)) ((hf_N15_.w hW).lr (o := 28) (s := 1) (r := 29) (by decide)) (zdal_p dlB_Units_straighten_93 (i := 20) rfl) ?_
                          refine zw_iload (pc := 135) (i := 5) (x := Int32.ofInt u14_) rfl (zdal_p dlB_Units_straighten_93 (i := 21) rfl) ?_
                          refine zw_aload_n (pc := 137) (n := 0) (x := (d_ + 28)) rfl (zdal_p dlB_Units_straighten_93 (i := 22) rfl) ?_
                          refine zw_getF (pc := 138) f_Units_14 rfl ((hf_N15_.w hW).kr (o := 28) (by decide)) ((hf_N15_.w hW).lr (o := 28) (s := 1) (r := 29) (by decide)) (zdal_p dlB_Units_straighten_93 (i := 23) rfl) ?_
                          refine zw_iload (pc := 141) (i := 5) (x := Int32.ofInt u14_) rfl (zdal_p dlB_Units_straighten_94 (i := 0) rfl) ?_
                          refine zk_atG hf_N15_.x (pc := 143) l_Units_57 ((hf_N15_.w hW).kr (o := 29) (by decide)) ((hf_N15_.w hW).lr (o := 29) (s := 0) (r := 30) (by decide)) ((hf_N15_.w hW).rr (o := 30) (t := 1) (n := 27) (by decide)) (by decide) ⟨by omega, by omega⟩ (by decide) (Nat.le_of_ble_eq_true rfl) (zdal_p dlB_Units_straighten_94 (i := 1) rfl) (fun v27_ hv27_ hv27_a hv27_b => ?_)
                          clear hv27_
                          refine zw_iload (pc := 146) (i := 4) (x := Int32.ofInt v10_) rfl (zdal_p dlB_Units_straighten_94 (i := 2) rfl) ?_
                          refine zr_ixor (pc := 148) (zdal_p dlB_Units_straighten_94 (i := 3) rfl) ?_
                          have hr28_ := zxor_r v27_ v10_
                          refine zr_nmI (fun v29_ hv29_ => ?_)
                          obtain ⟨hv29_a, hv29_b⟩ := hv29_
                          refine zk_stG hf_N15_.x (pc := 149) (o := 30) (by decide) l_Units_40 ((hf_N15_.w hW).kr (o := 29) (by decide)) ((hf_N15_.w hW).lr (o := 29) (s := 0) (r := 30) (by decide)) ((hf_N15_.w hW).rr (o := 30) (t := 1) (n := 27) (by decide)) (by decide) ⟨by omega, by omega⟩ (by decide) (Nat.le_of_ble_eq_true rfl) (zdal_p dlB_Units_straighten_94 (i := 4) rfl) (fun N30_ hsN30_ => ?_)
                          have hf_N30_ : zFc d_ [] [] [] [30] Mz N30_ := hf_N15_.tr hsN30_ (by decide) (by decide) (by decide) (by decide)
                          have hb0_N30_ : zFc d_ [] [] [] [30] Mz N30_ := hb0_N15_.tr hsN30_ (by decide) (by decide) (by decide) (by decide)
                          have hb1_N30_ : zFc d_ [] [] [] [30] N13_ N30_ := hs16_.tr hsN30_ (by decide) (by decide) (by decide) (by decide)
                          refine zr_iinc (pc := 152) (i := 5) (a := u14_) (n := 1) (L2 := [some (.ref (d_ + 28)), some (.int (Int32.ofInt u1_)), some (.int (Int32.ofInt u2_)), some (.int (Int32.ofInt u7_)), some (.int (Int32.ofInt v10_)), some (.int (Int32.ofInt (u14_ + 1)))]) rfl (by decide) rfl d_Units_straighten_152 ?_
                          obtain ⟨v31_, hv31_a, hv31_b, hv31_e, hv31_d⟩ := zk_gen (u14_ + 1)
                          rw [hv31_e]
                          refine zw_goto (pc := 155) (tgt := 98) (by decide) d_Units_straighten_155 ?_
                          exact ih_98 v31_ hv31_a hv31_b N30_ hb1_N30_ (show 0 ≤ v31_ by first | with_reducible assumption | assumption | omega) (by omega)
                exact lp_98 _ 0 (by decide) (by decide) N13_ zFc.rf (show 0 ≤ (0 : Int) by first | with_reducible assumption | assumption | omega) (Nat.lt_succ_self _)
              · skip
                refine zw_goto (pc := 56) (tgt := 161) (by decide) (zdal_p dlB_Units_straighten_92 (i := 6) rfl) ?_
                refine zr_iinc (pc := 161) (i := 2) (a := u2_) (n := 1) (L2 := [some (.ref (d_ + 28)), some (.int (Int32.ofInt u1_)), some (.int (Int32.ofInt (u2_ + 1))), some (.int (Int32.ofInt u7_)), none, none]) rfl (by decide) rfl (zdal_p dlB_Units_straighten_94 (i := 8) rfl) ?_
                obtain ⟨v32_, hv32_a, hv32_b, hv32_e, hv32_d⟩ := zk_gen (u2_ + 1)
                rw [hv32_e]
                refine zw_goto (pc := 164) (tgt := 4) (by decide) (zdal_p dlB_Units_straighten_94 (i := 9) rfl) ?_
                refine zW_le [some (.ref (d_ + 28)), some (.int (Int32.ofInt u1_)), some (.int (Int32.ofInt v32_)), none, none, none] (⟨rfl, rfl, rfl, trivial⟩) ?_
                exact ih_4 u1_ hu1_a hu1_b v32_ hv32_a hv32_b N3_ hs4_ (show 0 ≤ v32_ by first | with_reducible assumption | assumption | omega) (by omega)
            · skip
              refine zw_aload_n (pc := 25) (n := 0) (x := (d_ + 28)) rfl (zdal_p dlB_Units_straighten_91 (i := 15) rfl) ?_
              refine zw_getF (pc := 26) f_Units_14 rfl ((hf_N3_.w hW).kr (o := 28) (by decide)) ((hf_N3_.w hW).lr (o := 28) (s := 1) (r := 29) (by decide)) (zdal_p dlB_Units_straighten_91 (i := 16) rfl) ?_
              refine zw_iload_n (pc := 29) (n := 3) (x := Int32.ofInt u7_) rfl (zdal_p dlB_Units_straighten_91 (i := 17) rfl) ?_
              refine zk_atG hf_N3_.x (pc := 30) l_Units_57 ((hf_N3_.w hW).kr (o := 29) (by decide)) ((hf_N3_.w hW).lr (o := 29) (s := 0) (r := 30) (by decide)) ((hf_N3_.w hW).rr (o := 30) (t := 1) (n := 27) (by decide)) (by decide) ⟨by omega, by omega⟩ (by decide) (Nat.le_of_ble_eq_true rfl) (zdal_p dlB_Units_straighten_91 (i := 18) rfl) (fun v33_ hv33_ hv33_a hv33_b => ?_)
              clear hv33_
              refine zw_aload_n (pc := 33) (n := 0) (x := (d_ + 28)) rfl (zdal_p dlB_Units_straighten_91 (i := 19) rfl) ?_
              refine zw_iload_n (pc := 34) (n := 2) (x := Int32.ofInt u2_) rfl (zdal_p dlB_Units_straighten_91 (i := 20) rfl) ?_
              refine zk_callV hf_N3_.x (pc := 35) [.int (Int32.ofInt u2_)] [.int (Int32.ofInt v33_)] l_Units_80 (u_Units_bitOfX l d_ N3_ (hf_N3_.w hW) u2_ hu2_a hu2_b) rfl rfl ((hf_N3_.w hW).kr (o := 28) (by decide)) (by decide) (by decide) (Nat.le_of_ble_eq_true rfl) (zdal_p dlB_Units_straighten_91 (i := 21) rfl) ?_
              rintro _ N34_ ⟨v35_, rfl, ⟨hv35_a, hv35_b⟩, hsN34_, -⟩
              obtain rfl := hsN34_.eq.symm
              show zW l m_Units_straighten (zn Mz + 0, zw Mz + 0) N3_ 38 [some (.ref (d_ + 28)), some (.int (Int32.ofInt u1_)), some (.int (Int32.ofInt u2_)), some (.int (Int32.ofInt u7_)), none, none] [.int (Int32.ofInt v35_), .int (Int32.ofInt v33_)] _
              refine zr_iand (pc := 38) (zdal_p dlB_Units_straighten_91 (i := 22) rfl) ?_
              have hr36_ := zand_r v33_ v35_
              refine zr_nmI (fun v37_ hv37_ => ?_)
              obtain ⟨hv37_a, hv37_b⟩ := hv37_
              refine zr_if_ne (pc := 39) (tgt := 48) ⟨hv37_a, hv37_b⟩ (by decide) (zdal_p dlB_Units_straighten_91 (i := 23) rfl) (fun hc_39 => ?_) (fun hc_39 => ?_)
              · skip
                refine zw_iload_n (pc := 48) (n := 3) (x := Int32.ofInt u7_) rfl (zdal_p dlB_Units_straighten_92 (i := 2) rfl) ?_
                refine zw_aload_n (pc := 49) (n := 0) (x := (d_ + 28)) rfl (zdal_p dlB_Units_straighten_92 (i := 3) rfl) ?_
                refine zk_getI (pc := 50) f_Units_31 rfl ((hf_N3_.w hW).kr (o := 28) (by decide)) (zdal_p dlB_Units_straighten_92 (i := 4) rfl) ?_
                rw [hf_N3_.e (by decide)]
                refine zr_icmp_lt (pc := 53) (tgt := 59) ⟨hu7_a, hu7_b⟩ ⟨(ze_r Mz (d_ + 28) 3).1, (ze_r Mz (d_ + 28) 3).2⟩ (by decide) (zdal_p dlB_Units_straighten_92 (i := 5) rfl) (fun hc_53 => ?_) (fun hc_53 => ?_)
                · skip
                  refine zw_aload_n (pc := 59) (n := 0) (x := (d_ + 28)) rfl (zdal_p dlB_Units_straighten_92 (i := 7) rfl) ?_
                  refine zw_getF (pc := 60) f_Units_14 rfl ((hf_N3_.w hW).kr (o := 28) (by decide)) ((hf_N3_.w hW).lr (o := 28) (s := 1) (r := 29) (by decide)) (zdal_p dlB_Units_straighten_92 (i := 8) rfl) ?_
                  refine zw_iload_n (pc := 63) (n := 3) (x := Int32.ofInt u7_) rfl (zdal_p dlB_Units_straighten_92 (i := 9) rfl) ?_
                  refine zk_atG hf_N3_.x (pc := 64) l_Units_57 ((hf_N3_.w hW).kr (o := 29) (by decide)) ((hf_N3_.w hW).lr (o := 29) (s := 0) (r := 30) (by decide)) ((hf_N3_.w hW).rr (o := 30) (t := 1) (n := 27) (by decide)) (by decide) ⟨by omega, by omega⟩ (by decide) (Nat.le_of_ble_eq_true rfl) (zdal_p dlB_Units_straighten_92 (i := 10) rfl) (fun v38_ hv38_ hv38_a hv38_b => ?_)
                  clear hv38_
                  refine zw_istore (pc := 67) (i := 4) (L2 := [some (.ref (d_ + 28)), some (.int (Int32.ofInt u1_)), some (.int (Int32.ofInt u2_)), some (.int (Int32.ofInt u7_)), some (.int (Int32.ofInt v38_)), none]) (by decide) rfl (zdal_p dlB_Units_straighten_92 (i := 11) rfl) ?_
                  refine zw_aload_n (pc := 69) (n := 0) (x := (d_ + 28)) rfl (zdal_p dlB_Units_straighten_92 (i := 12) rfl) ?_
                  refine zw_getF (pc := 70) f_Units_14 rfl ((hf_N3_.w hW).kr (o := 28) (by decide)) ((hf_N3_.w hW).lr (o := 28) (s := 1) (r := 29) (by decide)) (zdal_p dlB_Units_straighten_92 (i := 13) rfl) ?_
                  refine zw_iload_n (pc := 73) (n := 3) (x := Int32.ofInt u7_) rfl (zdal_p dlB_Units_straighten_92 (i := 14) rfl) ?_
                  refine zw_aload_n (pc := 74) (n := 0) (x := (d_ + 28)) rfl (zdal_p dlB_Units_straighten_92 (i := 15) rfl) ?_
                  refine zw_getF (pc := 75) f_Units_14 rfl ((hf_N3_.w hW).kr (o := 28) (by decide)) ((hf_N3_.w hW).lr (o := 28) (s := 1) (r := 29) (by decide)) (zdal_p dlB_Units_straighten_92 (i := 16) rfl) ?_
                  refine zw_iload_n (pc := 78) (n := 1) (x := Int32.ofInt u1_) rfl (zdal_p dlB_Units_straighten_92 (i := 17) rfl) ?_
                  refine zk_atG hf_N3_.x (pc := 79) l_Units_57 ((hf_N3_.w hW).kr (o := 29) (by decide)) ((hf_N3_.w hW).lr (o := 29) (s := 0) (r := 30) (by decide)) ((hf_N3_.w hW).rr (o := 30) (t := 1) (n := 27) (by decide)) (by decide) ⟨by omega, by omega⟩ (by decide) (Nat.le_of_ble_eq_true rfl) (zdal_p dlB_Units_straighten_92 (i := 18) rfl) (fun v39_ hv39_ hv39_a hv39_b => ?_)
                  clear hv39_
                  refine zk_stG hf_N3_.x (pc := 82) (o := 30) (by decide) l_Units_40 ((hf_N3_.w hW).kr (o := 29) (by decide)) ((hf_N3_.w hW).lr (o := 29) (s := 0) (r := 30) (by decide)) ((hf_N3_.w hW).rr (o := 30) (t := 1) (n := 27) (by decide)) (by decide) ⟨by omega, by omega⟩ (by decide) (Nat.le_of_ble_eq_true rfl) (zdal_p dlB_Units_straighten_92 (i := 19) rfl) (fun N40_ hsN40_ => ?_)
                  have hf_N40_ : zFc d_ [] [] [] [30] Mz N40_ := hf_N3_.tr hsN40_ (by decide) (by decide) (by decide) (by decide)
                  have hb0_N40_ : zFc d_ [] [] [] [30] Mz N40_ := hs4_.tr hsN40_ (by decide) (by decide) (by decide) (by decide)
                  refine zw_aload_n (pc := 85) (n := 0) (x := (d_ + 28)) rfl (zdal_p dlB_Units_straighten_92 (i := 20) rfl) ?_
                  refine zw_getF (pc := 86) f_Units_14 rfl ((hf_N40_.w hW).kr (o := 28) (by decide)) ((hf_N40_.w hW).lr (o := 28) (s := 1) (r := 29) (by decide)) (zdal_p dlB_Units_straighten_92 (i := 21) rfl) ?_
                  refine zw_iload_n (pc := 89) (n := 1) (x := Int32.ofInt u1_) rfl (zdal_p dlB_Units_straighten_92 (i := 22) rfl) ?_
                  refine zw_iload (pc := 90) (i := 4) (x := Int32.ofInt v38_) rfl (zdal_p dlB_Units_straighten_92 (i := 23) rfl) ?_
                  refine zk_stG hf_N40_.x (pc := 92) (o := 30) (by decide) l_Units_40 ((hf_N40_.w hW).kr (o := 29) (by decide)) ((hf_N40_.w hW).lr (o := 29) (s := 0) (r := 30) (by decide)) ((hf_N40_.w hW).rr (o := 30) (t := 1) (n := 27) (by decide)) (by decide) ⟨by omega, by omega⟩ (by decide) (Nat.le_of_ble_eq_true rfl) (zdal_p dlB_Units_straighten_93 (i := 0) rfl) (fun N41_ hsN41_ => ?_)
                  have hf_N41_ : zFc d_ [] [] [] [30] Mz N41_ := hf_N40_.tr hsN41_ (by decide) (by decide) (by decide) (by decide)
                  have hb0_N41_ : zFc d_ [] [] [] [30] Mz N41_ := hb0_N40_.tr hsN41_ (by decide) (by decide) (by decide) (by decide)
                  refine zw_iconst (pc := 95) (v := Int32.ofInt 0) (by decide) (zdal_p dlB_Units_straighten_93 (i := 1) rfl) ?_
                  refine zw_istore (pc := 96) (i := 5) (L2 := [some (.ref (d_ + 28)), some (.int (Int32.ofInt u1_)), some (.int (Int32.ofInt u2_)), some (.int (Int32.ofInt u7_)), some (.int (Int32.ofInt v38_)), some (.int (Int32.ofInt 0))]) (by decide) rfl (zdal_p dlB_Units_straighten_93 (i := 2) rfl) ?_
                  have lp_98 : ∀ (n : Nat) (u42_ : Int) (hu42_a : -2147483648 ≤ u42_) (hu42_b : u42_ < 2147483648) (N43_ : zMem) (hs44_ : zFc d_ [] [] [] [30] N41_ N43_) (i45_ : 0 ≤ u42_), (ze Mz (d_ + 28) 3 - u42_).toNat < n → zW l m_Units_straighten (zn Mz + 0, zw Mz + 0) N43_ 98 [some (.ref (d_ + 28)), some (.int (Int32.ofInt u1_)), some (.int (Int32.ofInt u2_)), some (.int (Int32.ofInt u7_)), some (.int (Int32.ofInt v38_)), some (.int (Int32.ofInt u42_))] [] (zqcV d_ [] [] [] [30] Mz (fun N => True)) := by
                    intro n
                    induction n with
                    | zero =>
                      intro u42_ hu42_a hu42_b N43_ hs44_ i45_ h0
                      exact absurd h0 (Nat.not_lt_zero _)
                    | succ n ih_98 =>
                      intro u42_ hu42_a hu42_b N43_ hs44_ i45_ hlt_98
                      have hf_N43_ : zFc d_ [] [] [] [30] Mz N43_ := hf_N41_.tr hs44_ (by decide) (by decide) (by decide) (by decide)
                      have hb0_N43_ : zFc d_ [] [] [] [30] Mz N43_ := hb0_N41_.tr hs44_ (by decide) (by decide) (by decide) (by decide)
                      refine zw_iload (pc := 98) (i := 5) (x := Int32.ofInt u42_) rfl (zdal_p dlB_Units_straighten_93 (i := 3) rfl) ?_
                      refine zw_aload_n (pc := 100) (n := 0) (x := (d_ + 28)) rfl (zdal_p dlB_Units_straighten_93 (i := 4) rfl) ?_
                      refine zk_getI (pc := 101) f_Units_31 rfl ((hf_N43_.w hW).kr (o := 28) (by decide)) (zdal_p dlB_Units_straighten_93 (i := 5) rfl) ?_
                      rw [hf_N43_.e (by decide)]
                      refine zr_icmp_ge (pc := 104) (tgt := 158) ⟨hu42_a, hu42_b⟩ ⟨(ze_r Mz (d_ + 28) 3).1, (ze_r Mz (d_ + 28) 3).2⟩ (by decide) (zdal_p dlB_Units_straighten_93 (i := 6) rfl) (fun hc_104 => ?_) (fun hc_104 => ?_)
                      · skip
                        refine zr_iinc (pc := 158) (i := 1) (a := u1_) (n := 1) (L2 := [some (.ref (d_ + 28)), some (.int (Int32.ofInt (u1_ + 1))), some (.int (Int32.ofInt u2_)), some (.int (Int32.ofInt u7_)), some (.int (Int32.ofInt v38_)), some (.int (Int32.ofInt u42_))]) rfl (by decide) rfl (zdal_p dlB_Units_straighten_94 (i := 7) rfl) ?_
                        obtain ⟨v46_, hv46_a, hv46_b, hv46_e, hv46_d⟩ := zk_gen (u1_ + 1)
                        rw [hv46_e]
                        refine zr_iinc (pc := 161) (i := 2) (a := u2_) (n := 1) (L2 := [some (.ref (d_ + 28)), some (.int (Int32.ofInt v46_)), some (.int (Int32.ofInt (u2_ + 1))), some (.int (Int32.ofInt u7_)), some (.int (Int32.ofInt v38_)), some (.int (Int32.ofInt u42_))]) rfl (by decide) rfl (zdal_p dlB_Units_straighten_94 (i := 8) rfl) ?_
                        obtain ⟨v47_, hv47_a, hv47_b, hv47_e, hv47_d⟩ := zk_gen (u2_ + 1)
                        rw [hv47_e]
                        refine zw_goto (pc := 164) (tgt := 4) (by decide) (zdal_p dlB_Units_straighten_94 (i := 9) rfl) ?_
                        refine zW_le [some (.ref (d_ + 28)), some (.int (Int32.ofInt v46_)), some (.int (Int32.ofInt v47_)), none, none, none] (⟨rfl, rfl, rfl, trivial⟩) ?_
                        exact ih_4 v46_ hv46_a hv46_b v47_ hv47_a hv47_b N43_ hb0_N43_ (show 0 ≤ v47_ by first | with_reducible assumption | assumption | omega) (by omega)
                      · skip
                        refine zw_iload (pc := 107) (i := 5) (x := Int32.ofInt u42_) rfl (zdal_p dlB_Units_straighten_93 (i := 7) rfl) ?_
                        refine zw_iload_n (pc := 109) (n := 1) (x := Int32.ofInt u1_) rfl (zdal_p dlB_Units_straighten_93 (i := 8) rfl) ?_
                        refine zr_icmp_eq (pc := 110) (tgt := 152) ⟨hu42_a, hu42_b⟩ ⟨hu1_a, hu1_b⟩ (by decide) (zdal_p dlB_Units_straighten_93 (i := 9) rfl) (fun hc_110 => ?_) (fun hc_110 => ?_)
                        · skip
                          refine zr_iinc (pc := 152) (i := 5) (a := u42_) (n := 1) (L2 := [some (.ref (d_ + 28)), some (.int (Int32.ofInt u1_)), some (.int (Int32.ofInt u2_)), some (.int (Int32.ofInt u7_)), some (.int (Int32.ofInt v38_)), some (.int (Int32.ofInt (u42_ + 1)))]) rfl (by decide) rfl d_Units_straighten_152 ?_
                          obtain ⟨v48_, hv48_a, hv48_b, hv48_e, hv48_d⟩ := zk_gen (u42_ + 1)
                          rw [hv48_e]
                          refine zw_goto (pc := 155) (tgt := 98) (by decide) d_Units_straighten_155 ?_
                          exact ih_98 v48_ hv48_a hv48_b N43_ hs44_ (show 0 ≤ v48_ by first | with_reducible assumption | assumption | omega) (by omega)
                        · skip
                          refine zw_aload_n (pc := 113) (n := 0) (x := (d_ + 28)) rfl (zdal_p dlB_Units_straighten_93 (i := 10) rfl) ?_
                          refine zw_getF (pc := 114) f_Units_14 rfl ((hf_N43_.w hW).kr (o := 28) (by decide)) ((hf_N43_.w hW).lr (o := 28) (s := 1) (r := 29) (by decide)) (zdal_p dlB_Units_straighten_93 (i := 11) rfl) ?_
                          refine zw_iload (pc := 117) (i := 5) (x := Int32.ofInt u42_) rfl (zdal_p dlB_Units_straighten_93 (i := 12) rfl) ?_
                          refine zk_atG hf_N43_.x (pc := 119) l_Units_57 ((hf_N43_.w hW).kr (o := 29) (by decide)) ((hf_N43_.w hW).lr (o := 29) (s := 0) (r := 30) (by decide)) ((hf_N43_.w hW).rr (o := 30) (t := 1) (n := 27) (by decide)) (by decide) ⟨by omega, by omega⟩ (by decide) (Nat.le_of_ble_eq_true rfl) (zdal_p dlB_Units_straighten_93 (i := 13) rfl) (fun v49_ hv49_ hv49_a hv49_b => ?_)
                          clear hv49_
                          refine zw_aload_n (pc := 122) (n := 0) (x := (d_ + 28)) rfl (zdal_p dlB_Units_straighten_93 (i := 14) rfl) ?_
                          refine zw_iload_n (pc := 123) (n := 2) (x := Int32.ofInt u2_) rfl (zdal_p dlB_Units_straighten_93 (i := 15) rfl) ?_
                          refine zk_callV hf_N43_.x (pc := 124) [.int (Int32.ofInt u2_)] [.int (Int32.ofInt v49_)] l_Units_80 (u_Units_bitOfX l d_ N43_ (hf_N43_.w hW) u2_ hu2_a hu2_b) rfl rfl ((hf_N43_.w hW).kr (o := 28) (by decide)) (by decide) (by decide) (Nat.le_of_ble_eq_true rfl) (zdal_p dlB_Units_straighten_93 (i := 16) rfl) ?_
                          rintro _ N50_ ⟨v51_, rfl, ⟨hv51_a, hv51_b⟩, hsN50_, -⟩
                          obtain rfl := hsN50_.eq.symm
                          show zW l m_Units_straighten (zn Mz + 0, zw Mz + 0) N43_ 127 [some (.ref (d_ + 28)), some (.int (Int32.ofInt u1_)), some (.int (Int32.ofInt u2_)), some (.int (Int32.ofInt u7_)), some (.int (Int32.ofInt v38_)), some (.int (Int32.ofInt u42_))] [.int (Int32.ofInt v51_), .int (Int32.ofInt v49_)] _
                          refine zr_iand (pc := 127) (zdal_p dlB_Units_straighten_93 (i := 17) rfl) ?_
                          have hr52_ := zand_r v49_ v51_
                          refine zr_nmI (fun v53_ hv53_ => ?_)
                          obtain ⟨hv53_a, hv53_b⟩ := hv53_
                          refine zr_if_eq (pc := 128) (tgt := 152) ⟨hv53_a, hv53_b⟩ (by decide) (zdal_p dlB_Units_straighten_93 (i := 18) rfl) (fun hc_128 => ?_) (fun hc_128 => ?_)
                          · skip
                            refine zr_iinc (pc := 152) (i := 5) (a := u42_) (n := 1) (L2 := [some (.ref (d_ + 28)), some (.int (Int32.ofInt u1_)), some (.int (Int32.ofInt u2_)), some (.int (Int32.ofInt u7_)), some (.int (Int32.ofInt v38_)), some (.int (Int32.ofInt (u42_ + 1)))]) rfl (by decide) rfl d_Units_straighten_152 ?_
                            obtain ⟨v54_, hv54_a, hv54_b, hv54_e, hv54_d⟩ := zk_gen (u42_ + 1)
                            rw [hv54_e]
                            refine zw_goto (pc := 155) (tgt := 98) (by decide) d_Units_straighten_155 ?_
                            exact ih_98 v54_ hv54_a hv54_b N43_ hs44_ (show 0 ≤ v54_ by first | with_reducible assumption | assumption | omega) (by omega)
                          · skip
                            refine zw_aload_n (pc := 131) (n := 0) (x := (d_ + 28)) rfl (zdal_p dlB_Units_straighten_93 (i := 19) rfl) ?_
                            refine zw_getF (pc := 132) f_Units_14 rfl ((hf_N43_.w hW).kr (o := 28) (by decide)) ((hf_N43_.w hW).lr (o := 28) (s := 1) (r := 29) (by decide)) (zdal_p dlB_Units_straighten_93 (i := 20) rfl) ?_
                            refine zw_iload (pc := 135) (i := 5) (x := Int32.ofInt u42_) rfl (zdal_p dlB_Units_straighten_93 (i := 21) rfl) ?_
                            refine zw_aload_n (pc := 137) (n := 0) (x := (d_ + 28)) rfl (zdal_p dlB_Units_straighten_93 (i := 22) rfl) ?_
                            refine zw_getF (pc := 138) f_Units_14 rfl ((hf_N43_.w hW).kr (o := 28) (by decide)) ((hf_N43_.w hW).lr (o := 28) (s := 1) (r := 29) (by decide)) (zdal_p dlB_Units_straighten_93 (i := 23) rfl) ?_
                            refine zw_iload (pc := 141) (i := 5) (x := Int32.ofInt u42_) rfl (zdal_p dlB_Units_straighten_94 (i := 0) rfl) ?_
                            refine zk_atG hf_N43_.x (pc := 143) l_Units_57 ((hf_N43_.w hW).kr (o := 29) (by decide)) ((hf_N43_.w hW).lr (o := 29) (s := 0) (r := 30) (by decide)) ((hf_N43_.w hW).rr (o := 30) (t := 1) (n := 27) (by decide)) (by decide) ⟨by omega, by omega⟩ (by decide) (Nat.le_of_ble_eq_true rfl) (zdal_p dlB_Units_straighten_94 (i := 1) rfl) (fun v55_ hv55_ hv55_a hv55_b => ?_)
                            clear hv55_
                            refine zw_iload (pc := 146) (i := 4) (x := Int32.ofInt v38_) rfl (zdal_p dlB_Units_straighten_94 (i := 2) rfl) ?_
                            refine zr_ixor (pc := 148) (zdal_p dlB_Units_straighten_94 (i := 3) rfl) ?_
                            have hr56_ := zxor_r v55_ v38_
                            refine zr_nmI (fun v57_ hv57_ => ?_)
                            obtain ⟨hv57_a, hv57_b⟩ := hv57_
                            refine zk_stG hf_N43_.x (pc := 149) (o := 30) (by decide) l_Units_40 ((hf_N43_.w hW).kr (o := 29) (by decide)) ((hf_N43_.w hW).lr (o := 29) (s := 0) (r := 30) (by decide)) ((hf_N43_.w hW).rr (o := 30) (t := 1) (n := 27) (by decide)) (by decide) ⟨by omega, by omega⟩ (by decide) (Nat.le_of_ble_eq_true rfl) (zdal_p dlB_Units_straighten_94 (i := 4) rfl) (fun N58_ hsN58_ => ?_)
                            have hf_N58_ : zFc d_ [] [] [] [30] Mz N58_ := hf_N43_.tr hsN58_ (by decide) (by decide) (by decide) (by decide)
                            have hb0_N58_ : zFc d_ [] [] [] [30] Mz N58_ := hb0_N43_.tr hsN58_ (by decide) (by decide) (by decide) (by decide)
                            have hb1_N58_ : zFc d_ [] [] [] [30] N41_ N58_ := hs44_.tr hsN58_ (by decide) (by decide) (by decide) (by decide)
                            refine zr_iinc (pc := 152) (i := 5) (a := u42_) (n := 1) (L2 := [some (.ref (d_ + 28)), some (.int (Int32.ofInt u1_)), some (.int (Int32.ofInt u2_)), some (.int (Int32.ofInt u7_)), some (.int (Int32.ofInt v38_)), some (.int (Int32.ofInt (u42_ + 1)))]) rfl (by decide) rfl d_Units_straighten_152 ?_
                            obtain ⟨v59_, hv59_a, hv59_b, hv59_e, hv59_d⟩ := zk_gen (u42_ + 1)
                            rw [hv59_e]
                            refine zw_goto (pc := 155) (tgt := 98) (by decide) d_Units_straighten_155 ?_
                            exact ih_98 v59_ hv59_a hv59_b N58_ hb1_N58_ (show 0 ≤ v59_ by first | with_reducible assumption | assumption | omega) (by omega)
                  exact lp_98 _ 0 (by decide) (by decide) N41_ zFc.rf (show 0 ≤ (0 : Int) by first | with_reducible assumption | assumption | omega) (Nat.lt_succ_self _)
                · skip
                  refine zw_goto (pc := 56) (tgt := 161) (by decide) (zdal_p dlB_Units_straighten_92 (i := 6) rfl) ?_
                  refine zr_iinc (pc := 161) (i := 2) (a := u2_) (n := 1) (L2 := [some (.ref (d_ + 28)), some (.int (Int32.ofInt u1_)), some (.int (Int32.ofInt (u2_ + 1))), some (.int (Int32.ofInt u7_)), none, none]) rfl (by decide) rfl (zdal_p dlB_Units_straighten_94 (i := 8) rfl) ?_
                  obtain ⟨v60_, hv60_a, hv60_b, hv60_e, hv60_d⟩ := zk_gen (u2_ + 1)
                  rw [hv60_e]
                  refine zw_goto (pc := 164) (tgt := 4) (by decide) (zdal_p dlB_Units_straighten_94 (i := 9) rfl) ?_
                  refine zW_le [some (.ref (d_ + 28)), some (.int (Int32.ofInt u1_)), some (.int (Int32.ofInt v60_)), none, none, none] (⟨rfl, rfl, rfl, trivial⟩) ?_
                  exact ih_4 u1_ hu1_a hu1_b v60_ hv60_a hv60_b N3_ hs4_ (show 0 ≤ v60_ by first | with_reducible assumption | assumption | omega) (by omega)
              · skip
                refine zr_iinc (pc := 42) (i := 3) (a := u7_) (n := 1) (L2 := [some (.ref (d_ + 28)), some (.int (Int32.ofInt u1_)), some (.int (Int32.ofInt u2_)), some (.int (Int32.ofInt (u7_ + 1))), none, none]) rfl (by decide) rfl (zdal_p dlB_Units_straighten_92 (i := 0) rfl) ?_
                obtain ⟨v61_, hv61_a, hv61_b, hv61_e, hv61_d⟩ := zk_gen (u7_ + 1)
                rw [hv61_e]
                refine zw_goto (pc := 45) (tgt := 17) (by decide) (zdal_p dlB_Units_straighten_92 (i := 1) rfl) ?_
                exact ih_17 v61_ hv61_a hv61_b (show u1_ ≤ v61_ by first | with_reducible assumption | assumption | omega) (by omega)
        exact lp_17 _ u1_ hu1_a hu1_b (show u1_ ≤ u1_ by first | with_reducible assumption | assumption | omega) (Nat.lt_succ_self _)
  exact lp_4 _ 0 (by decide) (by decide) 0 (by decide) (by decide) Mz zFc.rf (show 0 ≤ (0 : Int) by first | with_reducible assumption | assumption | omega) (Nat.lt_succ_self _)
set_option maxHeartbeats 4000000 in
theorem u_Units_narrowX (l : Launch) (d_ : Nat) (Mz : zMem) (hW : zKW d_ Mz) (a0_ : Int) (ha0_a : -2147483648 ≤ a0_) (ha0_b : a0_ < 2147483648) : zC l m_Units_narrow 0 0 [.ref (d_ + 28), .int (Int32.ofInt a0_)] Mz (zqcV d_ [] [] [(28, 3)] [30] Mz (fun N => True)) := by
  refine zC_of (L0 := [some (.ref (d_ + 28)), some (.int (Int32.ofInt a0_)), none, none]) md_Units_narrow (Nat.le_of_ble_eq_true rfl) rfl ?_ zQ0
  have hf : zFc d_ [] [] [(28, 3)] [30] Mz Mz := zFc.rf
  have r_D28_3 := ze_r Mz (d_ + 28) 3
  refine zw_iconst (pc := 0) (v := Int32.ofInt (-1)) (by decide) (zdal_p dlB_Units_narrow_88 (i := 0) rfl) ?_
  refine zw_istore_n (pc := 1) (i := 2) (L2 := [some (.ref (d_ + 28)), some (.int (Int32.ofInt a0_)), some (.int (Int32.ofInt ((-1)))), none]) rfl (by decide) rfl (zdal_p dlB_Units_narrow_88 (i := 1) rfl) ?_
  refine zw_iconst (pc := 2) (v := Int32.ofInt 0) (by decide) (zdal_p dlB_Units_narrow_88 (i := 2) rfl) ?_
  refine zw_istore_n (pc := 3) (i := 3) (L2 := [some (.ref (d_ + 28)), some (.int (Int32.ofInt a0_)), some (.int (Int32.ofInt ((-1)))), some (.int (Int32.ofInt 0))]) rfl (by decide) rfl (zdal_p dlB_Units_narrow_88 (i := 3) rfl) ?_
  have lp_4 : ∀ (n : Nat) (u1_ : Int) (hu1_a : -2147483648 ≤ u1_) (hu1_b : u1_ < 2147483648) (u2_ : Int) (hu2_a : -2147483648 ≤ u2_) (hu2_b : u2_ < 2147483648) (N3_ : zMem) (hs4_ : zFc d_ [] [] [] [30] Mz N3_) (i5_ : 0 ≤ u2_) (i6_ : ze N3_ (d_ + 28) 3 = ze Mz (d_ + 28) 3), (ze Mz (d_ + 28) 3 - u2_).toNat < n → zW l m_Units_narrow (zn Mz + 0, zw Mz + 0) N3_ 4 [some (.ref (d_ + 28)), some (.int (Int32.ofInt a0_)), some (.int (Int32.ofInt u1_)), some (.int (Int32.ofInt u2_))] [] (zqcV d_ [] [] [(28, 3)] [30] Mz (fun N => True)) := by
    intro n
    induction n with
    | zero =>
      intro u1_ hu1_a hu1_b u2_ hu2_a hu2_b N3_ hs4_ i5_ i6_ h0
      exact absurd h0 (Nat.not_lt_zero _)
    | succ n ih_4 =>
      intro u1_ hu1_a hu1_b u2_ hu2_a hu2_b N3_ hs4_ i5_ i6_ hlt_4
      have hf_N3_ : zFc d_ [] [] [(28, 3)] [30] Mz N3_ := hf.tr hs4_ (by decide) (by decide) (by decide) (by decide)
      have eD28_3_N3_ : ze N3_ (d_ + 28) 3 = ze Mz (d_ + 28) 3 := hs4_.e (by decide)
      refine zw_iload_n (pc := 4) (n := 3) (x := Int32.ofInt u2_) rfl (zdal_p dlB_Units_narrow_88 (i := 4) rfl) ?_
      refine zw_aload_n (pc := 5) (n := 0) (x := (d_ + 28)) rfl (zdal_p dlB_Units_narrow_88 (i := 5) rfl) ?_
      refine zk_getI (pc := 6) f_Units_31 rfl ((hf_N3_.w hW).kr (o := 28) (by decide)) (zdal_p dlB_Units_narrow_88 (i := 6) rfl) ?_
      have hr7_ := ze_r N3_ (d_ + 28) 3
      refine zr_icmp_ge (pc := 9) (tgt := 74) ⟨hu2_a, hu2_b⟩ ⟨(ze_r N3_ (d_ + 28) 3).1, (ze_r N3_ (d_ + 28) 3).2⟩ (by decide) (zdal_p dlB_Units_narrow_88 (i := 7) rfl) (fun hc_9 => ?_) (fun hc_9 => ?_)
      · skip
        refine zw_iload_n (pc := 74) (n := 2) (x := Int32.ofInt u1_) rfl (zdal_p dlB_Units_narrow_89 (i := 16) rfl) ?_
        refine zw_iconst (pc := 75) (v := Int32.ofInt (-1)) (by decide) (zdal_p dlB_Units_narrow_89 (i := 17) rfl) ?_
        refine zr_icmp_eq (pc := 76) (tgt := 108) ⟨hu1_a, hu1_b⟩ ⟨(by decide), (by decide)⟩ (by decide) (zdal_p dlB_Units_narrow_89 (i := 18) rfl) (fun hc_76 => ?_) (fun hc_76 => ?_)
        · skip
          exact zk_vret (pc := 108) rfl hf_N3_ trivial (zdal_p dlB_Units_narrow_90 (i := 10) rfl)
        · skip
          refine zw_aload_n (pc := 79) (n := 0) (x := (d_ + 28)) rfl (zdal_p dlB_Units_narrow_89 (i := 19) rfl) ?_
          refine zw_dup (pc := 80) rfl (zdal_p dlB_Units_narrow_89 (i := 20) rfl) ?_
          refine zk_getI (pc := 81) f_Units_31 rfl ((hf_N3_.w hW).kr (o := 28) (by decide)) (zdal_p dlB_Units_narrow_89 (i := 21) rfl) ?_
          refine zw_iconst (pc := 84) (v := Int32.ofInt 1) (by decide) (zdal_p dlB_Units_narrow_89 (i := 22) rfl) ?_
          refine zr_isub (pc := 85) (zdal_p dlB_Units_narrow_89 (i := 23) rfl) ?_
          refine zr_nmI (fun v8_ hv8_ => ?_)
          obtain ⟨hv8_a, hv8_b⟩ := hv8_
          refine zk_putR (pc := 86) (o := 28) (by decide) f_Units_31 rfl rfl ((hf_N3_.w hW).kr (o := 28) (by decide)) ⟨by omega, by omega⟩ rfl rfl (zdal_p dlB_Units_narrow_90 (i := 0) rfl) (fun N9_ hsN9_ hvN9_ => ?_)
          have hf_N9_ : zFc d_ [] [] [(28, 3)] [30] Mz N9_ := hf_N3_.tr hsN9_ (by decide) (by decide) (by decide) (by decide)
          have rD28_3_N9_ := ze_r N9_ (d_ + 28) 3
          refine zw_aload_n (pc := 89) (n := 0) (x := (d_ + 28)) rfl (zdal_p dlB_Units_narrow_90 (i := 1) rfl) ?_
          refine zw_getF (pc := 90) f_Units_14 rfl ((hf_N9_.w hW).kr (o := 28) (by decide)) ((hf_N9_.w hW).lr (o := 28) (s := 1) (r := 29) (by decide)) (zdal_p dlB_Units_narrow_90 (i := 2) rfl) ?_
          refine zw_iload_n (pc := 93) (n := 2) (x := Int32.ofInt u1_) rfl (zdal_p dlB_Units_narrow_90 (i := 3) rfl) ?_
          refine zw_aload_n (pc := 94) (n := 0) (x := (d_ + 28)) rfl (zdal_p dlB_Units_narrow_90 (i := 4) rfl) ?_
          refine zw_getF (pc := 95) f_Units_14 rfl ((hf_N9_.w hW).kr (o := 28) (by decide)) ((hf_N9_.w hW).lr (o := 28) (s := 1) (r := 29) (by decide)) (zdal_p dlB_Units_narrow_90 (i := 5) rfl) ?_
          refine zw_aload_n (pc := 98) (n := 0) (x := (d_ + 28)) rfl (zdal_p dlB_Units_narrow_90 (i := 6) rfl) ?_
          refine zk_getI (pc := 99) f_Units_31 rfl ((hf_N9_.w hW).kr (o := 28) (by decide)) (zdal_p dlB_Units_narrow_90 (i := 7) rfl) ?_
          have hr10_ := ze_r N9_ (d_ + 28) 3
          refine zk_atG hf_N9_.x (pc := 102) l_Units_57 ((hf_N9_.w hW).kr (o := 29) (by decide)) ((hf_N9_.w hW).lr (o := 29) (s := 0) (r := 30) (by decide)) ((hf_N9_.w hW).rr (o := 30) (t := 1) (n := 27) (by decide)) (by decide) ⟨by omega, by omega⟩ (by decide) (Nat.le_of_ble_eq_true rfl) (zdal_p dlB_Units_narrow_90 (i := 8) rfl) (fun v11_ hv11_ hv11_a hv11_b => ?_)
          clear hv11_
          refine zk_stG hf_N9_.x (pc := 105) (o := 30) (by decide) l_Units_40 ((hf_N9_.w hW).kr (o := 29) (by decide)) ((hf_N9_.w hW).lr (o := 29) (s := 0) (r := 30) (by decide)) ((hf_N9_.w hW).rr (o := 30) (t := 1) (n := 27) (by decide)) (by decide) ⟨by omega, by omega⟩ (by decide) (Nat.le_of_ble_eq_true rfl) (zdal_p dlB_Units_narrow_90 (i := 9) rfl) (fun N12_ hsN12_ => ?_)
          have hf_N12_ : zFc d_ [] [] [(28, 3)] [30] Mz N12_ := hf_N9_.tr hsN12_ (by decide) (by decide) (by decide) (by decide)
          have eD28_3_N12_ : ze N12_ (d_ + 28) 3 = ze N9_ (d_ + 28) 3 := hsN12_.e (by decide)
          exact zk_vret (pc := 108) rfl hf_N12_ trivial (zdal_p dlB_Units_narrow_90 (i := 10) rfl)
      · skip
        refine zw_aload_n (pc := 12) (n := 0) (x := (d_ + 28)) rfl (zdal_p dlB_Units_narrow_88 (i := 8) rfl) ?_
        refine zw_getF (pc := 13) f_Units_14 rfl ((hf_N3_.w hW).kr (o := 28) (by decide)) ((hf_N3_.w hW).lr (o := 28) (s := 1) (r := 29) (by decide)) (zdal_p dlB_Units_narrow_88 (i := 9) rfl) ?_
        refine zw_iload_n (pc := 16) (n := 3) (x := Int32.ofInt u2_) rfl (zdal_p dlB_Units_narrow_88 (i := 10) rfl) ?_
        refine zk_atG hf_N3_.x (pc := 17) l_Units_57 ((hf_N3_.w hW).kr (o := 29) (by decide)) ((hf_N3_.w hW).lr (o := 29) (s := 0) (r := 30) (by decide)) ((hf_N3_.w hW).rr (o := 30) (t := 1) (n := 27) (by decide)) (by decide) ⟨by omega, by omega⟩ (by decide) (Nat.le_of_ble_eq_true rfl) (zdal_p dlB_Units_narrow_88 (i := 11) rfl) (fun v13_ hv13_ hv13_a hv13_b => ?_)
        clear hv13_
        refine zw_iload_n (pc := 20) (n := 1) (x := Int32.ofInt a0_) rfl (zdal_p dlB_Units_narrow_88 (i := 12) rfl) ?_
        refine zr_iand (pc := 21) (zdal_p dlB_Units_narrow_88 (i := 13) rfl) ?_
        have hr14_ := zand_r v13_ a0_
        refine zr_nmI (fun v15_ hv15_ => ?_)
        obtain ⟨hv15_a, hv15_b⟩ := hv15_
        refine zr_callS hf_N3_.x (pc := 22) [.int (Int32.ofInt v15_)] [] l_Units_89 (u_Integer_bitCountX l d_ N3_ (hf_N3_.w hW) v15_ hv15_a hv15_b) rfl rfl (by decide) (Nat.le_of_ble_eq_true rfl) (zdal_p dlB_Units_narrow_88 (i := 14) rfl) ?_
        rintro _ N16_ ⟨v17_, rfl, ⟨hv17_a, hv17_b⟩, hsN16_, ⟨hp0_N16_, hp1_N16_⟩⟩
        obtain rfl := hsN16_.eq.symm
        show zW l m_Units_narrow (zn Mz + 0, zw Mz + 0) N3_ 25 [some (.ref (d_ + 28)), some (.int (Int32.ofInt a0_)), some (.int (Int32.ofInt u1_)), some (.int (Int32.ofInt u2_))] [.int (Int32.ofInt v17_)] _
        refine zw_iconst (pc := 25) (v := Int32.ofInt 1) (by decide) (zdal_p dlB_Units_narrow_88 (i := 15) rfl) ?_
        refine zr_iand (pc := 26) (zdal_p dlB_Units_narrow_88 (i := 16) rfl) ?_
        have hr18_ := zand_r v17_ 1
        refine zr_nmI (fun v19_ hv19_ => ?_)
        obtain ⟨hv19_a, hv19_b⟩ := hv19_
        refine zr_if_ne (pc := 27) (tgt := 33) ⟨hv19_a, hv19_b⟩ (by decide) (zdal_p dlB_Units_narrow_88 (i := 17) rfl) (fun hc_27 => ?_) (fun hc_27 => ?_)
        · skip
          refine zw_iload_n (pc := 33) (n := 2) (x := Int32.ofInt u1_) rfl (zdal_p dlB_Units_narrow_88 (i := 19) rfl) ?_
          refine zw_iconst (pc := 34) (v := Int32.ofInt (-1)) (by decide) (zdal_p dlB_Units_narrow_88 (i := 20) rfl) ?_
          refine zr_icmp_ne (pc := 35) (tgt := 43) ⟨hu1_a, hu1_b⟩ ⟨(by decide), (by decide)⟩ (by decide) (zdal_p dlB_Units_narrow_88 (i := 21) rfl) (fun hc_35 => ?_) (fun hc_35 => ?_)
          · skip
            refine zw_aload_n (pc := 43) (n := 0) (x := (d_ + 28)) rfl (zdal_p dlB_Units_narrow_89 (i := 1) rfl) ?_
            refine zw_getF (pc := 44) f_Units_14 rfl ((hf_N3_.w hW).kr (o := 28) (by decide)) ((hf_N3_.w hW).lr (o := 28) (s := 1) (r := 29) (by decide)) (zdal_p dlB_Units_narrow_89 (i := 2) rfl) ?_
            refine zw_iload_n (pc := 47) (n := 3) (x := Int32.ofInt u2_) rfl (zdal_p dlB_Units_narrow_89 (i := 3) rfl) ?_
            refine zw_aload_n (pc := 48) (n := 0) (x := (d_ + 28)) rfl (zdal_p dlB_Units_narrow_89 (i := 4) rfl) ?_
            refine zw_getF (pc := 49) f_Units_14 rfl ((hf_N3_.w hW).kr (o := 28) (by decide)) ((hf_N3_.w hW).lr (o := 28) (s := 1) (r := 29) (by decide)) (zdal_p dlB_Units_narrow_89 (i := 5) rfl) ?_
            refine zw_iload_n (pc := 52) (n := 3) (x := Int32.ofInt u2_) rfl (zdal_p dlB_Units_narrow_89 (i := 6) rfl) ?_
            refine zk_atG hf_N3_.x (pc := 53) l_Units_57 ((hf_N3_.w hW).kr (o := 29) (by decide)) ((hf_N3_.w hW).lr (o := 29) (s := 0) (r := 30) (by decide)) ((hf_N3_.w hW).rr (o := 30) (t := 1) (n := 27) (by decide)) (by decide) ⟨by omega, by omega⟩ (by decide) (Nat.le_of_ble_eq_true rfl) (zdal_p dlB_Units_narrow_89 (i := 7) rfl) (fun v20_ hv20_ hv20_a hv20_b => ?_)
            clear hv20_
            refine zw_aload_n (pc := 56) (n := 0) (x := (d_ + 28)) rfl (zdal_p dlB_Units_narrow_89 (i := 8) rfl) ?_
            refine zw_getF (pc := 57) f_Units_14 rfl ((hf_N3_.w hW).kr (o := 28) (by decide)) ((hf_N3_.w hW).lr (o := 28) (s := 1) (r := 29) (by decide)) (zdal_p dlB_Units_narrow_89 (i := 9) rfl) ?_
            refine zw_iload_n (pc := 60) (n := 2) (x := Int32.ofInt u1_) rfl (zdal_p dlB_Units_narrow_89 (i := 10) rfl) ?_
            refine zk_atG hf_N3_.x (pc := 61) l_Units_57 ((hf_N3_.w hW).kr (o := 29) (by decide)) ((hf_N3_.w hW).lr (o := 29) (s := 0) (r := 30) (by decide)) ((hf_N3_.w hW).rr (o := 30) (t := 1) (n := 27) (by decide)) (by decide) ⟨by omega, by omega⟩ (by decide) (Nat.le_of_ble_eq_true rfl) (zdal_p dlB_Units_narrow_89 (i := 11) rfl) (fun v21_ hv21_ hv21_a hv21_b => ?_)
            clear hv21_
            refine zr_ixor (pc := 64) (zdal_p dlB_Units_narrow_89 (i := 12) rfl) ?_
            have hr22_ := zxor_r v20_ v21_
            refine zr_nmI (fun v23_ hv23_ => ?_)
            obtain ⟨hv23_a, hv23_b⟩ := hv23_
            refine zk_stG hf_N3_.x (pc := 65) (o := 30) (by decide) l_Units_40 ((hf_N3_.w hW).kr (o := 29) (by decide)) ((hf_N3_.w hW).lr (o := 29) (s := 0) (r := 30) (by decide)) ((hf_N3_.w hW).rr (o := 30) (t := 1) (n := 27) (by decide)) (by decide) ⟨by omega, by omega⟩ (by decide) (Nat.le_of_ble_eq_true rfl) (zdal_p dlB_Units_narrow_89 (i := 13) rfl) (fun N24_ hsN24_ => ?_)
            have hf_N24_ : zFc d_ [] [] [(28, 3)] [30] Mz N24_ := hf_N3_.tr hsN24_ (by decide) (by decide) (by decide) (by decide)
            have hb0_N24_ : zFc d_ [] [] [] [30] Mz N24_ := hs4_.tr hsN24_ (by decide) (by decide) (by decide) (by decide)
            have eD28_3_N24_ : ze N24_ (d_ + 28) 3 = ze N3_ (d_ + 28) 3 := hsN24_.e (by decide)
            refine zr_iinc (pc := 68) (i := 3) (a := u2_) (n := 1) (L2 := [some (.ref (d_ + 28)), some (.int (Int32.ofInt a0_)), some (.int (Int32.ofInt u1_)), some (.int (Int32.ofInt (u2_ + 1)))]) rfl (by decide) rfl (zdal_p dlB_Units_narrow_89 (i := 14) rfl) ?_
            obtain ⟨v25_, hv25_a, hv25_b, hv25_e, hv25_d⟩ := zk_gen (u2_ + 1)
            rw [hv25_e]
            refine zw_goto (pc := 71) (tgt := 4) (by decide) (zdal_p dlB_Units_narrow_89 (i := 15) rfl) ?_
            exact ih_4 u1_ hu1_a hu1_b v25_ hv25_a hv25_b N24_ hb0_N24_ (show 0 ≤ v25_ by first | with_reducible assumption | assumption | omega) (show ze N24_ (d_ + 28) 3 = ze Mz (d_ + 28) 3 by first | with_reducible assumption | assumption | omega) (by omega)
          · skip
            refine zw_iload_n (pc := 38) (n := 3) (x := Int32.ofInt u2_) rfl (zdal_p dlB_Units_narrow_88 (i := 22) rfl) ?_
            refine zw_istore_n (pc := 39) (i := 2) (L2 := [some (.ref (d_ + 28)), some (.int (Int32.ofInt a0_)), some (.int (Int32.ofInt u2_)), some (.int (Int32.ofInt u2_))]) rfl (by decide) rfl (zdal_p dlB_Units_narrow_88 (i := 23) rfl) ?_
            refine zw_goto (pc := 40) (tgt := 68) (by decide) (zdal_p dlB_Units_narrow_89 (i := 0) rfl) ?_
            refine zr_iinc (pc := 68) (i := 3) (a := u2_) (n := 1) (L2 := [some (.ref (d_ + 28)), some (.int (Int32.ofInt a0_)), some (.int (Int32.ofInt u2_)), some (.int (Int32.ofInt (u2_ + 1)))]) rfl (by decide) rfl (zdal_p dlB_Units_narrow_89 (i := 14) rfl) ?_
            obtain ⟨v26_, hv26_a, hv26_b, hv26_e, hv26_d⟩ := zk_gen (u2_ + 1)
            rw [hv26_e]
            refine zw_goto (pc := 71) (tgt := 4) (by decide) (zdal_p dlB_Units_narrow_89 (i := 15) rfl) ?_
            exact ih_4 u2_ hu2_a hu2_b v26_ hv26_a hv26_b N3_ hs4_ (show 0 ≤ v26_ by first | with_reducible assumption | assumption | omega) (show ze N3_ (d_ + 28) 3 = ze Mz (d_ + 28) 3 by first | with_reducible assumption | assumption | omega) (by omega)
        · skip
          refine zw_goto (pc := 30) (tgt := 68) (by decide) (zdal_p dlB_Units_narrow_88 (i := 18) rfl) ?_
          refine zr_iinc (pc := 68) (i := 3) (a := u2_) (n := 1) (L2 := [some (.ref (d_ + 28)), some (.int (Int32.ofInt a0_)), some (.int (Int32.ofInt u1_)), some (.int (Int32.ofInt (u2_ + 1)))]) rfl (by decide) rfl (zdal_p dlB_Units_narrow_89 (i := 14) rfl) ?_
          obtain ⟨v27_, hv27_a, hv27_b, hv27_e, hv27_d⟩ := zk_gen (u2_ + 1)
          rw [hv27_e]
          refine zw_goto (pc := 71) (tgt := 4) (by decide) (zdal_p dlB_Units_narrow_89 (i := 15) rfl) ?_
          exact ih_4 u1_ hu1_a hu1_b v27_ hv27_a hv27_b N3_ hs4_ (show 0 ≤ v27_ by first | with_reducible assumption | assumption | omega) (show ze N3_ (d_ + 28) 3 = ze Mz (d_ + 28) 3 by first | with_reducible assumption | assumption | omega) (by omega)
  exact lp_4 _ ((-1)) (by decide) (by decide) 0 (by decide) (by decide) Mz zFc.rf (show 0 ≤ (0 : Int) by first | with_reducible assumption | assumption | omega) (show ze Mz (d_ + 28) 3 = ze Mz (d_ + 28) 3 by first | with_reducible assumption | assumption | omega) (Nat.lt_succ_self _)
set_option maxHeartbeats 4000000 in
theorem u_Units_narrowAtX (l : Launch) (d_ : Nat) (Mz : zMem) (hW : zKW d_ Mz) (a0_ : Int) (ha0_a : -2147483648 ≤ a0_) (ha0_b : a0_ < 2147483648) : zC l m_Units_narrowAt 0 0 [.ref (d_ + 28), .int (Int32.ofInt a0_)] Mz (zqcV d_ [] [] [(28, 3)] [11, 30, 32] Mz (fun N => True)) := by
  refine zC_of (L0 := [some (.ref (d_ + 28)), some (.int (Int32.ofInt a0_)), none, none, none, none, none, none, none]) md_Units_narrowAt (Nat.le_of_ble_eq_true rfl) rfl ?_ zQ0
  have hf : zFc d_ [] [] [(28, 3)] [11, 30, 32] Mz Mz := zFc.rf
  refine zw_aload_n (pc := 0) (n := 0) (x := (d_ + 28)) rfl (zdal_p dlB_Units_narrowAt_82 (i := 0) rfl) ?_
  refine zw_getF (pc := 1) f_Units_23 rfl ((hf.w hW).kr (o := 28) (by decide)) ((hf.w hW).lr (o := 28) (s := 0) (r := 12) (by decide)) (zdal_p dlB_Units_narrowAt_82 (i := 1) rfl) ?_
  refine zw_getF (pc := 4) f_Units_50 rfl ((hf.w hW).kr (o := 12) (by decide)) ((hf.w hW).lr (o := 12) (s := 0) (r := 1) (by decide)) (zdal_p dlB_Units_narrowAt_82 (i := 2) rfl) ?_
  refine zw_astore_n (pc := 7) (i := 2) (L2 := [some (.ref (d_ + 28)), some (.int (Int32.ofInt a0_)), some (.ref (d_ + 1)), none, none, none, none, none, none]) rfl (by decide) rfl (zdal_p dlB_Units_narrowAt_82 (i := 3) rfl) ?_
  refine zw_aload_n (pc := 8) (n := 0) (x := (d_ + 28)) rfl (zdal_p dlB_Units_narrowAt_82 (i := 4) rfl) ?_
  refine zw_getF (pc := 9) f_Units_23 rfl ((hf.w hW).kr (o := 28) (by decide)) ((hf.w hW).lr (o := 28) (s := 0) (r := 12) (by decide)) (zdal_p dlB_Units_narrowAt_82 (i := 5) rfl) ?_
  refine zw_getF (pc := 12) f_Units_54 rfl ((hf.w hW).kr (o := 12) (by decide)) ((hf.w hW).lr (o := 12) (s := 4) (r := 19) (by decide)) (zdal_p dlB_Units_narrowAt_82 (i := 6) rfl) ?_
  refine zw_iload_n (pc := 15) (n := 1) (x := Int32.ofInt a0_) rfl (zdal_p dlB_Units_narrowAt_82 (i := 7) rfl) ?_
  refine zk_atG hf.x (pc := 16) l_Units_57 ((hf.w hW).kr (o := 19) (by decide)) ((hf.w hW).lr (o := 19) (s := 0) (r := 20) (by decide)) ((hf.w hW).rr (o := 20) (t := 1) (n := 27) (by decide)) (by decide) ⟨by omega, by omega⟩ (by decide) (Nat.le_of_ble_eq_true rfl) (zdal_p dlB_Units_narrowAt_82 (i := 8) rfl) (fun v1_ hv1_ hv1_a hv1_b => ?_)
  clear hv1_
  refine zw_istore_n (pc := 19) (i := 3) (L2 := [some (.ref (d_ + 28)), some (.int (Int32.ofInt a0_)), some (.ref (d_ + 1)), some (.int (Int32.ofInt v1_)), none, none, none, none, none]) rfl (by decide) rfl (zdal_p dlB_Units_narrowAt_82 (i := 9) rfl) ?_
  refine zw_iconst (pc := 20) (v := Int32.ofInt 0) (by decide) (zdal_p dlB_Units_narrowAt_82 (i := 10) rfl) ?_
  refine zw_istore (pc := 21) (i := 4) (L2 := [some (.ref (d_ + 28)), some (.int (Int32.ofInt a0_)), some (.ref (d_ + 1)), some (.int (Int32.ofInt v1_)), some (.int (Int32.ofInt 0)), none, none, none, none]) (by decide) rfl (zdal_p dlB_Units_narrowAt_82 (i := 11) rfl) ?_
  refine zw_aload_n (pc := 23) (n := 2) (x := (d_ + 1)) rfl (zdal_p dlB_Units_narrowAt_82 (i := 12) rfl) ?_
  refine zw_iload_n (pc := 24) (n := 3) (x := Int32.ofInt v1_) rfl (zdal_p dlB_Units_narrowAt_82 (i := 13) rfl) ?_
  refine zk_callV hf.x (pc := 25) [.int (Int32.ofInt v1_)] [] l_Units_61 (u_Group_normOfX l d_ Mz (hf.w hW) v1_ hv1_a hv1_b) rfl rfl ((hf.w hW).kr (o := 1) (by decide)) (by decide) (by decide) (Nat.le_of_ble_eq_true rfl) (zdal_p dlB_Units_narrowAt_82 (i := 14) rfl) ?_
  rintro _ N2_ ⟨v3_, rfl, ⟨hv3_a, hv3_b⟩, hsN2_, -⟩
  obtain rfl := hsN2_.eq.symm
  show zW l m_Units_narrowAt (zn Mz + 0, zw Mz + 0) Mz 28 [some (.ref (d_ + 28)), some (.int (Int32.ofInt a0_)), some (.ref (d_ + 1)), some (.int (Int32.ofInt v1_)), some (.int (Int32.ofInt 0)), none, none, none, none] [.int (Int32.ofInt v3_)] _
  refine zw_istore (pc := 28) (i := 5) (L2 := [some (.ref (d_ + 28)), some (.int (Int32.ofInt a0_)), some (.ref (d_ + 1)), some (.int (Int32.ofInt v1_)), some (.int (Int32.ofInt 0)), some (.int (Int32.ofInt v3_)), none, none, none]) (by decide) rfl (zdal_p dlB_Units_narrowAt_82 (i := 15) rfl) ?_
  refine zw_iconst (pc := 30) (v := Int32.ofInt 0) (by decide) (zdal_p dlB_Units_narrowAt_82 (i := 16) rfl) ?_
  refine zw_istore (pc := 31) (i := 6) (L2 := [some (.ref (d_ + 28)), some (.int (Int32.ofInt a0_)), some (.ref (d_ + 1)), some (.int (Int32.ofInt v1_)), some (.int (Int32.ofInt 0)), some (.int (Int32.ofInt v3_)), some (.int (Int32.ofInt 0)), none, none]) (by decide) rfl (zdal_p dlB_Units_narrowAt_82 (i := 17) rfl) ?_
  have lp_33 : ∀ (n : Nat) (u4_ : Int) (hu4_a : -2147483648 ≤ u4_) (hu4_b : u4_ < 2147483648) (u5_ : Int) (hu5_a : -2147483648 ≤ u5_) (hu5_b : u5_ < 2147483648) (N6_ : zMem) (hs7_ : zFc d_ [] [] [] [11, 32] Mz N6_) (i8_ : 0 ≤ u5_), (ze Mz (d_ + 1) 7 - u5_).toNat < n → zW l m_Units_narrowAt (zn Mz + 0, zw Mz + 0) N6_ 33 [some (.ref (d_ + 28)), some (.int (Int32.ofInt a0_)), some (.ref (d_ + 1)), some (.int (Int32.ofInt v1_)), some (.int (Int32.ofInt u4_)), some (.int (Int32.ofInt v3_)), some (.int (Int32.ofInt u5_)), none, none] [] (zqcV d_ [] [] [(28, 3)] [11, 30, 32] Mz (fun N => True)) := by
    intro n
    induction n with
    | zero =>
      intro u4_ hu4_a hu4_b u5_ hu5_a hu5_b N6_ hs7_ i8_ h0
      exact absurd h0 (Nat.not_lt_zero _)
    | succ n ih_33 =>
      intro u4_ hu4_a hu4_b u5_ hu5_a hu5_b N6_ hs7_ i8_ hlt_33
      have hf_N6_ : zFc d_ [] [] [(28, 3)] [11, 30, 32] Mz N6_ := hf.tr hs7_ (by decide) (by decide) (by decide) (by decide)
      refine zw_iload (pc := 33) (i := 6) (x := Int32.ofInt u5_) rfl (zdal_p dlB_Units_narrowAt_82 (i := 18) rfl) ?_
      refine zw_aload_n (pc := 35) (n := 2) (x := (d_ + 1)) rfl (zdal_p dlB_Units_narrowAt_82 (i := 19) rfl) ?_
      refine zk_getI (pc := 36) f_Units_66 rfl ((hf_N6_.w hW).kr (o := 1) (by decide)) (zdal_p dlB_Units_narrowAt_82 (i := 20) rfl) ?_
      rw [hf_N6_.e (by decide)]
      have hr9_ := ze_r Mz (d_ + 1) 7
      refine zr_icmp_ge (pc := 39) (tgt := 105) ⟨hu5_a, hu5_b⟩ ⟨(ze_r Mz (d_ + 1) 7).1, (ze_r Mz (d_ + 1) 7).2⟩ (by decide) (zdal_p dlB_Units_narrowAt_82 (i := 21) rfl) (fun hc_39 => ?_) (fun hc_39 => ?_)
      · skip
        refine zw_iconst (pc := 105) (v := Int32.ofInt 0) (by decide) (zdal_p dlB_Units_narrowAt_84 (i := 6) rfl) ?_
        refine zw_istore (pc := 106) (i := 6) (L2 := [some (.ref (d_ + 28)), some (.int (Int32.ofInt a0_)), some (.ref (d_ + 1)), some (.int (Int32.ofInt v1_)), some (.int (Int32.ofInt u4_)), some (.int (Int32.ofInt v3_)), some (.int (Int32.ofInt 0)), none, none]) (by decide) rfl (zdal_p dlB_Units_narrowAt_84 (i := 7) rfl) ?_
        have lp_108 : ∀ (n : Nat) (u10_ : Int) (hu10_a : -2147483648 ≤ u10_) (hu10_b : u10_ < 2147483648) (N11_ : zMem) (hs12_ : zFc d_ [] [] [(28, 3)] [30] N6_ N11_) (i13_ : 0 ≤ u10_), (ze Mz (d_ + 1) 7 - u10_).toNat < n → zW l m_Units_narrowAt (zn Mz + 0, zw Mz + 0) N11_ 108 [some (.ref (d_ + 28)), some (.int (Int32.ofInt a0_)), some (.ref (d_ + 1)), some (.int (Int32.ofInt v1_)), some (.int (Int32.ofInt u4_)), some (.int (Int32.ofInt v3_)), some (.int (Int32.ofInt u10_)), none, none] [] (zqcV d_ [] [] [(28, 3)] [11, 30, 32] Mz (fun N => True)) := by
          intro n
          induction n with
          | zero =>
            intro u10_ hu10_a hu10_b N11_ hs12_ i13_ h0
            exact absurd h0 (Nat.not_lt_zero _)
          | succ n ih_108 =>
            intro u10_ hu10_a hu10_b N11_ hs12_ i13_ hlt_108
            have hf_N11_ : zFc d_ [] [] [(28, 3)] [11, 30, 32] Mz N11_ := hf_N6_.tr hs12_ (by decide) (by decide) (by decide) (by decide)
            refine zw_iload (pc := 108) (i := 6) (x := Int32.ofInt u10_) rfl (zdal_p dlB_Units_narrowAt_84 (i := 8) rfl) ?_
            refine zw_aload_n (pc := 110) (n := 2) (x := (d_ + 1)) rfl (zdal_p dlB_Units_narrowAt_84 (i := 9) rfl) ?_
            refine zk_getI (pc := 111) f_Units_66 rfl ((hf_N11_.w hW).kr (o := 1) (by decide)) (zdal_p dlB_Units_narrowAt_84 (i := 10) rfl) ?_
            rw [hf_N11_.e (by decide)]
            refine zr_icmp_ge (pc := 114) (tgt := 215) ⟨hu10_a, hu10_b⟩ ⟨(ze_r Mz (d_ + 1) 7).1, (ze_r Mz (d_ + 1) 7).2⟩ (by decide) (zdal_p dlB_Units_narrowAt_84 (i := 11) rfl) (fun hc_114 => ?_) (fun hc_114 => ?_)
            · skip
              exact zk_vret (pc := 215) rfl hf_N11_ trivial (zdal_p dlB_Units_narrowAt_86 (i := 10) rfl)
            · skip
              refine zw_iconst (pc := 117) (v := Int32.ofInt 0) (by decide) (zdal_p dlB_Units_narrowAt_84 (i := 12) rfl) ?_
              refine zw_istore (pc := 118) (i := 7) (L2 := [some (.ref (d_ + 28)), some (.int (Int32.ofInt a0_)), some (.ref (d_ + 1)), some (.int (Int32.ofInt v1_)), some (.int (Int32.ofInt u4_)), some (.int (Int32.ofInt v3_)), some (.int (Int32.ofInt u10_)), some (.int (Int32.ofInt 0)), none]) (by decide) rfl (zdal_p dlB_Units_narrowAt_84 (i := 13) rfl) ?_
              have lp_120 : ∀ (n : Nat) (u14_ : Int) (hu14_a : -2147483648 ≤ u14_) (hu14_b : u14_ < 2147483648) (N15_ : zMem) (hs16_ : zFc d_ [] [] [(28, 3)] [30] N11_ N15_) (i17_ : 0 ≤ u14_), (ze Mz (d_ + 1) 7 - u14_).toNat < n → zW l m_Units_narrowAt (zn Mz + 0, zw Mz + 0) N15_ 120 [some (.ref (d_ + 28)), some (.int (Int32.ofInt a0_)), some (.ref (d_ + 1)), some (.int (Int32.ofInt v1_)), some (.int (Int32.ofInt u4_)), some (.int (Int32.ofInt v3_)), some (.int (Int32.ofInt u10_)), some (.int (Int32.ofInt u14_)), none] [] (zqcV d_ [] [] [(28, 3)] [11, 30, 32] Mz (fun N => True)) := by
                intro n
                induction n with
                | zero =>
                  intro u14_ hu14_a hu14_b N15_ hs16_ i17_ h0
                  exact absurd h0 (Nat.not_lt_zero _)
                | succ n ih_120 =>
                  intro u14_ hu14_a hu14_b N15_ hs16_ i17_ hlt_120
                  have hf_N15_ : zFc d_ [] [] [(28, 3)] [11, 30, 32] Mz N15_ := hf_N11_.tr hs16_ (by decide) (by decide) (by decide) (by decide)
                  have hb0_N15_ : zFc d_ [] [] [(28, 3)] [30] N6_ N15_ := hs12_.tr hs16_ (by decide) (by decide) (by decide) (by decide)
                  refine zw_iload (pc := 120) (i := 7) (x := Int32.ofInt u14_) rfl (zdal_p dlB_Units_narrowAt_84 (i := 14) rfl) ?_
                  refine zw_aload_n (pc := 122) (n := 2) (x := (d_ + 1)) rfl (zdal_p dlB_Units_narrowAt_84 (i := 15) rfl) ?_
                  refine zk_getI (pc := 123) f_Units_66 rfl ((hf_N15_.w hW).kr (o := 1) (by decide)) (zdal_p dlB_Units_narrowAt_84 (i := 16) rfl) ?_
                  rw [hf_N15_.e (by decide)]
                  refine zr_icmp_ge (pc := 126) (tgt := 209) ⟨hu14_a, hu14_b⟩ ⟨(ze_r Mz (d_ + 1) 7).1, (ze_r Mz (d_ + 1) 7).2⟩ (by decide) (zdal_p dlB_Units_narrowAt_84 (i := 17) rfl) (fun hc_126 => ?_) (fun hc_126 => ?_)
                  · skip
                    refine zr_iinc (pc := 209) (i := 6) (a := u10_) (n := 1) (L2 := [some (.ref (d_ + 28)), some (.int (Int32.ofInt a0_)), some (.ref (d_ + 1)), some (.int (Int32.ofInt v1_)), some (.int (Int32.ofInt u4_)), some (.int (Int32.ofInt v3_)), some (.int (Int32.ofInt (u10_ + 1))), some (.int (Int32.ofInt u14_)), none]) rfl (by decide) rfl (zdal_p dlB_Units_narrowAt_86 (i := 8) rfl) ?_
                    obtain ⟨v18_, hv18_a, hv18_b, hv18_e, hv18_d⟩ := zk_gen (u10_ + 1)
                    rw [hv18_e]
                    refine zw_goto (pc := 212) (tgt := 108) (by decide) (zdal_p dlB_Units_narrowAt_86 (i := 9) rfl) ?_
                    refine zW_le [some (.ref (d_ + 28)), some (.int (Int32.ofInt a0_)), some (.ref (d_ + 1)), some (.int (Int32.ofInt v1_)), some (.int (Int32.ofInt u4_)), some (.int (Int32.ofInt v3_)), some (.int (Int32.ofInt v18_)), none, none] (⟨rfl, rfl, rfl, rfl, rfl, rfl, rfl, trivial⟩) ?_
                    exact ih_108 v18_ hv18_a hv18_b N15_ hb0_N15_ (show 0 ≤ v18_ by first | with_reducible assumption | assumption | omega) (by omega)
                  · skip
                    refine zw_iload (pc := 129) (i := 4) (x := Int32.ofInt u4_) rfl (zdal_p dlB_Units_narrowAt_84 (i := 18) rfl) ?_
                    refine zw_iload (pc := 131) (i := 6) (x := Int32.ofInt u10_) rfl (zdal_p dlB_Units_narrowAt_84 (i := 19) rfl) ?_
                    refine zr_callS hf_N15_.x (pc := 133) [.int (Int32.ofInt u4_), .int (Int32.ofInt u10_)] [] l_Units_69 (u_T_isInX l d_ N15_ (hf_N15_.w hW) u4_ hu4_a hu4_b u10_ hu10_a hu10_b) rfl rfl (by decide) (Nat.le_of_ble_eq_true rfl) (zdal_p dlB_Units_narrowAt_84 (i := 20) rfl) ?_
                    rintro _ N19_ ⟨v20_, rfl, ⟨hv20_a, hv20_b⟩, hsN19_, hp0_N19_⟩
                    obtain rfl := hsN19_.eq.symm
                    replace hp0_N19_ : (v20_ = 0 ∨ v20_ = 1) := hp0_N19_
                    show zW l m_Units_narrowAt (zn Mz + 0, zw Mz + 0) N15_ 136 [some (.ref (d_ + 28)), some (.int (Int32.ofInt a0_)), some (.ref (d_ + 1)), some (.int (Int32.ofInt v1_)), some (.int (Int32.ofInt u4_)), some (.int (Int32.ofInt v3_)), some (.int (Int32.ofInt u10_)), some (.int (Int32.ofInt u14_)), none] [.int (Int32.ofInt v20_)] _
                    refine zr_if_eq (pc := 136) (tgt := 203) ⟨hv20_a, hv20_b⟩ (by decide) (zdal_p dlB_Units_narrowAt_84 (i := 21) rfl) (fun hc_136 => ?_) (fun hc_136 => ?_)
                    · skip
                      refine zr_iinc (pc := 203) (i := 7) (a := u14_) (n := 1) (L2 := [some (.ref (d_ + 28)), some (.int (Int32.ofInt a0_)), some (.ref (d_ + 1)), some (.int (Int32.ofInt v1_)), some (.int (Int32.ofInt u4_)), some (.int (Int32.ofInt v3_)), some (.int (Int32.ofInt u10_)), some (.int (Int32.ofInt (u14_ + 1))), none]) rfl (by decide) rfl (zdal_p dlB_Units_narrowAt_86 (i := 6) rfl) ?_
                      obtain ⟨v21_, hv21_a, hv21_b, hv21_e, hv21_d⟩ := zk_gen (u14_ + 1)
                      rw [hv21_e]
                      refine zw_goto (pc := 206) (tgt := 120) (by decide) (zdal_p dlB_Units_narrowAt_86 (i := 7) rfl) ?_
                      exact ih_120 v21_ hv21_a hv21_b N15_ hs16_ (show 0 ≤ v21_ by first | with_reducible assumption | assumption | omega) (by omega)
                    · skip
                      refine zw_iload (pc := 139) (i := 4) (x := Int32.ofInt u4_) rfl (zdal_p dlB_Units_narrowAt_84 (i := 22) rfl) ?_
                      refine zw_iload (pc := 141) (i := 7) (x := Int32.ofInt u14_) rfl (zdal_p dlB_Units_narrowAt_84 (i := 23) rfl) ?_
                      refine zr_callS hf_N15_.x (pc := 143) [.int (Int32.ofInt u4_), .int (Int32.ofInt u14_)] [] l_Units_69 (u_T_isInX l d_ N15_ (hf_N15_.w hW) u4_ hu4_a hu4_b u14_ hu14_a hu14_b) rfl rfl (by decide) (Nat.le_of_ble_eq_true rfl) (zdal_p dlB_Units_narrowAt_85 (i := 0) rfl) ?_
                      rintro _ N22_ ⟨v23_, rfl, ⟨hv23_a, hv23_b⟩, hsN22_, hp0_N22_⟩
                      obtain rfl := hsN22_.eq.symm
                      replace hp0_N22_ : (v23_ = 0 ∨ v23_ = 1) := hp0_N22_
                      show zW l m_Units_narrowAt (zn Mz + 0, zw Mz + 0) N15_ 146 [some (.ref (d_ + 28)), some (.int (Int32.ofInt a0_)), some (.ref (d_ + 1)), some (.int (Int32.ofInt v1_)), some (.int (Int32.ofInt u4_)), some (.int (Int32.ofInt v3_)), some (.int (Int32.ofInt u10_)), some (.int (Int32.ofInt u14_)), none] [.int (Int32.ofInt v23_)] _
                      refine zr_if_eq (pc := 146) (tgt := 203) ⟨hv23_a, hv23_b⟩ (by decide) (zdal_p dlB_Units_narrowAt_85 (i := 1) rfl) (fun hc_146 => ?_) (fun hc_146 => ?_)
                      · skip
                        refine zr_iinc (pc := 203) (i := 7) (a := u14_) (n := 1) (L2 := [some (.ref (d_ + 28)), some (.int (Int32.ofInt a0_)), some (.ref (d_ + 1)), some (.int (Int32.ofInt v1_)), some (.int (Int32.ofInt u4_)), some (.int (Int32.ofInt v3_)), some (.int (Int32.ofInt u10_)), some (.int (Int32.ofInt (u14_ + 1))), none]) rfl (by decide) rfl (zdal_p dlB_Units_narrowAt_86 (i := 6) rfl) ?_
                        obtain ⟨v24_, hv24_a, hv24_b, hv24_e, hv24_d⟩ := zk_gen (u14_ + 1)
                        rw [hv24_e]
                        refine zw_goto (pc := 206) (tgt := 120) (by decide) (zdal_p dlB_Units_narrowAt_86 (i := 7) rfl) ?_
                        exact ih_120 v24_ hv24_a hv24_b N15_ hs16_ (show 0 ≤ v24_ by first | with_reducible assumption | assumption | omega) (by omega)
                      · skip
                        refine zw_aload_n (pc := 149) (n := 2) (x := (d_ + 1)) rfl (zdal_p dlB_Units_narrowAt_85 (i := 2) rfl) ?_
                        refine zw_iload_n (pc := 150) (n := 3) (x := Int32.ofInt v1_) rfl (zdal_p dlB_Units_narrowAt_85 (i := 3) rfl) ?_
                        refine zw_aload_n (pc := 151) (n := 2) (x := (d_ + 1)) rfl (zdal_p dlB_Units_narrowAt_85 (i := 4) rfl) ?_
                        refine zw_iload (pc := 152) (i := 6) (x := Int32.ofInt u10_) rfl (zdal_p dlB_Units_narrowAt_85 (i := 5) rfl) ?_
                        refine zw_iload (pc := 154) (i := 7) (x := Int32.ofInt u14_) rfl (zdal_p dlB_Units_narrowAt_85 (i := 6) rfl) ?_
                        refine zk_callV hf_N15_.x (pc := 156) [.int (Int32.ofInt u10_), .int (Int32.ofInt u14_)] [.int (Int32.ofInt v1_), .ref (d_ + 1)] l_Units_83 (u_Group_bothX l d_ N15_ (hf_N15_.w hW) u10_ hu10_a hu10_b u14_ hu14_a hu14_b) rfl rfl ((hf_N15_.w hW).kr (o := 1) (by decide)) (by decide) (by decide) (Nat.le_of_ble_eq_true rfl) (zdal_p dlB_Units_narrowAt_85 (i := 7) rfl) ?_
                        rintro _ N25_ ⟨v26_, rfl, ⟨hv26_a, hv26_b⟩, hsN25_, -⟩
                        obtain rfl := hsN25_.eq.symm
                        show zW l m_Units_narrowAt (zn Mz + 0, zw Mz + 0) N15_ 159 [some (.ref (d_ + 28)), some (.int (Int32.ofInt a0_)), some (.ref (d_ + 1)), some (.int (Int32.ofInt v1_)), some (.int (Int32.ofInt u4_)), some (.int (Int32.ofInt v3_)), some (.int (Int32.ofInt u10_)), some (.int (Int32.ofInt u14_)), none] [.int (Int32.ofInt v26_), .int (Int32.ofInt v1_), .ref (d_ + 1)] _
                        refine zk_callV hf_N15_.x (pc := 159) [.int (Int32.ofInt v1_), .int (Int32.ofInt v26_)] [] l_Units_73 (u_Group_leastOfCosetX l d_ N15_ (hf_N15_.w hW) v1_ hv1_a hv1_b v26_ hv26_a hv26_b) rfl rfl ((hf_N15_.w hW).kr (o := 1) (by decide)) (by decide) (by decide) (Nat.le_of_ble_eq_true rfl) (zdal_p dlB_Units_narrowAt_85 (i := 8) rfl) ?_
                        rintro _ N27_ ⟨v28_, rfl, ⟨hv28_a, hv28_b⟩, hsN27_, -⟩
                        obtain rfl := hsN27_.eq.symm
                        show zW l m_Units_narrowAt (zn Mz + 0, zw Mz + 0) N15_ 162 [some (.ref (d_ + 28)), some (.int (Int32.ofInt a0_)), some (.ref (d_ + 1)), some (.int (Int32.ofInt v1_)), some (.int (Int32.ofInt u4_)), some (.int (Int32.ofInt v3_)), some (.int (Int32.ofInt u10_)), some (.int (Int32.ofInt u14_)), none] [.int (Int32.ofInt v28_)] _
                        refine zw_istore (pc := 162) (i := 8) (L2 := [some (.ref (d_ + 28)), some (.int (Int32.ofInt a0_)), some (.ref (d_ + 1)), some (.int (Int32.ofInt v1_)), some (.int (Int32.ofInt u4_)), some (.int (Int32.ofInt v3_)), some (.int (Int32.ofInt u10_)), some (.int (Int32.ofInt u14_)), some (.int (Int32.ofInt v28_))]) (by decide) rfl (zdal_p dlB_Units_narrowAt_85 (i := 9) rfl) ?_
                        refine zw_aload_n (pc := 164) (n := 0) (x := (d_ + 28)) rfl (zdal_p dlB_Units_narrowAt_85 (i := 10) rfl) ?_
                        refine zw_aload_n (pc := 165) (n := 0) (x := (d_ + 28)) rfl (zdal_p dlB_Units_narrowAt_85 (i := 11) rfl) ?_
                        refine zw_iload_n (pc := 166) (n := 1) (x := Int32.ofInt a0_) rfl (zdal_p dlB_Units_narrowAt_85 (i := 12) rfl) ?_
                        refine zk_callV hf_N15_.x (pc := 167) [.int (Int32.ofInt a0_)] [.ref (d_ + 28)] l_Units_80 (u_Units_bitOfX l d_ N15_ (hf_N15_.w hW) a0_ ha0_a ha0_b) rfl rfl ((hf_N15_.w hW).kr (o := 28) (by decide)) (by decide) (by decide) (Nat.le_of_ble_eq_true rfl) (zdal_p dlB_Units_narrowAt_85 (i := 13) rfl) ?_
                        rintro _ N29_ ⟨v30_, rfl, ⟨hv30_a, hv30_b⟩, hsN29_, -⟩
                        obtain rfl := hsN29_.eq.symm
                        show zW l m_Units_narrowAt (zn Mz + 0, zw Mz + 0) N15_ 170 [some (.ref (d_ + 28)), some (.int (Int32.ofInt a0_)), some (.ref (d_ + 1)), some (.int (Int32.ofInt v1_)), some (.int (Int32.ofInt u4_)), some (.int (Int32.ofInt v3_)), some (.int (Int32.ofInt u10_)), some (.int (Int32.ofInt u14_)), some (.int (Int32.ofInt v28_))] [.int (Int32.ofInt v30_), .ref (d_ + 28)] _
                        refine zw_aload_n (pc := 170) (n := 0) (x := (d_ + 28)) rfl (zdal_p dlB_Units_narrowAt_85 (i := 14) rfl) ?_
                        refine zw_getF (pc := 171) f_Units_20 rfl ((hf_N15_.w hW).kr (o := 28) (by decide)) ((hf_N15_.w hW).lr (o := 28) (s := 2) (r := 31) (by decide)) (zdal_p dlB_Units_narrowAt_85 (i := 15) rfl) ?_
                        refine zw_iload (pc := 174) (i := 6) (x := Int32.ofInt u10_) rfl (zdal_p dlB_Units_narrowAt_85 (i := 16) rfl) ?_
                        refine zk_atG hf_N15_.x (pc := 176) l_Units_57 ((hf_N15_.w hW).kr (o := 31) (by decide)) ((hf_N15_.w hW).lr (o := 31) (s := 0) (r := 32) (by decide)) ((hf_N15_.w hW).rr (o := 32) (t := 1) (n := 24) (by decide)) (by decide) ⟨by omega, by omega⟩ (by decide) (Nat.le_of_ble_eq_true rfl) (zdal_p dlB_Units_narrowAt_85 (i := 17) rfl) (fun v31_ hv31_ hv31_a hv31_b => ?_)
                        clear hv31_
                        refine zr_ixor (pc := 179) (zdal_p dlB_Units_narrowAt_85 (i := 18) rfl) ?_
                        have hr32_ := zxor_r v30_ v31_
                        refine zr_nmI (fun v33_ hv33_ => ?_)
                        obtain ⟨hv33_a, hv33_b⟩ := hv33_
                        refine zw_aload_n (pc := 180) (n := 0) (x := (d_ + 28)) rfl (zdal_p dlB_Units_narrowAt_85 (i := 19) rfl) ?_
                        refine zw_getF (pc := 181) f_Units_20 rfl ((hf_N15_.w hW).kr (o := 28) (by decide)) ((hf_N15_.w hW).lr (o := 28) (s := 2) (r := 31) (by decide)) (zdal_p dlB_Units_narrowAt_85 (i := 20) rfl) ?_
                        refine zw_iload (pc := 184) (i := 7) (x := Int32.ofInt u14_) rfl (zdal_p dlB_Units_narrowAt_85 (i := 21) rfl) ?_
                        refine zk_atG hf_N15_.x (pc := 186) l_Units_57 ((hf_N15_.w hW).kr (o := 31) (by decide)) ((hf_N15_.w hW).lr (o := 31) (s := 0) (r := 32) (by decide)) ((hf_N15_.w hW).rr (o := 32) (t := 1) (n := 24) (by decide)) (by decide) ⟨by omega, by omega⟩ (by decide) (Nat.le_of_ble_eq_true rfl) (zdal_p dlB_Units_narrowAt_85 (i := 22) rfl) (fun v34_ hv34_ hv34_a hv34_b => ?_)
                        clear hv34_
                        refine zr_ixor (pc := 189) (zdal_p dlB_Units_narrowAt_85 (i := 23) rfl) ?_
                        have hr35_ := zxor_r v33_ v34_
                        refine zr_nmI (fun v36_ hv36_ => ?_)
                        obtain ⟨hv36_a, hv36_b⟩ := hv36_
                        refine zw_aload_n (pc := 190) (n := 0) (x := (d_ + 28)) rfl (zdal_p dlB_Units_narrowAt_86 (i := 0) rfl) ?_
                        refine zw_getF (pc := 191) f_Units_20 rfl ((hf_N15_.w hW).kr (o := 28) (by decide)) ((hf_N15_.w hW).lr (o := 28) (s := 2) (r := 31) (by decide)) (zdal_p dlB_Units_narrowAt_86 (i := 1) rfl) ?_
                        refine zw_iload (pc := 194) (i := 8) (x := Int32.ofInt v28_) rfl (zdal_p dlB_Units_narrowAt_86 (i := 2) rfl) ?_
                        refine zk_atG hf_N15_.x (pc := 196) l_Units_57 ((hf_N15_.w hW).kr (o := 31) (by decide)) ((hf_N15_.w hW).lr (o := 31) (s := 0) (r := 32) (by decide)) ((hf_N15_.w hW).rr (o := 32) (t := 1) (n := 24) (by decide)) (by decide) ⟨by omega, by omega⟩ (by decide) (Nat.le_of_ble_eq_true rfl) (zdal_p dlB_Units_narrowAt_86 (i := 3) rfl) (fun v37_ hv37_ hv37_a hv37_b => ?_)
                        clear hv37_
                        refine zr_ixor (pc := 199) (zdal_p dlB_Units_narrowAt_86 (i := 4) rfl) ?_
                        have hr38_ := zxor_r v36_ v37_
                        refine zr_nmI (fun v39_ hv39_ => ?_)
                        obtain ⟨hv39_a, hv39_b⟩ := hv39_
                        refine zk_callV hf_N15_.x (pc := 200) [.int (Int32.ofInt v39_)] [] l_Units_86 (u_Units_narrowX l d_ N15_ (hf_N15_.w hW) v39_ hv39_a hv39_b) rfl rfl ((hf_N15_.w hW).kr (o := 28) (by decide)) (by decide) (by decide) (Nat.le_of_ble_eq_true rfl) (zdal_p dlB_Units_narrowAt_86 (i := 5) rfl) ?_
                        rintro _ N40_ ⟨rfl, hsN40_, -⟩
                        have hf_N40_ : zFc d_ [] [] [(28, 3)] [11, 30, 32] Mz N40_ := hf_N15_.tr hsN40_ (by decide) (by decide) (by decide) (by decide)
                        have hb0_N40_ : zFc d_ [] [] [(28, 3)] [30] N6_ N40_ := hb0_N15_.tr hsN40_ (by decide) (by decide) (by decide) (by decide)
                        have hb1_N40_ : zFc d_ [] [] [(28, 3)] [30] N11_ N40_ := hs16_.tr hsN40_ (by decide) (by decide) (by decide) (by decide)
                        show zW l m_Units_narrowAt (zn Mz + 0, zw Mz + 0) N40_ 203 [some (.ref (d_ + 28)), some (.int (Int32.ofInt a0_)), some (.ref (d_ + 1)), some (.int (Int32.ofInt v1_)), some (.int (Int32.ofInt u4_)), some (.int (Int32.ofInt v3_)), some (.int (Int32.ofInt u10_)), some (.int (Int32.ofInt u14_)), some (.int (Int32.ofInt v28_))] [] _
                        refine zr_iinc (pc := 203) (i := 7) (a := u14_) (n := 1) (L2 := [some (.ref (d_ + 28)), some (.int (Int32.ofInt a0_)), some (.ref (d_ + 1)), some (.int (Int32.ofInt v1_)), some (.int (Int32.ofInt u4_)), some (.int (Int32.ofInt v3_)), some (.int (Int32.ofInt u10_)), some (.int (Int32.ofInt (u14_ + 1))), some (.int (Int32.ofInt v28_))]) rfl (by decide) rfl (zdal_p dlB_Units_narrowAt_86 (i := 6) rfl) ?_
                        obtain ⟨v42_, hv42_a, hv42_b, hv42_e, hv42_d⟩ := zk_gen (u14_ + 1)
                        rw [hv42_e]
                        refine zw_goto (pc := 206) (tgt := 120) (by decide) (zdal_p dlB_Units_narrowAt_86 (i := 7) rfl) ?_
                        refine zW_le [some (.ref (d_ + 28)), some (.int (Int32.ofInt a0_)), some (.ref (d_ + 1)), some (.int (Int32.ofInt v1_)), some (.int (Int32.ofInt u4_)), some (.int (Int32.ofInt v3_)), some (.int (Int32.ofInt u10_)), some (.int (Int32.ofInt v42_)), none] (⟨rfl, rfl, rfl, rfl, rfl, rfl, rfl, rfl, trivial⟩) ?_
                        exact ih_120 v42_ hv42_a hv42_b N40_ hb1_N40_ (show 0 ≤ v42_ by first | with_reducible assumption | assumption | omega) (by omega)
              exact lp_120 _ 0 (by decide) (by decide) N11_ zFc.rf (show 0 ≤ (0 : Int) by first | with_reducible assumption | assumption | omega) (Nat.lt_succ_self _)
        exact lp_108 _ 0 (by decide) (by decide) N6_ zFc.rf (show 0 ≤ (0 : Int) by first | with_reducible assumption | assumption | omega) (Nat.lt_succ_self _)
      · skip
        refine zw_iload (pc := 42) (i := 5) (x := Int32.ofInt v3_) rfl (zdal_p dlB_Units_narrowAt_82 (i := 22) rfl) ?_
        refine zw_iload (pc := 44) (i := 6) (x := Int32.ofInt u5_) rfl (zdal_p dlB_Units_narrowAt_82 (i := 23) rfl) ?_
        refine zr_callS hf_N6_.x (pc := 46) [.int (Int32.ofInt v3_), .int (Int32.ofInt u5_)] [] l_Units_69 (u_T_isInX l d_ N6_ (hf_N6_.w hW) v3_ hv3_a hv3_b u5_ hu5_a hu5_b) rfl rfl (by decide) (Nat.le_of_ble_eq_true rfl) (zdal_p dlB_Units_narrowAt_83 (i := 0) rfl) ?_
        rintro _ N43_ ⟨v44_, rfl, ⟨hv44_a, hv44_b⟩, hsN43_, hp0_N43_⟩
        obtain rfl := hsN43_.eq.symm
        replace hp0_N43_ : (v44_ = 0 ∨ v44_ = 1) := hp0_N43_
        show zW l m_Units_narrowAt (zn Mz + 0, zw Mz + 0) N6_ 49 [some (.ref (d_ + 28)), some (.int (Int32.ofInt a0_)), some (.ref (d_ + 1)), some (.int (Int32.ofInt v1_)), some (.int (Int32.ofInt u4_)), some (.int (Int32.ofInt v3_)), some (.int (Int32.ofInt u5_)), none, none] [.int (Int32.ofInt v44_)] _
        refine zr_if_eq (pc := 49) (tgt := 99) ⟨hv44_a, hv44_b⟩ (by decide) (zdal_p dlB_Units_narrowAt_83 (i := 1) rfl) (fun hc_49 => ?_) (fun hc_49 => ?_)
        · skip
          refine zr_iinc (pc := 99) (i := 6) (a := u5_) (n := 1) (L2 := [some (.ref (d_ + 28)), some (.int (Int32.ofInt a0_)), some (.ref (d_ + 1)), some (.int (Int32.ofInt v1_)), some (.int (Int32.ofInt u4_)), some (.int (Int32.ofInt v3_)), some (.int (Int32.ofInt (u5_ + 1))), none, none]) rfl (by decide) rfl (zdal_p dlB_Units_narrowAt_84 (i := 4) rfl) ?_
          obtain ⟨v45_, hv45_a, hv45_b, hv45_e, hv45_d⟩ := zk_gen (u5_ + 1)
          rw [hv45_e]
          refine zw_goto (pc := 102) (tgt := 33) (by decide) (zdal_p dlB_Units_narrowAt_84 (i := 5) rfl) ?_
          exact ih_33 u4_ hu4_a hu4_b v45_ hv45_a hv45_b N6_ hs7_ (show 0 ≤ v45_ by first | with_reducible assumption | assumption | omega) (by omega)
        · skip
          refine zw_aload_n (pc := 52) (n := 2) (x := (d_ + 1)) rfl (zdal_p dlB_Units_narrowAt_83 (i := 2) rfl) ?_
          refine zw_iload_n (pc := 53) (n := 3) (x := Int32.ofInt v1_) rfl (zdal_p dlB_Units_narrowAt_83 (i := 3) rfl) ?_
          refine zw_iload (pc := 54) (i := 6) (x := Int32.ofInt u5_) rfl (zdal_p dlB_Units_narrowAt_83 (i := 4) rfl) ?_
          refine zk_callV hf_N6_.x (pc := 56) [.int (Int32.ofInt v1_), .int (Int32.ofInt u5_)] [] l_Units_73 (u_Group_leastOfCosetX l d_ N6_ (hf_N6_.w hW) v1_ hv1_a hv1_b u5_ hu5_a hu5_b) rfl rfl ((hf_N6_.w hW).kr (o := 1) (by decide)) (by decide) (by decide) (Nat.le_of_ble_eq_true rfl) (zdal_p dlB_Units_narrowAt_83 (i := 5) rfl) ?_
          rintro _ N46_ ⟨v47_, rfl, ⟨hv47_a, hv47_b⟩, hsN46_, -⟩
          obtain rfl := hsN46_.eq.symm
          show zW l m_Units_narrowAt (zn Mz + 0, zw Mz + 0) N6_ 59 [some (.ref (d_ + 28)), some (.int (Int32.ofInt a0_)), some (.ref (d_ + 1)), some (.int (Int32.ofInt v1_)), some (.int (Int32.ofInt u4_)), some (.int (Int32.ofInt v3_)), some (.int (Int32.ofInt u5_)), none, none] [.int (Int32.ofInt v47_)] _
          refine zw_iload (pc := 59) (i := 6) (x := Int32.ofInt u5_) rfl (zdal_p dlB_Units_narrowAt_83 (i := 6) rfl) ?_
          refine zr_icmp_ne (pc := 61) (tgt := 99) ⟨hv47_a, hv47_b⟩ ⟨hu5_a, hu5_b⟩ (by decide) (zdal_p dlB_Units_narrowAt_83 (i := 7) rfl) (fun hc_61 => ?_) (fun hc_61 => ?_)
          · skip
            refine zr_iinc (pc := 99) (i := 6) (a := u5_) (n := 1) (L2 := [some (.ref (d_ + 28)), some (.int (Int32.ofInt a0_)), some (.ref (d_ + 1)), some (.int (Int32.ofInt v1_)), some (.int (Int32.ofInt u4_)), some (.int (Int32.ofInt v3_)), some (.int (Int32.ofInt (u5_ + 1))), none, none]) rfl (by decide) rfl (zdal_p dlB_Units_narrowAt_84 (i := 4) rfl) ?_
            obtain ⟨v48_, hv48_a, hv48_b, hv48_e, hv48_d⟩ := zk_gen (u5_ + 1)
            rw [hv48_e]
            refine zw_goto (pc := 102) (tgt := 33) (by decide) (zdal_p dlB_Units_narrowAt_84 (i := 5) rfl) ?_
            exact ih_33 u4_ hu4_a hu4_b v48_ hv48_a hv48_b N6_ hs7_ (show 0 ≤ v48_ by first | with_reducible assumption | assumption | omega) (by omega)
          · skip
            refine zw_iload (pc := 64) (i := 4) (x := Int32.ofInt u4_) rfl (zdal_p dlB_Units_narrowAt_83 (i := 8) rfl) ?_
            refine zw_iconst (pc := 66) (v := Int32.ofInt 1) (by decide) (zdal_p dlB_Units_narrowAt_83 (i := 9) rfl) ?_
            refine zw_iload (pc := 67) (i := 6) (x := Int32.ofInt u5_) rfl (zdal_p dlB_Units_narrowAt_83 (i := 10) rfl) ?_
            refine zr_ishl (pc := 69) (zdal_p dlB_Units_narrowAt_83 (i := 11) rfl) ?_
            have hr49_ := zshl_r 1 u5_
            refine zr_nmI (fun v50_ hv50_ => ?_)
            obtain ⟨hv50_a, hv50_b⟩ := hv50_
            refine zr_ior (pc := 70) (zdal_p dlB_Units_narrowAt_83 (i := 12) rfl) ?_
            have hr51_ := zor_r u4_ v50_
            refine zr_nmI (fun v52_ hv52_ => ?_)
            obtain ⟨hv52_a, hv52_b⟩ := hv52_
            refine zw_istore (pc := 71) (i := 4) (L2 := [some (.ref (d_ + 28)), some (.int (Int32.ofInt a0_)), some (.ref (d_ + 1)), some (.int (Int32.ofInt v1_)), some (.int (Int32.ofInt v52_)), some (.int (Int32.ofInt v3_)), some (.int (Int32.ofInt u5_)), none, none]) (by decide) rfl (zdal_p dlB_Units_narrowAt_83 (i := 13) rfl) ?_
            refine zw_aload_n (pc := 73) (n := 0) (x := (d_ + 28)) rfl (zdal_p dlB_Units_narrowAt_83 (i := 14) rfl) ?_
            refine zw_getF (pc := 74) f_Units_20 rfl ((hf_N6_.w hW).kr (o := 28) (by decide)) ((hf_N6_.w hW).lr (o := 28) (s := 2) (r := 31) (by decide)) (zdal_p dlB_Units_narrowAt_83 (i := 15) rfl) ?_
            refine zw_iload (pc := 77) (i := 6) (x := Int32.ofInt u5_) rfl (zdal_p dlB_Units_narrowAt_83 (i := 16) rfl) ?_
            refine zw_aload_n (pc := 79) (n := 0) (x := (d_ + 28)) rfl (zdal_p dlB_Units_narrowAt_83 (i := 17) rfl) ?_
            refine zw_aload_n (pc := 80) (n := 0) (x := (d_ + 28)) rfl (zdal_p dlB_Units_narrowAt_83 (i := 18) rfl) ?_
            refine zw_getF (pc := 81) f_Units_23 rfl ((hf_N6_.w hW).kr (o := 28) (by decide)) ((hf_N6_.w hW).lr (o := 28) (s := 0) (r := 12) (by decide)) (zdal_p dlB_Units_narrowAt_83 (i := 19) rfl) ?_
            refine zw_iload_n (pc := 84) (n := 3) (x := Int32.ofInt v1_) rfl (zdal_p dlB_Units_narrowAt_83 (i := 20) rfl) ?_
            refine zw_iconst (pc := 85) (v := Int32.ofInt 1) (by decide) (zdal_p dlB_Units_narrowAt_83 (i := 21) rfl) ?_
            refine zw_iload (pc := 86) (i := 6) (x := Int32.ofInt u5_) rfl (zdal_p dlB_Units_narrowAt_83 (i := 22) rfl) ?_
            refine zr_ishl (pc := 88) (zdal_p dlB_Units_narrowAt_83 (i := 23) rfl) ?_
            have hr53_ := zshl_r 1 u5_
            refine zr_nmI (fun v54_ hv54_ => ?_)
            obtain ⟨hv54_a, hv54_b⟩ := hv54_
            refine zr_ior (pc := 89) (zdal_p dlB_Units_narrowAt_84 (i := 0) rfl) ?_
            have hr55_ := zor_r v1_ v54_
            refine zr_nmI (fun v56_ hv56_ => ?_)
            obtain ⟨hv56_a, hv56_b⟩ := hv56_
            refine zk_callV hf_N6_.x (pc := 90) [.int (Int32.ofInt v56_)] [.ref (d_ + 28), .int (Int32.ofInt u5_), .ref (d_ + 31)] l_Units_77 (u_Sorts_spannedSortX l d_ N6_ (hf_N6_.w hW) v56_ hv56_a hv56_b) rfl rfl ((hf_N6_.w hW).kr (o := 12) (by decide)) (by decide) (by decide) (Nat.le_of_ble_eq_true rfl) (zdal_p dlB_Units_narrowAt_84 (i := 1) rfl) ?_
            rintro _ N57_ ⟨v58_, rfl, ⟨hv58_a, hv58_b⟩, hsN57_, -⟩
            have hf_N57_ : zFc d_ [] [] [(28, 3)] [11, 30, 32] Mz N57_ := hf_N6_.tr hsN57_ (by decide) (by decide) (by decide) (by decide)
            have hb0_N57_ : zFc d_ [] [] [] [11, 32] Mz N57_ := hs7_.tr hsN57_ (by decide) (by decide) (by decide) (by decide)
            show zW l m_Units_narrowAt (zn Mz + 0, zw Mz + 0) N57_ 93 [some (.ref (d_ + 28)), some (.int (Int32.ofInt a0_)), some (.ref (d_ + 1)), some (.int (Int32.ofInt v1_)), some (.int (Int32.ofInt v52_)), some (.int (Int32.ofInt v3_)), some (.int (Int32.ofInt u5_)), none, none] [.int (Int32.ofInt v58_), .ref (d_ + 28), .int (Int32.ofInt u5_), .ref (d_ + 31)] _
            refine zk_callV hf_N57_.x (pc := 93) [.int (Int32.ofInt v58_)] [.int (Int32.ofInt u5_), .ref (d_ + 31)] l_Units_80 (u_Units_bitOfX l d_ N57_ (hf_N57_.w hW) v58_ hv58_a hv58_b) rfl rfl ((hf_N57_.w hW).kr (o := 28) (by decide)) (by decide) (by decide) (Nat.le_of_ble_eq_true rfl) (zdal_p dlB_Units_narrowAt_84 (i := 2) rfl) ?_
            rintro _ N59_ ⟨v60_, rfl, ⟨hv60_a, hv60_b⟩, hsN59_, -⟩
            obtain rfl := hsN59_.eq.symm
            show zW l m_Units_narrowAt (zn Mz + 0, zw Mz + 0) N57_ 96 [some (.ref (d_ + 28)), some (.int (Int32.ofInt a0_)), some (.ref (d_ + 1)), some (.int (Int32.ofInt v1_)), some (.int (Int32.ofInt v52_)), some (.int (Int32.ofInt v3_)), some (.int (Int32.ofInt u5_)), none, none] [.int (Int32.ofInt v60_), .int (Int32.ofInt u5_), .ref (d_ + 31)] _
            refine zk_stG hf_N57_.x (pc := 96) (o := 32) (by decide) l_Units_40 ((hf_N57_.w hW).kr (o := 31) (by decide)) ((hf_N57_.w hW).lr (o := 31) (s := 0) (r := 32) (by decide)) ((hf_N57_.w hW).rr (o := 32) (t := 1) (n := 24) (by decide)) (by decide) ⟨by omega, by omega⟩ (by decide) (Nat.le_of_ble_eq_true rfl) (zdal_p dlB_Units_narrowAt_84 (i := 3) rfl) (fun N61_ hsN61_ => ?_)
            have hf_N61_ : zFc d_ [] [] [(28, 3)] [11, 30, 32] Mz N61_ := hf_N57_.tr hsN61_ (by decide) (by decide) (by decide) (by decide)
            have hb0_N61_ : zFc d_ [] [] [] [11, 32] Mz N61_ := hb0_N57_.tr hsN61_ (by decide) (by decide) (by decide) (by decide)
            refine zr_iinc (pc := 99) (i := 6) (a := u5_) (n := 1) (L2 := [some (.ref (d_ + 28)), some (.int (Int32.ofInt a0_)), some (.ref (d_ + 1)), some (.int (Int32.ofInt v1_)), some (.int (Int32.ofInt v52_)), some (.int (Int32.ofInt v3_)), some (.int (Int32.ofInt (u5_ + 1))), none, none]) rfl (by decide) rfl (zdal_p dlB_Units_narrowAt_84 (i := 4) rfl) ?_
            obtain ⟨v62_, hv62_a, hv62_b, hv62_e, hv62_d⟩ := zk_gen (u5_ + 1)
            rw [hv62_e]
            refine zw_goto (pc := 102) (tgt := 33) (by decide) (zdal_p dlB_Units_narrowAt_84 (i := 5) rfl) ?_
            exact ih_33 v52_ hv52_a hv52_b v62_ hv62_a hv62_b N61_ hb0_N61_ (show 0 ≤ v62_ by first | with_reducible assumption | assumption | omega) (by omega)
  exact lp_33 _ 0 (by decide) (by decide) 0 (by decide) (by decide) Mz zFc.rf (show 0 ≤ (0 : Int) by first | with_reducible assumption | assumption | omega) (Nat.lt_succ_self _)
set_option maxHeartbeats 4000000 in
theorem u_Units_seekX (l : Launch) (d_ : Nat) (Mz : zMem) (hW : zKW d_ Mz) : zC l m_Units_seek 0 0 [.ref (d_ + 28)] Mz (zqcV d_ [] [] [(28, 3), (28, 4)] [11, 30, 32] Mz (fun N => True)) := by
  refine zC_of (L0 := [some (.ref (d_ + 28)), none]) md_Units_seek (Nat.le_of_ble_eq_true rfl) rfl ?_ zQ0
  have hf : zFc d_ [] [] [(28, 3), (28, 4)] [11, 30, 32] Mz Mz := zFc.rf
  refine zw_aload_n (pc := 0) (n := 0) (x := (d_ + 28)) rfl (zdal_p dlB_Units_seek_80 (i := 0) rfl) ?_
  refine zk_getI (pc := 1) f_Units_27 rfl ((hf.w hW).kr (o := 28) (by decide)) (zdal_p dlB_Units_seek_80 (i := 1) rfl) ?_
  have hr1_ := ze_r Mz (d_ + 28) 4
  refine zr_if_eq (pc := 4) (tgt := 8) ⟨(ze_r Mz (d_ + 28) 4).1, (ze_r Mz (d_ + 28) 4).2⟩ (by decide) (zdal_p dlB_Units_seek_80 (i := 2) rfl) (fun hc_4 => ?_) (fun hc_4 => ?_)
  · skip
    refine zw_aload_n (pc := 8) (n := 0) (x := (d_ + 28)) rfl (zdal_p dlB_Units_seek_80 (i := 4) rfl) ?_
    refine zw_iconst (pc := 9) (v := Int32.ofInt 1) (by decide) (zdal_p dlB_Units_seek_80 (i := 5) rfl) ?_
    refine zk_putR (pc := 10) (o := 28) (by decide) f_Units_27 rfl rfl ((hf.w hW).kr (o := 28) (by decide)) ⟨by omega, by omega⟩ (z_narB (by omega)) (z_fitB (by omega)) (zdal_p dlB_Units_seek_80 (i := 6) rfl) (fun N2_ hsN2_ hvN2_ => ?_)
    have hf_N2_ : zFc d_ [] [] [(28, 3), (28, 4)] [11, 30, 32] Mz N2_ := hf.tr hsN2_ (by decide) (by decide) (by decide) (by decide)
    refine zw_aload_n (pc := 13) (n := 0) (x := (d_ + 28)) rfl (zdal_p dlB_Units_seek_80 (i := 7) rfl) ?_
    refine zw_aload_n (pc := 14) (n := 0) (x := (d_ + 28)) rfl (zdal_p dlB_Units_seek_80 (i := 8) rfl) ?_
    refine zw_getF (pc := 15) f_Units_23 rfl ((hf_N2_.w hW).kr (o := 28) (by decide)) ((hf_N2_.w hW).lr (o := 28) (s := 0) (r := 12) (by decide)) (zdal_p dlB_Units_seek_80 (i := 9) rfl) ?_
    refine zk_getI (pc := 18) f_Units_35 rfl ((hf_N2_.w hW).kr (o := 12) (by decide)) (zdal_p dlB_Units_seek_80 (i := 10) rfl) ?_
    rw [hf_N2_.e (by decide)]
    have hr3_ := ze_r Mz (d_ + 12) 7
    refine zk_putR (pc := 21) (o := 28) (by decide) f_Units_31 rfl rfl ((hf_N2_.w hW).kr (o := 28) (by decide)) ⟨by omega, by omega⟩ rfl rfl (zdal_p dlB_Units_seek_80 (i := 11) rfl) (fun N4_ hsN4_ hvN4_ => ?_)
    have hf_N4_ : zFc d_ [] [] [(28, 3), (28, 4)] [11, 30, 32] Mz N4_ := hf_N2_.tr hsN4_ (by decide) (by decide) (by decide) (by decide)
    refine zw_iconst (pc := 24) (v := Int32.ofInt 0) (by decide) (zdal_p dlB_Units_seek_80 (i := 12) rfl) ?_
    refine zw_istore_n (pc := 25) (i := 1) (L2 := [some (.ref (d_ + 28)), some (.int (Int32.ofInt 0))]) rfl (by decide) rfl (zdal_p dlB_Units_seek_80 (i := 13) rfl) ?_
    have lp_26 : ∀ (n : Nat) (u5_ : Int) (hu5_a : -2147483648 ≤ u5_) (hu5_b : u5_ < 2147483648) (N6_ : zMem) (hs7_ : zFc d_ [] [] [] [30] N4_ N6_) (i8_ : 0 ≤ u5_), (ze Mz (d_ + 12) 7 - u5_).toNat < n → zW l m_Units_seek (zn Mz + 0, zw Mz + 0) N6_ 26 [some (.ref (d_ + 28)), some (.int (Int32.ofInt u5_))] [] (zqcV d_ [] [] [(28, 3), (28, 4)] [11, 30, 32] Mz (fun N => True)) := by
      intro n
      induction n with
      | zero =>
        intro u5_ hu5_a hu5_b N6_ hs7_ i8_ h0
        exact absurd h0 (Nat.not_lt_zero _)
      | succ n ih_26 =>
        intro u5_ hu5_a hu5_b N6_ hs7_ i8_ hlt_26
        have hf_N6_ : zFc d_ [] [] [(28, 3), (28, 4)] [11, 30, 32] Mz N6_ := hf_N4_.tr hs7_ (by decide) (by decide) (by decide) (by decide)
        refine zw_iload_n (pc := 26) (n := 1) (x := Int32.ofInt u5_) rfl (zdal_p dlB_Units_seek_80 (i := 14) rfl) ?_
        refine zw_aload_n (pc := 27) (n := 0) (x := (d_ + 28)) rfl (zdal_p dlB_Units_seek_80 (i := 15) rfl) ?_
        refine zw_getF (pc := 28) f_Units_23 rfl ((hf_N6_.w hW).kr (o := 28) (by decide)) ((hf_N6_.w hW).lr (o := 28) (s := 0) (r := 12) (by decide)) (zdal_p dlB_Units_seek_80 (i := 16) rfl) ?_
        refine zk_getI (pc := 31) f_Units_35 rfl ((hf_N6_.w hW).kr (o := 12) (by decide)) (zdal_p dlB_Units_seek_80 (i := 17) rfl) ?_
        rw [hf_N6_.e (by decide)]
        refine zr_icmp_ge (pc := 34) (tgt := 54) ⟨hu5_a, hu5_b⟩ ⟨(ze_r Mz (d_ + 12) 7).1, (ze_r Mz (d_ + 12) 7).2⟩ (by decide) (zdal_p dlB_Units_seek_80 (i := 18) rfl) (fun hc_34 => ?_) (fun hc_34 => ?_)
        · skip
          refine zw_iconst (pc := 54) (v := Int32.ofInt 0) (by decide) (zdal_p dlB_Units_seek_81 (i := 4) rfl) ?_
          refine zw_istore_n (pc := 55) (i := 1) (L2 := [some (.ref (d_ + 28)), some (.int (Int32.ofInt 0))]) rfl (by decide) rfl (zdal_p dlB_Units_seek_81 (i := 5) rfl) ?_
          have lp_56 : ∀ (n : Nat) (u9_ : Int) (hu9_a : -2147483648 ≤ u9_) (hu9_b : u9_ < 2147483648) (N10_ : zMem) (hs11_ : zFc d_ [] [] [(28, 3)] [11, 30, 32] N6_ N10_) (i12_ : 0 ≤ u9_), (ze Mz (d_ + 12) 7 - u9_).toNat < n → zW l m_Units_seek (zn Mz + 0, zw Mz + 0) N10_ 56 [some (.ref (d_ + 28)), some (.int (Int32.ofInt u9_))] [] (zqcV d_ [] [] [(28, 3), (28, 4)] [11, 30, 32] Mz (fun N => True)) := by
            intro n
            induction n with
            | zero =>
              intro u9_ hu9_a hu9_b N10_ hs11_ i12_ h0
              exact absurd h0 (Nat.not_lt_zero _)
            | succ n ih_56 =>
              intro u9_ hu9_a hu9_b N10_ hs11_ i12_ hlt_56
              have hf_N10_ : zFc d_ [] [] [(28, 3), (28, 4)] [11, 30, 32] Mz N10_ := hf_N6_.tr hs11_ (by decide) (by decide) (by decide) (by decide)
              refine zw_iload_n (pc := 56) (n := 1) (x := Int32.ofInt u9_) rfl (zdal_p dlB_Units_seek_81 (i := 6) rfl) ?_
              refine zw_aload_n (pc := 57) (n := 0) (x := (d_ + 28)) rfl (zdal_p dlB_Units_seek_81 (i := 7) rfl) ?_
              refine zw_getF (pc := 58) f_Units_23 rfl ((hf_N10_.w hW).kr (o := 28) (by decide)) ((hf_N10_.w hW).lr (o := 28) (s := 0) (r := 12) (by decide)) (zdal_p dlB_Units_seek_81 (i := 8) rfl) ?_
              refine zk_getI (pc := 61) f_Units_35 rfl ((hf_N10_.w hW).kr (o := 12) (by decide)) (zdal_p dlB_Units_seek_81 (i := 9) rfl) ?_
              rw [hf_N10_.e (by decide)]
              refine zr_icmp_ge (pc := 64) (tgt := 78) ⟨hu9_a, hu9_b⟩ ⟨(ze_r Mz (d_ + 12) 7).1, (ze_r Mz (d_ + 12) 7).2⟩ (by decide) (zdal_p dlB_Units_seek_81 (i := 10) rfl) (fun hc_64 => ?_) (fun hc_64 => ?_)
              · skip
                refine zw_aload_n (pc := 78) (n := 0) (x := (d_ + 28)) rfl (zdal_p dlB_Units_seek_81 (i := 16) rfl) ?_
                refine zk_callV hf_N10_.x (pc := 79) [] [] l_Units_47 (u_Units_straightenX l d_ N10_ (hf_N10_.w hW) ) rfl rfl ((hf_N10_.w hW).kr (o := 28) (by decide)) (by decide) (by decide) (Nat.le_of_ble_eq_true rfl) (zdal_p dlB_Units_seek_81 (i := 17) rfl) ?_
                rintro _ N13_ ⟨rfl, hsN13_, -⟩
                have hf_N13_ : zFc d_ [] [] [(28, 3), (28, 4)] [11, 30, 32] Mz N13_ := hf_N10_.tr hsN13_ (by decide) (by decide) (by decide) (by decide)
                show zW l m_Units_seek (zn Mz + 0, zw Mz + 0) N13_ 82 [some (.ref (d_ + 28)), some (.int (Int32.ofInt u9_))] [] _
                exact zk_vret (pc := 82) rfl hf_N13_ trivial (zdal_p dlB_Units_seek_81 (i := 18) rfl)
              · skip
                refine zw_aload_n (pc := 67) (n := 0) (x := (d_ + 28)) rfl (zdal_p dlB_Units_seek_81 (i := 11) rfl) ?_
                refine zw_iload_n (pc := 68) (n := 1) (x := Int32.ofInt u9_) rfl (zdal_p dlB_Units_seek_81 (i := 12) rfl) ?_
                refine zk_callV hf_N10_.x (pc := 69) [.int (Int32.ofInt u9_)] [] l_Units_44 (u_Units_narrowAtX l d_ N10_ (hf_N10_.w hW) u9_ hu9_a hu9_b) rfl rfl ((hf_N10_.w hW).kr (o := 28) (by decide)) (by decide) (by decide) (Nat.le_of_ble_eq_true rfl) (zdal_p dlB_Units_seek_81 (i := 13) rfl) ?_
                rintro _ N15_ ⟨rfl, hsN15_, -⟩
                have hf_N15_ : zFc d_ [] [] [(28, 3), (28, 4)] [11, 30, 32] Mz N15_ := hf_N10_.tr hsN15_ (by decide) (by decide) (by decide) (by decide)
                have hb0_N15_ : zFc d_ [] [] [(28, 3)] [11, 30, 32] N6_ N15_ := hs11_.tr hsN15_ (by decide) (by decide) (by decide) (by decide)
                show zW l m_Units_seek (zn Mz + 0, zw Mz + 0) N15_ 72 [some (.ref (d_ + 28)), some (.int (Int32.ofInt u9_))] [] _
                refine zr_iinc (pc := 72) (i := 1) (a := u9_) (n := 1) (L2 := [some (.ref (d_ + 28)), some (.int (Int32.ofInt (u9_ + 1)))]) rfl (by decide) rfl (zdal_p dlB_Units_seek_81 (i := 14) rfl) ?_
                obtain ⟨v17_, hv17_a, hv17_b, hv17_e, hv17_d⟩ := zk_gen (u9_ + 1)
                rw [hv17_e]
                refine zw_goto (pc := 75) (tgt := 56) (by decide) (zdal_p dlB_Units_seek_81 (i := 15) rfl) ?_
                exact ih_56 v17_ hv17_a hv17_b N15_ hb0_N15_ (show 0 ≤ v17_ by first | with_reducible assumption | assumption | omega) (by omega)
          exact lp_56 _ 0 (by decide) (by decide) N6_ zFc.rf (show 0 ≤ (0 : Int) by first | with_reducible assumption | assumption | omega) (Nat.lt_succ_self _)
        · skip
          refine zw_aload_n (pc := 37) (n := 0) (x := (d_ + 28)) rfl (zdal_p dlB_Units_seek_80 (i := 19) rfl) ?_
          refine zw_getF (pc := 38) f_Units_14 rfl ((hf_N6_.w hW).kr (o := 28) (by decide)) ((hf_N6_.w hW).lr (o := 28) (s := 1) (r := 29) (by decide)) (zdal_p dlB_Units_seek_80 (i := 20) rfl) ?_
          refine zw_iload_n (pc := 41) (n := 1) (x := Int32.ofInt u5_) rfl (zdal_p dlB_Units_seek_80 (i := 21) rfl) ?_
          refine zw_iconst (pc := 42) (v := Int32.ofInt 1) (by decide) (zdal_p dlB_Units_seek_80 (i := 22) rfl) ?_
          refine zw_iload_n (pc := 43) (n := 1) (x := Int32.ofInt u5_) rfl (zdal_p dlB_Units_seek_80 (i := 23) rfl) ?_
          refine zr_ishl (pc := 44) (zdal_p dlB_Units_seek_81 (i := 0) rfl) ?_
          have hr18_ := zshl_r 1 u5_
          refine zr_nmI (fun v19_ hv19_ => ?_)
          obtain ⟨hv19_a, hv19_b⟩ := hv19_
          refine zk_stG hf_N6_.x (pc := 45) (o := 30) (by decide) l_Units_40 ((hf_N6_.w hW).kr (o := 29) (by decide)) ((hf_N6_.w hW).lr (o := 29) (s := 0) (r := 30) (by decide)) ((hf_N6_.w hW).rr (o := 30) (t := 1) (n := 27) (by decide)) (by decide) ⟨by omega, by omega⟩ (by decide) (Nat.le_of_ble_eq_true rfl) (zdal_p dlB_Units_seek_81 (i := 1) rfl) (fun N20_ hsN20_ => ?_)
          have hf_N20_ : zFc d_ [] [] [(28, 3), (28, 4)] [11, 30, 32] Mz N20_ := hf_N6_.tr hsN20_ (by decide) (by decide) (by decide) (by decide)
          have hb0_N20_ : zFc d_ [] [] [] [30] N4_ N20_ := hs7_.tr hsN20_ (by decide) (by decide) (by decide) (by decide)
          refine zr_iinc (pc := 48) (i := 1) (a := u5_) (n := 1) (L2 := [some (.ref (d_ + 28)), some (.int (Int32.ofInt (u5_ + 1)))]) rfl (by decide) rfl (zdal_p dlB_Units_seek_81 (i := 2) rfl) ?_
          obtain ⟨v21_, hv21_a, hv21_b, hv21_e, hv21_d⟩ := zk_gen (u5_ + 1)
          rw [hv21_e]
          refine zw_goto (pc := 51) (tgt := 26) (by decide) (zdal_p dlB_Units_seek_81 (i := 3) rfl) ?_
          exact ih_26 v21_ hv21_a hv21_b N20_ hb0_N20_ (show 0 ≤ v21_ by first | with_reducible assumption | assumption | omega) (by omega)
    exact lp_26 _ 0 (by decide) (by decide) N4_ zFc.rf (show 0 ≤ (0 : Int) by first | with_reducible assumption | assumption | omega) (Nat.lt_succ_self _)
  · skip
    exact zk_vret (pc := 7) rfl hf trivial (zdal_p dlB_Units_seek_80 (i := 3) rfl)
set_option maxHeartbeats 4000000 in
theorem u_Units_totalX (l : Launch) (d_ : Nat) (Mz : zMem) (hW : zKW d_ Mz) : zC l m_Units_total 0 0 [.ref (d_ + 28)] Mz (zqcI d_ [] [] [] [] Mz (fun v N => True)) := by
  refine zC_of (L0 := [some (.ref (d_ + 28))]) md_Units_total (Nat.le_of_ble_eq_true rfl) rfl ?_ zQ0
  have hf : zFc d_ [] [] [] [] Mz Mz := zFc.rf
  refine zw_iconst (pc := 0) (v := Int32.ofInt 1) (by decide) (zdal_p dlB_Units_total_95 (i := 0) rfl) ?_
  refine zw_aload_n (pc := 1) (n := 0) (x := (d_ + 28)) rfl (zdal_p dlB_Units_total_95 (i := 1) rfl) ?_
  refine zk_getI (pc := 2) f_Units_31 rfl ((hf.w hW).kr (o := 28) (by decide)) (zdal_p dlB_Units_total_95 (i := 2) rfl) ?_
  have hr1_ := ze_r Mz (d_ + 28) 3
  refine zr_ishl (pc := 5) (zdal_p dlB_Units_total_95 (i := 3) rfl) ?_
  have hr2_ := zshl_r 1 (ze Mz (d_ + 28) 3)
  refine zr_nmI (fun v3_ hv3_ => ?_)
  obtain ⟨hv3_a, hv3_b⟩ := hv3_
  exact zk_iret (pc := 6) (ty := .int) rfl rfl ⟨by omega, by omega⟩ hf trivial (zdal_p dlB_Units_total_95 (i := 4) rfl)
set_option maxHeartbeats 4000000 in
theorem u_T_unitsX (l : Launch) (d_ : Nat) (Mz : zMem) (hW : zKW d_ Mz) (hnow : zf Mz 0 2 = some (d_ + 0)) : zC l m_T_units 0 0 [.ref 0] Mz (zqcI d_ [] [] [(28, 3), (28, 4)] [11, 30, 32] Mz (fun v N => True)) := by
  refine zC_of (L0 := [some (.ref 0)]) md_T_units (Nat.le_of_ble_eq_true rfl) rfl ?_ zQ0
  have hf : zFc d_ [] [] [(28, 3), (28, 4)] [11, 30, 32] Mz Mz := zFc.rf
  refine zw_aload_n (pc := 0) (n := 0) (x := 0) rfl (zdal_p dlB_T_units_79 (i := 0) rfl) ?_
  refine zw_getF (pc := 1) f_T_28 rfl ((hf.w hW).ka (o := 0) (by decide)) (hf.now hnow) (zdal_p dlB_T_units_79 (i := 1) rfl) ?_
  refine zw_getF (pc := 4) f_T_227 rfl ((hf.w hW).kr (o := 0) (by decide)) ((hf.w hW).lr (o := 0) (s := 3) (r := 28) (by decide)) (zdal_p dlB_T_units_79 (i := 2) rfl) ?_
  refine zk_callV hf.x (pc := 7) [] [] l_T_231 (u_Units_seekX l d_ Mz (hf.w hW) ) rfl rfl ((hf.w hW).kr (o := 28) (by decide)) (by decide) (by decide) (Nat.le_of_ble_eq_true rfl) (zdal_p dlB_T_units_79 (i := 3) rfl) ?_
  rintro _ N1_ ⟨rfl, hsN1_, -⟩
  have hf_N1_ : zFc d_ [] [] [(28, 3), (28, 4)] [11, 30, 32] Mz N1_ := hf.tr hsN1_ (by decide) (by decide) (by decide) (by decide)
  show zW l m_T_units (zn Mz + 0, zw Mz + 0) N1_ 10 [some (.ref 0)] [] _
  refine zw_aload_n (pc := 10) (n := 0) (x := 0) rfl (zdal_p dlB_T_units_79 (i := 4) rfl) ?_
  refine zw_getF (pc := 11) f_T_28 rfl ((hf_N1_.w hW).ka (o := 0) (by decide)) (hf_N1_.now hnow) (zdal_p dlB_T_units_79 (i := 5) rfl) ?_
  refine zw_getF (pc := 14) f_T_227 rfl ((hf_N1_.w hW).kr (o := 0) (by decide)) ((hf_N1_.w hW).lr (o := 0) (s := 3) (r := 28) (by decide)) (zdal_p dlB_T_units_79 (i := 6) rfl) ?_
  refine zk_callV hf_N1_.x (pc := 17) [] [] l_T_236 (u_Units_totalX l d_ N1_ (hf_N1_.w hW) ) rfl rfl ((hf_N1_.w hW).kr (o := 28) (by decide)) (by decide) (by decide) (Nat.le_of_ble_eq_true rfl) (zdal_p dlB_T_units_79 (i := 7) rfl) ?_
  rintro _ N3_ ⟨v4_, rfl, ⟨hv4_a, hv4_b⟩, hsN3_, -⟩
  obtain rfl := hsN3_.eq.symm
  show zW l m_T_units (zn Mz + 0, zw Mz + 0) N1_ 20 [some (.ref 0)] [.int (Int32.ofInt v4_)] _
  exact zk_iret (pc := 20) (ty := .int) rfl rfl ⟨by omega, by omega⟩ hf_N1_ trivial (zdal_p dlB_T_units_79 (i := 8) rfl)
set_option maxHeartbeats 4000000 in
theorem u_Units_signsOfX (l : Launch) (d_ : Nat) (Mz : zMem) (hW : zKW d_ Mz) (a0_ : Int) (ha0_a : -2147483648 ≤ a0_) (ha0_b : a0_ < 2147483648) : zC l m_Units_signsOf 0 0 [.ref (d_ + 28), .int (Int32.ofInt a0_)] Mz (zqcI d_ [] [] [] [] Mz (fun v N => True)) := by
  refine zC_of (L0 := [some (.ref (d_ + 28)), some (.int (Int32.ofInt a0_)), none, none, none]) md_Units_signsOf (Nat.le_of_ble_eq_true rfl) rfl ?_ zQ0
  have hf : zFc d_ [] [] [] [] Mz Mz := zFc.rf
  refine zw_iconst (pc := 0) (v := Int32.ofInt 0) (by decide) (zdal_p dlB_Units_signsOf_98 (i := 0) rfl) ?_
  refine zw_istore_n (pc := 1) (i := 2) (L2 := [some (.ref (d_ + 28)), some (.int (Int32.ofInt a0_)), some (.int (Int32.ofInt 0)), none, none]) rfl (by decide) rfl (zdal_p dlB_Units_signsOf_98 (i := 1) rfl) ?_
  refine zw_iconst (pc := 2) (v := Int32.ofInt 0) (by decide) (zdal_p dlB_Units_signsOf_98 (i := 2) rfl) ?_
  refine zw_istore_n (pc := 3) (i := 3) (L2 := [some (.ref (d_ + 28)), some (.int (Int32.ofInt a0_)), some (.int (Int32.ofInt 0)), some (.int (Int32.ofInt 0)), none]) rfl (by decide) rfl (zdal_p dlB_Units_signsOf_98 (i := 3) rfl) ?_
  have lp_4 : ∀ (n : Nat) (u1_ : Int) (hu1_a : -2147483648 ≤ u1_) (hu1_b : u1_ < 2147483648) (u2_ : Int) (hu2_a : -2147483648 ≤ u2_) (hu2_b : u2_ < 2147483648) (i3_ : 0 ≤ u2_), (ze Mz (d_ + 28) 3 - u2_).toNat < n → zW l m_Units_signsOf (zn Mz + 0, zw Mz + 0) Mz 4 [some (.ref (d_ + 28)), some (.int (Int32.ofInt a0_)), some (.int (Int32.ofInt u1_)), some (.int (Int32.ofInt u2_)), none] [] (zqcI d_ [] [] [] [] Mz (fun v N => True)) := by
    intro n
    induction n with
    | zero =>
      intro u1_ hu1_a hu1_b u2_ hu2_a hu2_b i3_ h0
      exact absurd h0 (Nat.not_lt_zero _)
    | succ n ih_4 =>
      intro u1_ hu1_a hu1_b u2_ hu2_a hu2_b i3_ hlt_4
      refine zw_iload_n (pc := 4) (n := 3) (x := Int32.ofInt u2_) rfl (zdal_p dlB_Units_signsOf_98 (i := 4) rfl) ?_
      refine zw_aload_n (pc := 5) (n := 0) (x := (d_ + 28)) rfl (zdal_p dlB_Units_signsOf_98 (i := 5) rfl) ?_
      refine zk_getI (pc := 6) f_Units_31 rfl ((hf.w hW).kr (o := 28) (by decide)) (zdal_p dlB_Units_signsOf_98 (i := 6) rfl) ?_
      have hr4_ := ze_r Mz (d_ + 28) 3
      refine zr_icmp_ge (pc := 9) (tgt := 44) ⟨hu2_a, hu2_b⟩ ⟨(ze_r Mz (d_ + 28) 3).1, (ze_r Mz (d_ + 28) 3).2⟩ (by decide) (zdal_p dlB_Units_signsOf_98 (i := 7) rfl) (fun hc_9 => ?_) (fun hc_9 => ?_)
      · skip
        refine zw_iconst (pc := 44) (v := Int32.ofInt 0) (by decide) (zdal_p dlB_Units_signsOf_99 (i := 2) rfl) ?_
        refine zw_istore_n (pc := 45) (i := 3) (L2 := [some (.ref (d_ + 28)), some (.int (Int32.ofInt a0_)), some (.int (Int32.ofInt u1_)), some (.int (Int32.ofInt 0)), none]) rfl (by decide) rfl (zdal_p dlB_Units_signsOf_99 (i := 3) rfl) ?_
        refine zw_iconst (pc := 46) (v := Int32.ofInt 0) (by decide) (zdal_p dlB_Units_signsOf_99 (i := 4) rfl) ?_
        refine zw_istore (pc := 47) (i := 4) (L2 := [some (.ref (d_ + 28)), some (.int (Int32.ofInt a0_)), some (.int (Int32.ofInt u1_)), some (.int (Int32.ofInt 0)), some (.int (Int32.ofInt 0))]) (by decide) rfl (zdal_p dlB_Units_signsOf_99 (i := 5) rfl) ?_
        have lp_49 : ∀ (n : Nat) (u5_ : Int) (hu5_a : -2147483648 ≤ u5_) (hu5_b : u5_ < 2147483648) (u6_ : Int) (hu6_a : -2147483648 ≤ u6_) (hu6_b : u6_ < 2147483648) (i7_ : 0 ≤ u6_), (ze Mz (d_ + 12) 7 - u6_).toNat < n → zW l m_Units_signsOf (zn Mz + 0, zw Mz + 0) Mz 49 [some (.ref (d_ + 28)), some (.int (Int32.ofInt a0_)), some (.int (Int32.ofInt u1_)), some (.int (Int32.ofInt u5_)), some (.int (Int32.ofInt u6_))] [] (zqcI d_ [] [] [] [] Mz (fun v N => True)) := by
          intro n
          induction n with
          | zero =>
            intro u5_ hu5_a hu5_b u6_ hu6_a hu6_b i7_ h0
            exact absurd h0 (Nat.not_lt_zero _)
          | succ n ih_49 =>
            intro u5_ hu5_a hu5_b u6_ hu6_a hu6_b i7_ hlt_49
            refine zw_iload (pc := 49) (i := 4) (x := Int32.ofInt u6_) rfl (zdal_p dlB_Units_signsOf_99 (i := 6) rfl) ?_
            refine zw_aload_n (pc := 51) (n := 0) (x := (d_ + 28)) rfl (zdal_p dlB_Units_signsOf_99 (i := 7) rfl) ?_
            refine zw_getF (pc := 52) f_Units_23 rfl ((hf.w hW).kr (o := 28) (by decide)) ((hf.w hW).lr (o := 28) (s := 0) (r := 12) (by decide)) (zdal_p dlB_Units_signsOf_99 (i := 8) rfl) ?_
            refine zk_getI (pc := 55) f_Units_35 rfl ((hf.w hW).kr (o := 12) (by decide)) (zdal_p dlB_Units_signsOf_99 (i := 9) rfl) ?_
            have hr8_ := ze_r Mz (d_ + 12) 7
            refine zr_icmp_ge (pc := 58) (tgt := 85) ⟨hu6_a, hu6_b⟩ ⟨(ze_r Mz (d_ + 12) 7).1, (ze_r Mz (d_ + 12) 7).2⟩ (by decide) (zdal_p dlB_Units_signsOf_99 (i := 10) rfl) (fun hc_58 => ?_) (fun hc_58 => ?_)
            · skip
              refine zw_iload_n (pc := 85) (n := 3) (x := Int32.ofInt u5_) rfl (zdal_p dlB_Units_signsOf_100 (i := 1) rfl) ?_
              exact zk_iret (pc := 86) (ty := .int) rfl rfl ⟨by omega, by omega⟩ hf trivial (zdal_p dlB_Units_signsOf_100 (i := 2) rfl)
            · skip
              refine zw_iload_n (pc := 61) (n := 2) (x := Int32.ofInt u1_) rfl (zdal_p dlB_Units_signsOf_99 (i := 11) rfl) ?_
              refine zw_aload_n (pc := 62) (n := 0) (x := (d_ + 28)) rfl (zdal_p dlB_Units_signsOf_99 (i := 12) rfl) ?_
              refine zw_iload (pc := 63) (i := 4) (x := Int32.ofInt u6_) rfl (zdal_p dlB_Units_signsOf_99 (i := 13) rfl) ?_
              refine zk_callV hf.x (pc := 65) [.int (Int32.ofInt u6_)] [.int (Int32.ofInt u1_)] l_Units_80 (u_Units_bitOfX l d_ Mz (hf.w hW) u6_ hu6_a hu6_b) rfl rfl ((hf.w hW).kr (o := 28) (by decide)) (by decide) (by decide) (Nat.le_of_ble_eq_true rfl) (zdal_p dlB_Units_signsOf_99 (i := 14) rfl) ?_
              rintro _ N9_ ⟨v10_, rfl, ⟨hv10_a, hv10_b⟩, hsN9_, -⟩
              obtain rfl := hsN9_.eq.symm
              show zW l m_Units_signsOf (zn Mz + 0, zw Mz + 0) Mz 68 [some (.ref (d_ + 28)), some (.int (Int32.ofInt a0_)), some (.int (Int32.ofInt u1_)), some (.int (Int32.ofInt u5_)), some (.int (Int32.ofInt u6_))] [.int (Int32.ofInt v10_), .int (Int32.ofInt u1_)] _
              refine zr_iand (pc := 68) (zdal_p dlB_Units_signsOf_99 (i := 15) rfl) ?_
              have hr11_ := zand_r u1_ v10_
              refine zr_nmI (fun v12_ hv12_ => ?_)
              obtain ⟨hv12_a, hv12_b⟩ := hv12_
              refine zr_if_eq (pc := 69) (tgt := 79) ⟨hv12_a, hv12_b⟩ (by decide) (zdal_p dlB_Units_signsOf_99 (i := 16) rfl) (fun hc_69 => ?_) (fun hc_69 => ?_)
              · skip
                refine zr_iinc (pc := 79) (i := 4) (a := u6_) (n := 1) (L2 := [some (.ref (d_ + 28)), some (.int (Int32.ofInt a0_)), some (.int (Int32.ofInt u1_)), some (.int (Int32.ofInt u5_)), some (.int (Int32.ofInt (u6_ + 1)))]) rfl (by decide) rfl (zdal_p dlB_Units_signsOf_99 (i := 23) rfl) ?_
                obtain ⟨v13_, hv13_a, hv13_b, hv13_e, hv13_d⟩ := zk_gen (u6_ + 1)
                rw [hv13_e]
                refine zw_goto (pc := 82) (tgt := 49) (by decide) (zdal_p dlB_Units_signsOf_100 (i := 0) rfl) ?_
                exact ih_49 u5_ hu5_a hu5_b v13_ hv13_a hv13_b (show 0 ≤ v13_ by first | with_reducible assumption | assumption | omega) (by omega)
              · skip
                refine zw_iload_n (pc := 72) (n := 3) (x := Int32.ofInt u5_) rfl (zdal_p dlB_Units_signsOf_99 (i := 17) rfl) ?_
                refine zw_iconst (pc := 73) (v := Int32.ofInt 1) (by decide) (zdal_p dlB_Units_signsOf_99 (i := 18) rfl) ?_
                refine zw_iload (pc := 74) (i := 4) (x := Int32.ofInt u6_) rfl (zdal_p dlB_Units_signsOf_99 (i := 19) rfl) ?_
                refine zr_ishl (pc := 76) (zdal_p dlB_Units_signsOf_99 (i := 20) rfl) ?_
                have hr14_ := zshl_r 1 u6_
                refine zr_nmI (fun v15_ hv15_ => ?_)
                obtain ⟨hv15_a, hv15_b⟩ := hv15_
                refine zr_ior (pc := 77) (zdal_p dlB_Units_signsOf_99 (i := 21) rfl) ?_
                have hr16_ := zor_r u5_ v15_
                refine zr_nmI (fun v17_ hv17_ => ?_)
                obtain ⟨hv17_a, hv17_b⟩ := hv17_
                refine zw_istore_n (pc := 78) (i := 3) (L2 := [some (.ref (d_ + 28)), some (.int (Int32.ofInt a0_)), some (.int (Int32.ofInt u1_)), some (.int (Int32.ofInt v17_)), some (.int (Int32.ofInt u6_))]) rfl (by decide) rfl (zdal_p dlB_Units_signsOf_99 (i := 22) rfl) ?_
                refine zr_iinc (pc := 79) (i := 4) (a := u6_) (n := 1) (L2 := [some (.ref (d_ + 28)), some (.int (Int32.ofInt a0_)), some (.int (Int32.ofInt u1_)), some (.int (Int32.ofInt v17_)), some (.int (Int32.ofInt (u6_ + 1)))]) rfl (by decide) rfl (zdal_p dlB_Units_signsOf_99 (i := 23) rfl) ?_
                obtain ⟨v18_, hv18_a, hv18_b, hv18_e, hv18_d⟩ := zk_gen (u6_ + 1)
                rw [hv18_e]
                refine zw_goto (pc := 82) (tgt := 49) (by decide) (zdal_p dlB_Units_signsOf_100 (i := 0) rfl) ?_
                exact ih_49 v17_ hv17_a hv17_b v18_ hv18_a hv18_b (show 0 ≤ v18_ by first | with_reducible assumption | assumption | omega) (by omega)
        exact lp_49 _ 0 (by decide) (by decide) 0 (by decide) (by decide) (show 0 ≤ (0 : Int) by first | with_reducible assumption | assumption | omega) (Nat.lt_succ_self _)
      · skip
        refine zw_iload_n (pc := 12) (n := 1) (x := Int32.ofInt a0_) rfl (zdal_p dlB_Units_signsOf_98 (i := 8) rfl) ?_
        refine zw_aload_n (pc := 13) (n := 0) (x := (d_ + 28)) rfl (zdal_p dlB_Units_signsOf_98 (i := 9) rfl) ?_
        refine zk_getI (pc := 14) f_Units_31 rfl ((hf.w hW).kr (o := 28) (by decide)) (zdal_p dlB_Units_signsOf_98 (i := 10) rfl) ?_
        refine zw_iconst (pc := 17) (v := Int32.ofInt 1) (by decide) (zdal_p dlB_Units_signsOf_98 (i := 11) rfl) ?_
        refine zr_isub (pc := 18) (zdal_p dlB_Units_signsOf_98 (i := 12) rfl) ?_
        refine zr_nmI (fun v19_ hv19_ => ?_)
        obtain ⟨hv19_a, hv19_b⟩ := hv19_
        refine zw_iload_n (pc := 19) (n := 3) (x := Int32.ofInt u2_) rfl (zdal_p dlB_Units_signsOf_98 (i := 13) rfl) ?_
        refine zr_isub (pc := 20) (zdal_p dlB_Units_signsOf_98 (i := 14) rfl) ?_
        refine zr_nmI (fun v20_ hv20_ => ?_)
        obtain ⟨hv20_a, hv20_b⟩ := hv20_
        refine zr_callS hf.x (pc := 21) [.int (Int32.ofInt a0_), .int (Int32.ofInt v20_)] [] l_Units_69 (u_T_isInX l d_ Mz (hf.w hW) a0_ ha0_a ha0_b v20_ hv20_a hv20_b) rfl rfl (by decide) (Nat.le_of_ble_eq_true rfl) (zdal_p dlB_Units_signsOf_98 (i := 15) rfl) ?_
        rintro _ N21_ ⟨v22_, rfl, ⟨hv22_a, hv22_b⟩, hsN21_, hp0_N21_⟩
        obtain rfl := hsN21_.eq.symm
        replace hp0_N21_ : (v22_ = 0 ∨ v22_ = 1) := hp0_N21_
        show zW l m_Units_signsOf (zn Mz + 0, zw Mz + 0) Mz 24 [some (.ref (d_ + 28)), some (.int (Int32.ofInt a0_)), some (.int (Int32.ofInt u1_)), some (.int (Int32.ofInt u2_)), none] [.int (Int32.ofInt v22_)] _
        refine zr_if_eq (pc := 24) (tgt := 38) ⟨hv22_a, hv22_b⟩ (by decide) (zdal_p dlB_Units_signsOf_98 (i := 16) rfl) (fun hc_24 => ?_) (fun hc_24 => ?_)
        · skip
          refine zr_iinc (pc := 38) (i := 3) (a := u2_) (n := 1) (L2 := [some (.ref (d_ + 28)), some (.int (Int32.ofInt a0_)), some (.int (Int32.ofInt u1_)), some (.int (Int32.ofInt (u2_ + 1))), none]) rfl (by decide) rfl (zdal_p dlB_Units_signsOf_99 (i := 0) rfl) ?_
          obtain ⟨v23_, hv23_a, hv23_b, hv23_e, hv23_d⟩ := zk_gen (u2_ + 1)
          rw [hv23_e]
          refine zw_goto (pc := 41) (tgt := 4) (by decide) (zdal_p dlB_Units_signsOf_99 (i := 1) rfl) ?_
          exact ih_4 u1_ hu1_a hu1_b v23_ hv23_a hv23_b (show 0 ≤ v23_ by first | with_reducible assumption | assumption | omega) (by omega)
        · skip
          refine zw_iload_n (pc := 27) (n := 2) (x := Int32.ofInt u1_) rfl (zdal_p dlB_Units_signsOf_98 (i := 17) rfl) ?_
          refine zw_aload_n (pc := 28) (n := 0) (x := (d_ + 28)) rfl (zdal_p dlB_Units_signsOf_98 (i := 18) rfl) ?_
          refine zw_getF (pc := 29) f_Units_14 rfl ((hf.w hW).kr (o := 28) (by decide)) ((hf.w hW).lr (o := 28) (s := 1) (r := 29) (by decide)) (zdal_p dlB_Units_signsOf_98 (i := 19) rfl) ?_
          refine zw_iload_n (pc := 32) (n := 3) (x := Int32.ofInt u2_) rfl (zdal_p dlB_Units_signsOf_98 (i := 20) rfl) ?_
          refine zk_atG hf.x (pc := 33) l_Units_57 ((hf.w hW).kr (o := 29) (by decide)) ((hf.w hW).lr (o := 29) (s := 0) (r := 30) (by decide)) ((hf.w hW).rr (o := 30) (t := 1) (n := 27) (by decide)) (by decide) ⟨by omega, by omega⟩ (by decide) (Nat.le_of_ble_eq_true rfl) (zdal_p dlB_Units_signsOf_98 (i := 21) rfl) (fun v24_ hv24_ hv24_a hv24_b => ?_)
          clear hv24_
          refine zr_ixor (pc := 36) (zdal_p dlB_Units_signsOf_98 (i := 22) rfl) ?_
          have hr25_ := zxor_r u1_ v24_
          refine zr_nmI (fun v26_ hv26_ => ?_)
          obtain ⟨hv26_a, hv26_b⟩ := hv26_
          refine zw_istore_n (pc := 37) (i := 2) (L2 := [some (.ref (d_ + 28)), some (.int (Int32.ofInt a0_)), some (.int (Int32.ofInt v26_)), some (.int (Int32.ofInt u2_)), none]) rfl (by decide) rfl (zdal_p dlB_Units_signsOf_98 (i := 23) rfl) ?_
          refine zr_iinc (pc := 38) (i := 3) (a := u2_) (n := 1) (L2 := [some (.ref (d_ + 28)), some (.int (Int32.ofInt a0_)), some (.int (Int32.ofInt v26_)), some (.int (Int32.ofInt (u2_ + 1))), none]) rfl (by decide) rfl (zdal_p dlB_Units_signsOf_99 (i := 0) rfl) ?_
          obtain ⟨v27_, hv27_a, hv27_b, hv27_e, hv27_d⟩ := zk_gen (u2_ + 1)
          rw [hv27_e]
          refine zw_goto (pc := 41) (tgt := 4) (by decide) (zdal_p dlB_Units_signsOf_99 (i := 1) rfl) ?_
          exact ih_4 v26_ hv26_a hv26_b v27_ hv27_a hv27_b (show 0 ≤ v27_ by first | with_reducible assumption | assumption | omega) (by omega)
  exact lp_4 _ 0 (by decide) (by decide) 0 (by decide) (by decide) (show 0 ≤ (0 : Int) by first | with_reducible assumption | assumption | omega) (Nat.lt_succ_self _)
set_option maxHeartbeats 4000000 in
theorem u_Sums_putSignsX (l : Launch) (d_ : Nat) (Mz : zMem) (hW : zKW d_ Mz) (a0_ : Int) (ha0_a : -2147483648 ≤ a0_) (ha0_b : a0_ < 2147483648) : zC l m_Sums_putSigns 0 0 [.ref (d_ + 23), .int (Int32.ofInt a0_)] Mz (zqcV d_ [] [] [] [25, 27] Mz (fun N => True)) := by
  refine zC_of (L0 := [some (.ref (d_ + 23)), some (.int (Int32.ofInt a0_)), none]) md_Sums_putSigns (Nat.le_of_ble_eq_true rfl) rfl ?_ zQ0
  have hf : zFc d_ [] [] [] [25, 27] Mz Mz := zFc.rf
  refine zw_iconst (pc := 0) (v := Int32.ofInt 0) (by decide) (zdal_p dlB_Sums_putSigns_101 (i := 0) rfl) ?_
  refine zw_istore_n (pc := 1) (i := 2) (L2 := [some (.ref (d_ + 23)), some (.int (Int32.ofInt a0_)), some (.int (Int32.ofInt 0))]) rfl (by decide) rfl (zdal_p dlB_Sums_putSigns_101 (i := 1) rfl) ?_
  have lp_2 : ∀ (n : Nat) (u1_ : Int) (hu1_a : -2147483648 ≤ u1_) (hu1_b : u1_ < 2147483648) (N2_ : zMem) (hs3_ : zFc d_ [] [] [] [27] Mz N2_) (i4_ : 0 ≤ u1_), (ze Mz (d_ + 12) 7 - u1_).toNat < n → zW l m_Sums_putSigns (zn Mz + 0, zw Mz + 0) N2_ 2 [some (.ref (d_ + 23)), some (.int (Int32.ofInt a0_)), some (.int (Int32.ofInt u1_))] [] (zqcV d_ [] [] [] [25, 27] Mz (fun N => True)) := by
    intro n
    induction n with
    | zero =>
      intro u1_ hu1_a hu1_b N2_ hs3_ i4_ h0
      exact absurd h0 (Nat.not_lt_zero _)
    | succ n ih_2 =>
      intro u1_ hu1_a hu1_b N2_ hs3_ i4_ hlt_2
      have hf_N2_ : zFc d_ [] [] [] [25, 27] Mz N2_ := hf.tr hs3_ (by decide) (by decide) (by decide) (by decide)
      refine zw_iload_n (pc := 2) (n := 2) (x := Int32.ofInt u1_) rfl (zdal_p dlB_Sums_putSigns_101 (i := 2) rfl) ?_
      refine zw_aload_n (pc := 3) (n := 0) (x := (d_ + 23)) rfl (zdal_p dlB_Sums_putSigns_101 (i := 3) rfl) ?_
      refine zw_getF (pc := 4) f_Sums_23 rfl ((hf_N2_.w hW).kr (o := 23) (by decide)) ((hf_N2_.w hW).lr (o := 23) (s := 0) (r := 12) (by decide)) (zdal_p dlB_Sums_putSigns_101 (i := 4) rfl) ?_
      refine zk_getI (pc := 7) f_Sums_35 rfl ((hf_N2_.w hW).kr (o := 12) (by decide)) (zdal_p dlB_Sums_putSigns_101 (i := 5) rfl) ?_
      rw [hf_N2_.e (by decide)]
      have hr5_ := ze_r Mz (d_ + 12) 7
      refine zr_icmp_ge (pc := 10) (tgt := 42) ⟨hu1_a, hu1_b⟩ ⟨(ze_r Mz (d_ + 12) 7).1, (ze_r Mz (d_ + 12) 7).2⟩ (by decide) (zdal_p dlB_Sums_putSigns_101 (i := 6) rfl) (fun hc_10 => ?_) (fun hc_10 => ?_)
      · skip
        refine zw_aload_n (pc := 42) (n := 0) (x := (d_ + 23)) rfl (zdal_p dlB_Sums_putSigns_101 (i := 20) rfl) ?_
        refine zw_bipush (pc := 43) (v := Int32.ofInt 39) (by decide) (zdal_p dlB_Sums_putSigns_101 (i := 21) rfl) ?_
        refine zk_callV hf_N2_.x (pc := 45) [.int (Int32.ofInt 39)] [] l_Sums_58 (u_Sums_solveX l d_ N2_ (hf_N2_.w hW) 39 (by decide) (by decide)) rfl rfl ((hf_N2_.w hW).kr (o := 23) (by decide)) (by decide) (by decide) (Nat.le_of_ble_eq_true rfl) (zdal_p dlB_Sums_putSigns_101 (i := 22) rfl) ?_
        rintro _ N6_ ⟨rfl, hsN6_, -⟩
        have hf_N6_ : zFc d_ [] [] [] [25, 27] Mz N6_ := hf_N2_.tr hsN6_ (by decide) (by decide) (by decide) (by decide)
        show zW l m_Sums_putSigns (zn Mz + 0, zw Mz + 0) N6_ 48 [some (.ref (d_ + 23)), some (.int (Int32.ofInt a0_)), some (.int (Int32.ofInt u1_))] [] _
        exact zk_vret (pc := 48) rfl hf_N6_ trivial (zdal_p dlB_Sums_putSigns_101 (i := 23) rfl)
      · skip
        refine zw_aload_n (pc := 13) (n := 0) (x := (d_ + 23)) rfl (zdal_p dlB_Sums_putSigns_101 (i := 7) rfl) ?_
        refine zw_getF (pc := 14) f_Sums_20 rfl ((hf_N2_.w hW).kr (o := 23) (by decide)) ((hf_N2_.w hW).lr (o := 23) (s := 2) (r := 26) (by decide)) (zdal_p dlB_Sums_putSigns_101 (i := 8) rfl) ?_
        refine zw_iload_n (pc := 17) (n := 2) (x := Int32.ofInt u1_) rfl (zdal_p dlB_Sums_putSigns_101 (i := 9) rfl) ?_
        refine zw_iload_n (pc := 18) (n := 1) (x := Int32.ofInt a0_) rfl (zdal_p dlB_Sums_putSigns_101 (i := 10) rfl) ?_
        refine zw_iload_n (pc := 19) (n := 2) (x := Int32.ofInt u1_) rfl (zdal_p dlB_Sums_putSigns_101 (i := 11) rfl) ?_
        refine zr_callS hf_N2_.x (pc := 20) [.int (Int32.ofInt a0_), .int (Int32.ofInt u1_)] [.int (Int32.ofInt u1_), .ref (d_ + 26)] l_Sums_61 (u_T_isInX l d_ N2_ (hf_N2_.w hW) a0_ ha0_a ha0_b u1_ hu1_a hu1_b) rfl rfl (by decide) (Nat.le_of_ble_eq_true rfl) (zdal_p dlB_Sums_putSigns_101 (i := 12) rfl) ?_
        rintro _ N8_ ⟨v9_, rfl, ⟨hv9_a, hv9_b⟩, hsN8_, hp0_N8_⟩
        obtain rfl := hsN8_.eq.symm
        replace hp0_N8_ : (v9_ = 0 ∨ v9_ = 1) := hp0_N8_
        show zW l m_Sums_putSigns (zn Mz + 0, zw Mz + 0) N2_ 23 [some (.ref (d_ + 23)), some (.int (Int32.ofInt a0_)), some (.int (Int32.ofInt u1_))] [.int (Int32.ofInt v9_), .int (Int32.ofInt u1_), .ref (d_ + 26)] _
        refine zr_if_eq (pc := 23) (tgt := 32) ⟨hv9_a, hv9_b⟩ (by decide) (zdal_p dlB_Sums_putSigns_101 (i := 13) rfl) (fun hc_23 => ?_) (fun hc_23 => ?_)
        · skip
          refine zw_lconst (pc := 32) (v := Int64.ofInt 1) (by decide) (zdal_p dlB_Sums_putSigns_101 (i := 16) rfl) ?_
          refine zk_stGJ hf_N2_.x (pc := 33) (o := 27) (by decide) l_Sums_31 ((hf_N2_.w hW).kr (o := 26) (by decide)) ((hf_N2_.w hW).lr (o := 26) (s := 0) (r := 27) (by decide)) ((hf_N2_.w hW).rr (o := 27) (t := 2) (n := 27) (by decide)) (by decide) ⟨by omega, by omega⟩ (by decide) (Nat.le_of_ble_eq_true rfl) (zdal_p dlB_Sums_putSigns_101 (i := 17) rfl) (fun N10_ hsN10_ => ?_)
          have hf_N10_ : zFc d_ [] [] [] [25, 27] Mz N10_ := hf_N2_.tr hsN10_ (by decide) (by decide) (by decide) (by decide)
          have hb0_N10_ : zFc d_ [] [] [] [27] Mz N10_ := hs3_.tr hsN10_ (by decide) (by decide) (by decide) (by decide)
          refine zr_iinc (pc := 36) (i := 2) (a := u1_) (n := 1) (L2 := [some (.ref (d_ + 23)), some (.int (Int32.ofInt a0_)), some (.int (Int32.ofInt (u1_ + 1)))]) rfl (by decide) rfl (zdal_p dlB_Sums_putSigns_101 (i := 18) rfl) ?_
          obtain ⟨v11_, hv11_a, hv11_b, hv11_e, hv11_d⟩ := zk_gen (u1_ + 1)
          rw [hv11_e]
          refine zw_goto (pc := 39) (tgt := 2) (by decide) (zdal_p dlB_Sums_putSigns_101 (i := 19) rfl) ?_
          exact ih_2 v11_ hv11_a hv11_b N10_ hb0_N10_ (show 0 ≤ v11_ by first | with_reducible assumption | assumption | omega) (by omega)
        · skip
          refine zr_ldc2 (pc := 26) (n := (-1)) (by decide) k_Sums_65 (zdal_p dlB_Sums_putSigns_101 (i := 14) rfl) ?_
          refine zw_goto (pc := 29) (tgt := 33) (by decide) (zdal_p dlB_Sums_putSigns_101 (i := 15) rfl) ?_
          refine zk_stGJ hf_N2_.x (pc := 33) (o := 27) (by decide) l_Sums_31 ((hf_N2_.w hW).kr (o := 26) (by decide)) ((hf_N2_.w hW).lr (o := 26) (s := 0) (r := 27) (by decide)) ((hf_N2_.w hW).rr (o := 27) (t := 2) (n := 27) (by decide)) (by decide) ⟨by omega, by omega⟩ (by decide) (Nat.le_of_ble_eq_true rfl) (zdal_p dlB_Sums_putSigns_101 (i := 17) rfl) (fun N12_ hsN12_ => ?_)
          have hf_N12_ : zFc d_ [] [] [] [25, 27] Mz N12_ := hf_N2_.tr hsN12_ (by decide) (by decide) (by decide) (by decide)
          have hb0_N12_ : zFc d_ [] [] [] [27] Mz N12_ := hs3_.tr hsN12_ (by decide) (by decide) (by decide) (by decide)
          refine zr_iinc (pc := 36) (i := 2) (a := u1_) (n := 1) (L2 := [some (.ref (d_ + 23)), some (.int (Int32.ofInt a0_)), some (.int (Int32.ofInt (u1_ + 1)))]) rfl (by decide) rfl (zdal_p dlB_Sums_putSigns_101 (i := 18) rfl) ?_
          obtain ⟨v13_, hv13_a, hv13_b, hv13_e, hv13_d⟩ := zk_gen (u1_ + 1)
          rw [hv13_e]
          refine zw_goto (pc := 39) (tgt := 2) (by decide) (zdal_p dlB_Sums_putSigns_101 (i := 19) rfl) ?_
          exact ih_2 v13_ hv13_a hv13_b N12_ hb0_N12_ (show 0 ≤ v13_ by first | with_reducible assumption | assumption | omega) (by omega)
  exact lp_2 _ 0 (by decide) (by decide) Mz zFc.rf (show 0 ≤ (0 : Int) by first | with_reducible assumption | assumption | omega) (Nat.lt_succ_self _)
set_option maxHeartbeats 4000000 in
theorem u_T_unitX (l : Launch) (d_ : Nat) (Mz : zMem) (hW : zKW d_ Mz) (hnow : zf Mz 0 2 = some (d_ + 0)) (a0_ : Int) (ha0_a : -2147483648 ≤ a0_) (ha0_b : a0_ < 2147483648) (a1_ : Int) (ha1_a : -2147483648 ≤ a1_) (ha1_b : a1_ < 2147483648) : zC l m_T_unit 0 0 [.ref 0, .int (Int32.ofInt a0_), .int (Int32.ofInt a1_)] Mz (zqcI d_ [] [] [(28, 3), (28, 4)] [11, 25, 27, 30, 32] Mz (fun v N => True)) := by
  refine zC_of (L0 := [some (.ref 0), some (.int (Int32.ofInt a0_)), some (.int (Int32.ofInt a1_))]) md_T_unit (Nat.le_of_ble_eq_true rfl) rfl ?_ zQ0
  have hf : zFc d_ [] [] [(28, 3), (28, 4)] [11, 25, 27, 30, 32] Mz Mz := zFc.rf
  refine zw_aload_n (pc := 0) (n := 0) (x := 0) rfl (zdal_p dlB_T_unit_96 (i := 0) rfl) ?_
  refine zw_getF (pc := 1) f_T_28 rfl ((hf.w hW).ka (o := 0) (by decide)) (hf.now hnow) (zdal_p dlB_T_unit_96 (i := 1) rfl) ?_
  refine zw_getF (pc := 4) f_T_227 rfl ((hf.w hW).kr (o := 0) (by decide)) ((hf.w hW).lr (o := 0) (s := 3) (r := 28) (by decide)) (zdal_p dlB_T_unit_96 (i := 2) rfl) ?_
  refine zk_callV hf.x (pc := 7) [] [] l_T_231 (u_Units_seekX l d_ Mz (hf.w hW) ) rfl rfl ((hf.w hW).kr (o := 28) (by decide)) (by decide) (by decide) (Nat.le_of_ble_eq_true rfl) (zdal_p dlB_T_unit_96 (i := 3) rfl) ?_
  rintro _ N1_ ⟨rfl, hsN1_, -⟩
  have hf_N1_ : zFc d_ [] [] [(28, 3), (28, 4)] [11, 25, 27, 30, 32] Mz N1_ := hf.tr hsN1_ (by decide) (by decide) (by decide) (by decide)
  show zW l m_T_unit (zn Mz + 0, zw Mz + 0) N1_ 10 [some (.ref 0), some (.int (Int32.ofInt a0_)), some (.int (Int32.ofInt a1_))] [] _
  refine zw_iload_n (pc := 10) (n := 1) (x := Int32.ofInt a0_) rfl (zdal_p dlB_T_unit_96 (i := 4) rfl) ?_
  refine zr_if_lt (pc := 11) (tgt := 42) ⟨ha0_a, ha0_b⟩ (by decide) (zdal_p dlB_T_unit_96 (i := 5) rfl) (fun hc_11 => ?_) (fun hc_11 => ?_)
  · skip
    refine zw_ldc (pc := 42) (v := Int32.ofInt (-1000000)) (by rw [show Int32.ofInt (-1000000) = ((-1000000) : Int32) by decide]; exact k_T_204) (zdal_p dlB_T_unit_96 (i := 18) rfl) ?_
    exact zk_iret (pc := 44) (ty := .int) rfl rfl ⟨by omega, by omega⟩ hf_N1_ trivial (zdal_p dlB_T_unit_96 (i := 19) rfl)
  · skip
    refine zw_iload_n (pc := 14) (n := 1) (x := Int32.ofInt a0_) rfl (zdal_p dlB_T_unit_96 (i := 6) rfl) ?_
    refine zw_aload_n (pc := 15) (n := 0) (x := 0) rfl (zdal_p dlB_T_unit_96 (i := 7) rfl) ?_
    refine zw_getF (pc := 16) f_T_28 rfl ((hf_N1_.w hW).ka (o := 0) (by decide)) (hf_N1_.now hnow) (zdal_p dlB_T_unit_96 (i := 8) rfl) ?_
    refine zw_getF (pc := 19) f_T_227 rfl ((hf_N1_.w hW).kr (o := 0) (by decide)) ((hf_N1_.w hW).lr (o := 0) (s := 3) (r := 28) (by decide)) (zdal_p dlB_T_unit_96 (i := 9) rfl) ?_
    refine zk_callV hf_N1_.x (pc := 22) [] [.int (Int32.ofInt a0_)] l_T_236 (u_Units_totalX l d_ N1_ (hf_N1_.w hW) ) rfl rfl ((hf_N1_.w hW).kr (o := 28) (by decide)) (by decide) (by decide) (Nat.le_of_ble_eq_true rfl) (zdal_p dlB_T_unit_96 (i := 10) rfl) ?_
    rintro _ N3_ ⟨v4_, rfl, ⟨hv4_a, hv4_b⟩, hsN3_, -⟩
    obtain rfl := hsN3_.eq.symm
    show zW l m_T_unit (zn Mz + 0, zw Mz + 0) N1_ 25 [some (.ref 0), some (.int (Int32.ofInt a0_)), some (.int (Int32.ofInt a1_))] [.int (Int32.ofInt v4_), .int (Int32.ofInt a0_)] _
    refine zr_icmp_ge (pc := 25) (tgt := 42) ⟨ha0_a, ha0_b⟩ ⟨hv4_a, hv4_b⟩ (by decide) (zdal_p dlB_T_unit_96 (i := 11) rfl) (fun hc_25 => ?_) (fun hc_25 => ?_)
    · skip
      refine zw_ldc (pc := 42) (v := Int32.ofInt (-1000000)) (by rw [show Int32.ofInt (-1000000) = ((-1000000) : Int32) by decide]; exact k_T_204) (zdal_p dlB_T_unit_96 (i := 18) rfl) ?_
      exact zk_iret (pc := 44) (ty := .int) rfl rfl ⟨by omega, by omega⟩ hf_N1_ trivial (zdal_p dlB_T_unit_96 (i := 19) rfl)
    · skip
      refine zw_aload_n (pc := 28) (n := 0) (x := 0) rfl (zdal_p dlB_T_unit_96 (i := 12) rfl) ?_
      refine zw_getF (pc := 29) f_T_28 rfl ((hf_N1_.w hW).ka (o := 0) (by decide)) (hf_N1_.now hnow) (zdal_p dlB_T_unit_96 (i := 13) rfl) ?_
      refine zw_getF (pc := 32) f_T_85 rfl ((hf_N1_.w hW).kr (o := 0) (by decide)) ((hf_N1_.w hW).lr (o := 0) (s := 1) (r := 12) (by decide)) (zdal_p dlB_T_unit_96 (i := 14) rfl) ?_
      refine zw_iload_n (pc := 35) (n := 2) (x := Int32.ofInt a1_) rfl (zdal_p dlB_T_unit_96 (i := 15) rfl) ?_
      refine zk_callV hf_N1_.x (pc := 36) [.int (Int32.ofInt a1_)] [] l_T_143 (u_Sorts_hasSortX l d_ N1_ (hf_N1_.w hW) a1_ ha1_a ha1_b) rfl rfl ((hf_N1_.w hW).kr (o := 12) (by decide)) (by decide) (by decide) (Nat.le_of_ble_eq_true rfl) (zdal_p dlB_T_unit_96 (i := 16) rfl) ?_
      rintro _ N5_ ⟨v6_, rfl, ⟨hv6_a, hv6_b⟩, hsN5_, hp0_N5_⟩
      obtain rfl := hsN5_.eq.symm
      replace hp0_N5_ : (v6_ = 0 ∨ v6_ = 1) := hp0_N5_
      show zW l m_T_unit (zn Mz + 0, zw Mz + 0) N1_ 39 [some (.ref 0), some (.int (Int32.ofInt a0_)), some (.int (Int32.ofInt a1_))] [.int (Int32.ofInt v6_)] _
      refine zr_if_ne (pc := 39) (tgt := 45) ⟨hv6_a, hv6_b⟩ (by decide) (zdal_p dlB_T_unit_96 (i := 17) rfl) (fun hc_39 => ?_) (fun hc_39 => ?_)
      · skip
        refine zw_aload_n (pc := 45) (n := 0) (x := 0) rfl (zdal_p dlB_T_unit_96 (i := 20) rfl) ?_
        refine zw_getF (pc := 46) f_T_28 rfl ((hf_N1_.w hW).ka (o := 0) (by decide)) (hf_N1_.now hnow) (zdal_p dlB_T_unit_96 (i := 21) rfl) ?_
        refine zw_getF (pc := 49) f_T_169 rfl ((hf_N1_.w hW).kr (o := 0) (by decide)) ((hf_N1_.w hW).lr (o := 0) (s := 2) (r := 23) (by decide)) (zdal_p dlB_T_unit_96 (i := 22) rfl) ?_
        refine zw_aload_n (pc := 52) (n := 0) (x := 0) rfl (zdal_p dlB_T_unit_96 (i := 23) rfl) ?_
        refine zw_getF (pc := 53) f_T_28 rfl ((hf_N1_.w hW).ka (o := 0) (by decide)) (hf_N1_.now hnow) (zdal_p dlB_T_unit_97 (i := 0) rfl) ?_
        refine zw_getF (pc := 56) f_T_227 rfl ((hf_N1_.w hW).kr (o := 0) (by decide)) ((hf_N1_.w hW).lr (o := 0) (s := 3) (r := 28) (by decide)) (zdal_p dlB_T_unit_97 (i := 1) rfl) ?_
        refine zw_iload_n (pc := 59) (n := 1) (x := Int32.ofInt a0_) rfl (zdal_p dlB_T_unit_97 (i := 2) rfl) ?_
        refine zk_callV hf_N1_.x (pc := 60) [.int (Int32.ofInt a0_)] [.ref (d_ + 23)] l_T_239 (u_Units_signsOfX l d_ N1_ (hf_N1_.w hW) a0_ ha0_a ha0_b) rfl rfl ((hf_N1_.w hW).kr (o := 28) (by decide)) (by decide) (by decide) (Nat.le_of_ble_eq_true rfl) (zdal_p dlB_T_unit_97 (i := 3) rfl) ?_
        rintro _ N7_ ⟨v8_, rfl, ⟨hv8_a, hv8_b⟩, hsN7_, -⟩
        obtain rfl := hsN7_.eq.symm
        show zW l m_T_unit (zn Mz + 0, zw Mz + 0) N1_ 63 [some (.ref 0), some (.int (Int32.ofInt a0_)), some (.int (Int32.ofInt a1_))] [.int (Int32.ofInt v8_), .ref (d_ + 23)] _
        refine zk_callV hf_N1_.x (pc := 63) [.int (Int32.ofInt v8_)] [] l_T_242 (u_Sums_putSignsX l d_ N1_ (hf_N1_.w hW) v8_ hv8_a hv8_b) rfl rfl ((hf_N1_.w hW).kr (o := 23) (by decide)) (by decide) (by decide) (Nat.le_of_ble_eq_true rfl) (zdal_p dlB_T_unit_97 (i := 4) rfl) ?_
        rintro _ N9_ ⟨rfl, hsN9_, -⟩
        have hf_N9_ : zFc d_ [] [] [(28, 3), (28, 4)] [11, 25, 27, 30, 32] Mz N9_ := hf_N1_.tr hsN9_ (by decide) (by decide) (by decide) (by decide)
        show zW l m_T_unit (zn Mz + 0, zw Mz + 0) N9_ 66 [some (.ref 0), some (.int (Int32.ofInt a0_)), some (.int (Int32.ofInt a1_))] [] _
        refine zw_aload_n (pc := 66) (n := 0) (x := 0) rfl (zdal_p dlB_T_unit_97 (i := 5) rfl) ?_
        refine zw_getF (pc := 67) f_T_28 rfl ((hf_N9_.w hW).ka (o := 0) (by decide)) (hf_N9_.now hnow) (zdal_p dlB_T_unit_97 (i := 6) rfl) ?_
        refine zw_getF (pc := 70) f_T_169 rfl ((hf_N9_.w hW).kr (o := 0) (by decide)) ((hf_N9_.w hW).lr (o := 0) (s := 2) (r := 23) (by decide)) (zdal_p dlB_T_unit_97 (i := 7) rfl) ?_
        refine zw_bipush (pc := 73) (v := Int32.ofInt 39) (by decide) (zdal_p dlB_T_unit_97 (i := 8) rfl) ?_
        refine zw_iload_n (pc := 75) (n := 2) (x := Int32.ofInt a1_) rfl (zdal_p dlB_T_unit_97 (i := 9) rfl) ?_
        refine zk_callV hf_N9_.x (pc := 76) [.int (Int32.ofInt 39), .int (Int32.ofInt a1_)] [] l_T_179 (u_Sums_numberAtX l d_ N9_ (hf_N9_.w hW) 39 (by decide) (by decide) a1_ ha1_a ha1_b) rfl rfl ((hf_N9_.w hW).kr (o := 23) (by decide)) (by decide) (by decide) (Nat.le_of_ble_eq_true rfl) (zdal_p dlB_T_unit_97 (i := 10) rfl) ?_
        rintro _ N11_ ⟨v12_, rfl, ⟨hv12_a, hv12_b⟩, hsN11_, -⟩
        obtain rfl := hsN11_.eq.symm
        show zW l m_T_unit (zn Mz + 0, zw Mz + 0) N9_ 79 [some (.ref 0), some (.int (Int32.ofInt a0_)), some (.int (Int32.ofInt a1_))] [.long (Int64.ofInt v12_)] _
        refine zr_l2i (pc := 79) (zdal_p dlB_T_unit_97 (i := 11) rfl) ?_
        refine zr_nmI (fun v13_ hv13_ => ?_)
        obtain ⟨hv13_a, hv13_b⟩ := hv13_
        exact zk_iret (pc := 80) (ty := .int) rfl rfl ⟨by omega, by omega⟩ hf_N9_ trivial (zdal_p dlB_T_unit_97 (i := 12) rfl)
      · skip
        refine zw_ldc (pc := 42) (v := Int32.ofInt (-1000000)) (by rw [show Int32.ofInt (-1000000) = ((-1000000) : Int32) by decide]; exact k_T_204) (zdal_p dlB_T_unit_96 (i := 18) rfl) ?_
        exact zk_iret (pc := 44) (ty := .int) rfl rfl ⟨by omega, by omega⟩ hf_N1_ trivial (zdal_p dlB_T_unit_96 (i := 19) rfl)
set_option maxHeartbeats 4000000 in
theorem u_Troupe_hasNameX (l : Launch) (d_ : Nat) (Mz : zMem) (hW : zKW d_ Mz) (a0_ : Int) (ha0_a : -2147483648 ≤ a0_) (ha0_b : a0_ < 2147483648) : zC l m_Troupe_hasName 0 0 [.ref (d_ + 0), .int (Int32.ofInt a0_)] Mz (zqcI d_ [] [] [] [] Mz (fun v N => ((v = 0 ∨ v = 1)))) := by
  refine zC_of (L0 := [some (.ref (d_ + 0)), some (.int (Int32.ofInt a0_))]) md_Troupe_hasName (Nat.le_of_ble_eq_true rfl) rfl ?_ zQ0
  have hf : zFc d_ [] [] [] [] Mz Mz := zFc.rf
  refine zw_iload_n (pc := 0) (n := 1) (x := Int32.ofInt a0_) rfl (zdal_p dlB_Troupe_hasName_103 (i := 0) rfl) ?_
  refine zr_if_lt (pc := 1) (tgt := 16) ⟨ha0_a, ha0_b⟩ (by decide) (zdal_p dlB_Troupe_hasName_103 (i := 1) rfl) (fun hc_1 => ?_) (fun hc_1 => ?_)
  · skip
    refine zw_iconst (pc := 16) (v := Int32.ofInt 0) (by decide) (zdal_p dlB_Troupe_hasName_103 (i := 8) rfl) ?_
    exact zk_iret (pc := 17) (ty := .boolean) rfl (z_narB (by omega)) ⟨by omega, by omega⟩ hf (show (((0 : Int)) = 0 ∨ ((0 : Int)) = 1) by first | with_reducible assumption | assumption | omega) (zdal_p dlB_Troupe_hasName_103 (i := 9) rfl)
  · skip
    refine zw_iload_n (pc := 4) (n := 1) (x := Int32.ofInt a0_) rfl (zdal_p dlB_Troupe_hasName_103 (i := 2) rfl) ?_
    refine zw_aload_n (pc := 5) (n := 0) (x := (d_ + 0)) rfl (zdal_p dlB_Troupe_hasName_103 (i := 3) rfl) ?_
    refine zk_getI (pc := 6) f_Troupe_64 rfl ((hf.w hW).kr (o := 0) (by decide)) (zdal_p dlB_Troupe_hasName_103 (i := 4) rfl) ?_
    have hr1_ := ze_r Mz (d_ + 0) 6
    refine zr_icmp_ge (pc := 9) (tgt := 16) ⟨ha0_a, ha0_b⟩ ⟨(ze_r Mz (d_ + 0) 6).1, (ze_r Mz (d_ + 0) 6).2⟩ (by decide) (zdal_p dlB_Troupe_hasName_103 (i := 5) rfl) (fun hc_9 => ?_) (fun hc_9 => ?_)
    · skip
      refine zw_iconst (pc := 16) (v := Int32.ofInt 0) (by decide) (zdal_p dlB_Troupe_hasName_103 (i := 8) rfl) ?_
      exact zk_iret (pc := 17) (ty := .boolean) rfl (z_narB (by omega)) ⟨by omega, by omega⟩ hf (show (((0 : Int)) = 0 ∨ ((0 : Int)) = 1) by first | with_reducible assumption | assumption | omega) (zdal_p dlB_Troupe_hasName_103 (i := 9) rfl)
    · skip
      refine zw_iconst (pc := 12) (v := Int32.ofInt 1) (by decide) (zdal_p dlB_Troupe_hasName_103 (i := 6) rfl) ?_
      refine zw_goto (pc := 13) (tgt := 17) (by decide) (zdal_p dlB_Troupe_hasName_103 (i := 7) rfl) ?_
      exact zk_iret (pc := 17) (ty := .boolean) rfl (z_narB (by omega)) ⟨by omega, by omega⟩ hf (show (((1 : Int)) = 0 ∨ ((1 : Int)) = 1) by first | with_reducible assumption | assumption | omega) (zdal_p dlB_Troupe_hasName_103 (i := 9) rfl)
set_option maxHeartbeats 4000000 in
theorem u_T_namedX (l : Launch) (d_ : Nat) (Mz : zMem) (hW : zKW d_ Mz) (hnow : zf Mz 0 2 = some (d_ + 0)) (a0_ : Int) (ha0_a : -2147483648 ≤ a0_) (ha0_b : a0_ < 2147483648) (a1_ : Int) (ha1_a : -2147483648 ≤ a1_) (ha1_b : a1_ < 2147483648) : zC l m_T_named 0 0 [.ref 0, .int (Int32.ofInt a0_), .int (Int32.ofInt a1_)] Mz (zqcJ d_ [] [] [] [] Mz (fun v N => True)) := by
  refine zC_of (L0 := [some (.ref 0), some (.int (Int32.ofInt a0_)), some (.int (Int32.ofInt a1_))]) md_T_named (Nat.le_of_ble_eq_true rfl) rfl ?_ zQ0
  have hf : zFc d_ [] [] [] [] Mz Mz := zFc.rf
  refine zw_aload_n (pc := 0) (n := 0) (x := 0) rfl (zdal_p dlB_T_named_102 (i := 0) rfl) ?_
  refine zw_getF (pc := 1) f_T_28 rfl ((hf.w hW).ka (o := 0) (by decide)) (hf.now hnow) (zdal_p dlB_T_named_102 (i := 1) rfl) ?_
  refine zw_iload_n (pc := 4) (n := 1) (x := Int32.ofInt a0_) rfl (zdal_p dlB_T_named_102 (i := 2) rfl) ?_
  refine zk_callV hf.x (pc := 5) [.int (Int32.ofInt a0_)] [] l_T_245 (u_Troupe_hasNameX l d_ Mz (hf.w hW) a0_ ha0_a ha0_b) rfl rfl ((hf.w hW).kr (o := 0) (by decide)) (by decide) (by decide) (Nat.le_of_ble_eq_true rfl) (zdal_p dlB_T_named_102 (i := 3) rfl) ?_
  rintro _ N1_ ⟨v2_, rfl, ⟨hv2_a, hv2_b⟩, hsN1_, hp0_N1_⟩
  obtain rfl := hsN1_.eq.symm
  replace hp0_N1_ : (v2_ = 0 ∨ v2_ = 1) := hp0_N1_
  show zW l m_T_named (zn Mz + 0, zw Mz + 0) Mz 8 [some (.ref 0), some (.int (Int32.ofInt a0_)), some (.int (Int32.ofInt a1_))] [.int (Int32.ofInt v2_)] _
  refine zr_if_eq (pc := 8) (tgt := 42) ⟨hv2_a, hv2_b⟩ (by decide) (zdal_p dlB_T_named_102 (i := 4) rfl) (fun hc_8 => ?_) (fun hc_8 => ?_)
  · skip
    refine zr_ldc2 (pc := 42) (n := (-9223372036854775808)) (by decide) k_T_248 (zdal_p dlB_T_named_102 (i := 20) rfl) ?_
    exact zk_lret (pc := 45) rfl ⟨by omega, by omega⟩ hf trivial (zdal_p dlB_T_named_102 (i := 21) rfl)
  · skip
    refine zw_aload_n (pc := 11) (n := 0) (x := 0) rfl (zdal_p dlB_T_named_102 (i := 5) rfl) ?_
    refine zw_getF (pc := 12) f_T_28 rfl ((hf.w hW).ka (o := 0) (by decide)) (hf.now hnow) (zdal_p dlB_T_named_102 (i := 6) rfl) ?_
    refine zw_getF (pc := 15) f_T_85 rfl ((hf.w hW).kr (o := 0) (by decide)) ((hf.w hW).lr (o := 0) (s := 1) (r := 12) (by decide)) (zdal_p dlB_T_named_102 (i := 7) rfl) ?_
    refine zw_iload_n (pc := 18) (n := 2) (x := Int32.ofInt a1_) rfl (zdal_p dlB_T_named_102 (i := 8) rfl) ?_
    refine zk_callV hf.x (pc := 19) [.int (Int32.ofInt a1_)] [] l_T_143 (u_Sorts_hasSortX l d_ Mz (hf.w hW) a1_ ha1_a ha1_b) rfl rfl ((hf.w hW).kr (o := 12) (by decide)) (by decide) (by decide) (Nat.le_of_ble_eq_true rfl) (zdal_p dlB_T_named_102 (i := 9) rfl) ?_
    rintro _ N3_ ⟨v4_, rfl, ⟨hv4_a, hv4_b⟩, hsN3_, hp0_N3_⟩
    obtain rfl := hsN3_.eq.symm
    replace hp0_N3_ : (v4_ = 0 ∨ v4_ = 1) := hp0_N3_
    show zW l m_T_named (zn Mz + 0, zw Mz + 0) Mz 22 [some (.ref 0), some (.int (Int32.ofInt a0_)), some (.int (Int32.ofInt a1_))] [.int (Int32.ofInt v4_)] _
    refine zr_if_eq (pc := 22) (tgt := 42) ⟨hv4_a, hv4_b⟩ (by decide) (zdal_p dlB_T_named_102 (i := 10) rfl) (fun hc_22 => ?_) (fun hc_22 => ?_)
    · skip
      refine zr_ldc2 (pc := 42) (n := (-9223372036854775808)) (by decide) k_T_248 (zdal_p dlB_T_named_102 (i := 20) rfl) ?_
      exact zk_lret (pc := 45) rfl ⟨by omega, by omega⟩ hf trivial (zdal_p dlB_T_named_102 (i := 21) rfl)
    · skip
      refine zw_aload_n (pc := 25) (n := 0) (x := 0) rfl (zdal_p dlB_T_named_102 (i := 11) rfl) ?_
      refine zw_getF (pc := 26) f_T_28 rfl ((hf.w hW).ka (o := 0) (by decide)) (hf.now hnow) (zdal_p dlB_T_named_102 (i := 12) rfl) ?_
      refine zw_getF (pc := 29) f_T_169 rfl ((hf.w hW).kr (o := 0) (by decide)) ((hf.w hW).lr (o := 0) (s := 2) (r := 23) (by decide)) (zdal_p dlB_T_named_102 (i := 13) rfl) ?_
      refine zw_iconst (pc := 32) (v := Int32.ofInt 1) (by decide) (zdal_p dlB_T_named_102 (i := 14) rfl) ?_
      refine zw_iload_n (pc := 33) (n := 1) (x := Int32.ofInt a0_) rfl (zdal_p dlB_T_named_102 (i := 15) rfl) ?_
      refine zr_iadd (pc := 34) (zdal_p dlB_T_named_102 (i := 16) rfl) ?_
      refine zr_nmI (fun v5_ hv5_ => ?_)
      obtain ⟨hv5_a, hv5_b⟩ := hv5_
      refine zw_iload_n (pc := 35) (n := 2) (x := Int32.ofInt a1_) rfl (zdal_p dlB_T_named_102 (i := 17) rfl) ?_
      refine zk_callV hf.x (pc := 36) [.int (Int32.ofInt v5_), .int (Int32.ofInt a1_)] [] l_T_179 (u_Sums_numberAtX l d_ Mz (hf.w hW) v5_ hv5_a hv5_b a1_ ha1_a ha1_b) rfl rfl ((hf.w hW).kr (o := 23) (by decide)) (by decide) (by decide) (Nat.le_of_ble_eq_true rfl) (zdal_p dlB_T_named_102 (i := 18) rfl) ?_
      rintro _ N6_ ⟨v7_, rfl, ⟨hv7_a, hv7_b⟩, hsN6_, -⟩
      obtain rfl := hsN6_.eq.symm
      show zW l m_T_named (zn Mz + 0, zw Mz + 0) Mz 39 [some (.ref 0), some (.int (Int32.ofInt a0_)), some (.int (Int32.ofInt a1_))] [.long (Int64.ofInt v7_)] _
      refine zw_goto (pc := 39) (tgt := 45) (by decide) (zdal_p dlB_T_named_102 (i := 19) rfl) ?_
      exact zk_lret (pc := 45) rfl ⟨by omega, by omega⟩ hf trivial (zdal_p dlB_T_named_102 (i := 21) rfl)
set_option maxHeartbeats 4000000 in
theorem u_T_hasX (l : Launch) (d_ : Nat) (Mz : zMem) (hW : zKW d_ Mz) (hnow : zf Mz 0 2 = some (d_ + 0)) (a0_ : Int) (ha0_a : -2147483648 ≤ a0_) (ha0_b : a0_ < 2147483648) : zC l m_T_has 0 0 [.ref 0, .int (Int32.ofInt a0_)] Mz (zqcJ d_ [] [] [] [] Mz (fun v N => True)) := by
  refine zC_of (L0 := [some (.ref 0), some (.int (Int32.ofInt a0_))]) md_T_has (Nat.le_of_ble_eq_true rfl) rfl ?_ zQ0
  have hf : zFc d_ [] [] [] [] Mz Mz := zFc.rf
  refine zw_aload_n (pc := 0) (n := 0) (x := 0) rfl (zdal_p dlB_T_has_104 (i := 0) rfl) ?_
  refine zw_getF (pc := 1) f_T_28 rfl ((hf.w hW).ka (o := 0) (by decide)) (hf.now hnow) (zdal_p dlB_T_has_104 (i := 1) rfl) ?_
  refine zw_getF (pc := 4) f_T_85 rfl ((hf.w hW).kr (o := 0) (by decide)) ((hf.w hW).lr (o := 0) (s := 1) (r := 12) (by decide)) (zdal_p dlB_T_has_104 (i := 2) rfl) ?_
  refine zw_iload_n (pc := 7) (n := 1) (x := Int32.ofInt a0_) rfl (zdal_p dlB_T_has_104 (i := 3) rfl) ?_
  refine zk_callV hf.x (pc := 8) [.int (Int32.ofInt a0_)] [] l_T_143 (u_Sorts_hasSortX l d_ Mz (hf.w hW) a0_ ha0_a ha0_b) rfl rfl ((hf.w hW).kr (o := 12) (by decide)) (by decide) (by decide) (Nat.le_of_ble_eq_true rfl) (zdal_p dlB_T_has_104 (i := 4) rfl) ?_
  rintro _ N1_ ⟨v2_, rfl, ⟨hv2_a, hv2_b⟩, hsN1_, hp0_N1_⟩
  obtain rfl := hsN1_.eq.symm
  replace hp0_N1_ : (v2_ = 0 ∨ v2_ = 1) := hp0_N1_
  show zW l m_T_has (zn Mz + 0, zw Mz + 0) Mz 11 [some (.ref 0), some (.int (Int32.ofInt a0_))] [.int (Int32.ofInt v2_)] _
  refine zr_if_eq (pc := 11) (tgt := 29) ⟨hv2_a, hv2_b⟩ (by decide) (zdal_p dlB_T_has_104 (i := 5) rfl) (fun hc_11 => ?_) (fun hc_11 => ?_)
  · skip
    refine zr_ldc2 (pc := 29) (n := (-9223372036854775808)) (by decide) k_T_248 (zdal_p dlB_T_has_104 (i := 13) rfl) ?_
    exact zk_lret (pc := 32) rfl ⟨by omega, by omega⟩ hf trivial (zdal_p dlB_T_has_104 (i := 14) rfl)
  · skip
    refine zw_aload_n (pc := 14) (n := 0) (x := 0) rfl (zdal_p dlB_T_has_104 (i := 6) rfl) ?_
    refine zw_getF (pc := 15) f_T_28 rfl ((hf.w hW).ka (o := 0) (by decide)) (hf.now hnow) (zdal_p dlB_T_has_104 (i := 7) rfl) ?_
    refine zw_getF (pc := 18) f_T_169 rfl ((hf.w hW).kr (o := 0) (by decide)) ((hf.w hW).lr (o := 0) (s := 2) (r := 23) (by decide)) (zdal_p dlB_T_has_104 (i := 8) rfl) ?_
    refine zw_iconst (pc := 21) (v := Int32.ofInt 0) (by decide) (zdal_p dlB_T_has_104 (i := 9) rfl) ?_
    refine zw_iload_n (pc := 22) (n := 1) (x := Int32.ofInt a0_) rfl (zdal_p dlB_T_has_104 (i := 10) rfl) ?_
    refine zk_callV hf.x (pc := 23) [.int (Int32.ofInt 0), .int (Int32.ofInt a0_)] [] l_T_179 (u_Sums_numberAtX l d_ Mz (hf.w hW) 0 (by decide) (by decide) a0_ ha0_a ha0_b) rfl rfl ((hf.w hW).kr (o := 23) (by decide)) (by decide) (by decide) (Nat.le_of_ble_eq_true rfl) (zdal_p dlB_T_has_104 (i := 11) rfl) ?_
    rintro _ N3_ ⟨v4_, rfl, ⟨hv4_a, hv4_b⟩, hsN3_, -⟩
    obtain rfl := hsN3_.eq.symm
    show zW l m_T_has (zn Mz + 0, zw Mz + 0) Mz 26 [some (.ref 0), some (.int (Int32.ofInt a0_))] [.long (Int64.ofInt v4_)] _
    refine zw_goto (pc := 26) (tgt := 32) (by decide) (zdal_p dlB_T_has_104 (i := 12) rfl) ?_
    exact zk_lret (pc := 32) rfl ⟨by omega, by omega⟩ hf trivial (zdal_p dlB_T_has_104 (i := 14) rfl)
set_option maxHeartbeats 4000000 in
theorem u_Sums_markOfX (l : Launch) (d_ : Nat) (Mz : zMem) (hW : zKW d_ Mz) (a0_ : Int) (ha0_a : -2147483648 ≤ a0_) (ha0_b : a0_ < 2147483648) (a1_ : Int) (ha1_a : -2147483648 ≤ a1_) (ha1_b : a1_ < 2147483648) : zC l m_Sums_markOf 0 0 [.ref (d_ + 23), .int (Int32.ofInt a0_), .int (Int32.ofInt a1_)] Mz (zqcJ d_ [] [] [] [] Mz (fun v N => True)) := by
  refine zC_of (L0 := [some (.ref (d_ + 23)), some (.int (Int32.ofInt a0_)), some (.int (Int32.ofInt a1_)), none, none, none]) md_Sums_markOf (Nat.le_of_ble_eq_true rfl) rfl ?_ zQ0
  have hf : zFc d_ [] [] [] [] Mz Mz := zFc.rf
  refine zw_lconst (pc := 0) (v := Int64.ofInt 0) (by decide) (zdal_p dlA_Sums_markOf_138 (i := 0) rfl) ?_
  refine zw_lstore_n (pc := 1) (i := 3) (L2 := [some (.ref (d_ + 23)), some (.int (Int32.ofInt a0_)), some (.int (Int32.ofInt a1_)), some (.long (Int64.ofInt 0)), none, none]) rfl (by decide) rfl (zdal_p dlA_Sums_markOf_138 (i := 1) rfl) ?_
  refine zw_iconst (pc := 2) (v := Int32.ofInt 0) (by decide) (zdal_p dlA_Sums_markOf_138 (i := 2) rfl) ?_
  refine zw_istore (pc := 3) (i := 5) (L2 := [some (.ref (d_ + 23)), some (.int (Int32.ofInt a0_)), some (.int (Int32.ofInt a1_)), some (.long (Int64.ofInt 0)), none, some (.int (Int32.ofInt 0))]) (by decide) rfl (zdal_p dlA_Sums_markOf_138 (i := 3) rfl) ?_
  have lp_5 : ∀ (n : Nat) (u1_ : Int) (hu1_a : -9223372036854775808 ≤ u1_) (hu1_b : u1_ < 9223372036854775808) (u2_ : Int) (hu2_a : -2147483648 ≤ u2_) (hu2_b : u2_ < 2147483648) (i3_ : 0 ≤ u2_), (ze Mz (d_ + 12) 7 - u2_).toNat < n → zW l m_Sums_markOf (zn Mz + 0, zw Mz + 0) Mz 5 [some (.ref (d_ + 23)), some (.int (Int32.ofInt a0_)), some (.int (Int32.ofInt a1_)), some (.long (Int64.ofInt u1_)), none, some (.int (Int32.ofInt u2_))] [] (zqcJ d_ [] [] [] [] Mz (fun v N => True)) := by
    intro n
    induction n with
    | zero =>
      intro u1_ hu1_a hu1_b u2_ hu2_a hu2_b i3_ h0
      exact absurd h0 (Nat.not_lt_zero _)
    | succ n ih_5 =>
      intro u1_ hu1_a hu1_b u2_ hu2_a hu2_b i3_ hlt_5
      refine zw_iload (pc := 5) (i := 5) (x := Int32.ofInt u2_) rfl (zdal_p dlA_Sums_markOf_138 (i := 4) rfl) ?_
      refine zw_aload_n (pc := 7) (n := 0) (x := (d_ + 23)) rfl (zdal_p dlA_Sums_markOf_138 (i := 5) rfl) ?_
      refine zw_getF (pc := 8) f_Sums_23 rfl ((hf.w hW).kr (o := 23) (by decide)) ((hf.w hW).lr (o := 23) (s := 0) (r := 12) (by decide)) (zdal_p dlA_Sums_markOf_138 (i := 6) rfl) ?_
      refine zk_getI (pc := 11) f_Sums_35 rfl ((hf.w hW).kr (o := 12) (by decide)) (zdal_p dlA_Sums_markOf_138 (i := 7) rfl) ?_
      have hr4_ := ze_r Mz (d_ + 12) 7
      refine zr_icmp_ge (pc := 14) (tgt := 59) ⟨hu2_a, hu2_b⟩ ⟨(ze_r Mz (d_ + 12) 7).1, (ze_r Mz (d_ + 12) 7).2⟩ (by decide) (zdal_p dlA_Sums_markOf_138 (i := 8) rfl) (fun hc_14 => ?_) (fun hc_14 => ?_)
      · skip
        refine zw_lload_n (pc := 59) (n := 3) (x := Int64.ofInt u1_) rfl (zdal_p dlA_Sums_markOf_139 (i := 9) rfl) ?_
        exact zk_lret (pc := 60) rfl ⟨by omega, by omega⟩ hf trivial (zdal_p dlA_Sums_markOf_139 (i := 10) rfl)
      · skip
        refine zw_lload_n (pc := 17) (n := 3) (x := Int64.ofInt u1_) rfl (zdal_p dlA_Sums_markOf_138 (i := 9) rfl) ?_
        refine zw_aload_n (pc := 18) (n := 0) (x := (d_ + 23)) rfl (zdal_p dlA_Sums_markOf_138 (i := 10) rfl) ?_
        refine zw_getF (pc := 19) f_Sums_16 rfl ((hf.w hW).kr (o := 23) (by decide)) ((hf.w hW).lr (o := 23) (s := 1) (r := 24) (by decide)) (zdal_p dlA_Sums_markOf_138 (i := 11) rfl) ?_
        refine zw_iload_n (pc := 22) (n := 1) (x := Int32.ofInt a0_) rfl (zdal_p dlA_Sums_markOf_138 (i := 12) rfl) ?_
        refine zw_bipush (pc := 23) (v := Int32.ofInt 27) (by decide) (zdal_p dlA_Sums_markOf_138 (i := 13) rfl) ?_
        refine zr_imul (pc := 25) (zdal_p dlA_Sums_markOf_138 (i := 14) rfl) ?_
        refine zr_nmI (fun v5_ hv5_ => ?_)
        obtain ⟨hv5_a, hv5_b⟩ := hv5_
        refine zw_iload (pc := 26) (i := 5) (x := Int32.ofInt u2_) rfl (zdal_p dlA_Sums_markOf_138 (i := 15) rfl) ?_
        refine zr_iadd (pc := 28) (zdal_p dlA_Sums_markOf_138 (i := 16) rfl) ?_
        refine zr_nmI (fun v6_ hv6_ => ?_)
        obtain ⟨hv6_a, hv6_b⟩ := hv6_
        refine zk_atGJ hf.x (pc := 29) l_Sums_27 ((hf.w hW).kr (o := 24) (by decide)) ((hf.w hW).lr (o := 24) (s := 0) (r := 25) (by decide)) ((hf.w hW).rr (o := 25) (t := 2) (n := 1080) (by decide)) (by decide) ⟨by omega, by omega⟩ (by decide) (Nat.le_of_ble_eq_true rfl) (zdal_p dlA_Sums_markOf_138 (i := 17) rfl) (fun v7_ hv7_ hv7_a hv7_b => ?_)
        clear hv7_
        refine zw_aload_n (pc := 32) (n := 0) (x := (d_ + 23)) rfl (zdal_p dlA_Sums_markOf_138 (i := 18) rfl) ?_
        refine zw_getF (pc := 33) f_Sums_23 rfl ((hf.w hW).kr (o := 23) (by decide)) ((hf.w hW).lr (o := 23) (s := 0) (r := 12) (by decide)) (zdal_p dlA_Sums_markOf_138 (i := 19) rfl) ?_
        refine zw_getF (pc := 36) f_Sums_41 rfl ((hf.w hW).kr (o := 12) (by decide)) ((hf.w hW).lr (o := 12) (s := 5) (r := 21) (by decide)) (zdal_p dlA_Sums_markOf_138 (i := 20) rfl) ?_
        refine zw_iload (pc := 39) (i := 5) (x := Int32.ofInt u2_) rfl (zdal_p dlA_Sums_markOf_138 (i := 21) rfl) ?_
        refine zw_bipush (pc := 41) (v := Int32.ofInt 27) (by decide) (zdal_p dlA_Sums_markOf_138 (i := 22) rfl) ?_
        refine zr_imul (pc := 43) (zdal_p dlA_Sums_markOf_138 (i := 23) rfl) ?_
        refine zr_nmI (fun v8_ hv8_ => ?_)
        obtain ⟨hv8_a, hv8_b⟩ := hv8_
        refine zw_iload_n (pc := 44) (n := 2) (x := Int32.ofInt a1_) rfl (zdal_p dlA_Sums_markOf_139 (i := 0) rfl) ?_
        refine zr_iadd (pc := 45) (zdal_p dlA_Sums_markOf_139 (i := 1) rfl) ?_
        refine zr_nmI (fun v9_ hv9_ => ?_)
        obtain ⟨hv9_a, hv9_b⟩ := hv9_
        refine zk_atG hf.x (pc := 46) l_Sums_45 ((hf.w hW).kr (o := 21) (by decide)) ((hf.w hW).lr (o := 21) (s := 0) (r := 22) (by decide)) ((hf.w hW).rr (o := 22) (t := 1) (n := 729) (by decide)) (by decide) ⟨by omega, by omega⟩ (by decide) (Nat.le_of_ble_eq_true rfl) (zdal_p dlA_Sums_markOf_139 (i := 2) rfl) (fun v10_ hv10_ hv10_a hv10_b => ?_)
        clear hv10_
        refine zr_i2l (pc := 49) ⟨hv10_a, hv10_b⟩ (zdal_p dlA_Sums_markOf_139 (i := 3) rfl) ?_
        refine zr_lmul (pc := 50) (zdal_p dlA_Sums_markOf_139 (i := 4) rfl) ?_
        refine zr_nmJ (fun v11_ hv11_ => ?_)
        obtain ⟨hv11_a, hv11_b⟩ := hv11_
        refine zr_ladd (pc := 51) (zdal_p dlA_Sums_markOf_139 (i := 5) rfl) ?_
        refine zr_nmJ (fun v12_ hv12_ => ?_)
        obtain ⟨hv12_a, hv12_b⟩ := hv12_
        refine zw_lstore_n (pc := 52) (i := 3) (L2 := [some (.ref (d_ + 23)), some (.int (Int32.ofInt a0_)), some (.int (Int32.ofInt a1_)), some (.long (Int64.ofInt v12_)), none, some (.int (Int32.ofInt u2_))]) rfl (by decide) rfl (zdal_p dlA_Sums_markOf_139 (i := 6) rfl) ?_
        refine zr_iinc (pc := 53) (i := 5) (a := u2_) (n := 1) (L2 := [some (.ref (d_ + 23)), some (.int (Int32.ofInt a0_)), some (.int (Int32.ofInt a1_)), some (.long (Int64.ofInt v12_)), none, some (.int (Int32.ofInt (u2_ + 1)))]) rfl (by decide) rfl (zdal_p dlA_Sums_markOf_139 (i := 7) rfl) ?_
        obtain ⟨v13_, hv13_a, hv13_b, hv13_e, hv13_d⟩ := zk_gen (u2_ + 1)
        rw [hv13_e]
        refine zw_goto (pc := 56) (tgt := 5) (by decide) (zdal_p dlA_Sums_markOf_139 (i := 8) rfl) ?_
        exact ih_5 v12_ hv12_a hv12_b v13_ hv13_a hv13_b (show 0 ≤ v13_ by first | with_reducible assumption | assumption | omega) (by omega)
  exact lp_5 _ 0 (by decide) (by decide) 0 (by decide) (by decide) (show 0 ≤ (0 : Int) by first | with_reducible assumption | assumption | omega) (Nat.lt_succ_self _)
set_option maxHeartbeats 4000000 in
theorem u_T_markedX (l : Launch) (d_ : Nat) (Mz : zMem) (hW : zKW d_ Mz) (hnow : zf Mz 0 2 = some (d_ + 0)) (a0_ : Int) (ha0_a : -2147483648 ≤ a0_) (ha0_b : a0_ < 2147483648) : zC l m_T_marked 0 0 [.ref 0, .int (Int32.ofInt a0_)] Mz (zqcJ d_ [] [] [] [] Mz (fun v N => True)) := by
  refine zC_of (L0 := [some (.ref 0), some (.int (Int32.ofInt a0_))]) md_T_marked (Nat.le_of_ble_eq_true rfl) rfl ?_ zQ0
  have hf : zFc d_ [] [] [] [] Mz Mz := zFc.rf
  refine zw_aload_n (pc := 0) (n := 0) (x := 0) rfl (zdal_p dlB_T_marked_105 (i := 0) rfl) ?_
  refine zw_getF (pc := 1) f_T_28 rfl ((hf.w hW).ka (o := 0) (by decide)) (hf.now hnow) (zdal_p dlB_T_marked_105 (i := 1) rfl) ?_
  refine zw_getF (pc := 4) f_T_85 rfl ((hf.w hW).kr (o := 0) (by decide)) ((hf.w hW).lr (o := 0) (s := 1) (r := 12) (by decide)) (zdal_p dlB_T_marked_105 (i := 2) rfl) ?_
  refine zw_iload_n (pc := 7) (n := 1) (x := Int32.ofInt a0_) rfl (zdal_p dlB_T_marked_105 (i := 3) rfl) ?_
  refine zk_callV hf.x (pc := 8) [.int (Int32.ofInt a0_)] [] l_T_143 (u_Sorts_hasSortX l d_ Mz (hf.w hW) a0_ ha0_a ha0_b) rfl rfl ((hf.w hW).kr (o := 12) (by decide)) (by decide) (by decide) (Nat.le_of_ble_eq_true rfl) (zdal_p dlB_T_marked_105 (i := 4) rfl) ?_
  rintro _ N1_ ⟨v2_, rfl, ⟨hv2_a, hv2_b⟩, hsN1_, hp0_N1_⟩
  obtain rfl := hsN1_.eq.symm
  replace hp0_N1_ : (v2_ = 0 ∨ v2_ = 1) := hp0_N1_
  show zW l m_T_marked (zn Mz + 0, zw Mz + 0) Mz 11 [some (.ref 0), some (.int (Int32.ofInt a0_))] [.int (Int32.ofInt v2_)] _
  refine zr_if_eq (pc := 11) (tgt := 29) ⟨hv2_a, hv2_b⟩ (by decide) (zdal_p dlB_T_marked_105 (i := 5) rfl) (fun hc_11 => ?_) (fun hc_11 => ?_)
  · skip
    refine zr_ldc2 (pc := 29) (n := (-9223372036854775808)) (by decide) k_T_248 (zdal_p dlB_T_marked_105 (i := 13) rfl) ?_
    exact zk_lret (pc := 32) rfl ⟨by omega, by omega⟩ hf trivial (zdal_p dlB_T_marked_105 (i := 14) rfl)
  · skip
    refine zw_aload_n (pc := 14) (n := 0) (x := 0) rfl (zdal_p dlB_T_marked_105 (i := 6) rfl) ?_
    refine zw_getF (pc := 15) f_T_28 rfl ((hf.w hW).ka (o := 0) (by decide)) (hf.now hnow) (zdal_p dlB_T_marked_105 (i := 7) rfl) ?_
    refine zw_getF (pc := 18) f_T_169 rfl ((hf.w hW).kr (o := 0) (by decide)) ((hf.w hW).lr (o := 0) (s := 2) (r := 23) (by decide)) (zdal_p dlB_T_marked_105 (i := 8) rfl) ?_
    refine zw_iconst (pc := 21) (v := Int32.ofInt 0) (by decide) (zdal_p dlB_T_marked_105 (i := 9) rfl) ?_
    refine zw_iload_n (pc := 22) (n := 1) (x := Int32.ofInt a0_) rfl (zdal_p dlB_T_marked_105 (i := 10) rfl) ?_
    refine zk_callV hf.x (pc := 23) [.int (Int32.ofInt 0), .int (Int32.ofInt a0_)] [] l_T_250 (u_Sums_markOfX l d_ Mz (hf.w hW) 0 (by decide) (by decide) a0_ ha0_a ha0_b) rfl rfl ((hf.w hW).kr (o := 23) (by decide)) (by decide) (by decide) (Nat.le_of_ble_eq_true rfl) (zdal_p dlB_T_marked_105 (i := 11) rfl) ?_
    rintro _ N3_ ⟨v4_, rfl, ⟨hv4_a, hv4_b⟩, hsN3_, -⟩
    obtain rfl := hsN3_.eq.symm
    show zW l m_T_marked (zn Mz + 0, zw Mz + 0) Mz 26 [some (.ref 0), some (.int (Int32.ofInt a0_))] [.long (Int64.ofInt v4_)] _
    refine zw_goto (pc := 26) (tgt := 32) (by decide) (zdal_p dlB_T_marked_105 (i := 12) rfl) ?_
    exact zk_lret (pc := 32) rfl ⟨by omega, by omega⟩ hf trivial (zdal_p dlB_T_marked_105 (i := 14) rfl)
set_option maxHeartbeats 4000000 in
theorem u_T_characterX (l : Launch) (d_ : Nat) (Mz : zMem) (hW : zKW d_ Mz) (hnow : zf Mz 0 2 = some (d_ + 0)) (a0_ : Int) (ha0_a : -2147483648 ≤ a0_) (ha0_b : a0_ < 2147483648) : zC l m_T_character 0 0 [.ref 0, .int (Int32.ofInt a0_)] Mz (zqcJ d_ [] [] [] [11] Mz (fun v N => True)) := by
  refine zC_of (L0 := [some (.ref 0), some (.int (Int32.ofInt a0_))]) md_T_character (Nat.le_of_ble_eq_true rfl) rfl ?_ zQ0
  have hf : zFc d_ [] [] [] [11] Mz Mz := zFc.rf
  refine zw_aload_n (pc := 0) (n := 0) (x := 0) rfl (zdal_p dlB_T_character_106 (i := 0) rfl) ?_
  refine zw_getF (pc := 1) f_T_28 rfl ((hf.w hW).ka (o := 0) (by decide)) (hf.now hnow) (zdal_p dlB_T_character_106 (i := 1) rfl) ?_
  refine zw_getF (pc := 4) f_T_61 rfl ((hf.w hW).kr (o := 0) (by decide)) ((hf.w hW).lr (o := 0) (s := 0) (r := 1) (by decide)) (zdal_p dlB_T_character_106 (i := 2) rfl) ?_
  refine zw_iload_n (pc := 7) (n := 1) (x := Int32.ofInt a0_) rfl (zdal_p dlB_T_character_106 (i := 3) rfl) ?_
  refine zk_callV hf.x (pc := 8) [.int (Int32.ofInt a0_)] [] l_T_108 (u_Group_hasMemberX l d_ Mz (hf.w hW) a0_ ha0_a ha0_b) rfl rfl ((hf.w hW).kr (o := 1) (by decide)) (by decide) (by decide) (Nat.le_of_ble_eq_true rfl) (zdal_p dlB_T_character_106 (i := 4) rfl) ?_
  rintro _ N1_ ⟨v2_, rfl, ⟨hv2_a, hv2_b⟩, hsN1_, hp0_N1_⟩
  obtain rfl := hsN1_.eq.symm
  replace hp0_N1_ : (v2_ = 0 ∨ v2_ = 1) := hp0_N1_
  show zW l m_T_character (zn Mz + 0, zw Mz + 0) Mz 11 [some (.ref 0), some (.int (Int32.ofInt a0_))] [.int (Int32.ofInt v2_)] _
  refine zr_if_ne (pc := 11) (tgt := 18) ⟨hv2_a, hv2_b⟩ (by decide) (zdal_p dlB_T_character_106 (i := 5) rfl) (fun hc_11 => ?_) (fun hc_11 => ?_)
  · skip
    refine zw_aload_n (pc := 18) (n := 0) (x := 0) rfl (zdal_p dlB_T_character_106 (i := 8) rfl) ?_
    refine zw_getF (pc := 19) f_T_28 rfl ((hf.w hW).ka (o := 0) (by decide)) (hf.now hnow) (zdal_p dlB_T_character_106 (i := 9) rfl) ?_
    refine zw_getF (pc := 22) f_T_169 rfl ((hf.w hW).kr (o := 0) (by decide)) ((hf.w hW).lr (o := 0) (s := 2) (r := 23) (by decide)) (zdal_p dlB_T_character_106 (i := 10) rfl) ?_
    refine zw_iconst (pc := 25) (v := Int32.ofInt 0) (by decide) (zdal_p dlB_T_character_106 (i := 11) rfl) ?_
    refine zw_aload_n (pc := 26) (n := 0) (x := 0) rfl (zdal_p dlB_T_character_106 (i := 12) rfl) ?_
    refine zw_getF (pc := 27) f_T_28 rfl ((hf.w hW).ka (o := 0) (by decide)) (hf.now hnow) (zdal_p dlB_T_character_106 (i := 13) rfl) ?_
    refine zw_getF (pc := 30) f_T_85 rfl ((hf.w hW).kr (o := 0) (by decide)) ((hf.w hW).lr (o := 0) (s := 1) (r := 12) (by decide)) (zdal_p dlB_T_character_106 (i := 14) rfl) ?_
    refine zw_iconst (pc := 33) (v := Int32.ofInt 1) (by decide) (zdal_p dlB_T_character_106 (i := 15) rfl) ?_
    refine zw_iload_n (pc := 34) (n := 1) (x := Int32.ofInt a0_) rfl (zdal_p dlB_T_character_106 (i := 16) rfl) ?_
    refine zr_ishl (pc := 35) (zdal_p dlB_T_character_106 (i := 17) rfl) ?_
    have hr3_ := zshl_r 1 a0_
    refine zr_nmI (fun v4_ hv4_ => ?_)
    obtain ⟨hv4_a, hv4_b⟩ := hv4_
    refine zk_callV hf.x (pc := 36) [.int (Int32.ofInt v4_)] [.int (Int32.ofInt 0), .ref (d_ + 23)] l_T_140 (u_Sorts_spannedSortX l d_ Mz (hf.w hW) v4_ hv4_a hv4_b) rfl rfl ((hf.w hW).kr (o := 12) (by decide)) (by decide) (by decide) (Nat.le_of_ble_eq_true rfl) (zdal_p dlB_T_character_106 (i := 18) rfl) ?_
    rintro _ N5_ ⟨v6_, rfl, ⟨hv6_a, hv6_b⟩, hsN5_, -⟩
    have hf_N5_ : zFc d_ [] [] [] [11] Mz N5_ := hf.tr hsN5_ (by decide) (by decide) (by decide) (by decide)
    show zW l m_T_character (zn Mz + 0, zw Mz + 0) N5_ 39 [some (.ref 0), some (.int (Int32.ofInt a0_))] [.int (Int32.ofInt v6_), .int (Int32.ofInt 0), .ref (d_ + 23)] _
    refine zk_callV hf_N5_.x (pc := 39) [.int (Int32.ofInt 0), .int (Int32.ofInt v6_)] [] l_T_250 (u_Sums_markOfX l d_ N5_ (hf_N5_.w hW) 0 (by decide) (by decide) v6_ hv6_a hv6_b) rfl rfl ((hf_N5_.w hW).kr (o := 23) (by decide)) (by decide) (by decide) (Nat.le_of_ble_eq_true rfl) (zdal_p dlB_T_character_106 (i := 19) rfl) ?_
    rintro _ N7_ ⟨v8_, rfl, ⟨hv8_a, hv8_b⟩, hsN7_, -⟩
    obtain rfl := hsN7_.eq.symm
    show zW l m_T_character (zn Mz + 0, zw Mz + 0) N5_ 42 [some (.ref 0), some (.int (Int32.ofInt a0_))] [.long (Int64.ofInt v8_)] _
    exact zk_lret (pc := 42) rfl ⟨by omega, by omega⟩ hf_N5_ trivial (zdal_p dlB_T_character_106 (i := 20) rfl)
  · skip
    refine zr_ldc2 (pc := 14) (n := (-9223372036854775808)) (by decide) k_T_248 (zdal_p dlB_T_character_106 (i := 6) rfl) ?_
    exact zk_lret (pc := 17) rfl ⟨by omega, by omega⟩ hf trivial (zdal_p dlB_T_character_106 (i := 7) rfl)
set_option maxHeartbeats 4000000 in
theorem u_Sums_partsOfX (l : Launch) (d_ : Nat) (Mz : zMem) (hW : zKW d_ Mz) (a0_ : Int) (ha0_a : -2147483648 ≤ a0_) (ha0_b : a0_ < 2147483648) : zC l m_Sums_partsOf 0 0 [.ref (d_ + 23), .int (Int32.ofInt a0_)] Mz (zqcI d_ [] [] [] [] Mz (fun v N => True)) := by
  refine zC_of (L0 := [some (.ref (d_ + 23)), some (.int (Int32.ofInt a0_)), none, none]) md_Sums_partsOf (Nat.le_of_ble_eq_true rfl) rfl ?_ zQ0
  have hf : zFc d_ [] [] [] [] Mz Mz := zFc.rf
  refine zw_iconst (pc := 0) (v := Int32.ofInt 0) (by decide) (zdal_p dlB_Sums_partsOf_108 (i := 0) rfl) ?_
  refine zw_istore_n (pc := 1) (i := 2) (L2 := [some (.ref (d_ + 23)), some (.int (Int32.ofInt a0_)), some (.int (Int32.ofInt 0)), none]) rfl (by decide) rfl (zdal_p dlB_Sums_partsOf_108 (i := 1) rfl) ?_
  refine zw_iconst (pc := 2) (v := Int32.ofInt 0) (by decide) (zdal_p dlB_Sums_partsOf_108 (i := 2) rfl) ?_
  refine zw_istore_n (pc := 3) (i := 3) (L2 := [some (.ref (d_ + 23)), some (.int (Int32.ofInt a0_)), some (.int (Int32.ofInt 0)), some (.int (Int32.ofInt 0))]) rfl (by decide) rfl (zdal_p dlB_Sums_partsOf_108 (i := 3) rfl) ?_
  have lp_4 : ∀ (n : Nat) (u1_ : Int) (hu1_a : -2147483648 ≤ u1_) (hu1_b : u1_ < 2147483648) (u2_ : Int) (hu2_a : -2147483648 ≤ u2_) (hu2_b : u2_ < 2147483648) (i3_ : 0 ≤ u2_), (ze Mz (d_ + 12) 7 - u2_).toNat < n → zW l m_Sums_partsOf (zn Mz + 0, zw Mz + 0) Mz 4 [some (.ref (d_ + 23)), some (.int (Int32.ofInt a0_)), some (.int (Int32.ofInt u1_)), some (.int (Int32.ofInt u2_))] [] (zqcI d_ [] [] [] [] Mz (fun v N => True)) := by
    intro n
    induction n with
    | zero =>
      intro u1_ hu1_a hu1_b u2_ hu2_a hu2_b i3_ h0
      exact absurd h0 (Nat.not_lt_zero _)
    | succ n ih_4 =>
      intro u1_ hu1_a hu1_b u2_ hu2_a hu2_b i3_ hlt_4
      refine zw_iload_n (pc := 4) (n := 3) (x := Int32.ofInt u2_) rfl (zdal_p dlB_Sums_partsOf_108 (i := 4) rfl) ?_
      refine zw_aload_n (pc := 5) (n := 0) (x := (d_ + 23)) rfl (zdal_p dlB_Sums_partsOf_108 (i := 5) rfl) ?_
      refine zw_getF (pc := 6) f_Sums_23 rfl ((hf.w hW).kr (o := 23) (by decide)) ((hf.w hW).lr (o := 23) (s := 0) (r := 12) (by decide)) (zdal_p dlB_Sums_partsOf_108 (i := 6) rfl) ?_
      refine zk_getI (pc := 9) f_Sums_35 rfl ((hf.w hW).kr (o := 12) (by decide)) (zdal_p dlB_Sums_partsOf_108 (i := 7) rfl) ?_
      have hr4_ := ze_r Mz (d_ + 12) 7
      refine zr_icmp_ge (pc := 12) (tgt := 35) ⟨hu2_a, hu2_b⟩ ⟨(ze_r Mz (d_ + 12) 7).1, (ze_r Mz (d_ + 12) 7).2⟩ (by decide) (zdal_p dlB_Sums_partsOf_108 (i := 8) rfl) (fun hc_12 => ?_) (fun hc_12 => ?_)
      · skip
        refine zw_iload_n (pc := 35) (n := 2) (x := Int32.ofInt u1_) rfl (zdal_p dlB_Sums_partsOf_108 (i := 19) rfl) ?_
        exact zk_iret (pc := 36) (ty := .int) rfl rfl ⟨by omega, by omega⟩ hf trivial (zdal_p dlB_Sums_partsOf_108 (i := 20) rfl)
      · skip
        refine zw_aload_n (pc := 15) (n := 0) (x := (d_ + 23)) rfl (zdal_p dlB_Sums_partsOf_108 (i := 9) rfl) ?_
        refine zw_iload_n (pc := 16) (n := 1) (x := Int32.ofInt a0_) rfl (zdal_p dlB_Sums_partsOf_108 (i := 10) rfl) ?_
        refine zw_iload_n (pc := 17) (n := 3) (x := Int32.ofInt u2_) rfl (zdal_p dlB_Sums_partsOf_108 (i := 11) rfl) ?_
        refine zk_callV hf.x (pc := 18) [.int (Int32.ofInt a0_), .int (Int32.ofInt u2_)] [] l_Sums_67 (u_Sums_numberAtX l d_ Mz (hf.w hW) a0_ ha0_a ha0_b u2_ hu2_a hu2_b) rfl rfl ((hf.w hW).kr (o := 23) (by decide)) (by decide) (by decide) (Nat.le_of_ble_eq_true rfl) (zdal_p dlB_Sums_partsOf_108 (i := 12) rfl) ?_
        rintro _ N5_ ⟨v6_, rfl, ⟨hv6_a, hv6_b⟩, hsN5_, -⟩
        obtain rfl := hsN5_.eq.symm
        show zW l m_Sums_partsOf (zn Mz + 0, zw Mz + 0) Mz 21 [some (.ref (d_ + 23)), some (.int (Int32.ofInt a0_)), some (.int (Int32.ofInt u1_)), some (.int (Int32.ofInt u2_))] [.long (Int64.ofInt v6_)] _
        refine zw_lconst (pc := 21) (v := Int64.ofInt 0) (by decide) (zdal_p dlB_Sums_partsOf_108 (i := 13) rfl) ?_
        refine zr_lcmp (pc := 22) ⟨hv6_a, hv6_b⟩ ⟨(by decide), (by decide)⟩ (zdal_p dlB_Sums_partsOf_108 (i := 14) rfl) ?_
        have hr7_ := zcmp_s v6_ 0
        refine zr_if_eq (pc := 23) (tgt := 29) ⟨(by omega), (by omega)⟩ (by decide) (zdal_p dlB_Sums_partsOf_108 (i := 15) rfl) (fun hc_23 => ?_) (fun hc_23 => ?_)
        · skip
          refine zr_iinc (pc := 29) (i := 3) (a := u2_) (n := 1) (L2 := [some (.ref (d_ + 23)), some (.int (Int32.ofInt a0_)), some (.int (Int32.ofInt u1_)), some (.int (Int32.ofInt (u2_ + 1)))]) rfl (by decide) rfl (zdal_p dlB_Sums_partsOf_108 (i := 17) rfl) ?_
          obtain ⟨v8_, hv8_a, hv8_b, hv8_e, hv8_d⟩ := zk_gen (u2_ + 1)
          rw [hv8_e]
          refine zw_goto (pc := 32) (tgt := 4) (by decide) (zdal_p dlB_Sums_partsOf_108 (i := 18) rfl) ?_
          exact ih_4 u1_ hu1_a hu1_b v8_ hv8_a hv8_b (show 0 ≤ v8_ by first | with_reducible assumption | assumption | omega) (by omega)
        · skip
          refine zr_iinc (pc := 26) (i := 2) (a := u1_) (n := 1) (L2 := [some (.ref (d_ + 23)), some (.int (Int32.ofInt a0_)), some (.int (Int32.ofInt (u1_ + 1))), some (.int (Int32.ofInt u2_))]) rfl (by decide) rfl (zdal_p dlB_Sums_partsOf_108 (i := 16) rfl) ?_
          obtain ⟨v9_, hv9_a, hv9_b, hv9_e, hv9_d⟩ := zk_gen (u1_ + 1)
          rw [hv9_e]
          refine zr_iinc (pc := 29) (i := 3) (a := u2_) (n := 1) (L2 := [some (.ref (d_ + 23)), some (.int (Int32.ofInt a0_)), some (.int (Int32.ofInt v9_)), some (.int (Int32.ofInt (u2_ + 1)))]) rfl (by decide) rfl (zdal_p dlB_Sums_partsOf_108 (i := 17) rfl) ?_
          obtain ⟨v10_, hv10_a, hv10_b, hv10_e, hv10_d⟩ := zk_gen (u2_ + 1)
          rw [hv10_e]
          refine zw_goto (pc := 32) (tgt := 4) (by decide) (zdal_p dlB_Sums_partsOf_108 (i := 18) rfl) ?_
          exact ih_4 v9_ hv9_a hv9_b v10_ hv10_a hv10_b (show 0 ≤ v10_ by first | with_reducible assumption | assumption | omega) (by omega)
  exact lp_4 _ 0 (by decide) (by decide) 0 (by decide) (by decide) (show 0 ≤ (0 : Int) by first | with_reducible assumption | assumption | omega) (Nat.lt_succ_self _)
set_option maxHeartbeats 4000000 in
theorem u_T_partsX (l : Launch) (d_ : Nat) (Mz : zMem) (hW : zKW d_ Mz) (hnow : zf Mz 0 2 = some (d_ + 0)) : zC l m_T_parts 0 0 [.ref 0] Mz (zqcI d_ [] [] [] [] Mz (fun v N => True)) := by
  refine zC_of (L0 := [some (.ref 0)]) md_T_parts (Nat.le_of_ble_eq_true rfl) rfl ?_ zQ0
  have hf : zFc d_ [] [] [] [] Mz Mz := zFc.rf
  refine zw_aload_n (pc := 0) (n := 0) (x := 0) rfl (zdal_p dlB_T_parts_107 (i := 0) rfl) ?_
  refine zw_getF (pc := 1) f_T_28 rfl ((hf.w hW).ka (o := 0) (by decide)) (hf.now hnow) (zdal_p dlB_T_parts_107 (i := 1) rfl) ?_
  refine zw_getF (pc := 4) f_T_169 rfl ((hf.w hW).kr (o := 0) (by decide)) ((hf.w hW).lr (o := 0) (s := 2) (r := 23) (by decide)) (zdal_p dlB_T_parts_107 (i := 2) rfl) ?_
  refine zw_iconst (pc := 7) (v := Int32.ofInt 0) (by decide) (zdal_p dlB_T_parts_107 (i := 3) rfl) ?_
  refine zk_callV hf.x (pc := 8) [.int (Int32.ofInt 0)] [] l_T_253 (u_Sums_partsOfX l d_ Mz (hf.w hW) 0 (by decide) (by decide)) rfl rfl ((hf.w hW).kr (o := 23) (by decide)) (by decide) (by decide) (Nat.le_of_ble_eq_true rfl) (zdal_p dlB_T_parts_107 (i := 4) rfl) ?_
  rintro _ N1_ ⟨v2_, rfl, ⟨hv2_a, hv2_b⟩, hsN1_, -⟩
  obtain rfl := hsN1_.eq.symm
  show zW l m_T_parts (zn Mz + 0, zw Mz + 0) Mz 11 [some (.ref 0)] [.int (Int32.ofInt v2_)] _
  exact zk_iret (pc := 11) (ty := .int) rfl rfl ⟨by omega, by omega⟩ hf trivial (zdal_p dlB_T_parts_107 (i := 5) rfl)
set_option maxHeartbeats 4000000 in
theorem u_Sums_putMarksX (l : Launch) (d_ : Nat) (Mz : zMem) (hW : zKW d_ Mz) (a0_ : Int) (ha0_a : -2147483648 ≤ a0_) (ha0_b : a0_ < 2147483648) : zC l m_Sums_putMarks 0 0 [.ref (d_ + 23), .int (Int32.ofInt a0_)] Mz (zqcV d_ [] [] [] [27] Mz (fun N => True)) := by
  refine zC_of (L0 := [some (.ref (d_ + 23)), some (.int (Int32.ofInt a0_)), none]) md_Sums_putMarks (Nat.le_of_ble_eq_true rfl) rfl ?_ zQ0
  have hf : zFc d_ [] [] [] [27] Mz Mz := zFc.rf
  refine zw_iconst (pc := 0) (v := Int32.ofInt 0) (by decide) (zdal_p dlB_Sums_putMarks_111 (i := 0) rfl) ?_
  refine zw_istore_n (pc := 1) (i := 2) (L2 := [some (.ref (d_ + 23)), some (.int (Int32.ofInt a0_)), some (.int (Int32.ofInt 0))]) rfl (by decide) rfl (zdal_p dlB_Sums_putMarks_111 (i := 1) rfl) ?_
  have lp_2 : ∀ (n : Nat) (u1_ : Int) (hu1_a : -2147483648 ≤ u1_) (hu1_b : u1_ < 2147483648) (N2_ : zMem) (hs3_ : zFc d_ [] [] [] [27] Mz N2_) (i4_ : 0 ≤ u1_), (ze Mz (d_ + 12) 7 - u1_).toNat < n → zW l m_Sums_putMarks (zn Mz + 0, zw Mz + 0) N2_ 2 [some (.ref (d_ + 23)), some (.int (Int32.ofInt a0_)), some (.int (Int32.ofInt u1_))] [] (zqcV d_ [] [] [] [27] Mz (fun N => True)) := by
    intro n
    induction n with
    | zero =>
      intro u1_ hu1_a hu1_b N2_ hs3_ i4_ h0
      exact absurd h0 (Nat.not_lt_zero _)
    | succ n ih_2 =>
      intro u1_ hu1_a hu1_b N2_ hs3_ i4_ hlt_2
      have hf_N2_ : zFc d_ [] [] [] [27] Mz N2_ := hf.tr hs3_ (by decide) (by decide) (by decide) (by decide)
      refine zw_iload_n (pc := 2) (n := 2) (x := Int32.ofInt u1_) rfl (zdal_p dlB_Sums_putMarks_111 (i := 2) rfl) ?_
      refine zw_aload_n (pc := 3) (n := 0) (x := (d_ + 23)) rfl (zdal_p dlB_Sums_putMarks_111 (i := 3) rfl) ?_
      refine zw_getF (pc := 4) f_Sums_23 rfl ((hf_N2_.w hW).kr (o := 23) (by decide)) ((hf_N2_.w hW).lr (o := 23) (s := 0) (r := 12) (by decide)) (zdal_p dlB_Sums_putMarks_111 (i := 4) rfl) ?_
      refine zk_getI (pc := 7) f_Sums_35 rfl ((hf_N2_.w hW).kr (o := 12) (by decide)) (zdal_p dlB_Sums_putMarks_111 (i := 5) rfl) ?_
      rw [hf_N2_.e (by decide)]
      have hr5_ := ze_r Mz (d_ + 12) 7
      refine zr_icmp_ge (pc := 10) (tgt := 33) ⟨hu1_a, hu1_b⟩ ⟨(ze_r Mz (d_ + 12) 7).1, (ze_r Mz (d_ + 12) 7).2⟩ (by decide) (zdal_p dlB_Sums_putMarks_111 (i := 6) rfl) (fun hc_10 => ?_) (fun hc_10 => ?_)
      · skip
        exact zk_vret (pc := 33) rfl hf_N2_ trivial (zdal_p dlB_Sums_putMarks_111 (i := 17) rfl)
      · skip
        refine zw_aload_n (pc := 13) (n := 0) (x := (d_ + 23)) rfl (zdal_p dlB_Sums_putMarks_111 (i := 7) rfl) ?_
        refine zw_getF (pc := 14) f_Sums_20 rfl ((hf_N2_.w hW).kr (o := 23) (by decide)) ((hf_N2_.w hW).lr (o := 23) (s := 2) (r := 26) (by decide)) (zdal_p dlB_Sums_putMarks_111 (i := 8) rfl) ?_
        refine zw_iload_n (pc := 17) (n := 2) (x := Int32.ofInt u1_) rfl (zdal_p dlB_Sums_putMarks_111 (i := 9) rfl) ?_
        refine zw_aload_n (pc := 18) (n := 0) (x := (d_ + 23)) rfl (zdal_p dlB_Sums_putMarks_111 (i := 10) rfl) ?_
        refine zw_iload_n (pc := 19) (n := 1) (x := Int32.ofInt a0_) rfl (zdal_p dlB_Sums_putMarks_111 (i := 11) rfl) ?_
        refine zw_iload_n (pc := 20) (n := 2) (x := Int32.ofInt u1_) rfl (zdal_p dlB_Sums_putMarks_111 (i := 12) rfl) ?_
        refine zk_callV hf_N2_.x (pc := 21) [.int (Int32.ofInt a0_), .int (Int32.ofInt u1_)] [.int (Int32.ofInt u1_), .ref (d_ + 26)] l_Sums_50 (u_Sums_markOfX l d_ N2_ (hf_N2_.w hW) a0_ ha0_a ha0_b u1_ hu1_a hu1_b) rfl rfl ((hf_N2_.w hW).kr (o := 23) (by decide)) (by decide) (by decide) (Nat.le_of_ble_eq_true rfl) (zdal_p dlB_Sums_putMarks_111 (i := 13) rfl) ?_
        rintro _ N6_ ⟨v7_, rfl, ⟨hv7_a, hv7_b⟩, hsN6_, -⟩
        obtain rfl := hsN6_.eq.symm
        show zW l m_Sums_putMarks (zn Mz + 0, zw Mz + 0) N2_ 24 [some (.ref (d_ + 23)), some (.int (Int32.ofInt a0_)), some (.int (Int32.ofInt u1_))] [.long (Int64.ofInt v7_), .int (Int32.ofInt u1_), .ref (d_ + 26)] _
        refine zk_stGJ hf_N2_.x (pc := 24) (o := 27) (by decide) l_Sums_31 ((hf_N2_.w hW).kr (o := 26) (by decide)) ((hf_N2_.w hW).lr (o := 26) (s := 0) (r := 27) (by decide)) ((hf_N2_.w hW).rr (o := 27) (t := 2) (n := 27) (by decide)) (by decide) ⟨by omega, by omega⟩ (by decide) (Nat.le_of_ble_eq_true rfl) (zdal_p dlB_Sums_putMarks_111 (i := 14) rfl) (fun N8_ hsN8_ => ?_)
        have hf_N8_ : zFc d_ [] [] [] [27] Mz N8_ := hf_N2_.tr hsN8_ (by decide) (by decide) (by decide) (by decide)
        have hb0_N8_ : zFc d_ [] [] [] [27] Mz N8_ := hs3_.tr hsN8_ (by decide) (by decide) (by decide) (by decide)
        refine zr_iinc (pc := 27) (i := 2) (a := u1_) (n := 1) (L2 := [some (.ref (d_ + 23)), some (.int (Int32.ofInt a0_)), some (.int (Int32.ofInt (u1_ + 1)))]) rfl (by decide) rfl (zdal_p dlB_Sums_putMarks_111 (i := 15) rfl) ?_
        obtain ⟨v9_, hv9_a, hv9_b, hv9_e, hv9_d⟩ := zk_gen (u1_ + 1)
        rw [hv9_e]
        refine zw_goto (pc := 30) (tgt := 2) (by decide) (zdal_p dlB_Sums_putMarks_111 (i := 16) rfl) ?_
        exact ih_2 v9_ hv9_a hv9_b N8_ hb0_N8_ (show 0 ≤ v9_ by first | with_reducible assumption | assumption | omega) (by omega)
  exact lp_2 _ 0 (by decide) (by decide) Mz zFc.rf (show 0 ≤ (0 : Int) by first | with_reducible assumption | assumption | omega) (Nat.lt_succ_self _)
set_option maxHeartbeats 4000000 in
theorem u_Sorts_sumOverNormX (l : Launch) (d_ : Nat) (Mz : zMem) (hW : zKW d_ Mz) (a0_ : Int) (ha0_a : -2147483648 ≤ a0_) (ha0_b : a0_ < 2147483648) : zC l m_Sorts_sumOverNorm 0 0 [.ref (d_ + 12), .int (Int32.ofInt a0_), .ref (d_ + 26)] Mz (zqcJ d_ [] [] [] [11] Mz (fun v N => True)) := by
  refine zC_of (L0 := [some (.ref (d_ + 12)), some (.int (Int32.ofInt a0_)), some (.ref (d_ + 26)), none, none, none, none, none]) md_Sorts_sumOverNorm (Nat.le_of_ble_eq_true rfl) rfl ?_ zQ0
  have hf : zFc d_ [] [] [] [11] Mz Mz := zFc.rf
  refine zw_aload_n (pc := 0) (n := 0) (x := (d_ + 12)) rfl (zdal_p dlB_Sorts_sumOverNorm_113 (i := 0) rfl) ?_
  refine zw_getF (pc := 1) f_Sorts_26 rfl ((hf.w hW).kr (o := 12) (by decide)) ((hf.w hW).lr (o := 12) (s := 4) (r := 19) (by decide)) (zdal_p dlB_Sorts_sumOverNorm_113 (i := 1) rfl) ?_
  refine zw_iload_n (pc := 4) (n := 1) (x := Int32.ofInt a0_) rfl (zdal_p dlB_Sorts_sumOverNorm_113 (i := 2) rfl) ?_
  refine zk_atG hf.x (pc := 5) l_Sorts_49 ((hf.w hW).kr (o := 19) (by decide)) ((hf.w hW).lr (o := 19) (s := 0) (r := 20) (by decide)) ((hf.w hW).rr (o := 20) (t := 1) (n := 27) (by decide)) (by decide) ⟨by omega, by omega⟩ (by decide) (Nat.le_of_ble_eq_true rfl) (zdal_p dlB_Sorts_sumOverNorm_113 (i := 3) rfl) (fun v1_ hv1_ hv1_a hv1_b => ?_)
  clear hv1_
  refine zw_istore_n (pc := 8) (i := 3) (L2 := [some (.ref (d_ + 12)), some (.int (Int32.ofInt a0_)), some (.ref (d_ + 26)), some (.int (Int32.ofInt v1_)), none, none, none, none]) rfl (by decide) rfl (zdal_p dlB_Sorts_sumOverNorm_113 (i := 4) rfl) ?_
  refine zw_aload_n (pc := 9) (n := 0) (x := (d_ + 12)) rfl (zdal_p dlB_Sorts_sumOverNorm_113 (i := 5) rfl) ?_
  refine zw_getF (pc := 10) f_Sorts_32 rfl ((hf.w hW).kr (o := 12) (by decide)) ((hf.w hW).lr (o := 12) (s := 0) (r := 1) (by decide)) (zdal_p dlB_Sorts_sumOverNorm_113 (i := 6) rfl) ?_
  refine zw_iload_n (pc := 13) (n := 3) (x := Int32.ofInt v1_) rfl (zdal_p dlB_Sorts_sumOverNorm_113 (i := 7) rfl) ?_
  refine zk_callV hf.x (pc := 14) [.int (Int32.ofInt v1_)] [] l_Sorts_102 (u_Group_normOfX l d_ Mz (hf.w hW) v1_ hv1_a hv1_b) rfl rfl ((hf.w hW).kr (o := 1) (by decide)) (by decide) (by decide) (Nat.le_of_ble_eq_true rfl) (zdal_p dlB_Sorts_sumOverNorm_113 (i := 8) rfl) ?_
  rintro _ N2_ ⟨v3_, rfl, ⟨hv3_a, hv3_b⟩, hsN2_, -⟩
  obtain rfl := hsN2_.eq.symm
  show zW l m_Sorts_sumOverNorm (zn Mz + 0, zw Mz + 0) Mz 17 [some (.ref (d_ + 12)), some (.int (Int32.ofInt a0_)), some (.ref (d_ + 26)), some (.int (Int32.ofInt v1_)), none, none, none, none] [.int (Int32.ofInt v3_)] _
  refine zw_istore (pc := 17) (i := 4) (L2 := [some (.ref (d_ + 12)), some (.int (Int32.ofInt a0_)), some (.ref (d_ + 26)), some (.int (Int32.ofInt v1_)), some (.int (Int32.ofInt v3_)), none, none, none]) (by decide) rfl (zdal_p dlB_Sorts_sumOverNorm_113 (i := 9) rfl) ?_
  refine zw_lconst (pc := 19) (v := Int64.ofInt 0) (by decide) (zdal_p dlB_Sorts_sumOverNorm_113 (i := 10) rfl) ?_
  refine zw_lstore (pc := 20) (i := 5) (L2 := [some (.ref (d_ + 12)), some (.int (Int32.ofInt a0_)), some (.ref (d_ + 26)), some (.int (Int32.ofInt v1_)), some (.int (Int32.ofInt v3_)), some (.long (Int64.ofInt 0)), none, none]) (by decide) rfl (zdal_p dlB_Sorts_sumOverNorm_113 (i := 11) rfl) ?_
  refine zw_iconst (pc := 22) (v := Int32.ofInt 0) (by decide) (zdal_p dlB_Sorts_sumOverNorm_113 (i := 12) rfl) ?_
  refine zw_istore (pc := 23) (i := 7) (L2 := [some (.ref (d_ + 12)), some (.int (Int32.ofInt a0_)), some (.ref (d_ + 26)), some (.int (Int32.ofInt v1_)), some (.int (Int32.ofInt v3_)), some (.long (Int64.ofInt 0)), none, some (.int (Int32.ofInt 0))]) (by decide) rfl (zdal_p dlB_Sorts_sumOverNorm_113 (i := 13) rfl) ?_
  have lp_25 : ∀ (n : Nat) (u4_ : Int) (hu4_a : -9223372036854775808 ≤ u4_) (hu4_b : u4_ < 9223372036854775808) (u5_ : Int) (hu5_a : -2147483648 ≤ u5_) (hu5_b : u5_ < 2147483648) (N6_ : zMem) (hs7_ : zFc d_ [] [] [] [11] Mz N6_) (i8_ : 0 ≤ u5_), (ze Mz (d_ + 1) 7 - u5_).toNat < n → zW l m_Sorts_sumOverNorm (zn Mz + 0, zw Mz + 0) N6_ 25 [some (.ref (d_ + 12)), some (.int (Int32.ofInt a0_)), some (.ref (d_ + 26)), some (.int (Int32.ofInt v1_)), some (.int (Int32.ofInt v3_)), some (.long (Int64.ofInt u4_)), none, some (.int (Int32.ofInt u5_))] [] (zqcJ d_ [] [] [] [11] Mz (fun v N => True)) := by
    intro n
    induction n with
    | zero =>
      intro u4_ hu4_a hu4_b u5_ hu5_a hu5_b N6_ hs7_ i8_ h0
      exact absurd h0 (Nat.not_lt_zero _)
    | succ n ih_25 =>
      intro u4_ hu4_a hu4_b u5_ hu5_a hu5_b N6_ hs7_ i8_ hlt_25
      have hf_N6_ : zFc d_ [] [] [] [11] Mz N6_ := hf.tr hs7_ (by decide) (by decide) (by decide) (by decide)
      refine zw_iload (pc := 25) (i := 7) (x := Int32.ofInt u5_) rfl (zdal_p dlB_Sorts_sumOverNorm_113 (i := 14) rfl) ?_
      refine zw_aload_n (pc := 27) (n := 0) (x := (d_ + 12)) rfl (zdal_p dlB_Sorts_sumOverNorm_113 (i := 15) rfl) ?_
      refine zw_getF (pc := 28) f_Sorts_32 rfl ((hf_N6_.w hW).kr (o := 12) (by decide)) ((hf_N6_.w hW).lr (o := 12) (s := 0) (r := 1) (by decide)) (zdal_p dlB_Sorts_sumOverNorm_113 (i := 16) rfl) ?_
      refine zk_getI (pc := 31) f_Sorts_44 rfl ((hf_N6_.w hW).kr (o := 1) (by decide)) (zdal_p dlB_Sorts_sumOverNorm_113 (i := 17) rfl) ?_
      rw [hf_N6_.e (by decide)]
      have hr9_ := ze_r Mz (d_ + 1) 7
      refine zr_icmp_ge (pc := 34) (tgt := 72) ⟨hu5_a, hu5_b⟩ ⟨(ze_r Mz (d_ + 1) 7).1, (ze_r Mz (d_ + 1) 7).2⟩ (by decide) (zdal_p dlB_Sorts_sumOverNorm_113 (i := 18) rfl) (fun hc_34 => ?_) (fun hc_34 => ?_)
      · skip
        refine zw_lload (pc := 72) (i := 5) (x := Int64.ofInt u4_) rfl (zdal_p dlB_Sorts_sumOverNorm_114 (i := 13) rfl) ?_
        exact zk_lret (pc := 74) rfl ⟨by omega, by omega⟩ hf_N6_ trivial (zdal_p dlB_Sorts_sumOverNorm_114 (i := 14) rfl)
      · skip
        refine zw_iload (pc := 37) (i := 4) (x := Int32.ofInt v3_) rfl (zdal_p dlB_Sorts_sumOverNorm_113 (i := 19) rfl) ?_
        refine zw_iload (pc := 39) (i := 7) (x := Int32.ofInt u5_) rfl (zdal_p dlB_Sorts_sumOverNorm_113 (i := 20) rfl) ?_
        refine zr_callS hf_N6_.x (pc := 41) [.int (Int32.ofInt v3_), .int (Int32.ofInt u5_)] [] l_Sorts_53 (u_T_isInX l d_ N6_ (hf_N6_.w hW) v3_ hv3_a hv3_b u5_ hu5_a hu5_b) rfl rfl (by decide) (Nat.le_of_ble_eq_true rfl) (zdal_p dlB_Sorts_sumOverNorm_113 (i := 21) rfl) ?_
        rintro _ N10_ ⟨v11_, rfl, ⟨hv11_a, hv11_b⟩, hsN10_, hp0_N10_⟩
        obtain rfl := hsN10_.eq.symm
        replace hp0_N10_ : (v11_ = 0 ∨ v11_ = 1) := hp0_N10_
        show zW l m_Sorts_sumOverNorm (zn Mz + 0, zw Mz + 0) N6_ 44 [some (.ref (d_ + 12)), some (.int (Int32.ofInt a0_)), some (.ref (d_ + 26)), some (.int (Int32.ofInt v1_)), some (.int (Int32.ofInt v3_)), some (.long (Int64.ofInt u4_)), none, some (.int (Int32.ofInt u5_))] [.int (Int32.ofInt v11_)] _
        refine zr_if_eq (pc := 44) (tgt := 66) ⟨hv11_a, hv11_b⟩ (by decide) (zdal_p dlB_Sorts_sumOverNorm_113 (i := 22) rfl) (fun hc_44 => ?_) (fun hc_44 => ?_)
        · skip
          refine zr_iinc (pc := 66) (i := 7) (a := u5_) (n := 1) (L2 := [some (.ref (d_ + 12)), some (.int (Int32.ofInt a0_)), some (.ref (d_ + 26)), some (.int (Int32.ofInt v1_)), some (.int (Int32.ofInt v3_)), some (.long (Int64.ofInt u4_)), none, some (.int (Int32.ofInt (u5_ + 1)))]) rfl (by decide) rfl (zdal_p dlB_Sorts_sumOverNorm_114 (i := 11) rfl) ?_
          obtain ⟨v12_, hv12_a, hv12_b, hv12_e, hv12_d⟩ := zk_gen (u5_ + 1)
          rw [hv12_e]
          refine zw_goto (pc := 69) (tgt := 25) (by decide) (zdal_p dlB_Sorts_sumOverNorm_114 (i := 12) rfl) ?_
          exact ih_25 u4_ hu4_a hu4_b v12_ hv12_a hv12_b N6_ hs7_ (show 0 ≤ v12_ by first | with_reducible assumption | assumption | omega) (by omega)
        · skip
          refine zw_lload (pc := 47) (i := 5) (x := Int64.ofInt u4_) rfl (zdal_p dlB_Sorts_sumOverNorm_113 (i := 23) rfl) ?_
          refine zw_aload_n (pc := 49) (n := 2) (x := (d_ + 26)) rfl (zdal_p dlB_Sorts_sumOverNorm_114 (i := 0) rfl) ?_
          refine zw_aload_n (pc := 50) (n := 0) (x := (d_ + 12)) rfl (zdal_p dlB_Sorts_sumOverNorm_114 (i := 1) rfl) ?_
          refine zw_iload_n (pc := 51) (n := 3) (x := Int32.ofInt v1_) rfl (zdal_p dlB_Sorts_sumOverNorm_114 (i := 2) rfl) ?_
          refine zw_iconst (pc := 52) (v := Int32.ofInt 1) (by decide) (zdal_p dlB_Sorts_sumOverNorm_114 (i := 3) rfl) ?_
          refine zw_iload (pc := 53) (i := 7) (x := Int32.ofInt u5_) rfl (zdal_p dlB_Sorts_sumOverNorm_114 (i := 4) rfl) ?_
          refine zr_ishl (pc := 55) (zdal_p dlB_Sorts_sumOverNorm_114 (i := 5) rfl) ?_
          have hr13_ := zshl_r 1 u5_
          refine zr_nmI (fun v14_ hv14_ => ?_)
          obtain ⟨hv14_a, hv14_b⟩ := hv14_
          refine zr_ior (pc := 56) (zdal_p dlB_Sorts_sumOverNorm_114 (i := 6) rfl) ?_
          have hr15_ := zor_r v1_ v14_
          refine zr_nmI (fun v16_ hv16_ => ?_)
          obtain ⟨hv16_a, hv16_b⟩ := hv16_
          refine zk_callV hf_N6_.x (pc := 57) [.int (Int32.ofInt v16_)] [.ref (d_ + 26), .long (Int64.ofInt u4_)] l_Sorts_112 (u_Sorts_spannedSortX l d_ N6_ (hf_N6_.w hW) v16_ hv16_a hv16_b) rfl rfl ((hf_N6_.w hW).kr (o := 12) (by decide)) (by decide) (by decide) (Nat.le_of_ble_eq_true rfl) (zdal_p dlB_Sorts_sumOverNorm_114 (i := 7) rfl) ?_
          rintro _ N17_ ⟨v18_, rfl, ⟨hv18_a, hv18_b⟩, hsN17_, -⟩
          have hf_N17_ : zFc d_ [] [] [] [11] Mz N17_ := hf_N6_.tr hsN17_ (by decide) (by decide) (by decide) (by decide)
          have hb0_N17_ : zFc d_ [] [] [] [11] Mz N17_ := hs7_.tr hsN17_ (by decide) (by decide) (by decide) (by decide)
          show zW l m_Sorts_sumOverNorm (zn Mz + 0, zw Mz + 0) N17_ 60 [some (.ref (d_ + 12)), some (.int (Int32.ofInt a0_)), some (.ref (d_ + 26)), some (.int (Int32.ofInt v1_)), some (.int (Int32.ofInt v3_)), some (.long (Int64.ofInt u4_)), none, some (.int (Int32.ofInt u5_))] [.int (Int32.ofInt v18_), .ref (d_ + 26), .long (Int64.ofInt u4_)] _
          refine zk_atGJ hf_N17_.x (pc := 60) l_Sorts_115 ((hf_N17_.w hW).kr (o := 26) (by decide)) ((hf_N17_.w hW).lr (o := 26) (s := 0) (r := 27) (by decide)) ((hf_N17_.w hW).rr (o := 27) (t := 2) (n := 27) (by decide)) (by decide) ⟨by omega, by omega⟩ (by decide) (Nat.le_of_ble_eq_true rfl) (zdal_p dlB_Sorts_sumOverNorm_114 (i := 8) rfl) (fun v19_ hv19_ hv19_a hv19_b => ?_)
          clear hv19_
          refine zr_ladd (pc := 63) (zdal_p dlB_Sorts_sumOverNorm_114 (i := 9) rfl) ?_
          refine zr_nmJ (fun v20_ hv20_ => ?_)
          obtain ⟨hv20_a, hv20_b⟩ := hv20_
          refine zw_lstore (pc := 64) (i := 5) (L2 := [some (.ref (d_ + 12)), some (.int (Int32.ofInt a0_)), some (.ref (d_ + 26)), some (.int (Int32.ofInt v1_)), some (.int (Int32.ofInt v3_)), some (.long (Int64.ofInt v20_)), none, some (.int (Int32.ofInt u5_))]) (by decide) rfl (zdal_p dlB_Sorts_sumOverNorm_114 (i := 10) rfl) ?_
          refine zr_iinc (pc := 66) (i := 7) (a := u5_) (n := 1) (L2 := [some (.ref (d_ + 12)), some (.int (Int32.ofInt a0_)), some (.ref (d_ + 26)), some (.int (Int32.ofInt v1_)), some (.int (Int32.ofInt v3_)), some (.long (Int64.ofInt v20_)), none, some (.int (Int32.ofInt (u5_ + 1)))]) rfl (by decide) rfl (zdal_p dlB_Sorts_sumOverNorm_114 (i := 11) rfl) ?_
          obtain ⟨v21_, hv21_a, hv21_b, hv21_e, hv21_d⟩ := zk_gen (u5_ + 1)
          rw [hv21_e]
          refine zw_goto (pc := 69) (tgt := 25) (by decide) (zdal_p dlB_Sorts_sumOverNorm_114 (i := 12) rfl) ?_
          exact ih_25 v20_ hv20_a hv20_b v21_ hv21_a hv21_b N17_ hb0_N17_ (show 0 ≤ v21_ by first | with_reducible assumption | assumption | omega) (by omega)
  exact lp_25 _ 0 (by decide) (by decide) 0 (by decide) (by decide) Mz zFc.rf (show 0 ≤ (0 : Int) by first | with_reducible assumption | assumption | omega) (Nat.lt_succ_self _)
set_option maxHeartbeats 4000000 in
theorem u_Sorts_normSizeX (l : Launch) (d_ : Nat) (Mz : zMem) (hW : zKW d_ Mz) (a0_ : Int) (ha0_a : -2147483648 ≤ a0_) (ha0_b : a0_ < 2147483648) : zC l m_Sorts_normSize 0 0 [.ref (d_ + 12), .int (Int32.ofInt a0_)] Mz (zqcI d_ [] [] [] [] Mz (fun v N => True)) := by
  refine zC_of (L0 := [some (.ref (d_ + 12)), some (.int (Int32.ofInt a0_))]) md_Sorts_normSize (Nat.le_of_ble_eq_true rfl) rfl ?_ zQ0
  have hf : zFc d_ [] [] [] [] Mz Mz := zFc.rf
  refine zw_aload_n (pc := 0) (n := 0) (x := (d_ + 12)) rfl (zdal_p dlB_Sorts_normSize_112 (i := 0) rfl) ?_
  refine zw_getF (pc := 1) f_Sorts_32 rfl ((hf.w hW).kr (o := 12) (by decide)) ((hf.w hW).lr (o := 12) (s := 0) (r := 1) (by decide)) (zdal_p dlB_Sorts_normSize_112 (i := 1) rfl) ?_
  refine zw_aload_n (pc := 4) (n := 0) (x := (d_ + 12)) rfl (zdal_p dlB_Sorts_normSize_112 (i := 2) rfl) ?_
  refine zw_getF (pc := 5) f_Sorts_26 rfl ((hf.w hW).kr (o := 12) (by decide)) ((hf.w hW).lr (o := 12) (s := 4) (r := 19) (by decide)) (zdal_p dlB_Sorts_normSize_112 (i := 3) rfl) ?_
  refine zw_iload_n (pc := 8) (n := 1) (x := Int32.ofInt a0_) rfl (zdal_p dlB_Sorts_normSize_112 (i := 4) rfl) ?_
  refine zk_atG hf.x (pc := 9) l_Sorts_49 ((hf.w hW).kr (o := 19) (by decide)) ((hf.w hW).lr (o := 19) (s := 0) (r := 20) (by decide)) ((hf.w hW).rr (o := 20) (t := 1) (n := 27) (by decide)) (by decide) ⟨by omega, by omega⟩ (by decide) (Nat.le_of_ble_eq_true rfl) (zdal_p dlB_Sorts_normSize_112 (i := 5) rfl) (fun v1_ hv1_ hv1_a hv1_b => ?_)
  clear hv1_
  refine zk_callV hf.x (pc := 12) [.int (Int32.ofInt v1_)] [] l_Sorts_102 (u_Group_normOfX l d_ Mz (hf.w hW) v1_ hv1_a hv1_b) rfl rfl ((hf.w hW).kr (o := 1) (by decide)) (by decide) (by decide) (Nat.le_of_ble_eq_true rfl) (zdal_p dlB_Sorts_normSize_112 (i := 6) rfl) ?_
  rintro _ N2_ ⟨v3_, rfl, ⟨hv3_a, hv3_b⟩, hsN2_, -⟩
  obtain rfl := hsN2_.eq.symm
  show zW l m_Sorts_normSize (zn Mz + 0, zw Mz + 0) Mz 15 [some (.ref (d_ + 12)), some (.int (Int32.ofInt a0_))] [.int (Int32.ofInt v3_)] _
  refine zr_callS hf.x (pc := 15) [.int (Int32.ofInt v3_)] [] l_Sorts_78 (u_Integer_bitCountX l d_ Mz (hf.w hW) v3_ hv3_a hv3_b) rfl rfl (by decide) (Nat.le_of_ble_eq_true rfl) (zdal_p dlB_Sorts_normSize_112 (i := 7) rfl) ?_
  rintro _ N4_ ⟨v5_, rfl, ⟨hv5_a, hv5_b⟩, hsN4_, ⟨hp0_N4_, hp1_N4_⟩⟩
  obtain rfl := hsN4_.eq.symm
  show zW l m_Sorts_normSize (zn Mz + 0, zw Mz + 0) Mz 18 [some (.ref (d_ + 12)), some (.int (Int32.ofInt a0_))] [.int (Int32.ofInt v5_)] _
  exact zk_iret (pc := 18) (ty := .int) rfl rfl ⟨by omega, by omega⟩ hf trivial (zdal_p dlB_Sorts_normSize_112 (i := 8) rfl)
set_option maxHeartbeats 4000000 in
theorem u_T_congruenceX (l : Launch) (d_ : Nat) (Mz : zMem) (hW : zKW d_ Mz) (hnow : zf Mz 0 2 = some (d_ + 0)) (a0_ : Int) (ha0_a : -2147483648 ≤ a0_) (ha0_b : a0_ < 2147483648) : zC l m_T_congruence 0 0 [.ref 0, .int (Int32.ofInt a0_)] Mz (zqcJ d_ [] [] [] [11, 27] Mz (fun v N => True)) := by
  refine zC_of (L0 := [some (.ref 0), some (.int (Int32.ofInt a0_)), none, none, none]) md_T_congruence (Nat.le_of_ble_eq_true rfl) rfl ?_ zQ0
  have hf : zFc d_ [] [] [] [11, 27] Mz Mz := zFc.rf
  refine zw_aload_n (pc := 0) (n := 0) (x := 0) rfl (zdal_p dlB_T_congruence_109 (i := 0) rfl) ?_
  refine zw_getF (pc := 1) f_T_28 rfl ((hf.w hW).ka (o := 0) (by decide)) (hf.now hnow) (zdal_p dlB_T_congruence_109 (i := 1) rfl) ?_
  refine zw_getF (pc := 4) f_T_85 rfl ((hf.w hW).kr (o := 0) (by decide)) ((hf.w hW).lr (o := 0) (s := 1) (r := 12) (by decide)) (zdal_p dlB_T_congruence_109 (i := 2) rfl) ?_
  refine zw_iload_n (pc := 7) (n := 1) (x := Int32.ofInt a0_) rfl (zdal_p dlB_T_congruence_109 (i := 3) rfl) ?_
  refine zk_callV hf.x (pc := 8) [.int (Int32.ofInt a0_)] [] l_T_143 (u_Sorts_hasSortX l d_ Mz (hf.w hW) a0_ ha0_a ha0_b) rfl rfl ((hf.w hW).kr (o := 12) (by decide)) (by decide) (by decide) (Nat.le_of_ble_eq_true rfl) (zdal_p dlB_T_congruence_109 (i := 4) rfl) ?_
  rintro _ N1_ ⟨v2_, rfl, ⟨hv2_a, hv2_b⟩, hsN1_, hp0_N1_⟩
  obtain rfl := hsN1_.eq.symm
  replace hp0_N1_ : (v2_ = 0 ∨ v2_ = 1) := hp0_N1_
  show zW l m_T_congruence (zn Mz + 0, zw Mz + 0) Mz 11 [some (.ref 0), some (.int (Int32.ofInt a0_)), none, none, none] [.int (Int32.ofInt v2_)] _
  refine zr_if_ne (pc := 11) (tgt := 18) ⟨hv2_a, hv2_b⟩ (by decide) (zdal_p dlB_T_congruence_109 (i := 5) rfl) (fun hc_11 => ?_) (fun hc_11 => ?_)
  · skip
    refine zw_aload_n (pc := 18) (n := 0) (x := 0) rfl (zdal_p dlB_T_congruence_109 (i := 8) rfl) ?_
    refine zw_getF (pc := 19) f_T_28 rfl ((hf.w hW).ka (o := 0) (by decide)) (hf.now hnow) (zdal_p dlB_T_congruence_109 (i := 9) rfl) ?_
    refine zw_getF (pc := 22) f_T_169 rfl ((hf.w hW).kr (o := 0) (by decide)) ((hf.w hW).lr (o := 0) (s := 2) (r := 23) (by decide)) (zdal_p dlB_T_congruence_109 (i := 10) rfl) ?_
    refine zw_iconst (pc := 25) (v := Int32.ofInt 0) (by decide) (zdal_p dlB_T_congruence_109 (i := 11) rfl) ?_
    refine zk_callV hf.x (pc := 26) [.int (Int32.ofInt 0)] [] l_T_256 (u_Sums_putMarksX l d_ Mz (hf.w hW) 0 (by decide) (by decide)) rfl rfl ((hf.w hW).kr (o := 23) (by decide)) (by decide) (by decide) (Nat.le_of_ble_eq_true rfl) (zdal_p dlB_T_congruence_109 (i := 12) rfl) ?_
    rintro _ N3_ ⟨rfl, hsN3_, -⟩
    have hf_N3_ : zFc d_ [] [] [] [11, 27] Mz N3_ := hf.tr hsN3_ (by decide) (by decide) (by decide) (by decide)
    show zW l m_T_congruence (zn Mz + 0, zw Mz + 0) N3_ 29 [some (.ref 0), some (.int (Int32.ofInt a0_)), none, none, none] [] _
    refine zw_aload_n (pc := 29) (n := 0) (x := 0) rfl (zdal_p dlB_T_congruence_109 (i := 13) rfl) ?_
    refine zw_getF (pc := 30) f_T_28 rfl ((hf_N3_.w hW).ka (o := 0) (by decide)) (hf_N3_.now hnow) (zdal_p dlB_T_congruence_109 (i := 14) rfl) ?_
    refine zw_getF (pc := 33) f_T_85 rfl ((hf_N3_.w hW).kr (o := 0) (by decide)) ((hf_N3_.w hW).lr (o := 0) (s := 1) (r := 12) (by decide)) (zdal_p dlB_T_congruence_109 (i := 15) rfl) ?_
    refine zw_iload_n (pc := 36) (n := 1) (x := Int32.ofInt a0_) rfl (zdal_p dlB_T_congruence_109 (i := 16) rfl) ?_
    refine zk_callV hf_N3_.x (pc := 37) [.int (Int32.ofInt a0_)] [] l_T_259 (u_Sorts_normSizeX l d_ N3_ (hf_N3_.w hW) a0_ ha0_a ha0_b) rfl rfl ((hf_N3_.w hW).kr (o := 12) (by decide)) (by decide) (by decide) (Nat.le_of_ble_eq_true rfl) (zdal_p dlB_T_congruence_109 (i := 17) rfl) ?_
    rintro _ N5_ ⟨v6_, rfl, ⟨hv6_a, hv6_b⟩, hsN5_, -⟩
    obtain rfl := hsN5_.eq.symm
    show zW l m_T_congruence (zn Mz + 0, zw Mz + 0) N3_ 40 [some (.ref 0), some (.int (Int32.ofInt a0_)), none, none, none] [.int (Int32.ofInt v6_)] _
    refine zw_istore_n (pc := 40) (i := 2) (L2 := [some (.ref 0), some (.int (Int32.ofInt a0_)), some (.int (Int32.ofInt v6_)), none, none]) rfl (by decide) rfl (zdal_p dlB_T_congruence_109 (i := 18) rfl) ?_
    refine zw_aload_n (pc := 41) (n := 0) (x := 0) rfl (zdal_p dlB_T_congruence_109 (i := 19) rfl) ?_
    refine zw_getF (pc := 42) f_T_28 rfl ((hf_N3_.w hW).ka (o := 0) (by decide)) (hf_N3_.now hnow) (zdal_p dlB_T_congruence_109 (i := 20) rfl) ?_
    refine zw_getF (pc := 45) f_T_85 rfl ((hf_N3_.w hW).kr (o := 0) (by decide)) ((hf_N3_.w hW).lr (o := 0) (s := 1) (r := 12) (by decide)) (zdal_p dlB_T_congruence_109 (i := 21) rfl) ?_
    refine zw_iload_n (pc := 48) (n := 1) (x := Int32.ofInt a0_) rfl (zdal_p dlB_T_congruence_109 (i := 22) rfl) ?_
    refine zw_aload_n (pc := 49) (n := 0) (x := 0) rfl (zdal_p dlB_T_congruence_109 (i := 23) rfl) ?_
    refine zw_getF (pc := 50) f_T_28 rfl ((hf_N3_.w hW).ka (o := 0) (by decide)) (hf_N3_.now hnow) (zdal_p dlB_T_congruence_110 (i := 0) rfl) ?_
    refine zw_getF (pc := 53) f_T_169 rfl ((hf_N3_.w hW).kr (o := 0) (by decide)) ((hf_N3_.w hW).lr (o := 0) (s := 2) (r := 23) (by decide)) (zdal_p dlB_T_congruence_110 (i := 1) rfl) ?_
    refine zw_getF (pc := 56) f_T_262 rfl ((hf_N3_.w hW).kr (o := 23) (by decide)) ((hf_N3_.w hW).lr (o := 23) (s := 2) (r := 26) (by decide)) (zdal_p dlB_T_congruence_110 (i := 2) rfl) ?_
    refine zk_callV hf_N3_.x (pc := 59) [.int (Int32.ofInt a0_), .ref (d_ + 26)] [] l_T_266 (u_Sorts_sumOverNormX l d_ N3_ (hf_N3_.w hW) a0_ ha0_a ha0_b) rfl rfl ((hf_N3_.w hW).kr (o := 12) (by decide)) (by decide) (by decide) (Nat.le_of_ble_eq_true rfl) (zdal_p dlB_T_congruence_110 (i := 3) rfl) ?_
    rintro _ N7_ ⟨v8_, rfl, ⟨hv8_a, hv8_b⟩, hsN7_, -⟩
    have hf_N7_ : zFc d_ [] [] [] [11, 27] Mz N7_ := hf_N3_.tr hsN7_ (by decide) (by decide) (by decide) (by decide)
    show zW l m_T_congruence (zn Mz + 0, zw Mz + 0) N7_ 62 [some (.ref 0), some (.int (Int32.ofInt a0_)), some (.int (Int32.ofInt v6_)), none, none] [.long (Int64.ofInt v8_)] _
    refine zw_lstore_n (pc := 62) (i := 3) (L2 := [some (.ref 0), some (.int (Int32.ofInt a0_)), some (.int (Int32.ofInt v6_)), some (.long (Int64.ofInt v8_)), none]) rfl (by decide) rfl (zdal_p dlB_T_congruence_110 (i := 4) rfl) ?_
    refine zw_iload_n (pc := 63) (n := 2) (x := Int32.ofInt v6_) rfl (zdal_p dlB_T_congruence_110 (i := 5) rfl) ?_
    refine zr_if_le (pc := 64) (tgt := 74) ⟨hv6_a, hv6_b⟩ (by decide) (zdal_p dlB_T_congruence_110 (i := 6) rfl) (fun hc_64 => ?_) (fun hc_64 => ?_)
    · skip
      refine zr_ldc2 (pc := 74) (n := (-9223372036854775808)) (by decide) k_T_248 (zdal_p dlB_T_congruence_110 (i := 12) rfl) ?_
      exact zk_lret (pc := 77) rfl ⟨by omega, by omega⟩ hf_N7_ trivial (zdal_p dlB_T_congruence_110 (i := 13) rfl)
    · skip
      refine zw_lload_n (pc := 67) (n := 3) (x := Int64.ofInt v8_) rfl (zdal_p dlB_T_congruence_110 (i := 7) rfl) ?_
      refine zw_iload_n (pc := 68) (n := 2) (x := Int32.ofInt v6_) rfl (zdal_p dlB_T_congruence_110 (i := 8) rfl) ?_
      refine zr_i2l (pc := 69) ⟨hv6_a, hv6_b⟩ (zdal_p dlB_T_congruence_110 (i := 9) rfl) ?_
      refine zr_ldiv (pc := 70) ⟨by omega, by omega⟩ (by omega) (zdal_p dlB_T_congruence_110 (i := 10) rfl) ?_
      have hr9_ := zlquo_r v8_ v6_
      refine zr_nmJ (fun v10_ hv10_ => ?_)
      obtain ⟨hv10_a, hv10_b⟩ := hv10_
      refine zw_goto (pc := 71) (tgt := 77) (by decide) (zdal_p dlB_T_congruence_110 (i := 11) rfl) ?_
      exact zk_lret (pc := 77) rfl ⟨by omega, by omega⟩ hf_N7_ trivial (zdal_p dlB_T_congruence_110 (i := 13) rfl)
  · skip
    refine zr_ldc2 (pc := 14) (n := (-9223372036854775808)) (by decide) k_T_248 (zdal_p dlB_T_congruence_109 (i := 6) rfl) ?_
    exact zk_lret (pc := 17) rfl ⟨by omega, by omega⟩ hf trivial (zdal_p dlB_T_congruence_109 (i := 7) rfl)
