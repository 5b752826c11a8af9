set_option maxHeartbeats 4000000 in
theorem u_Tokens_appendF (l : Launch) (d_ : Nat) (Mz : zMem) (hW : zKW d_ Mz) (a0_ : Int) (ha0_a : -2147483648 ≤ a0_) (ha0_b : a0_ < 2147483648) (p0_ : 0 ≤ ze Mz 1 1) (p1_ : ze Mz 1 1 ≤ 696) : zC l m_Tokens_append 0 0 [.ref 1, .int (Int32.ofInt a0_)] Mz (zqcV d_ [(1, 1)] [3] [] [] Mz (fun N => ze N 1 1 = ze Mz 1 1 + 4 ∧ (∀ j : Nat, ze N 3 j = zap (fun j => ze Mz 3 j) (ze Mz 1 1) a0_ j))) := by
  refine zC_of (L0 := [some (.ref 1), some (.int (Int32.ofInt a0_)), none]) md_Tokens_append (Nat.le_of_ble_eq_true rfl) rfl ?_ zQ0
  have hf : zFc d_ [(1, 1)] [3] [] [] Mz Mz := zFc.rf
  have r_A1_1 := ze_r Mz 1 1
  refine zw_bipush (pc := 0) (v := Int32.ofInt 24) (by decide) (zdal_p dlA_Tokens_append_65 (i := 0) rfl) ?_
  refine zw_istore_n (pc := 2) (i := 2) (L2 := [some (.ref 1), some (.int (Int32.ofInt a0_)), some (.int (Int32.ofInt 24))]) rfl (by decide) rfl (zdal_p dlA_Tokens_append_65 (i := 1) rfl) ?_
  have lp_3 : ∀ (n : Nat) (u1_ : Int) (hu1_a : -2147483648 ≤ u1_) (hu1_b : u1_ < 2147483648) (N2_ : zMem) (hs3_ : zFc d_ [(1, 1)] [3] [] [] Mz N2_) (i4_ : -8 ≤ u1_) (i5_ : u1_ ≤ 24) (i6_ : 8 * (ze N2_ 1 1 - ze Mz 1 1) = 24 - u1_) (i7_ : zApI 3 (ze Mz 1 1) (ze N2_ 1 1) a0_ Mz N2_), (u1_ + 8).toNat < n → zW l m_Tokens_append (zn Mz + 0, zw Mz + 0) N2_ 3 [some (.ref 1), some (.int (Int32.ofInt a0_)), some (.int (Int32.ofInt u1_))] [] (zqcV d_ [(1, 1)] [3] [] [] Mz (fun N => ze N 1 1 = ze Mz 1 1 + 4 ∧ (∀ j : Nat, ze N 3 j = zap (fun j => ze Mz 3 j) (ze Mz 1 1) a0_ j))) := by
    intro n
    induction n with
    | zero =>
      intro u1_ hu1_a hu1_b N2_ hs3_ i4_ i5_ i6_ i7_ h0
      exact absurd h0 (Nat.not_lt_zero _)
    | succ n ih_3 =>
      intro u1_ hu1_a hu1_b N2_ hs3_ i4_ i5_ i6_ i7_ hlt_3
      have hf_N2_ : zFc d_ [(1, 1)] [3] [] [] Mz N2_ := hf.tr hs3_ (by decide) (by decide) (by decide) (by decide)
      have rA1_1_N2_ := ze_r N2_ 1 1
      have hap_ := (show zApI 3 (ze Mz 1 1) (ze N2_ 1 1) a0_ Mz N2_ by assumption)
      refine zw_iload_n (pc := 3) (n := 2) (x := Int32.ofInt u1_) rfl (zdal_p dlA_Tokens_append_65 (i := 2) rfl) ?_
      refine zr_if_lt (pc := 4) (tgt := 41) ⟨hu1_a, hu1_b⟩ (by decide) (zdal_p dlA_Tokens_append_65 (i := 3) rfl) (fun hc_4 => ?_) (fun hc_4 => ?_)
      · skip
        exact zk_vret (pc := 41) rfl hf_N2_ ⟨(show ze N2_ 1 1 = ze Mz 1 1 + 4 by first | assumption | omega), (show (∀ j : Nat, ze N2_ 3 j = zap (fun j => ze Mz 3 j) (ze Mz 1 1) a0_ j) by exact zApI_e hap_ (by omega))⟩ (zdal_p dlA_Tokens_append_65 (i := 22) rfl)
      · skip
        refine zw_aload_n (pc := 7) (n := 0) (x := 1) rfl (zdal_p dlA_Tokens_append_65 (i := 4) rfl) ?_
        refine zw_getF (pc := 8) f_Tokens_14 rfl ((hf_N2_.w hW).ka (o := 1) (by decide)) ((hf_N2_.w hW).la (o := 1) (s := 0) (r := 2) (by decide)) (zdal_p dlA_Tokens_append_65 (i := 5) rfl) ?_
        refine zw_aload_n (pc := 11) (n := 0) (x := 1) rfl (zdal_p dlA_Tokens_append_65 (i := 6) rfl) ?_
        refine zk_getI (pc := 12) f_Tokens_20 rfl ((hf_N2_.w hW).ka (o := 1) (by decide)) (zdal_p dlA_Tokens_append_65 (i := 7) rfl) ?_
        refine zw_iload_n (pc := 15) (n := 1) (x := Int32.ofInt a0_) rfl (zdal_p dlA_Tokens_append_65 (i := 8) rfl) ?_
        refine zw_iload_n (pc := 16) (n := 2) (x := Int32.ofInt u1_) rfl (zdal_p dlA_Tokens_append_65 (i := 9) rfl) ?_
        refine zr_ishr (pc := 17) (zdal_p dlA_Tokens_append_65 (i := 10) rfl) ?_
        have hr8_ := zshr_r a0_ u1_
        refine zw_sipush (pc := 18) (v := Int32.ofInt 255) (by decide) (zdal_p dlA_Tokens_append_65 (i := 11) rfl) ?_
        refine zr_iand (pc := 21) (zdal_p dlA_Tokens_append_65 (i := 12) rfl) ?_
        have hr9_ := zand_r (zshr a0_ u1_) 255
        refine zk_stA hf_N2_.x (hf_N2_.w hW) (pc := 22) (by decide) l_Tokens_24 ((hf_N2_.w hW).ka (o := 2) (by decide)) ((hf_N2_.w hW).la (o := 2) (s := 0) (r := 3) (by decide)) ((hf_N2_.w hW).ra (o := 3) (t := 1) (n := 700) (by decide)) (by decide) (by omega) (by omega) (by decide) (Nat.le_of_ble_eq_true rfl) (zdal_p dlA_Tokens_append_65 (i := 13) rfl) (fun N10_ hN10_ hsN10_ => ?_)
        have hf_N10_ : zFc d_ [(1, 1)] [3] [] [] Mz N10_ := hf_N2_.tr hsN10_ (by decide) (by decide) (by decide) (by decide)
        have hb0_N10_ : zFc d_ [(1, 1)] [3] [] [] Mz N10_ := hs3_.tr hsN10_ (by decide) (by decide) (by decide) (by decide)
        have eA1_1_N10_ : ze N10_ 1 1 = ze N2_ 1 1 := hsN10_.ea (hf_N2_.w hW) (by decide)
        refine zw_aload_n (pc := 25) (n := 0) (x := 1) rfl (zdal_p dlA_Tokens_append_65 (i := 14) rfl) ?_
        refine zw_dup (pc := 26) rfl (zdal_p dlA_Tokens_append_65 (i := 15) rfl) ?_
        refine zk_getI (pc := 27) f_Tokens_20 rfl ((hf_N10_.w hW).ka (o := 1) (by decide)) (zdal_p dlA_Tokens_append_65 (i := 16) rfl) ?_
        refine zw_iconst (pc := 30) (v := Int32.ofInt 1) (by decide) (zdal_p dlA_Tokens_append_65 (i := 17) rfl) ?_
        refine zr_iadd (pc := 31) (zdal_p dlA_Tokens_append_65 (i := 18) rfl) ?_
        refine zk_putA (pc := 32) (hf_N10_.w hW) (by decide) f_Tokens_20 rfl rfl ((hf_N10_.w hW).ka (o := 1) (by decide)) ⟨by omega, by omega⟩ rfl rfl (zdal_p dlA_Tokens_append_65 (i := 19) rfl) (fun N11_ hsN11_ hvN11_ => ?_)
        have hf_N11_ : zFc d_ [(1, 1)] [3] [] [] Mz N11_ := hf_N10_.tr hsN11_ (by decide) (by decide) (by decide) (by decide)
        have hb0_N11_ : zFc d_ [(1, 1)] [3] [] [] Mz N11_ := hb0_N10_.tr hsN11_ (by decide) (by decide) (by decide) (by decide)
        have rA1_1_N11_ := ze_r N11_ 1 1
        have hap2_ := zApI_s (P := N10_) (Q := N11_) hap_ (by omega) (by omega) rfl (by omega) ⟨by omega, by omega⟩ hN10_ (fun j_ => hsN11_.ra (hf_N10_.w hW) (by decide) j_)
        rw [show ze N2_ 1 1 + 1 = ze N11_ 1 1 by omega] at hap2_
        refine zr_iinc (pc := 35) (i := 2) (a := u1_) (n := -8) (L2 := [some (.ref 1), some (.int (Int32.ofInt a0_)), some (.int (Int32.ofInt (u1_ + (-8))))]) rfl (by decide) rfl (zdal_p dlA_Tokens_append_65 (i := 20) rfl) ?_
        refine zw_goto (pc := 38) (tgt := 3) (by decide) (zdal_p dlA_Tokens_append_65 (i := 21) rfl) ?_
        exact ih_3 (u1_ + (-8)) (by omega) (by omega) N11_ hb0_N11_ (show -8 ≤ (u1_ + (-8)) by first | assumption | omega) (show (u1_ + (-8)) ≤ 24 by first | assumption | omega) (show 8 * (ze N11_ 1 1 - ze Mz 1 1) = 24 - (u1_ + (-8)) by first | assumption | omega) (show zApI 3 (ze Mz 1 1) (ze N11_ 1 1) a0_ Mz N11_ by exact hap2_) (by omega)
  exact lp_3 _ 24 (by decide) (by decide) Mz zFc.rf (show -8 ≤ (24 : Int) by first | assumption | omega) (show (24 : Int) ≤ 24 by first | assumption | omega) (show 8 * (ze Mz 1 1 - ze Mz 1 1) = 24 - (24 : Int) by first | assumption | omega) (show zApI 3 (ze Mz 1 1) (ze Mz 1 1) a0_ Mz Mz by exact zApI_0) (Nat.lt_succ_self _)
set_option maxHeartbeats 4000000 in
theorem u_Reader_begin (l : Launch) (d_ : Nat) (Mz : zMem) (hW : zKW d_ Mz) (b_ : Nat → Int) (n_ : Nat) (p0_ : zYb b_ n_ Mz) : zC l m_Reader_begin 0 0 [.ref 4] Mz (zqcV d_ [(1, 2), (1, 3), (1, 4), (1, 5), (4, 2), (4, 3)] [] [] [] Mz (fun N => ze N 1 2 = (zru zpB b_ n_ 0 : Nat) ∧ zYt b_ n_ N)) := by
  refine zC_of (L0 := [some (.ref 4)]) md_Reader_begin (Nat.le_of_ble_eq_true rfl) rfl ?_ zQ0
  have hf : zFc d_ [(1, 2), (1, 3), (1, 4), (1, 5), (4, 2), (4, 3)] [] [] [] Mz Mz := zFc.rf
  have r_A1_2 := ze_r Mz 1 2
  have r_A4_2 := ze_r Mz 4 2
  have r_A4_3 := ze_r Mz 4 3
  refine zw_aload_n (pc := 0) (n := 0) (x := 4) rfl (zdal_p dlA_Reader_begin_70 (i := 0) rfl) ?_
  refine zw_iconst (pc := 1) (v := Int32.ofInt 0) (by decide) (zdal_p dlA_Reader_begin_70 (i := 1) rfl) ?_
  refine zk_putA (pc := 2) (hf.w hW) (by decide) f_Reader_19 rfl rfl ((hf.w hW).ka (o := 4) (by decide)) ⟨by omega, by omega⟩ rfl rfl (zdal_p dlA_Reader_begin_70 (i := 2) rfl) (fun N1_ hsN1_ hvN1_ => ?_)
  have hf_N1_ : zFc d_ [(1, 2), (1, 3), (1, 4), (1, 5), (4, 2), (4, 3)] [] [] [] Mz N1_ := hf.tr hsN1_ (by decide) (by decide) (by decide) (by decide)
  have eA1_2_N1_ : ze N1_ 1 2 = ze Mz 1 2 := hsN1_.ea (hf.w hW) (by decide)
  have rA4_2_N1_ := ze_r N1_ 4 2
  have eA4_3_N1_ : ze N1_ 4 3 = ze Mz 4 3 := hsN1_.ea (hf.w hW) (by decide)
  have c2_ : zYb b_ n_ N1_ := zYb.fr (hf.w hW) hsN1_ p0_ (by decide)
  refine zw_aload_n (pc := 5) (n := 0) (x := 4) rfl (zdal_p dlA_Reader_begin_70 (i := 3) rfl) ?_
  refine zw_iconst (pc := 6) (v := Int32.ofInt (-1)) (by decide) (zdal_p dlA_Reader_begin_70 (i := 4) rfl) ?_
  refine zk_putA (pc := 7) (hf_N1_.w hW) (by decide) f_Reader_9 rfl rfl ((hf_N1_.w hW).ka (o := 4) (by decide)) ⟨by omega, by omega⟩ rfl rfl (zdal_p dlA_Reader_begin_70 (i := 5) rfl) (fun N3_ hsN3_ hvN3_ => ?_)
  have hf_N3_ : zFc d_ [(1, 2), (1, 3), (1, 4), (1, 5), (4, 2), (4, 3)] [] [] [] Mz N3_ := hf_N1_.tr hsN3_ (by decide) (by decide) (by decide) (by decide)
  have eA1_2_N3_ : ze N3_ 1 2 = ze N1_ 1 2 := hsN3_.ea (hf_N1_.w hW) (by decide)
  have eA4_2_N3_ : ze N3_ 4 2 = ze N1_ 4 2 := hsN3_.ea (hf_N1_.w hW) (by decide)
  have rA4_3_N3_ := ze_r N3_ 4 3
  have c4_ : zYb b_ n_ N3_ := zYb.fr (hf_N1_.w hW) hsN3_ c2_ (by decide)
  refine zw_aload_n (pc := 10) (n := 0) (x := 4) rfl (zdal_p dlA_Reader_begin_70 (i := 6) rfl) ?_
  refine zw_getF (pc := 11) f_Reader_15 rfl ((hf_N3_.w hW).ka (o := 4) (by decide)) ((hf_N3_.w hW).la (o := 4) (s := 0) (r := 1) (by decide)) (zdal_p dlA_Reader_begin_70 (i := 7) rfl) ?_
  refine zk_callV hf_N3_.x (pc := 14) [] [] l_Reader_22 (u_Tokens_rewind l d_ N3_ (hf_N3_.w hW) b_ n_ c4_) rfl rfl ((hf_N3_.w hW).ka (o := 1) (by decide)) (by decide) (by decide) (Nat.le_of_ble_eq_true rfl) (zdal_p dlA_Reader_begin_70 (i := 8) rfl) ?_
  rintro _ N5_ ⟨rfl, hsN5_, ⟨hp0_N5_, hp1_N5_⟩⟩
  have hf_N5_ : zFc d_ [(1, 2), (1, 3), (1, 4), (1, 5), (4, 2), (4, 3)] [] [] [] Mz N5_ := hf_N3_.tr hsN5_ (by decide) (by decide) (by decide) (by decide)
  have rA1_2_N5_ := ze_r N5_ 1 2
  have eA4_2_N5_ : ze N5_ 4 2 = ze N3_ 4 2 := hsN5_.ea (hf_N3_.w hW) (by decide)
  have eA4_3_N5_ : ze N5_ 4 3 = ze N3_ 4 3 := hsN5_.ea (hf_N3_.w hW) (by decide)
  have c7_ : zYb b_ n_ N5_ := zYb.fr (hf_N3_.w hW) hsN5_ c4_ (by decide)
  show zW l m_Reader_begin (zn Mz + 0, zw Mz + 0) N5_ 17 [some (.ref 4)] [] _
  exact zk_vret (pc := 17) rfl hf_N5_ ⟨(show ze N5_ 1 2 = (zru zpB b_ n_ 0 : Nat) by first | assumption | omega), hp1_N5_⟩ (zdal_p dlA_Reader_begin_70 (i := 9) rfl)
set_option maxHeartbeats 4000000 in
theorem u_T_feed (l : Launch) (d_ : Nat) (Mz : zMem) (hW : zKW d_ Mz) (a0_ : Int) (ha0_a : -2147483648 ≤ a0_) (ha0_b : a0_ < 2147483648) (a1_ : Int) (ha1_a : -2147483648 ≤ a1_) (ha1_b : a1_ < 2147483648) (a2_ : Int) (ha2_a : -2147483648 ≤ a2_) (ha2_b : a2_ < 2147483648) (a3_ : Int) (ha3_a : -2147483648 ≤ a3_) (ha3_b : a3_ < 2147483648) (a4_ : Int) (ha4_a : -2147483648 ≤ a4_) (ha4_b : a4_ < 2147483648) (p0_ : 0 ≤ ze Mz 1 1) (p1_ : ze Mz 1 1 ≤ 700) : zC l m_T_feed 0 0 [.ref 0, .int (Int32.ofInt a0_), .int (Int32.ofInt a1_), .int (Int32.ofInt a2_), .int (Int32.ofInt a3_), .int (Int32.ofInt a4_)] Mz (zqcI d_ [(1, 1)] [3] [] [] Mz (fun v N => (((700 < ze Mz 1 1 + 20 ∧ v = -1 ∧ ze N 1 1 = ze Mz 1 1 ∧ (∀ j : Nat, ze N 3 j = ze Mz 3 j)) ∨ (ze Mz 1 1 + 20 ≤ 700 ∧ v = ze Mz 1 1 + 20 ∧ ze N 1 1 = ze Mz 1 1 + 20 ∧ (∀ j : Nat, ze N 3 j = zfd5 (fun j => ze Mz 3 j) (ze Mz 1 1) a0_ a1_ a2_ a3_ a4_ j)))))) := by
  refine zC_of (L0 := [some (.ref 0), some (.int (Int32.ofInt a0_)), some (.int (Int32.ofInt a1_)), some (.int (Int32.ofInt a2_)), some (.int (Int32.ofInt a3_)), some (.int (Int32.ofInt a4_))]) md_T_feed (Nat.le_of_ble_eq_true rfl) rfl ?_ zQ0
  have hf : zFc d_ [(1, 1)] [3] [] [] Mz Mz := zFc.rf
  have r_A1_1 := ze_r Mz 1 1
  refine zw_aload_n (pc := 0) (n := 0) (x := 0) rfl (zdal_p dlA_T_feed_63 (i := 0) rfl) ?_
  refine zw_getF (pc := 1) f_T_10 rfl ((hf.w hW).ka (o := 0) (by decide)) ((hf.w hW).la (o := 0) (s := 0) (r := 1) (by decide)) (zdal_p dlA_T_feed_63 (i := 1) rfl) ?_
  refine zk_getI (pc := 4) f_T_42 rfl ((hf.w hW).ka (o := 1) (by decide)) (zdal_p dlA_T_feed_63 (i := 2) rfl) ?_
  refine zw_bipush (pc := 7) (v := Int32.ofInt 20) (by decide) (zdal_p dlA_T_feed_63 (i := 3) rfl) ?_
  refine zr_iadd (pc := 9) (zdal_p dlA_T_feed_63 (i := 4) rfl) ?_
  refine zw_sipush (pc := 10) (v := Int32.ofInt 700) (by decide) (zdal_p dlA_T_feed_63 (i := 5) rfl) ?_
  refine zr_icmp_le (pc := 13) (tgt := 18) ⟨(by omega), (by omega)⟩ ⟨(by decide), (by decide)⟩ (by decide) (zdal_p dlA_T_feed_63 (i := 6) rfl) (fun hc_13 => ?_) (fun hc_13 => ?_)
  · skip
    refine zw_aload_n (pc := 18) (n := 0) (x := 0) rfl (zdal_p dlA_T_feed_63 (i := 9) rfl) ?_
    refine zw_getF (pc := 19) f_T_10 rfl ((hf.w hW).ka (o := 0) (by decide)) ((hf.w hW).la (o := 0) (s := 0) (r := 1) (by decide)) (zdal_p dlA_T_feed_63 (i := 10) rfl) ?_
    refine zw_iload_n (pc := 22) (n := 1) (x := Int32.ofInt a0_) rfl (zdal_p dlA_T_feed_63 (i := 11) rfl) ?_
    refine zk_callV hf.x (pc := 23) [.int (Int32.ofInt a0_)] [] l_T_46 (u_Tokens_appendF l d_ Mz (hf.w hW) a0_ ha0_a ha0_b (show 0 ≤ ze Mz 1 1 by first | assumption | omega) (show ze Mz 1 1 ≤ 696 by first | assumption | omega)) rfl rfl ((hf.w hW).ka (o := 1) (by decide)) (by decide) (by decide) (Nat.le_of_ble_eq_true rfl) (zdal_p dlA_T_feed_63 (i := 12) rfl) ?_
    rintro _ N1_ ⟨rfl, hsN1_, ⟨hp0_N1_, hp1_N1_⟩⟩
    have hf_N1_ : zFc d_ [(1, 1)] [3] [] [] Mz N1_ := hf.tr hsN1_ (by decide) (by decide) (by decide) (by decide)
    have rA1_1_N1_ := ze_r N1_ 1 1
    show zW l m_T_feed (zn Mz + 0, zw Mz + 0) N1_ 26 [some (.ref 0), some (.int (Int32.ofInt a0_)), some (.int (Int32.ofInt a1_)), some (.int (Int32.ofInt a2_)), some (.int (Int32.ofInt a3_)), some (.int (Int32.ofInt a4_))] [] _
    have hz1_ := funext hp1_N1_
    refine zw_aload_n (pc := 26) (n := 0) (x := 0) rfl (zdal_p dlA_T_feed_63 (i := 13) rfl) ?_
    refine zw_getF (pc := 27) f_T_10 rfl ((hf_N1_.w hW).ka (o := 0) (by decide)) ((hf_N1_.w hW).la (o := 0) (s := 0) (r := 1) (by decide)) (zdal_p dlA_T_feed_63 (i := 14) rfl) ?_
    refine zw_iload_n (pc := 30) (n := 2) (x := Int32.ofInt a1_) rfl (zdal_p dlA_T_feed_63 (i := 15) rfl) ?_
    refine zk_callV hf_N1_.x (pc := 31) [.int (Int32.ofInt a1_)] [] l_T_46 (u_Tokens_appendF l d_ N1_ (hf_N1_.w hW) a1_ ha1_a ha1_b (show 0 ≤ ze N1_ 1 1 by first | assumption | omega) (show ze N1_ 1 1 ≤ 696 by first | assumption | omega)) rfl rfl ((hf_N1_.w hW).ka (o := 1) (by decide)) (by decide) (by decide) (Nat.le_of_ble_eq_true rfl) (zdal_p dlA_T_feed_63 (i := 16) rfl) ?_
    rintro _ N3_ ⟨rfl, hsN3_, ⟨hp0_N3_, hp1_N3_⟩⟩
    have hf_N3_ : zFc d_ [(1, 1)] [3] [] [] Mz N3_ := hf_N1_.tr hsN3_ (by decide) (by decide) (by decide) (by decide)
    have rA1_1_N3_ := ze_r N3_ 1 1
    show zW l m_T_feed (zn Mz + 0, zw Mz + 0) N3_ 34 [some (.ref 0), some (.int (Int32.ofInt a0_)), some (.int (Int32.ofInt a1_)), some (.int (Int32.ofInt a2_)), some (.int (Int32.ofInt a3_)), some (.int (Int32.ofInt a4_))] [] _
    have hz2_ := funext hp1_N3_
    rw [show ze N1_ 1 1 = ze Mz 1 1 + 4 by omega, hz1_] at hz2_
    refine zw_aload_n (pc := 34) (n := 0) (x := 0) rfl (zdal_p dlA_T_feed_63 (i := 17) rfl) ?_
    refine zw_getF (pc := 35) f_T_10 rfl ((hf_N3_.w hW).ka (o := 0) (by decide)) ((hf_N3_.w hW).la (o := 0) (s := 0) (r := 1) (by decide)) (zdal_p dlA_T_feed_63 (i := 18) rfl) ?_
    refine zw_iload_n (pc := 38) (n := 3) (x := Int32.ofInt a2_) rfl (zdal_p dlA_T_feed_63 (i := 19) rfl) ?_
    refine zk_callV hf_N3_.x (pc := 39) [.int (Int32.ofInt a2_)] [] l_T_46 (u_Tokens_appendF l d_ N3_ (hf_N3_.w hW) a2_ ha2_a ha2_b (show 0 ≤ ze N3_ 1 1 by first | assumption | omega) (show ze N3_ 1 1 ≤ 696 by first | assumption | omega)) rfl rfl ((hf_N3_.w hW).ka (o := 1) (by decide)) (by decide) (by decide) (Nat.le_of_ble_eq_true rfl) (zdal_p dlA_T_feed_63 (i := 20) rfl) ?_
    rintro _ N5_ ⟨rfl, hsN5_, ⟨hp0_N5_, hp1_N5_⟩⟩
    have hf_N5_ : zFc d_ [(1, 1)] [3] [] [] Mz N5_ := hf_N3_.tr hsN5_ (by decide) (by decide) (by decide) (by decide)
    have rA1_1_N5_ := ze_r N5_ 1 1
    show zW l m_T_feed (zn Mz + 0, zw Mz + 0) N5_ 42 [some (.ref 0), some (.int (Int32.ofInt a0_)), some (.int (Int32.ofInt a1_)), some (.int (Int32.ofInt a2_)), some (.int (Int32.ofInt a3_)), some (.int (Int32.ofInt a4_))] [] _
    have hz3_ := funext hp1_N5_
    rw [show ze N3_ 1 1 = ze Mz 1 1 + 8 by omega, hz2_] at hz3_
    refine zw_aload_n (pc := 42) (n := 0) (x := 0) rfl (zdal_p dlA_T_feed_63 (i := 21) rfl) ?_
    refine zw_getF (pc := 43) f_T_10 rfl ((hf_N5_.w hW).ka (o := 0) (by decide)) ((hf_N5_.w hW).la (o := 0) (s := 0) (r := 1) (by decide)) (zdal_p dlA_T_feed_63 (i := 22) rfl) ?_
    refine zw_iload (pc := 46) (i := 4) (x := Int32.ofInt a3_) rfl (zdal_p dlA_T_feed_63 (i := 23) rfl) ?_
    refine zk_callV hf_N5_.x (pc := 48) [.int (Int32.ofInt a3_)] [] l_T_46 (u_Tokens_appendF l d_ N5_ (hf_N5_.w hW) a3_ ha3_a ha3_b (show 0 ≤ ze N5_ 1 1 by first | assumption | omega) (show ze N5_ 1 1 ≤ 696 by first | assumption | omega)) rfl rfl ((hf_N5_.w hW).ka (o := 1) (by decide)) (by decide) (by decide) (Nat.le_of_ble_eq_true rfl) (zdal_p dlA_T_feed_64 (i := 0) rfl) ?_
    rintro _ N7_ ⟨rfl, hsN7_, ⟨hp0_N7_, hp1_N7_⟩⟩
    have hf_N7_ : zFc d_ [(1, 1)] [3] [] [] Mz N7_ := hf_N5_.tr hsN7_ (by decide) (by decide) (by decide) (by decide)
    have rA1_1_N7_ := ze_r N7_ 1 1
    show zW l m_T_feed (zn Mz + 0, zw Mz + 0) N7_ 51 [some (.ref 0), some (.int (Int32.ofInt a0_)), some (.int (Int32.ofInt a1_)), some (.int (Int32.ofInt a2_)), some (.int (Int32.ofInt a3_)), some (.int (Int32.ofInt a4_))] [] _
    have hz4_ := funext hp1_N7_
    rw [show ze N5_ 1 1 = ze Mz 1 1 + 12 by omega, hz3_] at hz4_
    refine zw_aload_n (pc := 51) (n := 0) (x := 0) rfl (zdal_p dlA_T_feed_64 (i := 1) rfl) ?_
    refine zw_getF (pc := 52) f_T_10 rfl ((hf_N7_.w hW).ka (o := 0) (by decide)) ((hf_N7_.w hW).la (o := 0) (s := 0) (r := 1) (by decide)) (zdal_p dlA_T_feed_64 (i := 2) rfl) ?_
    refine zw_iload (pc := 55) (i := 5) (x := Int32.ofInt a4_) rfl (zdal_p dlA_T_feed_64 (i := 3) rfl) ?_
    refine zk_callV hf_N7_.x (pc := 57) [.int (Int32.ofInt a4_)] [] l_T_46 (u_Tokens_appendF l d_ N7_ (hf_N7_.w hW) a4_ ha4_a ha4_b (show 0 ≤ ze N7_ 1 1 by first | assumption | omega) (show ze N7_ 1 1 ≤ 696 by first | assumption | omega)) rfl rfl ((hf_N7_.w hW).ka (o := 1) (by decide)) (by decide) (by decide) (Nat.le_of_ble_eq_true rfl) (zdal_p dlA_T_feed_64 (i := 4) rfl) ?_
    rintro _ N9_ ⟨rfl, hsN9_, ⟨hp0_N9_, hp1_N9_⟩⟩
    have hf_N9_ : zFc d_ [(1, 1)] [3] [] [] Mz N9_ := hf_N7_.tr hsN9_ (by decide) (by decide) (by decide) (by decide)
    have rA1_1_N9_ := ze_r N9_ 1 1
    show zW l m_T_feed (zn Mz + 0, zw Mz + 0) N9_ 60 [some (.ref 0), some (.int (Int32.ofInt a0_)), some (.int (Int32.ofInt a1_)), some (.int (Int32.ofInt a2_)), some (.int (Int32.ofInt a3_)), some (.int (Int32.ofInt a4_))] [] _
    have hz5_ := funext hp1_N9_
    rw [show ze N7_ 1 1 = ze Mz 1 1 + 16 by omega, hz4_] at hz5_
    refine zw_aload_n (pc := 60) (n := 0) (x := 0) rfl (zdal_p dlA_T_feed_64 (i := 5) rfl) ?_
    refine zw_getF (pc := 61) f_T_10 rfl ((hf_N9_.w hW).ka (o := 0) (by decide)) ((hf_N9_.w hW).la (o := 0) (s := 0) (r := 1) (by decide)) (zdal_p dlA_T_feed_64 (i := 6) rfl) ?_
    refine zk_getI (pc := 64) f_T_42 rfl ((hf_N9_.w hW).ka (o := 1) (by decide)) (zdal_p dlA_T_feed_64 (i := 7) rfl) ?_
    exact zk_iret (pc := 67) (ty := .int) rfl rfl ⟨by omega, by omega⟩ hf_N9_ (show ((700 < ze Mz 1 1 + 20 ∧ (ze N9_ 1 1) = -1 ∧ ze N9_ 1 1 = ze Mz 1 1 ∧ (∀ j : Nat, ze N9_ 3 j = ze Mz 3 j)) ∨ (ze Mz 1 1 + 20 ≤ 700 ∧ (ze N9_ 1 1) = ze Mz 1 1 + 20 ∧ ze N9_ 1 1 = ze Mz 1 1 + 20 ∧ (∀ j : Nat, ze N9_ 3 j = zfd5 (fun j => ze Mz 3 j) (ze Mz 1 1) a0_ a1_ a2_ a3_ a4_ j))) by first | exact Or.inl ⟨by omega, by omega, rfl, fun j => rfl⟩ | exact Or.inr ⟨by omega, by omega, by omega, fun j => congrFun hz5_ j⟩) (zdal_p dlA_T_feed_64 (i := 8) rfl)
  · skip
    refine zw_iconst (pc := 16) (v := Int32.ofInt (-1)) (by decide) (zdal_p dlA_T_feed_63 (i := 7) rfl) ?_
    exact zk_iret (pc := 17) (ty := .int) rfl rfl ⟨by omega, by omega⟩ hf (show ((700 < ze Mz 1 1 + 20 ∧ ((-1)) = -1 ∧ ze Mz 1 1 = ze Mz 1 1 ∧ (∀ j : Nat, ze Mz 3 j = ze Mz 3 j)) ∨ (ze Mz 1 1 + 20 ≤ 700 ∧ ((-1)) = ze Mz 1 1 + 20 ∧ ze Mz 1 1 = ze Mz 1 1 + 20 ∧ (∀ j : Nat, ze Mz 3 j = zfd5 (fun j => ze Mz 3 j) (ze Mz 1 1) a0_ a1_ a2_ a3_ a4_ j))) by first | exact Or.inl ⟨by omega, by omega, rfl, fun j => rfl⟩ | exact Or.inr ⟨by omega, by omega, by omega, fun j => congrFun hz5_ j⟩) (zdal_p dlA_T_feed_63 (i := 8) rfl)
set_option maxHeartbeats 4000000 in
theorem u_T_end (l : Launch) (d_ : Nat) (Mz : zMem) (hW : zKW d_ Mz) (a0_ : Int) (ha0_a : -2147483648 ≤ a0_) (ha0_b : a0_ < 2147483648) : zC l m_T_end 0 0 [.ref 0, .int (Int32.ofInt a0_)] Mz (zqcI d_ [(1, 1)] [] [] [] Mz (fun v N => ((((a0_ < 0 ∨ ze Mz 1 1 < a0_) ∧ v = -1 ∧ ze N 1 1 = ze Mz 1 1) ∨ (0 ≤ a0_ ∧ a0_ ≤ ze Mz 1 1 ∧ v = a0_ ∧ ze N 1 1 = a0_))))) := by
  refine zC_of (L0 := [some (.ref 0), some (.int (Int32.ofInt a0_))]) md_T_end (Nat.le_of_ble_eq_true rfl) rfl ?_ zQ0
  have hf : zFc d_ [(1, 1)] [] [] [] Mz Mz := zFc.rf
  have r_A1_1 := ze_r Mz 1 1
  refine zw_iload_n (pc := 0) (n := 1) (x := Int32.ofInt a0_) rfl (zdal_p dlA_T_end_66 (i := 0) rfl) ?_
  refine zr_if_lt (pc := 1) (tgt := 15) ⟨ha0_a, ha0_b⟩ (by decide) (zdal_p dlA_T_end_66 (i := 1) rfl) (fun hc_1 => ?_) (fun hc_1 => ?_)
  · skip
    refine zw_iconst (pc := 15) (v := Int32.ofInt (-1)) (by decide) (zdal_p dlA_T_end_66 (i := 7) rfl) ?_
    exact zk_iret (pc := 16) (ty := .int) rfl rfl ⟨by omega, by omega⟩ hf (show (((a0_ < 0 ∨ ze Mz 1 1 < a0_) ∧ ((-1)) = -1 ∧ ze Mz 1 1 = ze Mz 1 1) ∨ (0 ≤ a0_ ∧ a0_ ≤ ze Mz 1 1 ∧ ((-1)) = a0_ ∧ ze Mz 1 1 = a0_)) by first | assumption | omega) (zdal_p dlA_T_end_66 (i := 8) rfl)
  · skip
    refine zw_iload_n (pc := 4) (n := 1) (x := Int32.ofInt a0_) rfl (zdal_p dlA_T_end_66 (i := 2) rfl) ?_
    refine zw_aload_n (pc := 5) (n := 0) (x := 0) rfl (zdal_p dlA_T_end_66 (i := 3) rfl) ?_
    refine zw_getF (pc := 6) f_T_10 rfl ((hf.w hW).ka (o := 0) (by decide)) ((hf.w hW).la (o := 0) (s := 0) (r := 1) (by decide)) (zdal_p dlA_T_end_66 (i := 4) rfl) ?_
    refine zk_getI (pc := 9) f_T_42 rfl ((hf.w hW).ka (o := 1) (by decide)) (zdal_p dlA_T_end_66 (i := 5) rfl) ?_
    refine zr_icmp_le (pc := 12) (tgt := 17) ⟨ha0_a, ha0_b⟩ ⟨(ze_r Mz 1 1).1, (ze_r Mz 1 1).2⟩ (by decide) (zdal_p dlA_T_end_66 (i := 6) rfl) (fun hc_12 => ?_) (fun hc_12 => ?_)
    · skip
      refine zw_aload_n (pc := 17) (n := 0) (x := 0) rfl (zdal_p dlA_T_end_66 (i := 9) rfl) ?_
      refine zw_getF (pc := 18) f_T_10 rfl ((hf.w hW).ka (o := 0) (by decide)) ((hf.w hW).la (o := 0) (s := 0) (r := 1) (by decide)) (zdal_p dlA_T_end_66 (i := 10) rfl) ?_
      refine zw_iload_n (pc := 21) (n := 1) (x := Int32.ofInt a0_) rfl (zdal_p dlA_T_end_66 (i := 11) rfl) ?_
      refine zk_putA (pc := 22) (hf.w hW) (by decide) f_T_42 rfl rfl ((hf.w hW).ka (o := 1) (by decide)) ⟨by omega, by omega⟩ rfl rfl (zdal_p dlA_T_end_66 (i := 12) rfl) (fun N1_ hsN1_ hvN1_ => ?_)
      have hf_N1_ : zFc d_ [(1, 1)] [] [] [] Mz N1_ := hf.tr hsN1_ (by decide) (by decide) (by decide) (by decide)
      have rA1_1_N1_ := ze_r N1_ 1 1
      refine zw_iload_n (pc := 25) (n := 1) (x := Int32.ofInt a0_) rfl (zdal_p dlA_T_end_66 (i := 13) rfl) ?_
      exact zk_iret (pc := 26) (ty := .int) rfl rfl ⟨by omega, by omega⟩ hf_N1_ (show (((a0_ < 0 ∨ ze Mz 1 1 < a0_) ∧ a0_ = -1 ∧ ze N1_ 1 1 = ze Mz 1 1) ∨ (0 ≤ a0_ ∧ a0_ ≤ ze Mz 1 1 ∧ a0_ = a0_ ∧ ze N1_ 1 1 = a0_)) by first | assumption | omega) (zdal_p dlA_T_end_66 (i := 14) rfl)
    · skip
      refine zw_iconst (pc := 15) (v := Int32.ofInt (-1)) (by decide) (zdal_p dlA_T_end_66 (i := 7) rfl) ?_
      exact zk_iret (pc := 16) (ty := .int) rfl rfl ⟨by omega, by omega⟩ hf (show (((a0_ < 0 ∨ ze Mz 1 1 < a0_) ∧ ((-1)) = -1 ∧ ze Mz 1 1 = ze Mz 1 1) ∨ (0 ≤ a0_ ∧ a0_ ≤ ze Mz 1 1 ∧ ((-1)) = a0_ ∧ ze Mz 1 1 = a0_)) by first | assumption | omega) (zdal_p dlA_T_end_66 (i := 8) rfl)
