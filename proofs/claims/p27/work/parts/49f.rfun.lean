set_option maxHeartbeats 4000000 in
theorem c_M_beginsF (l : Launch) (Mz : zMem) (hW : zMt Mz) (b_ : Nat → Int) (n_ : Nat) (p0_ : zRp b_ n_ Mz) : zC l m_M_begins 0 0 [.ref 81] Mz (zpV [1, 2, 3, 4, 5, 6, 7, 8, 11] [] Mz (fun N => zRb b_ n_ N ∧ zRt b_ n_ N ∧ ze N 81 4 = (zru zpB b_ n_ 0 : Nat) ∧ ze N 81 7 = 0 ∧ ze N 81 1 = 0)) := by
  refine zC_of (L0 := [some (.ref 81)]) md_M_begins (Nat.le_of_ble_eq_true rfl) rfl ?_ zQ0
  have hf : zFr [1, 2, 3, 4, 5, 6, 7, 8, 11] [] Mz Mz := zFr.rf
  have r_1 := ze_r Mz 81 1
  have r_2 := ze_r Mz 81 2
  have r_3 := ze_r Mz 81 3
  have r_4 := ze_r Mz 81 4
  have r_7 := ze_r Mz 81 7
  have r_8 := ze_r Mz 81 8
  obtain ⟨hq1_, hq2_, hq3_, hq4_⟩ := id p0_
  refine zw_aload_n (pc := 0) (n := 0) (x := 81) rfl (zdal_p dlC_M_begins_59 (i := 0) rfl) ?_
  refine zw_aload_n (pc := 1) (n := 0) (x := 81) rfl (zdal_p dlC_M_begins_59 (i := 1) rfl) ?_
  refine zr_getI (hf.w hW) (pc := 2) f_M_124 rfl (zdal_p dlC_M_begins_59 (i := 2) rfl) ?_
  refine zr_putI (hf.w hW) (pc := 5) f_M_138 rfl rfl ⟨by omega, by omega⟩ rfl rfl (zdal_p dlC_M_begins_59 (i := 3) rfl) (fun N1_ hsN1_ hvN1_ => ?_)
  have hf_N1_ : zFr [1, 2, 3, 4, 5, 6, 7, 8, 11] [] Mz N1_ := hf.tr hsN1_ (by decide) (by decide)
  have e1_N1_ : ze N1_ 81 1 = ze Mz 81 1 := hsN1_.e (by decide)
  have r2_N1_ := ze_r N1_ 81 2
  have e3_N1_ : ze N1_ 81 3 = ze Mz 81 3 := hsN1_.e (by decide)
  have e4_N1_ : ze N1_ 81 4 = ze Mz 81 4 := hsN1_.e (by decide)
  have e7_N1_ : ze N1_ 81 7 = ze Mz 81 7 := hsN1_.e (by decide)
  have e8_N1_ : ze N1_ 81 8 = ze Mz 81 8 := hsN1_.e (by decide)
  have c2_ : zRp b_ n_ N1_ := zRp.fr hsN1_ p0_ (by decide) (by decide)
  refine zw_aload_n (pc := 8) (n := 0) (x := 81) rfl (zdal_p dlC_M_begins_59 (i := 4) rfl) ?_
  refine zw_iconst (pc := 9) (v := Int32.ofInt 0) (by decide) (zdal_p dlC_M_begins_59 (i := 5) rfl) ?_
  refine zr_putI (hf_N1_.w hW) (pc := 10) f_M_124 rfl rfl ⟨by omega, by omega⟩ rfl rfl (zdal_p dlC_M_begins_59 (i := 6) rfl) (fun N3_ hsN3_ hvN3_ => ?_)
  have hf_N3_ : zFr [1, 2, 3, 4, 5, 6, 7, 8, 11] [] Mz N3_ := hf_N1_.tr hsN3_ (by decide) (by decide)
  have r1_N3_ := ze_r N3_ 81 1
  have e2_N3_ : ze N3_ 81 2 = ze N1_ 81 2 := hsN3_.e (by decide)
  have e3_N3_ : ze N3_ 81 3 = ze N1_ 81 3 := hsN3_.e (by decide)
  have e4_N3_ : ze N3_ 81 4 = ze N1_ 81 4 := hsN3_.e (by decide)
  have e7_N3_ : ze N3_ 81 7 = ze N1_ 81 7 := hsN3_.e (by decide)
  have e8_N3_ : ze N3_ 81 8 = ze N1_ 81 8 := hsN3_.e (by decide)
  refine zw_aload_n (pc := 13) (n := 0) (x := 81) rfl (zdal_p dlC_M_begins_59 (i := 7) rfl) ?_
  refine zw_iconst (pc := 14) (v := Int32.ofInt 0) (by decide) (zdal_p dlC_M_begins_59 (i := 8) rfl) ?_
  refine zr_putI (hf_N3_.w hW) (pc := 15) f_M_135 rfl rfl ⟨by omega, by omega⟩ rfl rfl (zdal_p dlC_M_begins_59 (i := 9) rfl) (fun N4_ hsN4_ hvN4_ => ?_)
  have hf_N4_ : zFr [1, 2, 3, 4, 5, 6, 7, 8, 11] [] Mz N4_ := hf_N3_.tr hsN4_ (by decide) (by decide)
  have e1_N4_ : ze N4_ 81 1 = ze N3_ 81 1 := hsN4_.e (by decide)
  have e2_N4_ : ze N4_ 81 2 = ze N3_ 81 2 := hsN4_.e (by decide)
  have r3_N4_ := ze_r N4_ 81 3
  have e4_N4_ : ze N4_ 81 4 = ze N3_ 81 4 := hsN4_.e (by decide)
  have e7_N4_ : ze N4_ 81 7 = ze N3_ 81 7 := hsN4_.e (by decide)
  have e8_N4_ : ze N4_ 81 8 = ze N3_ 81 8 := hsN4_.e (by decide)
  refine zw_aload_n (pc := 18) (n := 0) (x := 81) rfl (zdal_p dlC_M_begins_59 (i := 10) rfl) ?_
  refine zw_iconst (pc := 19) (v := Int32.ofInt 0) (by decide) (zdal_p dlC_M_begins_59 (i := 11) rfl) ?_
  refine zr_putI (hf_N4_.w hW) (pc := 20) f_M_172 rfl rfl ⟨by omega, by omega⟩ rfl rfl (zdal_p dlC_M_begins_59 (i := 12) rfl) (fun N5_ hsN5_ hvN5_ => ?_)
  have hf_N5_ : zFr [1, 2, 3, 4, 5, 6, 7, 8, 11] [] Mz N5_ := hf_N4_.tr hsN5_ (by decide) (by decide)
  have e1_N5_ : ze N5_ 81 1 = ze N4_ 81 1 := hsN5_.e (by decide)
  have e2_N5_ : ze N5_ 81 2 = ze N4_ 81 2 := hsN5_.e (by decide)
  have e3_N5_ : ze N5_ 81 3 = ze N4_ 81 3 := hsN5_.e (by decide)
  have e4_N5_ : ze N5_ 81 4 = ze N4_ 81 4 := hsN5_.e (by decide)
  have r7_N5_ := ze_r N5_ 81 7
  have e8_N5_ : ze N5_ 81 8 = ze N4_ 81 8 := hsN5_.e (by decide)
  refine zw_aload_n (pc := 23) (n := 0) (x := 81) rfl (zdal_p dlC_M_begins_59 (i := 13) rfl) ?_
  refine zw_iconst (pc := 24) (v := Int32.ofInt (-1)) (by decide) (zdal_p dlC_M_begins_59 (i := 14) rfl) ?_
  refine zr_putI (hf_N5_.w hW) (pc := 25) f_M_13 rfl rfl ⟨by omega, by omega⟩ rfl rfl (zdal_p dlC_M_begins_59 (i := 15) rfl) (fun N6_ hsN6_ hvN6_ => ?_)
  have hf_N6_ : zFr [1, 2, 3, 4, 5, 6, 7, 8, 11] [] Mz N6_ := hf_N5_.tr hsN6_ (by decide) (by decide)
  have e1_N6_ : ze N6_ 81 1 = ze N5_ 81 1 := hsN6_.e (by decide)
  have e2_N6_ : ze N6_ 81 2 = ze N5_ 81 2 := hsN6_.e (by decide)
  have e3_N6_ : ze N6_ 81 3 = ze N5_ 81 3 := hsN6_.e (by decide)
  have e4_N6_ : ze N6_ 81 4 = ze N5_ 81 4 := hsN6_.e (by decide)
  have e7_N6_ : ze N6_ 81 7 = ze N5_ 81 7 := hsN6_.e (by decide)
  have r8_N6_ := ze_r N6_ 81 8
  have hrb_ : zRb b_ n_ N6_ := ⟨by omega, hq2_, hq3_, fun k_ hk_ => (hf_N6_.ie (by decide) (by decide) k_).trans (hq4_ k_ hk_)⟩
  refine zw_aload_n (pc := 28) (n := 0) (x := 81) rfl (zdal_p dlC_M_begins_59 (i := 16) rfl) ?_
  refine zr_callV (hf_N6_.w hW) hf_N6_.x (pc := 29) [] [] l_M_193 (c_M_goOnF l N6_ (hf_N6_.w hW) b_ n_ hrb_ (show 0 ≤ ze N6_ 81 3 by first | assumption | omega) (show ze N6_ 81 3 ≤ n_ by first | assumption | omega)) rfl rfl rfl (by decide) (Nat.le_of_ble_eq_true rfl) (zdal_p dlC_M_begins_59 (i := 17) rfl) ?_
  rintro _ N7_ ⟨rfl, hsN7_, ⟨hp0_N7_, hp1_N7_⟩⟩
  have hf_N7_ : zFr [1, 2, 3, 4, 5, 6, 7, 8, 11] [] Mz N7_ := hf_N6_.tr hsN7_ (by decide) (by decide)
  have e1_N7_ : ze N7_ 81 1 = ze N6_ 81 1 := hsN7_.e (by decide)
  have e2_N7_ : ze N7_ 81 2 = ze N6_ 81 2 := hsN7_.e (by decide)
  have r3_N7_ := ze_r N7_ 81 3
  have r4_N7_ := ze_r N7_ 81 4
  have e7_N7_ : ze N7_ 81 7 = ze N6_ 81 7 := hsN7_.e (by decide)
  have e8_N7_ : ze N7_ 81 8 = ze N6_ 81 8 := hsN7_.e (by decide)
  have c9_ : zRb b_ n_ N7_ := zRb.fr hsN7_ hrb_ (by decide) (by decide)
  show zW l m_M_begins (zn Mz + 0, zw Mz + 0) N7_ 32 [some (.ref 81)] [] _
  have hq0_ := hp0_N7_
  rw [show (ze N6_ 81 3).toNat = 0 by omega] at hq0_
  exact zr_vret (pc := 32) rfl hf_N7_ ⟨c9_, hp1_N7_, (show ze N7_ 81 4 = (zru zpB b_ n_ 0 : Nat) by exact hq0_), (show ze N7_ 81 7 = 0 by first | assumption | omega), (show ze N7_ 81 1 = 0 by first | assumption | omega)⟩ (zdal_p dlC_M_begins_59 (i := 18) rfl)
set_option maxHeartbeats 4000000 in
theorem c_M_fourF (l : Launch) (Mz : zMem) (hW : zMt Mz) (a0_ : Int) (ha0_a : -2147483648 ≤ a0_) (ha0_b : a0_ < 2147483648) (p0_ : 0 ≤ ze Mz 81 1) (p1_ : ze Mz 81 1 ≤ 696) : zC l m_M_four 0 0 [.ref 81, .int (Int32.ofInt a0_)] Mz (zpV [1] [82] Mz (fun N => ze N 81 1 = ze Mz 81 1 + 4 ∧ (∀ j : Nat, ze N 82 j = zap (fun j => ze Mz 82 j) (ze Mz 81 1) a0_ j))) := by
  refine zC_of (L0 := [some (.ref 81), some (.int (Int32.ofInt a0_)), none]) md_M_four (Nat.le_of_ble_eq_true rfl) rfl ?_ zQ0
  have hf : zFr [1] [82] Mz Mz := zFr.rf
  have r_1 := ze_r Mz 81 1
  refine zw_bipush (pc := 0) (v := Int32.ofInt 24) (by decide) (zdal_p dlC_M_four_54 (i := 0) rfl) ?_
  refine zw_istore_n (pc := 2) (i := 2) (L2 := [some (.ref 81), some (.int (Int32.ofInt a0_)), some (.int (Int32.ofInt 24))]) rfl (by decide) rfl (zdal_p dlC_M_four_54 (i := 1) rfl) ?_
  have lp_3 : ∀ (n : Nat) (u1_ : Int) (hu1_a : -2147483648 ≤ u1_) (hu1_b : u1_ < 2147483648) (N2_ : zMem) (hs3_ : zFr [1] [82] Mz N2_) (i4_ : -8 ≤ u1_) (i5_ : u1_ ≤ 24) (i6_ : 8 * (ze N2_ 81 1 - ze Mz 81 1) = 24 - u1_) (i7_ : zApI 82 (ze Mz 81 1) (ze N2_ 81 1) a0_ Mz N2_), (u1_ + 8).toNat < n → zW l m_M_four (zn Mz + 0, zw Mz + 0) N2_ 3 [some (.ref 81), some (.int (Int32.ofInt a0_)), some (.int (Int32.ofInt u1_))] [] (zpV [1] [82] Mz (fun N => ze N 81 1 = ze Mz 81 1 + 4 ∧ (∀ j : Nat, ze N 82 j = zap (fun j => ze Mz 82 j) (ze Mz 81 1) a0_ j))) := by
    intro n
    induction n with
    | zero =>
      intro u1_ hu1_a hu1_b N2_ hs3_ i4_ i5_ i6_ i7_ h0
      exact absurd h0 (Nat.not_lt_zero _)
    | succ n ih_3 =>
      intro u1_ hu1_a hu1_b N2_ hs3_ i4_ i5_ i6_ i7_ hlt_3
      have hf_N2_ : zFr [1] [82] Mz N2_ := hf.tr hs3_ (by decide) (by decide)
      have r1_N2_ := ze_r N2_ 81 1
      have hap_ := (show zApI 82 (ze Mz 81 1) (ze N2_ 81 1) a0_ Mz N2_ by assumption)
      refine zw_iload_n (pc := 3) (n := 2) (x := Int32.ofInt u1_) rfl (zdal_p dlC_M_four_54 (i := 2) rfl) ?_
      refine zr_if_lt (pc := 4) (tgt := 39) ⟨hu1_a, hu1_b⟩ (by decide) (zdal_p dlC_M_four_54 (i := 3) rfl) (fun hc_4 => ?_) (fun hc_4 => ?_)
      · skip
        exact zr_vret (pc := 39) rfl hf_N2_ ⟨(show ze N2_ 81 1 = ze Mz 81 1 + 4 by first | assumption | omega), (show (∀ j : Nat, ze N2_ 82 j = zap (fun j => ze Mz 82 j) (ze Mz 81 1) a0_ j) by exact zApI_e hap_ (by omega))⟩ (zdal_p dlC_M_four_54 (i := 22) rfl)
      · skip
        refine zw_aload_n (pc := 7) (n := 0) (x := 81) rfl (zdal_p dlC_M_four_54 (i := 4) rfl) ?_
        refine zr_getF (r := 82) (hf_N2_.w hW) (pc := 8) f_M_7 rfl (zh_82 (hf_N2_.w hW)).1 (zdal_p dlC_M_four_54 (i := 5) rfl) ?_
        refine zw_aload_n (pc := 11) (n := 0) (x := 81) rfl (zdal_p dlC_M_four_54 (i := 6) rfl) ?_
        refine zr_getI (hf_N2_.w hW) (pc := 12) f_M_124 rfl (zdal_p dlC_M_four_54 (i := 7) rfl) ?_
        refine zw_iload_n (pc := 15) (n := 1) (x := Int32.ofInt a0_) rfl (zdal_p dlC_M_four_54 (i := 8) rfl) ?_
        refine zw_iload_n (pc := 16) (n := 2) (x := Int32.ofInt u1_) rfl (zdal_p dlC_M_four_54 (i := 9) rfl) ?_
        refine zr_ishr (pc := 17) (zdal_p dlC_M_four_54 (i := 10) rfl) ?_
        have hr8_ := zshr_r a0_ u1_
        refine zw_sipush (pc := 18) (v := Int32.ofInt 255) (by decide) (zdal_p dlC_M_four_54 (i := 11) rfl) ?_
        refine zr_iand (pc := 21) (zdal_p dlC_M_four_54 (i := 12) rfl) ?_
        have hr9_ := zand_r (zshr a0_ u1_) 255
        refine zr_iast (pc := 22) (zh_82 (hf_N2_.w hW)).2 (by decide) (by decide) (by omega) (by omega) (zdal_p dlC_M_four_54 (i := 13) rfl) (fun N10_ hN10_ hsN10_ => ?_)
        have hf_N10_ : zFr [1] [82] Mz N10_ := hf_N2_.tr hsN10_ (by decide) (by decide)
        have hb0_N10_ : zFr [1] [82] Mz N10_ := hs3_.tr hsN10_ (by decide) (by decide)
        have e1_N10_ : ze N10_ 81 1 = ze N2_ 81 1 := hsN10_.e (by decide)
        refine zw_aload_n (pc := 23) (n := 0) (x := 81) rfl (zdal_p dlC_M_four_54 (i := 14) rfl) ?_
        refine zw_dup (pc := 24) rfl (zdal_p dlC_M_four_54 (i := 15) rfl) ?_
        refine zr_getI (hf_N10_.w hW) (pc := 25) f_M_124 rfl (zdal_p dlC_M_four_54 (i := 16) rfl) ?_
        refine zw_iconst (pc := 28) (v := Int32.ofInt 1) (by decide) (zdal_p dlC_M_four_54 (i := 17) rfl) ?_
        refine zr_iadd (pc := 29) (zdal_p dlC_M_four_54 (i := 18) rfl) ?_
        refine zr_putI (hf_N10_.w hW) (pc := 30) f_M_124 rfl rfl ⟨by omega, by omega⟩ rfl rfl (zdal_p dlC_M_four_54 (i := 19) rfl) (fun N11_ hsN11_ hvN11_ => ?_)
        have hf_N11_ : zFr [1] [82] Mz N11_ := hf_N10_.tr hsN11_ (by decide) (by decide)
        have hb0_N11_ : zFr [1] [82] Mz N11_ := hb0_N10_.tr hsN11_ (by decide) (by decide)
        have r1_N11_ := ze_r N11_ 81 1
        have hap2_ := zApI_s (P := N10_) (Q := N11_) hap_ (by omega) (by omega) rfl (by omega) ⟨by omega, by omega⟩ hN10_ (fun j_ => hsN11_.ie (by decide) (by decide) j_)
        rw [show ze N2_ 81 1 + 1 = ze N11_ 81 1 by omega] at hap2_
        refine zr_iinc (pc := 33) (i := 2) (a := u1_) (n := -8) (L2 := [some (.ref 81), some (.int (Int32.ofInt a0_)), some (.int (Int32.ofInt (u1_ + (-8))))]) rfl (by decide) rfl (zdal_p dlC_M_four_54 (i := 20) rfl) ?_
        refine zw_goto (pc := 36) (tgt := 3) (by decide) (zdal_p dlC_M_four_54 (i := 21) rfl) ?_
        exact ih_3 (u1_ + (-8)) (by omega) (by omega) N11_ hb0_N11_ (show -8 ≤ (u1_ + (-8)) by first | assumption | omega) (show (u1_ + (-8)) ≤ 24 by first | assumption | omega) (show 8 * (ze N11_ 81 1 - ze Mz 81 1) = 24 - (u1_ + (-8)) by first | assumption | omega) (show zApI 82 (ze Mz 81 1) (ze N11_ 81 1) a0_ Mz N11_ by exact hap2_) (by omega)
  exact lp_3 _ 24 (by decide) (by decide) Mz zFr.rf (show -8 ≤ (24 : Int) by first | assumption | omega) (show (24 : Int) ≤ 24 by first | assumption | omega) (show 8 * (ze Mz 81 1 - ze Mz 81 1) = 24 - (24 : Int) by first | assumption | omega) (show zApI 82 (ze Mz 81 1) (ze Mz 81 1) a0_ Mz Mz by exact zApI_0) (Nat.lt_succ_self _)
set_option maxHeartbeats 4000000 in
theorem c_M_feedF (l : Launch) (Mz : zMem) (hW : zMt Mz) (a0_ : Int) (ha0_a : -2147483648 ≤ a0_) (ha0_b : a0_ < 2147483648) (a1_ : Int) (ha1_a : -2147483648 ≤ a1_) (ha1_b : a1_ < 2147483648) (a2_ : Int) (ha2_a : -2147483648 ≤ a2_) (ha2_b : a2_ < 2147483648) (a3_ : Int) (ha3_a : -2147483648 ≤ a3_) (ha3_b : a3_ < 2147483648) (a4_ : Int) (ha4_a : -2147483648 ≤ a4_) (ha4_b : a4_ < 2147483648) (p0_ : 0 ≤ ze Mz 81 1) (p1_ : ze Mz 81 1 ≤ 700) : zC l m_M_feed 0 0 [.ref 81, .int (Int32.ofInt a0_), .int (Int32.ofInt a1_), .int (Int32.ofInt a2_), .int (Int32.ofInt a3_), .int (Int32.ofInt a4_)] Mz (zpI [1] [82] Mz (fun v N => (((700 < ze Mz 81 1 + 20 ∧ v = -1 ∧ ze N 81 1 = ze Mz 81 1 ∧ (∀ j : Nat, ze N 82 j = ze Mz 82 j)) ∨ (ze Mz 81 1 + 20 ≤ 700 ∧ v = ze Mz 81 1 + 20 ∧ ze N 81 1 = ze Mz 81 1 + 20 ∧ (∀ j : Nat, ze N 82 j = zfd5 (fun j => ze Mz 82 j) (ze Mz 81 1) a0_ a1_ a2_ a3_ a4_ j)))))) := by
  refine zC_of (L0 := [some (.ref 81), some (.int (Int32.ofInt a0_)), some (.int (Int32.ofInt a1_)), some (.int (Int32.ofInt a2_)), some (.int (Int32.ofInt a3_)), some (.int (Int32.ofInt a4_))]) md_M_feed (Nat.le_of_ble_eq_true rfl) rfl ?_ zQ0
  have hf : zFr [1] [82] Mz Mz := zFr.rf
  have r_1 := ze_r Mz 81 1
  refine zw_aload_n (pc := 0) (n := 0) (x := 81) rfl (zdal_p dlC_M_feed_52 (i := 0) rfl) ?_
  refine zr_getI (hf.w hW) (pc := 1) f_M_124 rfl (zdal_p dlC_M_feed_52 (i := 1) rfl) ?_
  refine zw_bipush (pc := 4) (v := Int32.ofInt 20) (by decide) (zdal_p dlC_M_feed_52 (i := 2) rfl) ?_
  refine zr_iadd (pc := 6) (zdal_p dlC_M_feed_52 (i := 3) rfl) ?_
  refine zw_sipush (pc := 7) (v := Int32.ofInt 700) (by decide) (zdal_p dlC_M_feed_52 (i := 4) rfl) ?_
  refine zr_icmp_le (pc := 10) (tgt := 15) ⟨(by omega), (by omega)⟩ ⟨(by decide), (by decide)⟩ (by decide) (zdal_p dlC_M_feed_52 (i := 5) rfl) (fun hc_10 => ?_) (fun hc_10 => ?_)
  · skip
    refine zw_aload_n (pc := 15) (n := 0) (x := 81) rfl (zdal_p dlC_M_feed_52 (i := 8) rfl) ?_
    refine zw_iload_n (pc := 16) (n := 1) (x := Int32.ofInt a0_) rfl (zdal_p dlC_M_feed_52 (i := 9) rfl) ?_
    refine zr_callV (hf.w hW) hf.x (pc := 17) [.int (Int32.ofInt a0_)] [] l_M_127 (c_M_fourF l Mz (hf.w hW) a0_ ha0_a ha0_b (show 0 ≤ ze Mz 81 1 by first | assumption | omega) (show ze Mz 81 1 ≤ 696 by first | assumption | omega)) rfl rfl rfl (by decide) (Nat.le_of_ble_eq_true rfl) (zdal_p dlC_M_feed_52 (i := 10) rfl) ?_
    rintro _ N1_ ⟨rfl, hsN1_, ⟨hp0_N1_, hp1_N1_⟩⟩
    have hf_N1_ : zFr [1] [82] Mz N1_ := hf.tr hsN1_ (by decide) (by decide)
    have r1_N1_ := ze_r N1_ 81 1
    show zW l m_M_feed (zn Mz + 0, zw Mz + 0) N1_ 20 [some (.ref 81), some (.int (Int32.ofInt a0_)), some (.int (Int32.ofInt a1_)), some (.int (Int32.ofInt a2_)), some (.int (Int32.ofInt a3_)), some (.int (Int32.ofInt a4_))] [] _
    have hz1_ := funext hp1_N1_
    refine zw_aload_n (pc := 20) (n := 0) (x := 81) rfl (zdal_p dlC_M_feed_52 (i := 11) rfl) ?_
    refine zw_iload_n (pc := 21) (n := 2) (x := Int32.ofInt a1_) rfl (zdal_p dlC_M_feed_52 (i := 12) rfl) ?_
    refine zr_callV (hf_N1_.w hW) hf_N1_.x (pc := 22) [.int (Int32.ofInt a1_)] [] l_M_127 (c_M_fourF l N1_ (hf_N1_.w hW) a1_ ha1_a ha1_b (show 0 ≤ ze N1_ 81 1 by first | assumption | omega) (show ze N1_ 81 1 ≤ 696 by first | assumption | omega)) rfl rfl rfl (by decide) (Nat.le_of_ble_eq_true rfl) (zdal_p dlC_M_feed_52 (i := 13) rfl) ?_
    rintro _ N3_ ⟨rfl, hsN3_, ⟨hp0_N3_, hp1_N3_⟩⟩
    have hf_N3_ : zFr [1] [82] Mz N3_ := hf_N1_.tr hsN3_ (by decide) (by decide)
    have r1_N3_ := ze_r N3_ 81 1
    show zW l m_M_feed (zn Mz + 0, zw Mz + 0) N3_ 25 [some (.ref 81), some (.int (Int32.ofInt a0_)), some (.int (Int32.ofInt a1_)), some (.int (Int32.ofInt a2_)), some (.int (Int32.ofInt a3_)), some (.int (Int32.ofInt a4_))] [] _
    have hz2_ := funext hp1_N3_
    rw [show ze N1_ 81 1 = ze Mz 81 1 + 4 by omega, hz1_] at hz2_
    refine zw_aload_n (pc := 25) (n := 0) (x := 81) rfl (zdal_p dlC_M_feed_52 (i := 14) rfl) ?_
    refine zw_iload_n (pc := 26) (n := 3) (x := Int32.ofInt a2_) rfl (zdal_p dlC_M_feed_52 (i := 15) rfl) ?_
    refine zr_callV (hf_N3_.w hW) hf_N3_.x (pc := 27) [.int (Int32.ofInt a2_)] [] l_M_127 (c_M_fourF l N3_ (hf_N3_.w hW) a2_ ha2_a ha2_b (show 0 ≤ ze N3_ 81 1 by first | assumption | omega) (show ze N3_ 81 1 ≤ 696 by first | assumption | omega)) rfl rfl rfl (by decide) (Nat.le_of_ble_eq_true rfl) (zdal_p dlC_M_feed_52 (i := 16) rfl) ?_
    rintro _ N5_ ⟨rfl, hsN5_, ⟨hp0_N5_, hp1_N5_⟩⟩
    have hf_N5_ : zFr [1] [82] Mz N5_ := hf_N3_.tr hsN5_ (by decide) (by decide)
    have r1_N5_ := ze_r N5_ 81 1
    show zW l m_M_feed (zn Mz + 0, zw Mz + 0) N5_ 30 [some (.ref 81), some (.int (Int32.ofInt a0_)), some (.int (Int32.ofInt a1_)), some (.int (Int32.ofInt a2_)), some (.int (Int32.ofInt a3_)), some (.int (Int32.ofInt a4_))] [] _
    have hz3_ := funext hp1_N5_
    rw [show ze N3_ 81 1 = ze Mz 81 1 + 8 by omega, hz2_] at hz3_
    refine zw_aload_n (pc := 30) (n := 0) (x := 81) rfl (zdal_p dlC_M_feed_52 (i := 17) rfl) ?_
    refine zw_iload (pc := 31) (i := 4) (x := Int32.ofInt a3_) rfl (zdal_p dlC_M_feed_52 (i := 18) rfl) ?_
    refine zr_callV (hf_N5_.w hW) hf_N5_.x (pc := 33) [.int (Int32.ofInt a3_)] [] l_M_127 (c_M_fourF l N5_ (hf_N5_.w hW) a3_ ha3_a ha3_b (show 0 ≤ ze N5_ 81 1 by first | assumption | omega) (show ze N5_ 81 1 ≤ 696 by first | assumption | omega)) rfl rfl rfl (by decide) (Nat.le_of_ble_eq_true rfl) (zdal_p dlC_M_feed_52 (i := 19) rfl) ?_
    rintro _ N7_ ⟨rfl, hsN7_, ⟨hp0_N7_, hp1_N7_⟩⟩
    have hf_N7_ : zFr [1] [82] Mz N7_ := hf_N5_.tr hsN7_ (by decide) (by decide)
    have r1_N7_ := ze_r N7_ 81 1
    show zW l m_M_feed (zn Mz + 0, zw Mz + 0) N7_ 36 [some (.ref 81), some (.int (Int32.ofInt a0_)), some (.int (Int32.ofInt a1_)), some (.int (Int32.ofInt a2_)), some (.int (Int32.ofInt a3_)), some (.int (Int32.ofInt a4_))] [] _
    have hz4_ := funext hp1_N7_
    rw [show ze N5_ 81 1 = ze Mz 81 1 + 12 by omega, hz3_] at hz4_
    refine zw_aload_n (pc := 36) (n := 0) (x := 81) rfl (zdal_p dlC_M_feed_52 (i := 20) rfl) ?_
    refine zw_iload (pc := 37) (i := 5) (x := Int32.ofInt a4_) rfl (zdal_p dlC_M_feed_52 (i := 21) rfl) ?_
    refine zr_callV (hf_N7_.w hW) hf_N7_.x (pc := 39) [.int (Int32.ofInt a4_)] [] l_M_127 (c_M_fourF l N7_ (hf_N7_.w hW) a4_ ha4_a ha4_b (show 0 ≤ ze N7_ 81 1 by first | assumption | omega) (show ze N7_ 81 1 ≤ 696 by first | assumption | omega)) rfl rfl rfl (by decide) (Nat.le_of_ble_eq_true rfl) (zdal_p dlC_M_feed_52 (i := 22) rfl) ?_
    rintro _ N9_ ⟨rfl, hsN9_, ⟨hp0_N9_, hp1_N9_⟩⟩
    have hf_N9_ : zFr [1] [82] Mz N9_ := hf_N7_.tr hsN9_ (by decide) (by decide)
    have r1_N9_ := ze_r N9_ 81 1
    show zW l m_M_feed (zn Mz + 0, zw Mz + 0) N9_ 42 [some (.ref 81), some (.int (Int32.ofInt a0_)), some (.int (Int32.ofInt a1_)), some (.int (Int32.ofInt a2_)), some (.int (Int32.ofInt a3_)), some (.int (Int32.ofInt a4_))] [] _
    have hz5_ := funext hp1_N9_
    rw [show ze N7_ 81 1 = ze Mz 81 1 + 16 by omega, hz4_] at hz5_
    refine zw_aload_n (pc := 42) (n := 0) (x := 81) rfl (zdal_p dlC_M_feed_52 (i := 23) rfl) ?_
    refine zr_getI (hf_N9_.w hW) (pc := 43) f_M_124 rfl (zdal_p dlC_M_feed_53 (i := 0) rfl) ?_
    exact zr_iret (pc := 46) (ty := .int) rfl rfl ⟨by omega, by omega⟩ hf_N9_ (show ((700 < ze Mz 81 1 + 20 ∧ (ze N9_ 81 1) = -1 ∧ ze N9_ 81 1 = ze Mz 81 1 ∧ (∀ j : Nat, ze N9_ 82 j = ze Mz 82 j)) ∨ (ze Mz 81 1 + 20 ≤ 700 ∧ (ze N9_ 81 1) = ze Mz 81 1 + 20 ∧ ze N9_ 81 1 = ze Mz 81 1 + 20 ∧ (∀ j : Nat, ze N9_ 82 j = zfd5 (fun j => ze Mz 82 j) (ze Mz 81 1) a0_ a1_ a2_ a3_ a4_ j))) by first | exact Or.inl ⟨by omega, by omega, rfl, fun j => rfl⟩ | exact Or.inr ⟨by omega, by omega, by omega, fun j => congrFun hz5_ j⟩) (zdal_p dlC_M_feed_53 (i := 1) rfl)
  · skip
    refine zw_iconst (pc := 13) (v := Int32.ofInt (-1)) (by decide) (zdal_p dlC_M_feed_52 (i := 6) rfl) ?_
    exact zr_iret (pc := 14) (ty := .int) rfl rfl ⟨by omega, by omega⟩ hf (show ((700 < ze Mz 81 1 + 20 ∧ ((-1)) = -1 ∧ ze Mz 81 1 = ze Mz 81 1 ∧ (∀ j : Nat, ze Mz 82 j = ze Mz 82 j)) ∨ (ze Mz 81 1 + 20 ≤ 700 ∧ ((-1)) = ze Mz 81 1 + 20 ∧ ze Mz 81 1 = ze Mz 81 1 + 20 ∧ (∀ j : Nat, ze Mz 82 j = zfd5 (fun j => ze Mz 82 j) (ze Mz 81 1) a0_ a1_ a2_ a3_ a4_ j))) by first | exact Or.inl ⟨by omega, by omega, rfl, fun j => rfl⟩ | exact Or.inr ⟨by omega, by omega, by omega, fun j => congrFun hz5_ j⟩) (zdal_p dlC_M_feed_52 (i := 7) rfl)
