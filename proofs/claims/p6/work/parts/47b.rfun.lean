set_option maxHeartbeats 4000000 in
theorem c_M_isSignF (l : Launch) (Mz : zMem) (hW : zMt Mz) (a0_ : Int) (ha0_a : -2147483648 ≤ a0_) (ha0_b : a0_ < 2147483648) : zC l m_M_isSign 0 0 [.int (Int32.ofInt a0_)] Mz (zpI [] [] Mz (fun v N => (((v = 1 ∧ zpS a0_ = true) ∨ (v = 0 ∧ zpS a0_ = false))))) := by
  refine zC_of (L0 := [some (.int (Int32.ofInt a0_))]) md_M_isSign (Nat.le_of_ble_eq_true rfl) rfl ?_ zQ0
  have hf : zFr [] [] Mz Mz := zFr.rf
  refine zw_iload_n (pc := 0) (n := 0) (x := Int32.ofInt a0_) rfl (zdal_p dlC_M_isSign_69 (i := 0) rfl) ?_
  refine zw_bipush (pc := 1) (v := Int32.ofInt 61) (by decide) (zdal_p dlC_M_isSign_69 (i := 1) rfl) ?_
  refine zr_icmp_eq (pc := 3) (tgt := 48) ⟨ha0_a, ha0_b⟩ ⟨(by decide), (by decide)⟩ (by decide) (zdal_p dlC_M_isSign_69 (i := 2) rfl) (fun hc_3 => ?_) (fun hc_3 => ?_)
  · skip
    refine zw_iconst (pc := 48) (v := Int32.ofInt 1) (by decide) d_M_isSign_48 ?_
    refine zw_goto (pc := 49) (tgt := 53) (by decide) d_M_isSign_49 ?_
    exact zr_iret (pc := 53) (ty := .boolean) rfl (z_narB (by (decide))) ⟨by (decide), by (decide)⟩ hf (show ((1 = 1 ∧ zpS a0_ = true) ∨ (1 = 0 ∧ zpS a0_ = false)) from Or.inl (⟨(show 1 = 1 by first | rfl | exact zpS_t.mpr (by omega)), (show zpS a0_ = true by first | rfl | exact zpS_t.mpr (by omega))⟩)) d_M_isSign_53
  · skip
    refine zw_iload_n (pc := 6) (n := 0) (x := Int32.ofInt a0_) rfl (zdal_p dlC_M_isSign_69 (i := 3) rfl) ?_
    refine zw_bipush (pc := 7) (v := Int32.ofInt 43) (by decide) (zdal_p dlC_M_isSign_69 (i := 4) rfl) ?_
    refine zr_icmp_eq (pc := 9) (tgt := 48) ⟨ha0_a, ha0_b⟩ ⟨(by decide), (by decide)⟩ (by decide) (zdal_p dlC_M_isSign_69 (i := 5) rfl) (fun hc_9 => ?_) (fun hc_9 => ?_)
    · skip
      refine zw_iconst (pc := 48) (v := Int32.ofInt 1) (by decide) d_M_isSign_48 ?_
      refine zw_goto (pc := 49) (tgt := 53) (by decide) d_M_isSign_49 ?_
      exact zr_iret (pc := 53) (ty := .boolean) rfl (z_narB (by (decide))) ⟨by (decide), by (decide)⟩ hf (show ((1 = 1 ∧ zpS a0_ = true) ∨ (1 = 0 ∧ zpS a0_ = false)) from Or.inl (⟨(show 1 = 1 by first | rfl | exact zpS_t.mpr (by omega)), (show zpS a0_ = true by first | rfl | exact zpS_t.mpr (by omega))⟩)) d_M_isSign_53
    · skip
      refine zw_iload_n (pc := 12) (n := 0) (x := Int32.ofInt a0_) rfl (zdal_p dlC_M_isSign_69 (i := 6) rfl) ?_
      refine zw_bipush (pc := 13) (v := Int32.ofInt 42) (by decide) (zdal_p dlC_M_isSign_69 (i := 7) rfl) ?_
      refine zr_icmp_eq (pc := 15) (tgt := 48) ⟨ha0_a, ha0_b⟩ ⟨(by decide), (by decide)⟩ (by decide) (zdal_p dlC_M_isSign_69 (i := 8) rfl) (fun hc_15 => ?_) (fun hc_15 => ?_)
      · skip
        refine zw_iconst (pc := 48) (v := Int32.ofInt 1) (by decide) d_M_isSign_48 ?_
        refine zw_goto (pc := 49) (tgt := 53) (by decide) d_M_isSign_49 ?_
        exact zr_iret (pc := 53) (ty := .boolean) rfl (z_narB (by (decide))) ⟨by (decide), by (decide)⟩ hf (show ((1 = 1 ∧ zpS a0_ = true) ∨ (1 = 0 ∧ zpS a0_ = false)) from Or.inl (⟨(show 1 = 1 by first | rfl | exact zpS_t.mpr (by omega)), (show zpS a0_ = true by first | rfl | exact zpS_t.mpr (by omega))⟩)) d_M_isSign_53
      · skip
        refine zw_iload_n (pc := 18) (n := 0) (x := Int32.ofInt a0_) rfl (zdal_p dlC_M_isSign_69 (i := 9) rfl) ?_
        refine zw_bipush (pc := 19) (v := Int32.ofInt 45) (by decide) (zdal_p dlC_M_isSign_69 (i := 10) rfl) ?_
        refine zr_icmp_eq (pc := 21) (tgt := 48) ⟨ha0_a, ha0_b⟩ ⟨(by decide), (by decide)⟩ (by decide) (zdal_p dlC_M_isSign_69 (i := 11) rfl) (fun hc_21 => ?_) (fun hc_21 => ?_)
        · skip
          refine zw_iconst (pc := 48) (v := Int32.ofInt 1) (by decide) d_M_isSign_48 ?_
          refine zw_goto (pc := 49) (tgt := 53) (by decide) d_M_isSign_49 ?_
          exact zr_iret (pc := 53) (ty := .boolean) rfl (z_narB (by (decide))) ⟨by (decide), by (decide)⟩ hf (show ((1 = 1 ∧ zpS a0_ = true) ∨ (1 = 0 ∧ zpS a0_ = false)) from Or.inl (⟨(show 1 = 1 by first | rfl | exact zpS_t.mpr (by omega)), (show zpS a0_ = true by first | rfl | exact zpS_t.mpr (by omega))⟩)) d_M_isSign_53
        · skip
          refine zw_iload_n (pc := 24) (n := 0) (x := Int32.ofInt a0_) rfl (zdal_p dlC_M_isSign_69 (i := 12) rfl) ?_
          refine zw_bipush (pc := 25) (v := Int32.ofInt 94) (by decide) (zdal_p dlC_M_isSign_69 (i := 13) rfl) ?_
          refine zr_icmp_eq (pc := 27) (tgt := 48) ⟨ha0_a, ha0_b⟩ ⟨(by decide), (by decide)⟩ (by decide) (zdal_p dlC_M_isSign_69 (i := 14) rfl) (fun hc_27 => ?_) (fun hc_27 => ?_)
          · skip
            refine zw_iconst (pc := 48) (v := Int32.ofInt 1) (by decide) d_M_isSign_48 ?_
            refine zw_goto (pc := 49) (tgt := 53) (by decide) d_M_isSign_49 ?_
            exact zr_iret (pc := 53) (ty := .boolean) rfl (z_narB (by (decide))) ⟨by (decide), by (decide)⟩ hf (show ((1 = 1 ∧ zpS a0_ = true) ∨ (1 = 0 ∧ zpS a0_ = false)) from Or.inl (⟨(show 1 = 1 by first | rfl | exact zpS_t.mpr (by omega)), (show zpS a0_ = true by first | rfl | exact zpS_t.mpr (by omega))⟩)) d_M_isSign_53
          · skip
            refine zw_iload_n (pc := 30) (n := 0) (x := Int32.ofInt a0_) rfl (zdal_p dlC_M_isSign_69 (i := 15) rfl) ?_
            refine zw_bipush (pc := 31) (v := Int32.ofInt 40) (by decide) (zdal_p dlC_M_isSign_69 (i := 16) rfl) ?_
            refine zr_icmp_eq (pc := 33) (tgt := 48) ⟨ha0_a, ha0_b⟩ ⟨(by decide), (by decide)⟩ (by decide) (zdal_p dlC_M_isSign_69 (i := 17) rfl) (fun hc_33 => ?_) (fun hc_33 => ?_)
            · skip
              refine zw_iconst (pc := 48) (v := Int32.ofInt 1) (by decide) d_M_isSign_48 ?_
              refine zw_goto (pc := 49) (tgt := 53) (by decide) d_M_isSign_49 ?_
              exact zr_iret (pc := 53) (ty := .boolean) rfl (z_narB (by (decide))) ⟨by (decide), by (decide)⟩ hf (show ((1 = 1 ∧ zpS a0_ = true) ∨ (1 = 0 ∧ zpS a0_ = false)) from Or.inl (⟨(show 1 = 1 by first | rfl | exact zpS_t.mpr (by omega)), (show zpS a0_ = true by first | rfl | exact zpS_t.mpr (by omega))⟩)) d_M_isSign_53
            · skip
              refine zw_iload_n (pc := 36) (n := 0) (x := Int32.ofInt a0_) rfl (zdal_p dlC_M_isSign_69 (i := 18) rfl) ?_
              refine zw_bipush (pc := 37) (v := Int32.ofInt 41) (by decide) (zdal_p dlC_M_isSign_69 (i := 19) rfl) ?_
              refine zr_icmp_eq (pc := 39) (tgt := 48) ⟨ha0_a, ha0_b⟩ ⟨(by decide), (by decide)⟩ (by decide) (zdal_p dlC_M_isSign_69 (i := 20) rfl) (fun hc_39 => ?_) (fun hc_39 => ?_)
              · skip
                refine zw_iconst (pc := 48) (v := Int32.ofInt 1) (by decide) d_M_isSign_48 ?_
                refine zw_goto (pc := 49) (tgt := 53) (by decide) d_M_isSign_49 ?_
                exact zr_iret (pc := 53) (ty := .boolean) rfl (z_narB (by (decide))) ⟨by (decide), by (decide)⟩ hf (show ((1 = 1 ∧ zpS a0_ = true) ∨ (1 = 0 ∧ zpS a0_ = false)) from Or.inl (⟨(show 1 = 1 by first | rfl | exact zpS_t.mpr (by omega)), (show zpS a0_ = true by first | rfl | exact zpS_t.mpr (by omega))⟩)) d_M_isSign_53
              · skip
                refine zw_iload_n (pc := 42) (n := 0) (x := Int32.ofInt a0_) rfl (zdal_p dlC_M_isSign_69 (i := 21) rfl) ?_
                refine zw_bipush (pc := 43) (v := Int32.ofInt 59) (by decide) (zdal_p dlC_M_isSign_69 (i := 22) rfl) ?_
                refine zr_icmp_ne (pc := 45) (tgt := 52) ⟨ha0_a, ha0_b⟩ ⟨(by decide), (by decide)⟩ (by decide) (zdal_p dlC_M_isSign_69 (i := 23) rfl) (fun hc_45 => ?_) (fun hc_45 => ?_)
                · skip
                  refine zw_iconst (pc := 52) (v := Int32.ofInt 0) (by decide) (zdal_p dlC_M_isSign_70 (i := 2) rfl) ?_
                  exact zr_iret (pc := 53) (ty := .boolean) rfl (z_narB (by (decide))) ⟨by (decide), by (decide)⟩ hf (show ((0 = 1 ∧ zpS a0_ = true) ∨ (0 = 0 ∧ zpS a0_ = false)) from Or.inr (⟨(show 0 = 0 by first | rfl | exact Bool.eq_false_iff.mpr (fun h => by have := zpS_t.mp h; omega)), (show zpS a0_ = false by first | rfl | exact Bool.eq_false_iff.mpr (fun h => by have := zpS_t.mp h; omega))⟩)) d_M_isSign_53
                · skip
                  refine zw_iconst (pc := 48) (v := Int32.ofInt 1) (by decide) d_M_isSign_48 ?_
                  refine zw_goto (pc := 49) (tgt := 53) (by decide) d_M_isSign_49 ?_
                  exact zr_iret (pc := 53) (ty := .boolean) rfl (z_narB (by (decide))) ⟨by (decide), by (decide)⟩ hf (show ((1 = 1 ∧ zpS a0_ = true) ∨ (1 = 0 ∧ zpS a0_ = false)) from Or.inl (⟨(show 1 = 1 by first | rfl | exact zpS_t.mpr (by omega)), (show zpS a0_ = true by first | rfl | exact zpS_t.mpr (by omega))⟩)) d_M_isSign_53
set_option maxHeartbeats 4000000 in
theorem c_M_goOnF (l : Launch) (Mz : zMem) (hW : zMt Mz) (b_ : Nat → Int) (n_ : Nat) (p0_ : zRb b_ n_ Mz) (p1_ : 0 ≤ ze Mz 81 3) (p2_ : ze Mz 81 3 ≤ n_) : zC l m_M_goOn 0 0 [.ref 81] Mz (zpV [3, 4, 5, 6, 11] [] Mz (fun N => ze N 81 4 = (zru zpB b_ n_ (ze Mz 81 3).toNat : Nat) ∧ zRt b_ n_ N)) := by
  refine zC_of (L0 := [some (.ref 81), none, none]) md_M_goOn (Nat.le_of_ble_eq_true rfl) rfl ?_ zQ0
  have hf : zFr [3, 4, 5, 6, 11] [] Mz Mz := zFr.rf
  have r_2 := ze_r Mz 81 2
  have r_3 := ze_r Mz 81 3
  have r_4 := ze_r Mz 81 4
  have r_5 := ze_r Mz 81 5
  have r_6 := ze_r Mz 81 6
  obtain ⟨hn_, hn7_, hB_, hb_⟩ := id p0_
  have lp_0 : ∀ (n : Nat) (N1_ : zMem) (hs2_ : zFr [3] [] Mz N1_) (i3_ : 0 ≤ ze N1_ 81 3) (i4_ : ze N1_ 81 3 ≤ n_) (i5_ : zru zpB b_ n_ (ze N1_ 81 3).toNat = zru zpB b_ n_ (ze Mz 81 3).toNat), (n_ - ze N1_ 81 3).toNat < n → zW l m_M_goOn (zn Mz + 0, zw Mz + 0) N1_ 0 [some (.ref 81), none, none] [] (zpV [3, 4, 5, 6, 11] [] Mz (fun N => ze N 81 4 = (zru zpB b_ n_ (ze Mz 81 3).toNat : Nat) ∧ zRt b_ n_ N)) := by
    intro n
    induction n with
    | zero =>
      intro N1_ hs2_ i3_ i4_ i5_ h0
      exact absurd h0 (Nat.not_lt_zero _)
    | succ n ih_0 =>
      intro N1_ hs2_ i3_ i4_ i5_ hlt_0
      have hf_N1_ : zFr [3, 4, 5, 6, 11] [] Mz N1_ := hf.tr hs2_ (by decide) (by decide)
      have e2_N1_ : ze N1_ 81 2 = ze Mz 81 2 := hs2_.e (by decide)
      have r3_N1_ := ze_r N1_ 81 3
      have e4_N1_ : ze N1_ 81 4 = ze Mz 81 4 := hs2_.e (by decide)
      have e5_N1_ : ze N1_ 81 5 = ze Mz 81 5 := hs2_.e (by decide)
      have e6_N1_ : ze N1_ 81 6 = ze Mz 81 6 := hs2_.e (by decide)
      have c6_ : zRb b_ n_ N1_ := zRb.fr hs2_ p0_ (by decide) (by decide)
      have hh_ := c6_.h (k := 0) (by (exact zo_158 i3_))
      refine zw_aload_n (pc := 0) (n := 0) (x := 81) rfl (zdal_p dlC_M_goOn_60 (i := 0) rfl) ?_
      refine zw_iconst (pc := 1) (v := Int32.ofInt 0) (by decide) (zdal_p dlC_M_goOn_60 (i := 1) rfl) ?_
      refine zr_callV (hf_N1_.w hW) hf_N1_.x (pc := 2) [.int (Int32.ofInt 0)] [] l_M_141 (c_M_here l N1_ (hf_N1_.w hW) 0 (by decide) (by decide) (show 0 ≤ ze N1_ 81 3 + 0 by first | with_reducible assumption | (exact zo_158 i3_) | assumption) (show ze N1_ 81 3 ≤ 700 by first | with_reducible assumption | (exact zo_159 hn7_ i4_ r3_N1_.2) | assumption) (show 0 ≤ 1000 by first | with_reducible assumption | (decide) | assumption) (show ze N1_ 81 2 ≤ 700 by first | with_reducible assumption | (exact zo_160 e2_N1_ hn7_ hn_ r_2.2) | assumption)) rfl rfl rfl (by decide) (Nat.le_of_ble_eq_true rfl) (zdal_p dlC_M_goOn_60 (i := 2) rfl) ?_
      rintro _ N7_ ⟨v8_, rfl, ⟨hv8_a, hv8_b⟩, hsN7_, ⟨hp0_N7_, hp1_N7_⟩⟩
      obtain rfl := hsN7_.eq.symm
      show zW l m_M_goOn (zn Mz + 0, zw Mz + 0) N1_ 5 [some (.ref 81), none, none] [.int (Int32.ofInt v8_)] _
      refine zw_bipush (pc := 5) (v := Int32.ofInt 32) (by decide) (zdal_p dlC_M_goOn_60 (i := 3) rfl) ?_
      refine zr_icmp_eq (pc := 7) (tgt := 20) ⟨hv8_a, hv8_b⟩ ⟨(by decide), (by decide)⟩ (by decide) (zdal_p dlC_M_goOn_60 (i := 4) rfl) (fun hc_7 => ?_) (fun hc_7 => ?_)
      · skip
        have hbl_ : zhr N1_ 0 = 32 ∨ zhr N1_ 0 = 10 := by (exact zo_161 hc_7 hp1_N7_)
        refine zw_aload_n (pc := 20) (n := 0) (x := 81) rfl (zdal_p dlC_M_goOn_60 (i := 10) rfl) ?_
        refine zw_dup (pc := 21) rfl (zdal_p dlC_M_goOn_60 (i := 11) rfl) ?_
        refine zr_getI (hf_N1_.w hW) (pc := 22) f_M_135 rfl (zdal_p dlC_M_goOn_60 (i := 12) rfl) ?_
        refine zw_iconst (pc := 25) (v := Int32.ofInt 1) (by decide) (zdal_p dlC_M_goOn_60 (i := 13) rfl) ?_
        refine zr_iadd (pc := 26) (zdal_p dlC_M_goOn_60 (i := 14) rfl) ?_
        refine zr_putI (hf_N1_.w hW) (pc := 27) f_M_135 rfl rfl ⟨by (exact zo_74 i3_), by (exact zo_162 hn7_ i4_ r3_N1_.2)⟩ rfl rfl (zdal_p dlC_M_goOn_60 (i := 15) rfl) (fun N9_ hsN9_ hvN9_ => ?_)
        have hf_N9_ : zFr [3, 4, 5, 6, 11] [] Mz N9_ := hf_N1_.tr hsN9_ (by decide) (by decide)
        have hb0_N9_ : zFr [3] [] Mz N9_ := hs2_.tr hsN9_ (by decide) (by decide)
        have e2_N9_ : ze N9_ 81 2 = ze N1_ 81 2 := hsN9_.e (by decide)
        have r3_N9_ := ze_r N9_ 81 3
        have e4_N9_ : ze N9_ 81 4 = ze N1_ 81 4 := hsN9_.e (by decide)
        have e5_N9_ : ze N9_ 81 5 = ze N1_ 81 5 := hsN9_.e (by decide)
        have e6_N9_ : ze N9_ 81 6 = ze N1_ 81 6 := hsN9_.e (by decide)
        have c10_ : zRb b_ n_ N9_ := zRb.fr hsN9_ c6_ (by decide) (by decide)
        refine zw_goto (pc := 30) (tgt := 0) (by decide) (zdal_p dlC_M_goOn_60 (i := 16) rfl) ?_
        exact ih_0 N9_ hb0_N9_ (show 0 ≤ ze N9_ 81 3 by first | with_reducible assumption | (exact zo_163 hvN9_ i3_ r3_N9_.1) | assumption) (show ze N9_ 81 3 ≤ n_ by first | with_reducible assumption | assumption | omega) (show zru zpB b_ n_ (ze N9_ 81 3).toNat = zru zpB b_ n_ (ze Mz 81 3).toNat by rw [show ze N9_ 81 3 = ze N1_ 81 3 + 1 by (exact hvN9_)]; rcases hh_ with ⟨q1_, q2_, q3_, q4_⟩ | ⟨q1_, q2_⟩; exact zru_step (P := zpB) (v := zhr N1_ 0) (by (exact i3_)) (by (exact zo_164 q1_ r3_N1_.2)) (by rw [q2_, Int.add_zero]) (zpB_t.mpr hbl_) (by first | with_reducible assumption | assumption); exfalso; (exact zo_165 hc_7 hp1_N7_ q2_)) (by omega)
      · skip
        refine zw_aload_n (pc := 10) (n := 0) (x := 81) rfl (zdal_p dlC_M_goOn_60 (i := 5) rfl) ?_
        refine zw_iconst (pc := 11) (v := Int32.ofInt 0) (by decide) (zdal_p dlC_M_goOn_60 (i := 6) rfl) ?_
        refine zr_callV (hf_N1_.w hW) hf_N1_.x (pc := 12) [.int (Int32.ofInt 0)] [] l_M_141 (c_M_here l N1_ (hf_N1_.w hW) 0 (by decide) (by decide) (show 0 ≤ ze N1_ 81 3 + 0 by first | with_reducible assumption | (exact zo_158 i3_) | assumption) (show ze N1_ 81 3 ≤ 700 by first | with_reducible assumption | (exact zo_159 hn7_ i4_ r3_N1_.2) | assumption) (show 0 ≤ 1000 by first | with_reducible assumption | (decide) | assumption) (show ze N1_ 81 2 ≤ 700 by first | with_reducible assumption | (exact zo_160 e2_N1_ hn7_ hn_ r_2.2) | assumption)) rfl rfl rfl (by decide) (Nat.le_of_ble_eq_true rfl) (zdal_p dlC_M_goOn_60 (i := 7) rfl) ?_
        rintro _ N11_ ⟨v12_, rfl, ⟨hv12_a, hv12_b⟩, hsN11_, ⟨hp0_N11_, hp1_N11_⟩⟩
        obtain rfl := hsN11_.eq.symm
        show zW l m_M_goOn (zn Mz + 0, zw Mz + 0) N1_ 15 [some (.ref 81), none, none] [.int (Int32.ofInt v12_)] _
        refine zw_bipush (pc := 15) (v := Int32.ofInt 10) (by decide) (zdal_p dlC_M_goOn_60 (i := 8) rfl) ?_
        refine zr_icmp_ne (pc := 17) (tgt := 33) ⟨hv12_a, hv12_b⟩ ⟨(by decide), (by decide)⟩ (by decide) (zdal_p dlC_M_goOn_60 (i := 9) rfl) (fun hc_17 => ?_) (fun hc_17 => ?_)
        · skip
          have hst_ : ze N1_ 81 3 = (zru zpB b_ n_ (ze Mz 81 3).toNat : Nat) := by rcases hh_ with ⟨q1_, q2_, q3_, q4_⟩ | ⟨q1_, q2_⟩; exact zru_stop (P := zpB) (b := b_) (n := n_) (v := zhr N1_ 0) (by (exact i3_)) (Or.inr ⟨by rw [q2_, Int.add_zero], Bool.eq_false_iff.mpr (fun h_ => by have := zpB_t.mp h_; omega)⟩) (by first | with_reducible assumption | assumption); exact zru_stop (P := zpB) (b := b_) (n := n_) (v := 0) (by (exact i3_)) (Or.inl (by (exact zo_166 q1_))) (by first | with_reducible assumption | assumption)
          obtain ⟨s_, hs_⟩ : ∃ s : Nat, (s : Int) = ze N1_ 81 3 := ⟨(ze N1_ 81 3).toNat, by (exact zo_167 i3_)⟩
          refine zw_aload_n (pc := 33) (n := 0) (x := 81) rfl (zdal_p dlC_M_goOn_60 (i := 17) rfl) ?_
          refine zw_aload_n (pc := 34) (n := 0) (x := 81) rfl (zdal_p dlC_M_goOn_60 (i := 18) rfl) ?_
          refine zr_getI (hf_N1_.w hW) (pc := 35) f_M_135 rfl (zdal_p dlC_M_goOn_60 (i := 19) rfl) ?_
          refine zr_putI (hf_N1_.w hW) (pc := 38) f_M_145 rfl rfl ⟨by (exact zo_168 i3_), by (exact zo_169 hn7_ i4_ r3_N1_.2)⟩ rfl rfl (zdal_p dlC_M_goOn_60 (i := 20) rfl) (fun N13_ hsN13_ hvN13_ => ?_)
          have hf_N13_ : zFr [3, 4, 5, 6, 11] [] Mz N13_ := hf_N1_.tr hsN13_ (by decide) (by decide)
          have e2_N13_ : ze N13_ 81 2 = ze N1_ 81 2 := hsN13_.e (by decide)
          have e3_N13_ : ze N13_ 81 3 = ze N1_ 81 3 := hsN13_.e (by decide)
          have r4_N13_ := ze_r N13_ 81 4
          have e5_N13_ : ze N13_ 81 5 = ze N1_ 81 5 := hsN13_.e (by decide)
          have e6_N13_ : ze N13_ 81 6 = ze N1_ 81 6 := hsN13_.e (by decide)
          have c14_ : zRb b_ n_ N13_ := zRb.fr hsN13_ c6_ (by decide) (by decide)
          refine zw_aload_n (pc := 41) (n := 0) (x := 81) rfl (zdal_p dlC_M_goOn_60 (i := 21) rfl) ?_
          refine zw_lconst (pc := 42) (v := Int64.ofInt 0) (by decide) (zdal_p dlC_M_goOn_60 (i := 22) rfl) ?_
          refine zr_putJ (hf_N13_.w hW) (pc := 43) f_M_148 rfl rfl rfl rfl (zdal_p dlC_M_goOn_60 (i := 23) rfl) (fun N15_ hsN15_ hvN15_ => ?_)
          have hf_N15_ : zFr [3, 4, 5, 6, 11] [] Mz N15_ := hf_N13_.tr hsN15_ (by decide) (by decide)
          have e2_N15_ : ze N15_ 81 2 = ze N13_ 81 2 := hsN15_.e (by decide)
          have e3_N15_ : ze N15_ 81 3 = ze N13_ 81 3 := hsN15_.e (by decide)
          have e4_N15_ : ze N15_ 81 4 = ze N13_ 81 4 := hsN15_.e (by decide)
          have e5_N15_ : ze N15_ 81 5 = ze N13_ 81 5 := hsN15_.e (by decide)
          have e6_N15_ : ze N15_ 81 6 = ze N13_ 81 6 := hsN15_.e (by decide)
          have c16_ : zRb b_ n_ N15_ := zRb.fr hsN15_ c14_ (by decide) (by decide)
          have hv00_ : zg N15_ 81 11 = 0 := hvN15_ ⟨by (decide), by (decide)⟩
          refine zw_aload_n (pc := 46) (n := 0) (x := 81) rfl (zdal_p dlC_M_goOn_61 (i := 0) rfl) ?_
          refine zw_iconst (pc := 47) (v := Int32.ofInt 0) (by decide) (zdal_p dlC_M_goOn_61 (i := 1) rfl) ?_
          refine zr_putI (hf_N15_.w hW) (pc := 48) f_M_152 rfl rfl ⟨by (decide), by (decide)⟩ rfl rfl (zdal_p dlC_M_goOn_61 (i := 2) rfl) (fun N17_ hsN17_ hvN17_ => ?_)
          have hf_N17_ : zFr [3, 4, 5, 6, 11] [] Mz N17_ := hf_N15_.tr hsN17_ (by decide) (by decide)
          have e2_N17_ : ze N17_ 81 2 = ze N15_ 81 2 := hsN17_.e (by decide)
          have e3_N17_ : ze N17_ 81 3 = ze N15_ 81 3 := hsN17_.e (by decide)
          have e4_N17_ : ze N17_ 81 4 = ze N15_ 81 4 := hsN17_.e (by decide)
          have e5_N17_ : ze N17_ 81 5 = ze N15_ 81 5 := hsN17_.e (by decide)
          have r6_N17_ := ze_r N17_ 81 6
          have c18_ : zRb b_ n_ N17_ := zRb.fr hsN17_ c16_ (by decide) (by decide)
          have hv0_ : zg N17_ 81 11 = zw8 b_ s_ (0 : Int).toNat := (hsN17_.g (by decide)).trans hv00_
          refine zw_aload_n (pc := 51) (n := 0) (x := 81) rfl (zdal_p dlC_M_goOn_61 (i := 3) rfl) ?_
          refine zw_iconst (pc := 52) (v := Int32.ofInt 0) (by decide) (zdal_p dlC_M_goOn_61 (i := 4) rfl) ?_
          have hc_ := c18_.h (k := 0) (by (exact zo_170 e3_N13_ e3_N15_ e3_N17_ i3_))
          refine zr_callV (hf_N17_.w hW) hf_N17_.x (pc := 53) [.int (Int32.ofInt 0)] [] l_M_141 (c_M_here l N17_ (hf_N17_.w hW) 0 (by decide) (by decide) (show 0 ≤ ze N17_ 81 3 + 0 by first | with_reducible assumption | (exact zo_170 e3_N13_ e3_N15_ e3_N17_ i3_) | assumption) (show ze N17_ 81 3 ≤ 700 by first | with_reducible assumption | (exact zo_171 e3_N13_ e3_N15_ e3_N17_ hn7_ i4_ r3_N1_.2) | assumption) (show 0 ≤ 1000 by first | with_reducible assumption | (decide) | assumption) (show ze N17_ 81 2 ≤ 700 by first | with_reducible assumption | (exact zo_172 e2_N13_ e2_N15_ e2_N17_ e2_N1_ hn7_ hn_ r_2.2) | assumption)) rfl rfl rfl (by decide) (Nat.le_of_ble_eq_true rfl) (zdal_p dlC_M_goOn_61 (i := 5) rfl) ?_
          rintro _ N19_ ⟨v20_, rfl, ⟨hv20_a, hv20_b⟩, hsN19_, ⟨hp0_N19_, hp1_N19_⟩⟩
          obtain rfl := hsN19_.eq.symm
          show zW l m_M_goOn (zn Mz + 0, zw Mz + 0) N17_ 56 [some (.ref 81), none, none] [.int (Int32.ofInt v20_)] _
          refine zw_istore_n (pc := 56) (i := 1) (L2 := [some (.ref 81), some (.int (Int32.ofInt v20_)), none]) rfl (by decide) rfl (zdal_p dlC_M_goOn_61 (i := 6) rfl) ?_
          refine zw_iconst (pc := 57) (v := Int32.ofInt 0) (by decide) (zdal_p dlC_M_goOn_61 (i := 7) rfl) ?_
          refine zw_istore_n (pc := 58) (i := 2) (L2 := [some (.ref 81), some (.int (Int32.ofInt v20_)), some (.int (Int32.ofInt 0))]) rfl (by decide) rfl (zdal_p dlC_M_goOn_61 (i := 8) rfl) ?_
          refine zw_iload_n (pc := 59) (n := 1) (x := Int32.ofInt v20_) rfl (zdal_p dlC_M_goOn_61 (i := 9) rfl) ?_
          refine zr_if_ge (pc := 60) (tgt := 69) ⟨hv20_a, hv20_b⟩ (by decide) (zdal_p dlC_M_goOn_61 (i := 10) rfl) (fun hc_60 => ?_) (fun hc_60 => ?_)
          · skip
            have hcb_ : v20_ = b_ s_ := by rcases hc_ with ⟨q1_, q2_, q3_, q4_⟩ | ⟨q1_, q2_⟩; rw [show v20_ = zhr N17_ 0 by (exact hp1_N19_), q2_, show (ze N17_ 81 3 + 0).toNat = s_ by (exact zo_173 e3_N13_ e3_N15_ e3_N17_ hn7_ hs_ i3_ i4_ q1_ r3_N1_.2)]; exfalso; (exact zo_174 hc_60 hp1_N19_ q2_)
            have hsn_ : s_ < n_ := by rcases hc_ with ⟨q1_, q2_, q3_, q4_⟩ | ⟨q1_, q2_⟩; (exact zo_175 e3_N13_ e3_N15_ e3_N17_ hs_ i4_ q1_ r3_N1_.2); exfalso; (exact zo_174 hc_60 hp1_N19_ q2_)
            refine zw_iload_n (pc := 69) (n := 1) (x := Int32.ofInt v20_) rfl (zdal_p dlC_M_goOn_61 (i := 15) rfl) ?_
            refine zr_callS hf_N17_.x (pc := 70) [.int (Int32.ofInt v20_)] [] l_M_158 (c_M_isLetter l N17_ (hf_N17_.w hW) v20_ hv20_a hv20_b) rfl rfl (by decide) (Nat.le_of_ble_eq_true rfl) (zdal_p dlC_M_goOn_61 (i := 16) rfl) ?_
            rintro _ N21_ ⟨v22_, rfl, ⟨hv22_a, hv22_b⟩, hsN21_, hp0_N21_⟩
            obtain rfl := hsN21_.eq.symm
            replace hp0_N21_ : ((v22_ = 1 ∧ 97 ≤ v20_ ∧ v20_ ≤ 122) ∨ (v22_ = 0 ∧ (v20_ < 97 ∨ 122 < v20_))) := hp0_N21_
            rcases hp0_N21_ with ⟨rfl, ha70_0_hp0_N21_, ha70_1_hp0_N21_⟩ | ⟨rfl, ha70_0_hp0_N21_⟩
            · skip
              have hlt_ : zpL (b_ s_) = true := by rw [← hcb_]; exact zpL_t.mpr (by (exact zo_176 ha70_0_hp0_N21_ ha70_1_hp0_N21_))
              show zW l m_M_goOn (zn Mz + 0, zw Mz + 0) N17_ 73 [some (.ref 81), some (.int (Int32.ofInt v20_)), some (.int (Int32.ofInt 0))] [.int (Int32.ofInt 1)] _
              refine zr_if_eq (pc := 73) (tgt := 135) ⟨(by decide), (by decide)⟩ (by decide) (zdal_p dlC_M_goOn_61 (i := 17) rfl) (fun hc_73 => ?_) (fun hc_73 => ?_)
              · skip
                exact absurd hc_73 (by decide)
              · skip
                have lp_76 : ∀ (n : Nat) (u23_ : Int) (hu23_a : -2147483648 ≤ u23_) (hu23_b : u23_ < 2147483648) (N24_ : zMem) (hs25_ : zFr [11] [] N17_ N24_) (i26_ : 0 ≤ u23_) (i27_ : s_ + u23_ ≤ n_) (i28_ : zru zpL b_ n_ (s_ + u23_).toNat = zru zpL b_ n_ s_) (i29_ : ∀ j : Nat, s_ ≤ j → j < (s_ + u23_).toNat → zpL (b_ j) = true) (i30_ : (u23_ ≤ 6 → zg N24_ 81 11 = zw8 b_ s_ (u23_).toNat)), (n_ - s_ - u23_).toNat < n → zW l m_M_goOn (zn Mz + 0, zw Mz + 0) N24_ 76 [some (.ref 81), some (.int (Int32.ofInt v20_)), some (.int (Int32.ofInt u23_))] [] (zpV [3, 4, 5, 6, 11] [] Mz (fun N => ze N 81 4 = (zru zpB b_ n_ (ze Mz 81 3).toNat : Nat) ∧ zRt b_ n_ N)) := by
                  intro n
                  induction n with
                  | zero =>
                    intro u23_ hu23_a hu23_b N24_ hs25_ i26_ i27_ i28_ i29_ i30_ h0
                    exact absurd h0 (Nat.not_lt_zero _)
                  | succ n ih_76 =>
                    intro u23_ hu23_a hu23_b N24_ hs25_ i26_ i27_ i28_ i29_ i30_ hlt_76
                    have hf_N24_ : zFr [3, 4, 5, 6, 11] [] Mz N24_ := hf_N17_.tr hs25_ (by decide) (by decide)
                    have e2_N24_ : ze N24_ 81 2 = ze N17_ 81 2 := hs25_.e (by decide)
                    have e3_N24_ : ze N24_ 81 3 = ze N17_ 81 3 := hs25_.e (by decide)
                    have e4_N24_ : ze N24_ 81 4 = ze N17_ 81 4 := hs25_.e (by decide)
                    have e5_N24_ : ze N24_ 81 5 = ze N17_ 81 5 := hs25_.e (by decide)
                    have e6_N24_ : ze N24_ 81 6 = ze N17_ 81 6 := hs25_.e (by decide)
                    have c31_ : zRb b_ n_ N24_ := zRb.fr hs25_ c18_ (by decide) (by decide)
                    have hk_ := c31_.h (k := u23_) (by (exact zo_177 e3_N13_ e3_N15_ e3_N17_ e3_N24_ i26_ i3_))
                    have hru_ := (show zru zpL b_ n_ (s_ + u23_).toNat = zru zpL b_ n_ s_ by first | with_reducible assumption | assumption)
                    have hal_ := (show ∀ j : Nat, s_ ≤ j → j < (s_ + u23_).toNat → zpL (b_ j) = true by first | with_reducible assumption | assumption)
                    have hwi_ := (show (u23_ ≤ 6 → zg N24_ 81 11 = zw8 b_ s_ (u23_).toNat) by first | with_reducible assumption | assumption)
                    refine zw_aload_n (pc := 76) (n := 0) (x := 81) rfl (zdal_p dlC_M_goOn_61 (i := 18) rfl) ?_
                    refine zw_iload_n (pc := 77) (n := 2) (x := Int32.ofInt u23_) rfl (zdal_p dlC_M_goOn_61 (i := 19) rfl) ?_
                    refine zr_callV (hf_N24_.w hW) hf_N24_.x (pc := 78) [.int (Int32.ofInt u23_)] [] l_M_141 (c_M_here l N24_ (hf_N24_.w hW) u23_ hu23_a hu23_b (show 0 ≤ ze N24_ 81 3 + u23_ by first | with_reducible assumption | (exact zo_177 e3_N13_ e3_N15_ e3_N17_ e3_N24_ i26_ i3_) | assumption) (show ze N24_ 81 3 ≤ 700 by first | with_reducible assumption | (exact zo_178 e3_N13_ e3_N15_ e3_N17_ e3_N24_ hn7_ i4_ r3_N1_.2) | assumption) (show u23_ ≤ 1000 by first | with_reducible assumption | (exact zo_179 hn7_ i27_) | assumption) (show ze N24_ 81 2 ≤ 700 by first | with_reducible assumption | (exact zo_180 e2_N13_ e2_N15_ e2_N17_ e2_N1_ e2_N24_ hn7_ hn_ r_2.2) | assumption)) rfl rfl rfl (by decide) (Nat.le_of_ble_eq_true rfl) (zdal_p dlC_M_goOn_61 (i := 20) rfl) ?_
                    rintro _ N32_ ⟨v33_, rfl, ⟨hv33_a, hv33_b⟩, hsN32_, ⟨hp0_N32_, hp1_N32_⟩⟩
                    obtain rfl := hsN32_.eq.symm
                    show zW l m_M_goOn (zn Mz + 0, zw Mz + 0) N24_ 81 [some (.ref 81), some (.int (Int32.ofInt v20_)), some (.int (Int32.ofInt u23_))] [.int (Int32.ofInt v33_)] _
                    refine zr_callS hf_N24_.x (pc := 81) [.int (Int32.ofInt v33_)] [] l_M_158 (c_M_isLetter l N24_ (hf_N24_.w hW) v33_ hv33_a hv33_b) rfl rfl (by decide) (Nat.le_of_ble_eq_true rfl) (zdal_p dlC_M_goOn_61 (i := 21) rfl) ?_
                    rintro _ N34_ ⟨v35_, rfl, ⟨hv35_a, hv35_b⟩, hsN34_, hp0_N34_⟩
                    obtain rfl := hsN34_.eq.symm
                    replace hp0_N34_ : ((v35_ = 1 ∧ 97 ≤ v33_ ∧ v33_ ≤ 122) ∨ (v35_ = 0 ∧ (v33_ < 97 ∨ 122 < v33_))) := hp0_N34_
                    rcases hp0_N34_ with ⟨rfl, ha81_0_hp0_N34_, ha81_1_hp0_N34_⟩ | ⟨rfl, ha81_0_hp0_N34_⟩
                    · skip
                      have hkl_ : zpL (zhr N24_ u23_) = true := zpL_t.mpr (by (exact zo_181 ha81_0_hp0_N34_ ha81_1_hp0_N34_ hp1_N32_))
                      have hkn_ : ze N24_ 81 3 + u23_ < n_ ∧ zhr N24_ u23_ = b_ (s_ + u23_).toNat := by rcases hk_ with ⟨q1_, q2_, q3_, q4_⟩ | ⟨q1_, q2_⟩; exact ⟨q1_, by rw [q2_, show ze N24_ 81 3 = s_ by (exact zo_182 e3_N13_ e3_N15_ e3_N17_ e3_N24_ hn7_ hs_ i26_ q1_)]⟩; exfalso; (exact zo_183 ha81_0_hp0_N34_ hp1_N32_ q2_)
                      have hr1_ := zru_st2 (P := zpL) (by (exact i26_)) (by (exact zo_184 e3_N13_ e3_N15_ e3_N17_ e3_N24_ hkn_.1 hs_ i27_)) hkn_.2 hkl_ hru_
                      have hr2_ := zall_1 (P := zpL) (by (exact i26_)) hal_ hkn_.2 hkl_
                      show zW l m_M_goOn (zn Mz + 0, zw Mz + 0) N24_ 84 [some (.ref 81), some (.int (Int32.ofInt v20_)), some (.int (Int32.ofInt u23_))] [.int (Int32.ofInt 1)] _
                      refine zr_if_eq (pc := 84) (tgt := 117) ⟨(by decide), (by decide)⟩ (by decide) (zdal_p dlC_M_goOn_61 (i := 22) rfl) (fun hc_84 => ?_) (fun hc_84 => ?_)
                      · skip
                        exact absurd hc_84 (by decide)
                      · skip
                        refine zw_iload_n (pc := 87) (n := 2) (x := Int32.ofInt u23_) rfl (zdal_p dlC_M_goOn_61 (i := 23) rfl) ?_
                        refine zw_bipush (pc := 88) (v := Int32.ofInt 6) (by decide) (zdal_p dlC_M_goOn_62 (i := 0) rfl) ?_
                        refine zr_icmp_ge (pc := 90) (tgt := 111) ⟨hu23_a, hu23_b⟩ ⟨(by decide), (by decide)⟩ (by decide) (zdal_p dlC_M_goOn_62 (i := 1) rfl) (fun hc_90 => ?_) (fun hc_90 => ?_)
                        · skip
                          refine zr_iinc (pc := 111) (i := 2) (a := u23_) (n := 1) (L2 := [some (.ref 81), some (.int (Int32.ofInt v20_)), some (.int (Int32.ofInt (u23_ + 1)))]) rfl (by decide) rfl (zdal_p dlC_M_goOn_62 (i := 13) rfl) ?_
                          refine zw_goto (pc := 114) (tgt := 76) (by decide) (zdal_p dlC_M_goOn_62 (i := 14) rfl) ?_
                          exact ih_76 (u23_ + 1) (by (exact zo_185 hc_90)) (by (exact zo_186 hn7_ i27_)) N24_ hs25_ (show 0 ≤ (u23_ + 1) by first | with_reducible assumption | (exact zo_187 hc_90) | assumption) (show s_ + (u23_ + 1) ≤ n_ by first | with_reducible assumption | (exact zo_188 e3_N13_ e3_N15_ e3_N17_ e3_N24_ hkn_.1 hs_ i27_) | assumption) (show zru zpL b_ n_ (s_ + (u23_ + 1)).toNat = zru zpL b_ n_ s_ by exact hr1_) (show ∀ j : Nat, s_ ≤ j → j < (s_ + (u23_ + 1)).toNat → zpL (b_ j) = true by exact hr2_) (show ((u23_ + 1) ≤ 6 → zg N24_ 81 11 = zw8 b_ s_ ((u23_ + 1)).toNat) by first | exact hwp_ | exact fun q_ => absurd q_ (by (exact zo_189 hc_90))) (by (exact zo_190 e3_N13_ e3_N15_ e3_N17_ e3_N24_ hkn_.1 hlt_76 hs_ i27_))
                        · skip
                          refine zw_aload_n (pc := 93) (n := 0) (x := 81) rfl (zdal_p dlC_M_goOn_62 (i := 2) rfl) ?_
                          refine zw_aload_n (pc := 94) (n := 0) (x := 81) rfl (zdal_p dlC_M_goOn_62 (i := 3) rfl) ?_
                          refine zr_getJ (hf_N24_.w hW) (pc := 95) f_M_148 rfl (zdal_p dlC_M_goOn_62 (i := 4) rfl) ?_
                          have hr36_ := zg_r N24_ 81 11
                          refine zw_bipush (pc := 98) (v := Int32.ofInt 8) (by decide) (zdal_p dlC_M_goOn_62 (i := 5) rfl) ?_
                          refine zr_lshl (pc := 100) (zdal_p dlC_M_goOn_62 (i := 6) rfl) ?_
                          have hr37_ := zlshl_r (zg N24_ 81 11) 8
                          refine zw_aload_n (pc := 101) (n := 0) (x := 81) rfl (zdal_p dlC_M_goOn_62 (i := 7) rfl) ?_
                          refine zw_iload_n (pc := 102) (n := 2) (x := Int32.ofInt u23_) rfl (zdal_p dlC_M_goOn_62 (i := 8) rfl) ?_
                          refine zr_callV (hf_N24_.w hW) hf_N24_.x (pc := 103) [.int (Int32.ofInt u23_)] [.long (Int64.ofInt (zlshl (zg N24_ 81 11) 8)), .ref 81] l_M_141 (c_M_here l N24_ (hf_N24_.w hW) u23_ hu23_a hu23_b (show 0 ≤ ze N24_ 81 3 + u23_ by first | with_reducible assumption | (exact zo_177 e3_N13_ e3_N15_ e3_N17_ e3_N24_ i26_ i3_) | assumption) (show ze N24_ 81 3 ≤ 700 by first | with_reducible assumption | (exact zo_191 hkn_.1 hn7_ i26_) | assumption) (show u23_ ≤ 1000 by first | with_reducible assumption | (exact zo_192 hc_90) | assumption) (show ze N24_ 81 2 ≤ 700 by first | with_reducible assumption | (exact zo_180 e2_N13_ e2_N15_ e2_N17_ e2_N1_ e2_N24_ hn7_ hn_ r_2.2) | assumption)) rfl rfl rfl (by decide) (Nat.le_of_ble_eq_true rfl) (zdal_p dlC_M_goOn_62 (i := 9) rfl) ?_
                          rintro _ N38_ ⟨v39_, rfl, ⟨hv39_a, hv39_b⟩, hsN38_, ⟨hp0_N38_, hp1_N38_⟩⟩
                          obtain rfl := hsN38_.eq.symm
                          show zW l m_M_goOn (zn Mz + 0, zw Mz + 0) N24_ 106 [some (.ref 81), some (.int (Int32.ofInt v20_)), some (.int (Int32.ofInt u23_))] [.int (Int32.ofInt v39_), .long (Int64.ofInt (zlshl (zg N24_ 81 11) 8)), .ref 81] _
                          have hc3_ : v39_ = b_ (s_ + u23_).toNat := by rw [← hkn_.2]; (exact hp1_N38_)
                          refine zr_i2l (pc := 106) ⟨hv39_a, hv39_b⟩ (zdal_p dlC_M_goOn_62 (i := 10) rfl) ?_
                          refine zr_lor (pc := 107) (zdal_p dlC_M_goOn_62 (i := 11) rfl) ?_
                          have hr40_ := zlor_r (zlshl (zg N24_ 81 11) 8) v39_
                          refine zr_putJ (hf_N24_.w hW) (pc := 108) f_M_148 rfl rfl rfl rfl (zdal_p dlC_M_goOn_62 (i := 12) rfl) (fun N41_ hsN41_ hvN41_ => ?_)
                          have hf_N41_ : zFr [3, 4, 5, 6, 11] [] Mz N41_ := hf_N24_.tr hsN41_ (by decide) (by decide)
                          have hb0_N41_ : zFr [11] [] N17_ N41_ := hs25_.tr hsN41_ (by decide) (by decide)
                          have e2_N41_ : ze N41_ 81 2 = ze N24_ 81 2 := hsN41_.e (by decide)
                          have e3_N41_ : ze N41_ 81 3 = ze N24_ 81 3 := hsN41_.e (by decide)
                          have e4_N41_ : ze N41_ 81 4 = ze N24_ 81 4 := hsN41_.e (by decide)
                          have e5_N41_ : ze N41_ 81 5 = ze N24_ 81 5 := hsN41_.e (by decide)
                          have e6_N41_ : ze N41_ 81 6 = ze N24_ 81 6 := hsN41_.e (by decide)
                          have hwp_ : u23_ + 1 ≤ 6 → zg N41_ 81 11 = zw8 b_ s_ (u23_ + 1).toNat := zw8_step (n := n_) (by (exact i26_)) (by (exact hc_90)) (by (exact zo_184 e3_N13_ e3_N15_ e3_N17_ e3_N24_ hkn_.1 hs_ i27_)) hal_ hwi_ hc3_ (by rw [hc3_, ← hkn_.2]; exact hkl_) (hvN41_ ⟨by (exact zo_79 hr40_.1), by (exact zo_80 hr40_.2)⟩)
                          refine zr_iinc (pc := 111) (i := 2) (a := u23_) (n := 1) (L2 := [some (.ref 81), some (.int (Int32.ofInt v20_)), some (.int (Int32.ofInt (u23_ + 1)))]) rfl (by decide) rfl (zdal_p dlC_M_goOn_62 (i := 13) rfl) ?_
                          refine zw_goto (pc := 114) (tgt := 76) (by decide) (zdal_p dlC_M_goOn_62 (i := 14) rfl) ?_
                          exact ih_76 (u23_ + 1) (by (exact zo_74 i26_)) (by (exact zo_193 hc_90)) N41_ hb0_N41_ (show 0 ≤ (u23_ + 1) by first | with_reducible assumption | (exact zo_76 i26_) | assumption) (show s_ + (u23_ + 1) ≤ n_ by first | with_reducible assumption | (exact zo_188 e3_N13_ e3_N15_ e3_N17_ e3_N24_ hkn_.1 hs_ i27_) | assumption) (show zru zpL b_ n_ (s_ + (u23_ + 1)).toNat = zru zpL b_ n_ s_ by exact hr1_) (show ∀ j : Nat, s_ ≤ j → j < (s_ + (u23_ + 1)).toNat → zpL (b_ j) = true by exact hr2_) (show ((u23_ + 1) ≤ 6 → zg N41_ 81 11 = zw8 b_ s_ ((u23_ + 1)).toNat) by first | exact hwp_ | exact fun q_ => absurd q_ (by omega)) (by (exact zo_190 e3_N13_ e3_N15_ e3_N17_ e3_N24_ hkn_.1 hlt_76 hs_ i27_))
                    · skip
                      show zW l m_M_goOn (zn Mz + 0, zw Mz + 0) N24_ 84 [some (.ref 81), some (.int (Int32.ofInt v20_)), some (.int (Int32.ofInt u23_))] [.int (Int32.ofInt 0)] _
                      refine zr_if_eq (pc := 84) (tgt := 117) ⟨(by decide), (by decide)⟩ (by decide) (zdal_p dlC_M_goOn_61 (i := 22) rfl) (fun hc_84 => ?_) (fun hc_84 => ?_)
                      · skip
                        have hend_ : u23_ = (zru zpL b_ n_ s_ : Nat) - s_ := by have hz_ := zru_sp2 (P := zpL) (b := b_) (n := n_) (s := s_) (k := u23_) (c := zhr N24_ u23_) (by (exact i26_)) (by rcases hk_ with ⟨q1_, q2_, q3_, q4_⟩ | ⟨q1_, q2_⟩; exact Or.inl ⟨by (exact zo_194 e3_N13_ e3_N15_ e3_N17_ e3_N24_ hs_ i27_ q1_), by rw [q2_, show ze N24_ 81 3 = s_ by (exact zo_182 e3_N13_ e3_N15_ e3_N17_ e3_N24_ hn7_ hs_ i26_ q1_)], Bool.eq_false_iff.mpr (fun h_ => by have := zpL_t.mp h_; (exact zo_195 hp1_N32_ hv33_a hv33_b this.1 this.2 ha81_0_hp0_N34_))⟩; exact Or.inr (by (exact zo_196 e3_N13_ e3_N15_ e3_N17_ e3_N24_ hn7_ hs_ i26_ q1_))) hru_; (exact zo_197 hn7_ hz_ i27_)
                        refine zw_aload_n (pc := 117) (n := 0) (x := 81) rfl (zdal_p dlC_M_goOn_62 (i := 15) rfl) ?_
                        refine zw_iload_n (pc := 118) (n := 2) (x := Int32.ofInt u23_) rfl (zdal_p dlC_M_goOn_62 (i := 16) rfl) ?_
                        refine zw_bipush (pc := 119) (v := Int32.ofInt 6) (by decide) (zdal_p dlC_M_goOn_62 (i := 17) rfl) ?_
                        refine zr_icmp_le (pc := 121) (tgt := 128) ⟨hu23_a, hu23_b⟩ ⟨(by decide), (by decide)⟩ (by decide) (zdal_p dlC_M_goOn_62 (i := 18) rfl) (fun hc_121 => ?_) (fun hc_121 => ?_)
                        · skip
                          refine zw_iconst (pc := 128) (v := Int32.ofInt 1) (by decide) (zdal_p dlC_M_goOn_62 (i := 21) rfl) ?_
                          refine zr_putI (hf_N24_.w hW) (pc := 129) f_M_155 rfl rfl ⟨by (exact hv22_a), by (exact hv22_b)⟩ rfl rfl (zdal_p dlC_M_goOn_62 (i := 22) rfl) (fun N43_ hsN43_ hvN43_ => ?_)
                          have hf_N43_ : zFr [3, 4, 5, 6, 11] [] Mz N43_ := hf_N24_.tr hsN43_ (by decide) (by decide)
                          have e2_N43_ : ze N43_ 81 2 = ze N24_ 81 2 := hsN43_.e (by decide)
                          have e3_N43_ : ze N43_ 81 3 = ze N24_ 81 3 := hsN43_.e (by decide)
                          have e4_N43_ : ze N43_ 81 4 = ze N24_ 81 4 := hsN43_.e (by decide)
                          have r5_N43_ := ze_r N43_ 81 5
                          have e6_N43_ : ze N43_ 81 6 = ze N24_ 81 6 := hsN43_.e (by decide)
                          have hwf_ : zg N43_ 81 11 = zg N24_ 81 11 := hsN43_.g (by decide)
                          refine zw_goto (pc := 132) (tgt := 235) (by decide) (zdal_p dlC_M_goOn_62 (i := 23) rfl) ?_
                          refine zw_aload_n (pc := 235) (n := 0) (x := 81) rfl d_M_goOn_235 ?_
                          refine zw_dup (pc := 236) rfl d_M_goOn_236 ?_
                          refine zr_getI (hf_N43_.w hW) (pc := 237) f_M_135 rfl d_M_goOn_237 ?_
                          refine zw_iload_n (pc := 240) (n := 2) (x := Int32.ofInt u23_) rfl d_M_goOn_240 ?_
                          refine zr_iadd (pc := 241) d_M_goOn_241 ?_
                          refine zr_putI (hf_N43_.w hW) (pc := 242) f_M_135 rfl rfl ⟨by (exact zo_198 e3_N13_ e3_N15_ e3_N17_ e3_N24_ e3_N43_ i26_ i3_), by (exact zo_199 e3_N13_ e3_N15_ e3_N17_ e3_N24_ e3_N43_ hc_121 hn7_ i4_ r3_N1_.2)⟩ rfl rfl d_M_goOn_242 (fun N45_ hsN45_ hvN45_ => ?_)
                          have hf_N45_ : zFr [3, 4, 5, 6, 11] [] Mz N45_ := hf_N43_.tr hsN45_ (by decide) (by decide)
                          have e2_N45_ : ze N45_ 81 2 = ze N43_ 81 2 := hsN45_.e (by decide)
                          have r3_N45_ := ze_r N45_ 81 3
                          have e4_N45_ : ze N45_ 81 4 = ze N43_ 81 4 := hsN45_.e (by decide)
                          have e5_N45_ : ze N45_ 81 5 = ze N43_ 81 5 := hsN45_.e (by decide)
                          have e6_N45_ : ze N45_ 81 6 = ze N43_ 81 6 := hsN45_.e (by decide)
                          have hge_ := zru_ge (P := zpL) (b := b_) (n := n_) (p := s_)
                          have hge2_ := zru_ge (P := zpD) (b := b_) (n := n_) (p := s_)
                          have hfin_ : zRt b_ n_ N45_ := by first | exact zRt_L (s := s_) (by (exact zo_200 e4_N15_ e4_N17_ e4_N24_ e4_N43_ e4_N45_ hn7_ hs_ hvN13_ i4_ r3_N1_.2)) hsn_ hlt_ (by (exact zo_201 e3_N13_ e3_N15_ e3_N17_ e3_N24_ e3_N43_ hc_121 hend_ hn7_ hs_ hvN45_ i27_ i4_ r3_N1_.2 r3_N45_.1)) (fun q_ => by have w_ := hwi_ (by (exact hc_121)); rw [show (u23_).toNat = zru zpL b_ n_ s_ - s_ by (exact zo_202 hc_121 hend_ hge_ hn7_ i26_ i27_ q_)] at w_; rw [← w_]; first | exact (hsN45_.g (by decide)).trans hwf_) (by (exact zo_203 e5_N45_ hc_121 hend_ hge_ hvN43_)) | exact zRt_D (s := s_) (by omega) hsn_ hnl_ hdt_ (by omega) (fun q_ => by have w_ := hwi_ (by omega); rw [show (u23_).toNat = zru zpD b_ n_ s_ - s_ by omega] at w_; omega) (by first | exact Or.inr ⟨fun q_ => by have := q_.1; omega, by omega⟩ | exact Or.inr ⟨fun q_ => q_.2 ⟨hlb_.2, hlb_.1⟩, by omega⟩ | exact Or.inl ⟨⟨by omega, hlc_⟩, by omega⟩) | exact zRt_S (s := s_) (by omega) hsn_ hnl_ hnd_ (by omega) (by omega) (by first | exact Or.inl ⟨hsg_, by omega⟩ | exact Or.inr ⟨hsg_, by omega⟩)
                          exact zr_vret (pc := 245) rfl hf_N45_ ⟨(show ze N45_ 81 4 = (zru zpB b_ n_ (ze Mz 81 3).toNat : Nat) by (exact zo_204 e4_N15_ e4_N17_ e4_N24_ e4_N43_ e4_N45_ hn7_ hst_ hvN13_ i4_ r3_N1_.2)), hfin_⟩ d_M_goOn_245
                        · skip
                          refine zw_iconst (pc := 124) (v := Int32.ofInt 4) (by decide) (zdal_p dlC_M_goOn_62 (i := 19) rfl) ?_
                          refine zw_goto (pc := 125) (tgt := 129) (by decide) (zdal_p dlC_M_goOn_62 (i := 20) rfl) ?_
                          refine zr_putI (hf_N24_.w hW) (pc := 129) f_M_155 rfl rfl ⟨by (decide), by (decide)⟩ rfl rfl (zdal_p dlC_M_goOn_62 (i := 22) rfl) (fun N47_ hsN47_ hvN47_ => ?_)
                          have hf_N47_ : zFr [3, 4, 5, 6, 11] [] Mz N47_ := hf_N24_.tr hsN47_ (by decide) (by decide)
                          have e2_N47_ : ze N47_ 81 2 = ze N24_ 81 2 := hsN47_.e (by decide)
                          have e3_N47_ : ze N47_ 81 3 = ze N24_ 81 3 := hsN47_.e (by decide)
                          have e4_N47_ : ze N47_ 81 4 = ze N24_ 81 4 := hsN47_.e (by decide)
                          have r5_N47_ := ze_r N47_ 81 5
                          have e6_N47_ : ze N47_ 81 6 = ze N24_ 81 6 := hsN47_.e (by decide)
                          have hwf_ : zg N47_ 81 11 = zg N24_ 81 11 := hsN47_.g (by decide)
                          refine zw_goto (pc := 132) (tgt := 235) (by decide) (zdal_p dlC_M_goOn_62 (i := 23) rfl) ?_
                          refine zw_aload_n (pc := 235) (n := 0) (x := 81) rfl d_M_goOn_235 ?_
                          refine zw_dup (pc := 236) rfl d_M_goOn_236 ?_
                          refine zr_getI (hf_N47_.w hW) (pc := 237) f_M_135 rfl d_M_goOn_237 ?_
                          refine zw_iload_n (pc := 240) (n := 2) (x := Int32.ofInt u23_) rfl d_M_goOn_240 ?_
                          refine zr_iadd (pc := 241) d_M_goOn_241 ?_
                          refine zr_putI (hf_N47_.w hW) (pc := 242) f_M_135 rfl rfl ⟨by (exact zo_205 e3_N13_ e3_N15_ e3_N17_ e3_N24_ e3_N47_ hc_121 i3_), by (exact zo_206 e3_N13_ e3_N15_ e3_N17_ e3_N24_ e3_N47_ hn7_ i27_ i4_ r3_N1_.2)⟩ rfl rfl d_M_goOn_242 (fun N49_ hsN49_ hvN49_ => ?_)
                          have hf_N49_ : zFr [3, 4, 5, 6, 11] [] Mz N49_ := hf_N47_.tr hsN49_ (by decide) (by decide)
                          have e2_N49_ : ze N49_ 81 2 = ze N47_ 81 2 := hsN49_.e (by decide)
                          have r3_N49_ := ze_r N49_ 81 3
                          have e4_N49_ : ze N49_ 81 4 = ze N47_ 81 4 := hsN49_.e (by decide)
                          have e5_N49_ : ze N49_ 81 5 = ze N47_ 81 5 := hsN49_.e (by decide)
                          have e6_N49_ : ze N49_ 81 6 = ze N47_ 81 6 := hsN49_.e (by decide)
                          have hge_ := zru_ge (P := zpL) (b := b_) (n := n_) (p := s_)
                          have hge2_ := zru_ge (P := zpD) (b := b_) (n := n_) (p := s_)
                          have hfin_ : zRt b_ n_ N49_ := by first | exact zRt_L (s := s_) (by (exact zo_200 e4_N15_ e4_N17_ e4_N24_ e4_N47_ e4_N49_ hn7_ hs_ hvN13_ i4_ r3_N1_.2)) hsn_ hlt_ (by (exact zo_207 e3_N13_ e3_N15_ e3_N17_ e3_N24_ e3_N47_ hend_ hn7_ hs_ hvN49_ i27_ r3_N49_.1)) (fun q_ => by have w_ := hwi_ (by (exact zo_208 hend_ hn7_ i27_ q_)); rw [show (u23_).toNat = zru zpL b_ n_ s_ - s_ by (exact zo_209 hc_121 hend_ hge_ hn7_ i27_ q_)] at w_; rw [← w_]; first | exact (hsN49_.g (by decide)).trans hwf_) (by (exact zo_210 e5_N49_ hc_121 hend_ hge_ hvN47_)) | exact zRt_D (s := s_) (by omega) hsn_ hnl_ hdt_ (by omega) (fun q_ => by have w_ := hwi_ (by omega); rw [show (u23_).toNat = zru zpD b_ n_ s_ - s_ by omega] at w_; omega) (by first | exact Or.inr ⟨fun q_ => by have := q_.1; omega, by omega⟩ | exact Or.inr ⟨fun q_ => q_.2 ⟨hlb_.2, hlb_.1⟩, by omega⟩ | exact Or.inl ⟨⟨by omega, hlc_⟩, by omega⟩) | exact zRt_S (s := s_) (by omega) hsn_ hnl_ hnd_ (by omega) (by omega) (by first | exact Or.inl ⟨hsg_, by omega⟩ | exact Or.inr ⟨hsg_, by omega⟩)
                          exact zr_vret (pc := 245) rfl hf_N49_ ⟨(show ze N49_ 81 4 = (zru zpB b_ n_ (ze Mz 81 3).toNat : Nat) by (exact zo_204 e4_N15_ e4_N17_ e4_N24_ e4_N47_ e4_N49_ hn7_ hst_ hvN13_ i4_ r3_N1_.2)), hfin_⟩ d_M_goOn_245
                      · skip
                        exact absurd hc_84 (by decide)
                exact lp_76 _ 0 (by decide) (by decide) N17_ zFr.rf (show 0 ≤ (0 : Int) by first | with_reducible assumption | (decide) | assumption) (show s_ + (0 : Int) ≤ n_ by (exact zo_211 hsn_)) (show zru zpL b_ n_ (s_ + (0 : Int)).toNat = zru zpL b_ n_ s_ by rw [show (s_ + (0 : Int)).toNat = s_ by (exact zo_212)]) (show ∀ j : Nat, s_ ≤ j → j < (s_ + (0 : Int)).toNat → zpL (b_ j) = true by intro j h1 h2; omega) (show ((0 : Int) ≤ 6 → zg N17_ 81 11 = zw8 b_ s_ ((0 : Int)).toNat) by intro _; exact hv0_) (Nat.lt_succ_self _)
            · skip
              show zW l m_M_goOn (zn Mz + 0, zw Mz + 0) N17_ 73 [some (.ref 81), some (.int (Int32.ofInt v20_)), some (.int (Int32.ofInt 0))] [.int (Int32.ofInt 0)] _
              refine zr_if_eq (pc := 73) (tgt := 135) ⟨(by decide), (by decide)⟩ (by decide) (zdal_p dlC_M_goOn_61 (i := 17) rfl) (fun hc_73 => ?_) (fun hc_73 => ?_)
              · skip
                have hnl_ : zpL (b_ s_) = false := by rw [← hcb_]; exact Bool.eq_false_iff.mpr (fun h_ => by have := zpL_t.mp h_; (exact zo_213 this.1 this.2 ha70_0_hp0_N21_))
                refine zw_iload_n (pc := 135) (n := 1) (x := Int32.ofInt v20_) rfl (zdal_p dlC_M_goOn_63 (i := 0) rfl) ?_
                refine zr_callS hf_N17_.x (pc := 136) [.int (Int32.ofInt v20_)] [] l_M_162 (c_M_isDigit l N17_ (hf_N17_.w hW) v20_ hv20_a hv20_b) rfl rfl (by decide) (Nat.le_of_ble_eq_true rfl) (zdal_p dlC_M_goOn_63 (i := 1) rfl) ?_
                rintro _ N51_ ⟨v52_, rfl, ⟨hv52_a, hv52_b⟩, hsN51_, hp0_N51_⟩
                obtain rfl := hsN51_.eq.symm
                replace hp0_N51_ : ((v52_ = 1 ∧ 48 ≤ v20_ ∧ v20_ ≤ 57) ∨ (v52_ = 0 ∧ (v20_ < 48 ∨ 57 < v20_))) := hp0_N51_
                rcases hp0_N51_ with ⟨rfl, ha136_0_hp0_N51_, ha136_1_hp0_N51_⟩ | ⟨rfl, ha136_0_hp0_N51_⟩
                · skip
                  have hdt_ : zpD (b_ s_) = true := by rw [← hcb_]; exact zpD_t.mpr (by (exact zo_214 ha136_0_hp0_N51_ ha136_1_hp0_N51_))
                  show zW l m_M_goOn (zn Mz + 0, zw Mz + 0) N17_ 139 [some (.ref 81), some (.int (Int32.ofInt v20_)), some (.int (Int32.ofInt 0))] [.int (Int32.ofInt 1)] _
                  refine zr_if_eq (pc := 139) (tgt := 212) ⟨(by decide), (by decide)⟩ (by decide) (zdal_p dlC_M_goOn_63 (i := 2) rfl) (fun hc_139 => ?_) (fun hc_139 => ?_)
                  · skip
                    exact absurd hc_139 (by decide)
                  · skip
                    have lp_142 : ∀ (n : Nat) (u53_ : Int) (hu53_a : -2147483648 ≤ u53_) (hu53_b : u53_ < 2147483648) (N54_ : zMem) (hs55_ : zFr [6] [] N17_ N54_) (i56_ : 0 ≤ u53_) (i57_ : s_ + u53_ ≤ n_) (i58_ : zru zpD b_ n_ (s_ + u53_).toNat = zru zpD b_ n_ s_) (i59_ : ∀ j : Nat, s_ ≤ j → j < (s_ + u53_).toNat → zpD (b_ j) = true) (i60_ : (u53_ ≤ 3 → ze N54_ 81 6 = zvl b_ s_ (u53_).toNat)), (n_ - s_ - u53_).toNat < n → zW l m_M_goOn (zn Mz + 0, zw Mz + 0) N54_ 142 [some (.ref 81), some (.int (Int32.ofInt v20_)), some (.int (Int32.ofInt u53_))] [] (zpV [3, 4, 5, 6, 11] [] Mz (fun N => ze N 81 4 = (zru zpB b_ n_ (ze Mz 81 3).toNat : Nat) ∧ zRt b_ n_ N)) := by
                      intro n
                      induction n with
                      | zero =>
                        intro u53_ hu53_a hu53_b N54_ hs55_ i56_ i57_ i58_ i59_ i60_ h0
                        exact absurd h0 (Nat.not_lt_zero _)
                      | succ n ih_142 =>
                        intro u53_ hu53_a hu53_b N54_ hs55_ i56_ i57_ i58_ i59_ i60_ hlt_142
                        have hf_N54_ : zFr [3, 4, 5, 6, 11] [] Mz N54_ := hf_N17_.tr hs55_ (by decide) (by decide)
                        have e2_N54_ : ze N54_ 81 2 = ze N17_ 81 2 := hs55_.e (by decide)
                        have e3_N54_ : ze N54_ 81 3 = ze N17_ 81 3 := hs55_.e (by decide)
                        have e4_N54_ : ze N54_ 81 4 = ze N17_ 81 4 := hs55_.e (by decide)
                        have e5_N54_ : ze N54_ 81 5 = ze N17_ 81 5 := hs55_.e (by decide)
                        have r6_N54_ := ze_r N54_ 81 6
                        have c61_ : zRb b_ n_ N54_ := zRb.fr hs55_ c18_ (by decide) (by decide)
                        have hk_ := c61_.h (k := u53_) (by (exact zo_215 e3_N13_ e3_N15_ e3_N17_ e3_N54_ i3_ i56_))
                        have hru_ := (show zru zpD b_ n_ (s_ + u53_).toNat = zru zpD b_ n_ s_ by first | with_reducible assumption | assumption)
                        have hal_ := (show ∀ j : Nat, s_ ≤ j → j < (s_ + u53_).toNat → zpD (b_ j) = true by first | with_reducible assumption | assumption)
                        have hwi_ := (show (u53_ ≤ 3 → ze N54_ 81 6 = zvl b_ s_ (u53_).toNat) by first | with_reducible assumption | assumption)
                        refine zw_aload_n (pc := 142) (n := 0) (x := 81) rfl (zdal_p dlC_M_goOn_63 (i := 3) rfl) ?_
                        refine zw_iload_n (pc := 143) (n := 2) (x := Int32.ofInt u53_) rfl (zdal_p dlC_M_goOn_63 (i := 4) rfl) ?_
                        refine zr_callV (hf_N54_.w hW) hf_N54_.x (pc := 144) [.int (Int32.ofInt u53_)] [] l_M_141 (c_M_here l N54_ (hf_N54_.w hW) u53_ hu53_a hu53_b (show 0 ≤ ze N54_ 81 3 + u53_ by first | with_reducible assumption | (exact zo_215 e3_N13_ e3_N15_ e3_N17_ e3_N54_ i3_ i56_) | assumption) (show ze N54_ 81 3 ≤ 700 by first | with_reducible assumption | (exact zo_178 e3_N13_ e3_N15_ e3_N17_ e3_N54_ hn7_ i4_ r3_N1_.2) | assumption) (show u53_ ≤ 1000 by first | with_reducible assumption | (exact zo_179 hn7_ i57_) | assumption) (show ze N54_ 81 2 ≤ 700 by first | with_reducible assumption | (exact zo_180 e2_N13_ e2_N15_ e2_N17_ e2_N1_ e2_N54_ hn7_ hn_ r_2.2) | assumption)) rfl rfl rfl (by decide) (Nat.le_of_ble_eq_true rfl) (zdal_p dlC_M_goOn_63 (i := 5) rfl) ?_
                        rintro _ N62_ ⟨v63_, rfl, ⟨hv63_a, hv63_b⟩, hsN62_, ⟨hp0_N62_, hp1_N62_⟩⟩
                        obtain rfl := hsN62_.eq.symm
                        show zW l m_M_goOn (zn Mz + 0, zw Mz + 0) N54_ 147 [some (.ref 81), some (.int (Int32.ofInt v20_)), some (.int (Int32.ofInt u53_))] [.int (Int32.ofInt v63_)] _
                        refine zr_callS hf_N54_.x (pc := 147) [.int (Int32.ofInt v63_)] [] l_M_162 (c_M_isDigit l N54_ (hf_N54_.w hW) v63_ hv63_a hv63_b) rfl rfl (by decide) (Nat.le_of_ble_eq_true rfl) (zdal_p dlC_M_goOn_63 (i := 6) rfl) ?_
                        rintro _ N64_ ⟨v65_, rfl, ⟨hv65_a, hv65_b⟩, hsN64_, hp0_N64_⟩
                        obtain rfl := hsN64_.eq.symm
                        replace hp0_N64_ : ((v65_ = 1 ∧ 48 ≤ v63_ ∧ v63_ ≤ 57) ∨ (v65_ = 0 ∧ (v63_ < 48 ∨ 57 < v63_))) := hp0_N64_
                        rcases hp0_N64_ with ⟨rfl, ha147_0_hp0_N64_, ha147_1_hp0_N64_⟩ | ⟨rfl, ha147_0_hp0_N64_⟩
                        · skip
                          have hkl_ : zpD (zhr N54_ u53_) = true := zpD_t.mpr (by (exact zo_216 ha147_0_hp0_N64_ ha147_1_hp0_N64_ hp1_N62_))
                          have hkn_ : ze N54_ 81 3 + u53_ < n_ ∧ zhr N54_ u53_ = b_ (s_ + u53_).toNat := by rcases hk_ with ⟨q1_, q2_, q3_, q4_⟩ | ⟨q1_, q2_⟩; exact ⟨q1_, by rw [q2_, show ze N54_ 81 3 = s_ by (exact zo_182 e3_N13_ e3_N15_ e3_N17_ e3_N54_ hn7_ hs_ i56_ q1_)]⟩; exfalso; (exact zo_217 ha147_0_hp0_N64_ hp1_N62_ q2_)
                          have hr1_ := zru_st2 (P := zpD) (by (exact i56_)) (by (exact zo_184 e3_N13_ e3_N15_ e3_N17_ e3_N54_ hkn_.1 hs_ i57_)) hkn_.2 hkl_ hru_
                          have hr2_ := zall_1 (P := zpD) (by (exact i56_)) hal_ hkn_.2 hkl_
                          show zW l m_M_goOn (zn Mz + 0, zw Mz + 0) N54_ 150 [some (.ref 81), some (.int (Int32.ofInt v20_)), some (.int (Int32.ofInt u53_))] [.int (Int32.ofInt 1)] _
                          refine zr_if_eq (pc := 150) (tgt := 184) ⟨(by decide), (by decide)⟩ (by decide) (zdal_p dlC_M_goOn_63 (i := 7) rfl) (fun hc_150 => ?_) (fun hc_150 => ?_)
                          · skip
                            exact absurd hc_150 (by decide)
                          · skip
                            refine zw_iload_n (pc := 153) (n := 2) (x := Int32.ofInt u53_) rfl (zdal_p dlC_M_goOn_63 (i := 8) rfl) ?_
                            refine zw_iconst (pc := 154) (v := Int32.ofInt 3) (by decide) (zdal_p dlC_M_goOn_63 (i := 9) rfl) ?_
                            refine zr_icmp_ge (pc := 155) (tgt := 178) ⟨hu53_a, hu53_b⟩ ⟨(by decide), (by decide)⟩ (by decide) (zdal_p dlC_M_goOn_63 (i := 10) rfl) (fun hc_155 => ?_) (fun hc_155 => ?_)
                            · skip
                              refine zr_iinc (pc := 178) (i := 2) (a := u53_) (n := 1) (L2 := [some (.ref 81), some (.int (Int32.ofInt v20_)), some (.int (Int32.ofInt (u53_ + 1)))]) rfl (by decide) rfl (zdal_p dlC_M_goOn_63 (i := 23) rfl) ?_
                              refine zw_goto (pc := 181) (tgt := 142) (by decide) (zdal_p dlC_M_goOn_64 (i := 0) rfl) ?_
                              exact ih_142 (u53_ + 1) (by (exact zo_218 hc_155)) (by (exact zo_186 hn7_ i57_)) N54_ hs55_ (show 0 ≤ (u53_ + 1) by first | with_reducible assumption | (exact zo_219 hc_155) | assumption) (show s_ + (u53_ + 1) ≤ n_ by first | with_reducible assumption | (exact zo_188 e3_N13_ e3_N15_ e3_N17_ e3_N54_ hkn_.1 hs_ i57_) | assumption) (show zru zpD b_ n_ (s_ + (u53_ + 1)).toNat = zru zpD b_ n_ s_ by exact hr1_) (show ∀ j : Nat, s_ ≤ j → j < (s_ + (u53_ + 1)).toNat → zpD (b_ j) = true by exact hr2_) (show ((u53_ + 1) ≤ 3 → ze N54_ 81 6 = zvl b_ s_ ((u53_ + 1)).toNat) by first | exact hvp_ | exact fun q_ => absurd q_ (by (exact zo_220 hc_155))) (by (exact zo_190 e3_N13_ e3_N15_ e3_N17_ e3_N54_ hkn_.1 hlt_142 hs_ i57_))
                            · skip
                              refine zw_aload_n (pc := 158) (n := 0) (x := 81) rfl (zdal_p dlC_M_goOn_63 (i := 11) rfl) ?_
                              refine zw_bipush (pc := 159) (v := Int32.ofInt 10) (by decide) (zdal_p dlC_M_goOn_63 (i := 12) rfl) ?_
                              refine zw_aload_n (pc := 161) (n := 0) (x := 81) rfl (zdal_p dlC_M_goOn_63 (i := 13) rfl) ?_
                              refine zr_getI (hf_N54_.w hW) (pc := 162) f_M_152 rfl (zdal_p dlC_M_goOn_63 (i := 14) rfl) ?_
                              refine zr_imul (pc := 165) (zdal_p dlC_M_goOn_63 (i := 15) rfl) ?_
                              refine zw_aload_n (pc := 166) (n := 0) (x := 81) rfl (zdal_p dlC_M_goOn_63 (i := 16) rfl) ?_
                              refine zw_iload_n (pc := 167) (n := 2) (x := Int32.ofInt u53_) rfl (zdal_p dlC_M_goOn_63 (i := 17) rfl) ?_
                              refine zr_callV (hf_N54_.w hW) hf_N54_.x (pc := 168) [.int (Int32.ofInt u53_)] [.int (Int32.ofInt (10 * (ze N54_ 81 6))), .ref 81] l_M_141 (c_M_here l N54_ (hf_N54_.w hW) u53_ hu53_a hu53_b (show 0 ≤ ze N54_ 81 3 + u53_ by first | with_reducible assumption | (exact zo_215 e3_N13_ e3_N15_ e3_N17_ e3_N54_ i3_ i56_) | assumption) (show ze N54_ 81 3 ≤ 700 by first | with_reducible assumption | (exact zo_191 hkn_.1 hn7_ i56_) | assumption) (show u53_ ≤ 1000 by first | with_reducible assumption | (exact zo_221 hc_155) | assumption) (show ze N54_ 81 2 ≤ 700 by first | with_reducible assumption | (exact zo_180 e2_N13_ e2_N15_ e2_N17_ e2_N1_ e2_N54_ hn7_ hn_ r_2.2) | assumption)) rfl rfl rfl (by decide) (Nat.le_of_ble_eq_true rfl) (zdal_p dlC_M_goOn_63 (i := 18) rfl) ?_
                              rintro _ N66_ ⟨v67_, rfl, ⟨hv67_a, hv67_b⟩, hsN66_, ⟨hp0_N66_, hp1_N66_⟩⟩
                              obtain rfl := hsN66_.eq.symm
                              show zW l m_M_goOn (zn Mz + 0, zw Mz + 0) N54_ 171 [some (.ref 81), some (.int (Int32.ofInt v20_)), some (.int (Int32.ofInt u53_))] [.int (Int32.ofInt v67_), .int (Int32.ofInt (10 * (ze N54_ 81 6))), .ref 81] _
                              have hc3_ : v67_ = b_ (s_ + u53_).toNat := by rw [← hkn_.2]; (exact hp1_N66_)
                              have hd99_ := zvl_d3 (by (exact i56_)) (by (exact hc_155)) hal_ hwi_
                              have hcd_ := zpD_t.mp hkl_
                              refine zr_iadd (pc := 171) (zdal_p dlC_M_goOn_63 (i := 19) rfl) ?_
                              refine zw_bipush (pc := 172) (v := Int32.ofInt 48) (by decide) (zdal_p dlC_M_goOn_63 (i := 20) rfl) ?_
                              refine zr_isub (pc := 174) (zdal_p dlC_M_goOn_63 (i := 21) rfl) ?_
                              refine zr_putI (hf_N54_.w hW) (pc := 175) f_M_152 rfl rfl ⟨by (exact zo_222 hcd_.1 hd99_.1 hp1_N66_ hv67_a), by (exact zo_223 hcd_.2 hd99_.2 hp1_N66_ hv67_b)⟩ rfl rfl (zdal_p dlC_M_goOn_63 (i := 22) rfl) (fun N68_ hsN68_ hvN68_ => ?_)
                              have hf_N68_ : zFr [3, 4, 5, 6, 11] [] Mz N68_ := hf_N54_.tr hsN68_ (by decide) (by decide)
                              have hb0_N68_ : zFr [6] [] N17_ N68_ := hs55_.tr hsN68_ (by decide) (by decide)
                              have e2_N68_ : ze N68_ 81 2 = ze N54_ 81 2 := hsN68_.e (by decide)
                              have e3_N68_ : ze N68_ 81 3 = ze N54_ 81 3 := hsN68_.e (by decide)
                              have e4_N68_ : ze N68_ 81 4 = ze N54_ 81 4 := hsN68_.e (by decide)
                              have e5_N68_ : ze N68_ 81 5 = ze N54_ 81 5 := hsN68_.e (by decide)
                              have r6_N68_ := ze_r N68_ 81 6
                              have hvp_ : u53_ + 1 ≤ 3 → ze N68_ 81 6 = zvl b_ s_ (u53_ + 1).toNat := zvl_st3 hB_ (by (exact i56_)) (by (exact hc_155)) hwi_ hc3_ hvN68_
                              refine zr_iinc (pc := 178) (i := 2) (a := u53_) (n := 1) (L2 := [some (.ref 81), some (.int (Int32.ofInt v20_)), some (.int (Int32.ofInt (u53_ + 1)))]) rfl (by decide) rfl (zdal_p dlC_M_goOn_63 (i := 23) rfl) ?_
                              refine zw_goto (pc := 181) (tgt := 142) (by decide) (zdal_p dlC_M_goOn_64 (i := 0) rfl) ?_
                              exact ih_142 (u53_ + 1) (by (exact zo_74 i56_)) (by (exact zo_224 hc_155)) N68_ hb0_N68_ (show 0 ≤ (u53_ + 1) by first | with_reducible assumption | (exact zo_76 i56_) | assumption) (show s_ + (u53_ + 1) ≤ n_ by first | with_reducible assumption | (exact zo_188 e3_N13_ e3_N15_ e3_N17_ e3_N54_ hkn_.1 hs_ i57_) | assumption) (show zru zpD b_ n_ (s_ + (u53_ + 1)).toNat = zru zpD b_ n_ s_ by exact hr1_) (show ∀ j : Nat, s_ ≤ j → j < (s_ + (u53_ + 1)).toNat → zpD (b_ j) = true by exact hr2_) (show ((u53_ + 1) ≤ 3 → ze N68_ 81 6 = zvl b_ s_ ((u53_ + 1)).toNat) by first | exact hvp_ | exact fun q_ => absurd q_ (by omega)) (by (exact zo_190 e3_N13_ e3_N15_ e3_N17_ e3_N54_ hkn_.1 hlt_142 hs_ i57_))
                        · skip
                          show zW l m_M_goOn (zn Mz + 0, zw Mz + 0) N54_ 150 [some (.ref 81), some (.int (Int32.ofInt v20_)), some (.int (Int32.ofInt u53_))] [.int (Int32.ofInt 0)] _
                          refine zr_if_eq (pc := 150) (tgt := 184) ⟨(by decide), (by decide)⟩ (by decide) (zdal_p dlC_M_goOn_63 (i := 7) rfl) (fun hc_150 => ?_) (fun hc_150 => ?_)
                          · skip
                            have hend_ : u53_ = (zru zpD b_ n_ s_ : Nat) - s_ := by have hz_ := zru_sp2 (P := zpD) (b := b_) (n := n_) (s := s_) (k := u53_) (c := zhr N54_ u53_) (by (exact i56_)) (by rcases hk_ with ⟨q1_, q2_, q3_, q4_⟩ | ⟨q1_, q2_⟩; exact Or.inl ⟨by (exact zo_194 e3_N13_ e3_N15_ e3_N17_ e3_N54_ hs_ i57_ q1_), by rw [q2_, show ze N54_ 81 3 = s_ by (exact zo_182 e3_N13_ e3_N15_ e3_N17_ e3_N54_ hn7_ hs_ i56_ q1_)], Bool.eq_false_iff.mpr (fun h_ => by have := zpD_t.mp h_; (exact zo_225 hp1_N62_ hv63_a hv63_b this.1 this.2 ha147_0_hp0_N64_))⟩; exact Or.inr (by (exact zo_196 e3_N13_ e3_N15_ e3_N17_ e3_N54_ hn7_ hs_ i56_ q1_))) hru_; (exact zo_197 hn7_ hz_ i57_)
                            refine zw_aload_n (pc := 184) (n := 0) (x := 81) rfl (zdal_p dlC_M_goOn_64 (i := 1) rfl) ?_
                            refine zw_iload_n (pc := 185) (n := 2) (x := Int32.ofInt u53_) rfl (zdal_p dlC_M_goOn_64 (i := 2) rfl) ?_
                            refine zw_iconst (pc := 186) (v := Int32.ofInt 3) (by decide) (zdal_p dlC_M_goOn_64 (i := 3) rfl) ?_
                            refine zr_icmp_gt (pc := 187) (tgt := 201) ⟨hu53_a, hu53_b⟩ ⟨(by decide), (by decide)⟩ (by decide) (zdal_p dlC_M_goOn_64 (i := 4) rfl) (fun hc_187 => ?_) (fun hc_187 => ?_)
                            · skip
                              refine zw_iconst (pc := 201) (v := Int32.ofInt 4) (by decide) (zdal_p dlC_M_goOn_64 (i := 10) rfl) ?_
                              refine zw_goto (pc := 202) (tgt := 206) (by decide) (zdal_p dlC_M_goOn_64 (i := 11) rfl) ?_
                              refine zr_putI (hf_N54_.w hW) (pc := 206) f_M_155 rfl rfl ⟨by (decide), by (decide)⟩ rfl rfl (zdal_p dlC_M_goOn_64 (i := 13) rfl) (fun N70_ hsN70_ hvN70_ => ?_)
                              have hf_N70_ : zFr [3, 4, 5, 6, 11] [] Mz N70_ := hf_N54_.tr hsN70_ (by decide) (by decide)
                              have e2_N70_ : ze N70_ 81 2 = ze N54_ 81 2 := hsN70_.e (by decide)
                              have e3_N70_ : ze N70_ 81 3 = ze N54_ 81 3 := hsN70_.e (by decide)
                              have e4_N70_ : ze N70_ 81 4 = ze N54_ 81 4 := hsN70_.e (by decide)
                              have r5_N70_ := ze_r N70_ 81 5
                              have e6_N70_ : ze N70_ 81 6 = ze N54_ 81 6 := hsN70_.e (by decide)
                              refine zw_goto (pc := 209) (tgt := 235) (by decide) (zdal_p dlC_M_goOn_64 (i := 14) rfl) ?_
                              refine zw_aload_n (pc := 235) (n := 0) (x := 81) rfl d_M_goOn_235 ?_
                              refine zw_dup (pc := 236) rfl d_M_goOn_236 ?_
                              refine zr_getI (hf_N70_.w hW) (pc := 237) f_M_135 rfl d_M_goOn_237 ?_
                              refine zw_iload_n (pc := 240) (n := 2) (x := Int32.ofInt u53_) rfl d_M_goOn_240 ?_
                              refine zr_iadd (pc := 241) d_M_goOn_241 ?_
                              refine zr_putI (hf_N70_.w hW) (pc := 242) f_M_135 rfl rfl ⟨by (exact zo_226 e3_N13_ e3_N15_ e3_N17_ e3_N54_ e3_N70_ hc_187 i3_), by (exact zo_227 e3_N13_ e3_N15_ e3_N17_ e3_N54_ e3_N70_ hn7_ i4_ i57_ r3_N1_.2)⟩ rfl rfl d_M_goOn_242 (fun N72_ hsN72_ hvN72_ => ?_)
                              have hf_N72_ : zFr [3, 4, 5, 6, 11] [] Mz N72_ := hf_N70_.tr hsN72_ (by decide) (by decide)
                              have e2_N72_ : ze N72_ 81 2 = ze N70_ 81 2 := hsN72_.e (by decide)
                              have r3_N72_ := ze_r N72_ 81 3
                              have e4_N72_ : ze N72_ 81 4 = ze N70_ 81 4 := hsN72_.e (by decide)
                              have e5_N72_ : ze N72_ 81 5 = ze N70_ 81 5 := hsN72_.e (by decide)
                              have e6_N72_ : ze N72_ 81 6 = ze N70_ 81 6 := hsN72_.e (by decide)
                              have hge_ := zru_ge (P := zpL) (b := b_) (n := n_) (p := s_)
                              have hge2_ := zru_ge (P := zpD) (b := b_) (n := n_) (p := s_)
                              have hfin_ : zRt b_ n_ N72_ := by first | exact zRt_L (s := s_) (by omega) hsn_ hlt_ (by omega) (fun q_ => by have w_ := hwi_ (by omega); rw [show (u53_).toNat = zru zpL b_ n_ s_ - s_ by omega] at w_; rw [← w_]; first | exact (hsN72_.g (by decide)).trans hwf_) (by omega) | exact zRt_D (s := s_) (by (exact zo_200 e4_N15_ e4_N17_ e4_N54_ e4_N70_ e4_N72_ hn7_ hs_ hvN13_ i4_ r3_N1_.2)) hsn_ hnl_ hdt_ (by (exact zo_207 e3_N13_ e3_N15_ e3_N17_ e3_N54_ e3_N70_ hend_ hn7_ hs_ hvN72_ i57_ r3_N72_.1)) (fun q_ => by have w_ := hwi_ (by (exact zo_228 hend_ hn7_ i57_ q_)); rw [show (u53_).toNat = zru zpD b_ n_ s_ - s_ by (exact zo_229 hc_187 hend_ hge2_ hn7_ i57_ q_)] at w_; (exact zo_230 e6_N70_ e6_N72_ w_)) (by first | exact Or.inr ⟨fun q_ => by have := q_.1; (exact zo_231 hc_187 hend_ this), by (exact zo_232 e5_N72_ hvN70_)⟩ | exact Or.inr ⟨fun q_ => q_.2 ⟨hlb_.2, hlb_.1⟩, by omega⟩ | exact Or.inl ⟨⟨by omega, hlc_⟩, by omega⟩) | exact zRt_S (s := s_) (by omega) hsn_ hnl_ hnd_ (by omega) (by omega) (by first | exact Or.inl ⟨hsg_, by omega⟩ | exact Or.inr ⟨hsg_, by omega⟩)
                              exact zr_vret (pc := 245) rfl hf_N72_ ⟨(show ze N72_ 81 4 = (zru zpB b_ n_ (ze Mz 81 3).toNat : Nat) by (exact zo_204 e4_N15_ e4_N17_ e4_N54_ e4_N70_ e4_N72_ hn7_ hst_ hvN13_ i4_ r3_N1_.2)), hfin_⟩ d_M_goOn_245
                            · skip
                              refine zw_aload_n (pc := 190) (n := 0) (x := 81) rfl (zdal_p dlC_M_goOn_64 (i := 5) rfl) ?_
                              refine zw_iload_n (pc := 191) (n := 2) (x := Int32.ofInt u53_) rfl (zdal_p dlC_M_goOn_64 (i := 6) rfl) ?_
                              refine zr_callV (hf_N54_.w hW) hf_N54_.x (pc := 192) [.int (Int32.ofInt u53_)] [.ref 81] l_M_141 (c_M_here l N54_ (hf_N54_.w hW) u53_ hu53_a hu53_b (show 0 ≤ ze N54_ 81 3 + u53_ by first | with_reducible assumption | (exact zo_215 e3_N13_ e3_N15_ e3_N17_ e3_N54_ i3_ i56_) | assumption) (show ze N54_ 81 3 ≤ 700 by first | with_reducible assumption | (exact zo_178 e3_N13_ e3_N15_ e3_N17_ e3_N54_ hn7_ i4_ r3_N1_.2) | assumption) (show u53_ ≤ 1000 by first | with_reducible assumption | (exact zo_233 hc_187) | assumption) (show ze N54_ 81 2 ≤ 700 by first | with_reducible assumption | (exact zo_180 e2_N13_ e2_N15_ e2_N17_ e2_N1_ e2_N54_ hn7_ hn_ r_2.2) | assumption)) rfl rfl rfl (by decide) (Nat.le_of_ble_eq_true rfl) (zdal_p dlC_M_goOn_64 (i := 7) rfl) ?_
                              rintro _ N74_ ⟨v75_, rfl, ⟨hv75_a, hv75_b⟩, hsN74_, ⟨hp0_N74_, hp1_N74_⟩⟩
                              obtain rfl := hsN74_.eq.symm
                              show zW l m_M_goOn (zn Mz + 0, zw Mz + 0) N54_ 195 [some (.ref 81), some (.int (Int32.ofInt v20_)), some (.int (Int32.ofInt u53_))] [.int (Int32.ofInt v75_), .ref 81] _
                              refine zr_callS hf_N54_.x (pc := 195) [.int (Int32.ofInt v75_)] [.ref 81] l_M_158 (c_M_isLetter l N54_ (hf_N54_.w hW) v75_ hv75_a hv75_b) rfl rfl (by decide) (Nat.le_of_ble_eq_true rfl) (zdal_p dlC_M_goOn_64 (i := 8) rfl) ?_
                              rintro _ N76_ ⟨v77_, rfl, ⟨hv77_a, hv77_b⟩, hsN76_, hp0_N76_⟩
                              obtain rfl := hsN76_.eq.symm
                              replace hp0_N76_ : ((v77_ = 1 ∧ 97 ≤ v75_ ∧ v75_ ≤ 122) ∨ (v77_ = 0 ∧ (v75_ < 97 ∨ 122 < v75_))) := hp0_N76_
                              rcases hp0_N76_ with ⟨rfl, ha195_0_hp0_N76_, ha195_1_hp0_N76_⟩ | ⟨rfl, ha195_0_hp0_N76_⟩
                              · skip
                                have hlb_ : zpL (b_ (zru zpD b_ n_ s_)) = true ∧ zru zpD b_ n_ s_ < n_ := by rcases hk_ with ⟨q1_, q2_, q3_, q4_⟩ | ⟨q1_, q2_⟩; exact ⟨by rw [show zru zpD b_ n_ s_ = (ze N54_ 81 3 + u53_).toNat by (exact zo_234 e3_N13_ e3_N15_ e3_N17_ e3_N54_ hend_ hn7_ hs_ i3_ i56_ i57_ q1_), ← q2_]; exact zpL_t.mpr (by (exact zo_235 ha195_0_hp0_N76_ ha195_1_hp0_N76_ hp1_N74_ q3_ q4_)), by (exact zo_236 e3_N13_ e3_N15_ e3_N17_ e3_N54_ hend_ hs_ i57_ q1_)⟩; exfalso; (exact zo_183 ha195_0_hp0_N76_ hp1_N74_ q2_)
                                show zW l m_M_goOn (zn Mz + 0, zw Mz + 0) N54_ 198 [some (.ref 81), some (.int (Int32.ofInt v20_)), some (.int (Int32.ofInt u53_))] [.int (Int32.ofInt 1), .ref 81] _
                                refine zr_if_eq (pc := 198) (tgt := 205) ⟨(by decide), (by decide)⟩ (by decide) (zdal_p dlC_M_goOn_64 (i := 9) rfl) (fun hc_198 => ?_) (fun hc_198 => ?_)
                                · skip
                                  exact absurd hc_198 (by decide)
                                · skip
                                  refine zw_iconst (pc := 201) (v := Int32.ofInt 4) (by decide) (zdal_p dlC_M_goOn_64 (i := 10) rfl) ?_
                                  refine zw_goto (pc := 202) (tgt := 206) (by decide) (zdal_p dlC_M_goOn_64 (i := 11) rfl) ?_
                                  refine zr_putI (hf_N54_.w hW) (pc := 206) f_M_155 rfl rfl ⟨by (decide), by (decide)⟩ rfl rfl (zdal_p dlC_M_goOn_64 (i := 13) rfl) (fun N78_ hsN78_ hvN78_ => ?_)
                                  have hf_N78_ : zFr [3, 4, 5, 6, 11] [] Mz N78_ := hf_N54_.tr hsN78_ (by decide) (by decide)
                                  have e2_N78_ : ze N78_ 81 2 = ze N54_ 81 2 := hsN78_.e (by decide)
                                  have e3_N78_ : ze N78_ 81 3 = ze N54_ 81 3 := hsN78_.e (by decide)
                                  have e4_N78_ : ze N78_ 81 4 = ze N54_ 81 4 := hsN78_.e (by decide)
                                  have r5_N78_ := ze_r N78_ 81 5
                                  have e6_N78_ : ze N78_ 81 6 = ze N54_ 81 6 := hsN78_.e (by decide)
                                  refine zw_goto (pc := 209) (tgt := 235) (by decide) (zdal_p dlC_M_goOn_64 (i := 14) rfl) ?_
                                  refine zw_aload_n (pc := 235) (n := 0) (x := 81) rfl d_M_goOn_235 ?_
                                  refine zw_dup (pc := 236) rfl d_M_goOn_236 ?_
                                  refine zr_getI (hf_N78_.w hW) (pc := 237) f_M_135 rfl d_M_goOn_237 ?_
                                  refine zw_iload_n (pc := 240) (n := 2) (x := Int32.ofInt u53_) rfl d_M_goOn_240 ?_
                                  refine zr_iadd (pc := 241) d_M_goOn_241 ?_
                                  refine zr_putI (hf_N78_.w hW) (pc := 242) f_M_135 rfl rfl ⟨by (exact zo_237 e3_N13_ e3_N15_ e3_N17_ e3_N54_ e3_N78_ i3_ i56_), by (exact zo_238 e3_N13_ e3_N15_ e3_N17_ e3_N54_ e3_N78_ hc_187 hn7_ i4_ r3_N1_.2)⟩ rfl rfl d_M_goOn_242 (fun N80_ hsN80_ hvN80_ => ?_)
                                  have hf_N80_ : zFr [3, 4, 5, 6, 11] [] Mz N80_ := hf_N78_.tr hsN80_ (by decide) (by decide)
                                  have e2_N80_ : ze N80_ 81 2 = ze N78_ 81 2 := hsN80_.e (by decide)
                                  have r3_N80_ := ze_r N80_ 81 3
                                  have e4_N80_ : ze N80_ 81 4 = ze N78_ 81 4 := hsN80_.e (by decide)
                                  have e5_N80_ : ze N80_ 81 5 = ze N78_ 81 5 := hsN80_.e (by decide)
                                  have e6_N80_ : ze N80_ 81 6 = ze N78_ 81 6 := hsN80_.e (by decide)
                                  have hge_ := zru_ge (P := zpL) (b := b_) (n := n_) (p := s_)
                                  have hge2_ := zru_ge (P := zpD) (b := b_) (n := n_) (p := s_)
                                  have hfin_ : zRt b_ n_ N80_ := by first | exact zRt_L (s := s_) (by omega) hsn_ hlt_ (by omega) (fun q_ => by have w_ := hwi_ (by omega); rw [show (u53_).toNat = zru zpL b_ n_ s_ - s_ by omega] at w_; rw [← w_]; first | exact (hsN80_.g (by decide)).trans hwf_) (by omega) | exact zRt_D (s := s_) (by (exact zo_200 e4_N15_ e4_N17_ e4_N54_ e4_N78_ e4_N80_ hn7_ hs_ hvN13_ i4_ r3_N1_.2)) hsn_ hnl_ hdt_ (by (exact zo_239 e3_N13_ e3_N15_ e3_N17_ e3_N54_ e3_N78_ hc_187 hend_ hlb_.2 hn7_ hs_ hvN80_ i4_ r3_N1_.2 r3_N80_.1)) (fun q_ => by have w_ := hwi_ (by (exact hc_187)); rw [show (u53_).toNat = zru zpD b_ n_ s_ - s_ by (exact zo_240 hc_187 hend_ hge2_ hn7_ i56_ i57_ q_)] at w_; (exact zo_230 e6_N78_ e6_N80_ w_)) (by first | exact Or.inr ⟨fun q_ => by have := q_.1; omega, by omega⟩ | exact Or.inr ⟨fun q_ => q_.2 ⟨hlb_.2, hlb_.1⟩, by (exact zo_232 e5_N80_ hvN78_)⟩ | exact Or.inl ⟨⟨by omega, hlc_⟩, by omega⟩) | exact zRt_S (s := s_) (by omega) hsn_ hnl_ hnd_ (by omega) (by omega) (by first | exact Or.inl ⟨hsg_, by omega⟩ | exact Or.inr ⟨hsg_, by omega⟩)
                                  exact zr_vret (pc := 245) rfl hf_N80_ ⟨(show ze N80_ 81 4 = (zru zpB b_ n_ (ze Mz 81 3).toNat : Nat) by (exact zo_204 e4_N15_ e4_N17_ e4_N54_ e4_N78_ e4_N80_ hn7_ hst_ hvN13_ i4_ r3_N1_.2)), hfin_⟩ d_M_goOn_245
                              · skip
                                have hlc_ : ¬ (zru zpD b_ n_ s_ < n_ ∧ zpL (b_ (zru zpD b_ n_ s_)) = true) := by rintro ⟨z1_, z2_⟩; rcases hk_ with ⟨q1_, q2_, q3_, q4_⟩ | ⟨q1_, q2_⟩; rw [show zru zpD b_ n_ s_ = (ze N54_ 81 3 + u53_).toNat by (exact zo_241 e3_N13_ e3_N15_ e3_N17_ e3_N54_ hend_ hn7_ hs_ i3_ i56_ q1_ z1_), ← q2_] at z2_; have z3_ := zpL_t.mp z2_; (exact zo_195 hp1_N74_ hv75_a hv75_b z3_.1 z3_.2 ha195_0_hp0_N76_); (exact zo_242 e3_N13_ e3_N15_ e3_N17_ e3_N54_ hend_ hs_ q1_ z1_)
                                show zW l m_M_goOn (zn Mz + 0, zw Mz + 0) N54_ 198 [some (.ref 81), some (.int (Int32.ofInt v20_)), some (.int (Int32.ofInt u53_))] [.int (Int32.ofInt 0), .ref 81] _
                                refine zr_if_eq (pc := 198) (tgt := 205) ⟨(by decide), (by decide)⟩ (by decide) (zdal_p dlC_M_goOn_64 (i := 9) rfl) (fun hc_198 => ?_) (fun hc_198 => ?_)
                                · skip
                                  refine zw_iconst (pc := 205) (v := Int32.ofInt 2) (by decide) (zdal_p dlC_M_goOn_64 (i := 12) rfl) ?_
                                  refine zr_putI (hf_N54_.w hW) (pc := 206) f_M_155 rfl rfl ⟨by (decide), by (decide)⟩ rfl rfl (zdal_p dlC_M_goOn_64 (i := 13) rfl) (fun N82_ hsN82_ hvN82_ => ?_)
                                  have hf_N82_ : zFr [3, 4, 5, 6, 11] [] Mz N82_ := hf_N54_.tr hsN82_ (by decide) (by decide)
                                  have e2_N82_ : ze N82_ 81 2 = ze N54_ 81 2 := hsN82_.e (by decide)
                                  have e3_N82_ : ze N82_ 81 3 = ze N54_ 81 3 := hsN82_.e (by decide)
                                  have e4_N82_ : ze N82_ 81 4 = ze N54_ 81 4 := hsN82_.e (by decide)
                                  have r5_N82_ := ze_r N82_ 81 5
                                  have e6_N82_ : ze N82_ 81 6 = ze N54_ 81 6 := hsN82_.e (by decide)
                                  refine zw_goto (pc := 209) (tgt := 235) (by decide) (zdal_p dlC_M_goOn_64 (i := 14) rfl) ?_
                                  refine zw_aload_n (pc := 235) (n := 0) (x := 81) rfl d_M_goOn_235 ?_
                                  refine zw_dup (pc := 236) rfl d_M_goOn_236 ?_
                                  refine zr_getI (hf_N82_.w hW) (pc := 237) f_M_135 rfl d_M_goOn_237 ?_
                                  refine zw_iload_n (pc := 240) (n := 2) (x := Int32.ofInt u53_) rfl d_M_goOn_240 ?_
                                  refine zr_iadd (pc := 241) d_M_goOn_241 ?_
                                  refine zr_putI (hf_N82_.w hW) (pc := 242) f_M_135 rfl rfl ⟨by (exact zo_237 e3_N13_ e3_N15_ e3_N17_ e3_N54_ e3_N82_ i3_ i56_), by (exact zo_238 e3_N13_ e3_N15_ e3_N17_ e3_N54_ e3_N82_ hc_187 hn7_ i4_ r3_N1_.2)⟩ rfl rfl d_M_goOn_242 (fun N84_ hsN84_ hvN84_ => ?_)
                                  have hf_N84_ : zFr [3, 4, 5, 6, 11] [] Mz N84_ := hf_N82_.tr hsN84_ (by decide) (by decide)
                                  have e2_N84_ : ze N84_ 81 2 = ze N82_ 81 2 := hsN84_.e (by decide)
                                  have r3_N84_ := ze_r N84_ 81 3
                                  have e4_N84_ : ze N84_ 81 4 = ze N82_ 81 4 := hsN84_.e (by decide)
                                  have e5_N84_ : ze N84_ 81 5 = ze N82_ 81 5 := hsN84_.e (by decide)
                                  have e6_N84_ : ze N84_ 81 6 = ze N82_ 81 6 := hsN84_.e (by decide)
                                  have hge_ := zru_ge (P := zpL) (b := b_) (n := n_) (p := s_)
                                  have hge2_ := zru_ge (P := zpD) (b := b_) (n := n_) (p := s_)
                                  have hfin_ : zRt b_ n_ N84_ := by first | exact zRt_L (s := s_) (by omega) hsn_ hlt_ (by omega) (fun q_ => by have w_ := hwi_ (by omega); rw [show (u53_).toNat = zru zpL b_ n_ s_ - s_ by omega] at w_; rw [← w_]; first | exact (hsN84_.g (by decide)).trans hwf_) (by omega) | exact zRt_D (s := s_) (by (exact zo_200 e4_N15_ e4_N17_ e4_N54_ e4_N82_ e4_N84_ hn7_ hs_ hvN13_ i4_ r3_N1_.2)) hsn_ hnl_ hdt_ (by (exact zo_243 e3_N13_ e3_N15_ e3_N17_ e3_N54_ e3_N82_ hc_187 hend_ hn7_ hs_ hvN84_ i4_ i57_ r3_N1_.2 r3_N84_.1)) (fun q_ => by have w_ := hwi_ (by (exact hc_187)); rw [show (u53_).toNat = zru zpD b_ n_ s_ - s_ by (exact zo_240 hc_187 hend_ hge2_ hn7_ i56_ i57_ q_)] at w_; (exact zo_230 e6_N82_ e6_N84_ w_)) (by first | exact Or.inr ⟨fun q_ => by have := q_.1; omega, by omega⟩ | exact Or.inr ⟨fun q_ => q_.2 ⟨hlb_.2, hlb_.1⟩, by omega⟩ | exact Or.inl ⟨⟨by (exact zo_244 hc_187 hend_), hlc_⟩, by (exact zo_245 e5_N84_ hvN82_)⟩) | exact zRt_S (s := s_) (by omega) hsn_ hnl_ hnd_ (by omega) (by omega) (by first | exact Or.inl ⟨hsg_, by omega⟩ | exact Or.inr ⟨hsg_, by omega⟩)
                                  exact zr_vret (pc := 245) rfl hf_N84_ ⟨(show ze N84_ 81 4 = (zru zpB b_ n_ (ze Mz 81 3).toNat : Nat) by (exact zo_204 e4_N15_ e4_N17_ e4_N54_ e4_N82_ e4_N84_ hn7_ hst_ hvN13_ i4_ r3_N1_.2)), hfin_⟩ d_M_goOn_245
                                · skip
                                  exact absurd hc_198 (by decide)
                          · skip
                            exact absurd hc_150 (by decide)
                    exact lp_142 _ 0 (by decide) (by decide) N17_ zFr.rf (show 0 ≤ (0 : Int) by first | with_reducible assumption | (decide) | assumption) (show s_ + (0 : Int) ≤ n_ by (exact zo_211 hsn_)) (show zru zpD b_ n_ (s_ + (0 : Int)).toNat = zru zpD b_ n_ s_ by rw [show (s_ + (0 : Int)).toNat = s_ by (exact zo_212)]) (show ∀ j : Nat, s_ ≤ j → j < (s_ + (0 : Int)).toNat → zpD (b_ j) = true by intro j h1 h2; omega) (show ((0 : Int) ≤ 3 → ze N17_ 81 6 = zvl b_ s_ ((0 : Int)).toNat) by intro _; show _ = (0 : Int); (exact hvN17_)) (Nat.lt_succ_self _)
                · skip
                  show zW l m_M_goOn (zn Mz + 0, zw Mz + 0) N17_ 139 [some (.ref 81), some (.int (Int32.ofInt v20_)), some (.int (Int32.ofInt 0))] [.int (Int32.ofInt 0)] _
                  refine zr_if_eq (pc := 139) (tgt := 212) ⟨(by decide), (by decide)⟩ (by decide) (zdal_p dlC_M_goOn_63 (i := 2) rfl) (fun hc_139 => ?_) (fun hc_139 => ?_)
                  · skip
                    have hnd_ : zpD (b_ s_) = false := by rw [← hcb_]; exact Bool.eq_false_iff.mpr (fun h_ => by have := zpD_t.mp h_; (exact zo_246 this.1 this.2 ha136_0_hp0_N51_))
                    refine zw_aload_n (pc := 212) (n := 0) (x := 81) rfl (zdal_p dlC_M_goOn_64 (i := 15) rfl) ?_
                    refine zw_iload_n (pc := 213) (n := 1) (x := Int32.ofInt v20_) rfl (zdal_p dlC_M_goOn_64 (i := 16) rfl) ?_
                    refine zr_callS hf_N17_.x (pc := 214) [.int (Int32.ofInt v20_)] [.ref 81] l_M_165 (c_M_isSignF l N17_ (hf_N17_.w hW) v20_ hv20_a hv20_b) rfl rfl (by decide) (Nat.le_of_ble_eq_true rfl) (zdal_p dlC_M_goOn_64 (i := 17) rfl) ?_
                    rintro _ N86_ ⟨v87_, rfl, ⟨hv87_a, hv87_b⟩, hsN86_, hp0_N86_⟩
                    obtain rfl := hsN86_.eq.symm
                    replace hp0_N86_ : ((v87_ = 1 ∧ zpS v20_ = true) ∨ (v87_ = 0 ∧ zpS v20_ = false)) := hp0_N86_
                    rcases hp0_N86_ with ⟨rfl, ha214_0_hp0_N86_⟩ | ⟨rfl, ha214_0_hp0_N86_⟩
                    · skip
                      have hsg_ : zpS (b_ s_) = true := by rw [← hcb_]; exact ha214_0_hp0_N86_
                      show zW l m_M_goOn (zn Mz + 0, zw Mz + 0) N17_ 217 [some (.ref 81), some (.int (Int32.ofInt v20_)), some (.int (Int32.ofInt 0))] [.int (Int32.ofInt 1), .ref 81] _
                      refine zr_if_eq (pc := 217) (tgt := 224) ⟨(by decide), (by decide)⟩ (by decide) (zdal_p dlC_M_goOn_64 (i := 18) rfl) (fun hc_217 => ?_) (fun hc_217 => ?_)
                      · skip
                        exact absurd hc_217 (by decide)
                      · skip
                        refine zw_iconst (pc := 220) (v := Int32.ofInt 3) (by decide) (zdal_p dlC_M_goOn_64 (i := 19) rfl) ?_
                        refine zw_goto (pc := 221) (tgt := 225) (by decide) (zdal_p dlC_M_goOn_64 (i := 20) rfl) ?_
                        refine zr_putI (hf_N17_.w hW) (pc := 225) f_M_155 rfl rfl ⟨by (decide), by (decide)⟩ rfl rfl (zdal_p dlC_M_goOn_64 (i := 22) rfl) (fun N88_ hsN88_ hvN88_ => ?_)
                        have hf_N88_ : zFr [3, 4, 5, 6, 11] [] Mz N88_ := hf_N17_.tr hsN88_ (by decide) (by decide)
                        have e2_N88_ : ze N88_ 81 2 = ze N17_ 81 2 := hsN88_.e (by decide)
                        have e3_N88_ : ze N88_ 81 3 = ze N17_ 81 3 := hsN88_.e (by decide)
                        have e4_N88_ : ze N88_ 81 4 = ze N17_ 81 4 := hsN88_.e (by decide)
                        have r5_N88_ := ze_r N88_ 81 5
                        have e6_N88_ : ze N88_ 81 6 = ze N17_ 81 6 := hsN88_.e (by decide)
                        refine zw_aload_n (pc := 228) (n := 0) (x := 81) rfl (zdal_p dlC_M_goOn_64 (i := 23) rfl) ?_
                        refine zw_iload_n (pc := 229) (n := 1) (x := Int32.ofInt v20_) rfl (zdal_p dlC_M_goOn_65 (i := 0) rfl) ?_
                        refine zr_putI (hf_N88_.w hW) (pc := 230) f_M_152 rfl rfl ⟨by (exact hv20_a), by (exact hv20_b)⟩ rfl rfl (zdal_p dlC_M_goOn_65 (i := 1) rfl) (fun N90_ hsN90_ hvN90_ => ?_)
                        have hf_N90_ : zFr [3, 4, 5, 6, 11] [] Mz N90_ := hf_N88_.tr hsN90_ (by decide) (by decide)
                        have e2_N90_ : ze N90_ 81 2 = ze N88_ 81 2 := hsN90_.e (by decide)
                        have e3_N90_ : ze N90_ 81 3 = ze N88_ 81 3 := hsN90_.e (by decide)
                        have e4_N90_ : ze N90_ 81 4 = ze N88_ 81 4 := hsN90_.e (by decide)
                        have e5_N90_ : ze N90_ 81 5 = ze N88_ 81 5 := hsN90_.e (by decide)
                        have r6_N90_ := ze_r N90_ 81 6
                        refine zw_iconst (pc := 233) (v := Int32.ofInt 1) (by decide) (zdal_p dlC_M_goOn_65 (i := 2) rfl) ?_
                        refine zw_istore_n (pc := 234) (i := 2) (L2 := [some (.ref 81), some (.int (Int32.ofInt v20_)), some (.int (Int32.ofInt 1))]) rfl (by decide) rfl (zdal_p dlC_M_goOn_65 (i := 3) rfl) ?_
                        refine zw_aload_n (pc := 235) (n := 0) (x := 81) rfl d_M_goOn_235 ?_
                        refine zw_dup (pc := 236) rfl d_M_goOn_236 ?_
                        refine zr_getI (hf_N90_.w hW) (pc := 237) f_M_135 rfl d_M_goOn_237 ?_
                        refine zw_iload_n (pc := 240) (n := 2) (x := Int32.ofInt 1) rfl d_M_goOn_240 ?_
                        refine zr_iadd (pc := 241) d_M_goOn_241 ?_
                        refine zr_putI (hf_N90_.w hW) (pc := 242) f_M_135 rfl rfl ⟨by (exact zo_247 e3_N13_ e3_N15_ e3_N17_ e3_N88_ e3_N90_ i3_), by (exact zo_248 e3_N13_ e3_N15_ e3_N17_ e3_N88_ e3_N90_ hn7_ i4_ r3_N1_.2)⟩ rfl rfl d_M_goOn_242 (fun N92_ hsN92_ hvN92_ => ?_)
                        have hf_N92_ : zFr [3, 4, 5, 6, 11] [] Mz N92_ := hf_N90_.tr hsN92_ (by decide) (by decide)
                        have e2_N92_ : ze N92_ 81 2 = ze N90_ 81 2 := hsN92_.e (by decide)
                        have r3_N92_ := ze_r N92_ 81 3
                        have e4_N92_ : ze N92_ 81 4 = ze N90_ 81 4 := hsN92_.e (by decide)
                        have e5_N92_ : ze N92_ 81 5 = ze N90_ 81 5 := hsN92_.e (by decide)
                        have e6_N92_ : ze N92_ 81 6 = ze N90_ 81 6 := hsN92_.e (by decide)
                        have hge_ := zru_ge (P := zpL) (b := b_) (n := n_) (p := s_)
                        have hge2_ := zru_ge (P := zpD) (b := b_) (n := n_) (p := s_)
                        have hfin_ : zRt b_ n_ N92_ := by first | exact zRt_L (s := s_) (by omega) hsn_ hlt_ (by omega) (fun q_ => by have w_ := hwi_ (by omega); rw [show ((1 : Int)).toNat = zru zpL b_ n_ s_ - s_ by omega] at w_; rw [← w_]; first | exact (hsN92_.g (by decide)).trans hwf_) (by omega) | exact zRt_D (s := s_) (by omega) hsn_ hnl_ hdt_ (by omega) (fun q_ => by have w_ := hwi_ (by omega); rw [show ((1 : Int)).toNat = zru zpD b_ n_ s_ - s_ by omega] at w_; omega) (by first | exact Or.inr ⟨fun q_ => by have := q_.1; omega, by omega⟩ | exact Or.inr ⟨fun q_ => q_.2 ⟨hlb_.2, hlb_.1⟩, by omega⟩ | exact Or.inl ⟨⟨by omega, hlc_⟩, by omega⟩) | exact zRt_S (s := s_) (by (exact zo_200 e4_N15_ e4_N17_ e4_N88_ e4_N90_ e4_N92_ hn7_ hs_ hvN13_ i4_ r3_N1_.2)) hsn_ hnl_ hnd_ (by (exact zo_249 e3_N13_ e3_N15_ e3_N17_ e3_N88_ e3_N90_ hn7_ hs_ hsn_ hvN92_ i4_ r3_N1_.2 r3_N92_.1)) (by (exact zo_250 e6_N92_ hcb_ hvN90_)) (by first | exact Or.inl ⟨hsg_, by (exact zo_251 e5_N90_ e5_N92_ hvN88_)⟩ | exact Or.inr ⟨hsg_, by omega⟩)
                        exact zr_vret (pc := 245) rfl hf_N92_ ⟨(show ze N92_ 81 4 = (zru zpB b_ n_ (ze Mz 81 3).toNat : Nat) by (exact zo_204 e4_N15_ e4_N17_ e4_N88_ e4_N90_ e4_N92_ hn7_ hst_ hvN13_ i4_ r3_N1_.2)), hfin_⟩ d_M_goOn_245
                    · skip
                      have hsg_ : zpS (b_ s_) = false := by rw [← hcb_]; exact ha214_0_hp0_N86_
                      show zW l m_M_goOn (zn Mz + 0, zw Mz + 0) N17_ 217 [some (.ref 81), some (.int (Int32.ofInt v20_)), some (.int (Int32.ofInt 0))] [.int (Int32.ofInt 0), .ref 81] _
                      refine zr_if_eq (pc := 217) (tgt := 224) ⟨(by decide), (by decide)⟩ (by decide) (zdal_p dlC_M_goOn_64 (i := 18) rfl) (fun hc_217 => ?_) (fun hc_217 => ?_)
                      · skip
                        refine zw_iconst (pc := 224) (v := Int32.ofInt 4) (by decide) (zdal_p dlC_M_goOn_64 (i := 21) rfl) ?_
                        refine zr_putI (hf_N17_.w hW) (pc := 225) f_M_155 rfl rfl ⟨by (decide), by (decide)⟩ rfl rfl (zdal_p dlC_M_goOn_64 (i := 22) rfl) (fun N94_ hsN94_ hvN94_ => ?_)
                        have hf_N94_ : zFr [3, 4, 5, 6, 11] [] Mz N94_ := hf_N17_.tr hsN94_ (by decide) (by decide)
                        have e2_N94_ : ze N94_ 81 2 = ze N17_ 81 2 := hsN94_.e (by decide)
                        have e3_N94_ : ze N94_ 81 3 = ze N17_ 81 3 := hsN94_.e (by decide)
                        have e4_N94_ : ze N94_ 81 4 = ze N17_ 81 4 := hsN94_.e (by decide)
                        have r5_N94_ := ze_r N94_ 81 5
                        have e6_N94_ : ze N94_ 81 6 = ze N17_ 81 6 := hsN94_.e (by decide)
                        refine zw_aload_n (pc := 228) (n := 0) (x := 81) rfl (zdal_p dlC_M_goOn_64 (i := 23) rfl) ?_
                        refine zw_iload_n (pc := 229) (n := 1) (x := Int32.ofInt v20_) rfl (zdal_p dlC_M_goOn_65 (i := 0) rfl) ?_
                        refine zr_putI (hf_N94_.w hW) (pc := 230) f_M_152 rfl rfl ⟨by (exact hv20_a), by (exact hv20_b)⟩ rfl rfl (zdal_p dlC_M_goOn_65 (i := 1) rfl) (fun N96_ hsN96_ hvN96_ => ?_)
                        have hf_N96_ : zFr [3, 4, 5, 6, 11] [] Mz N96_ := hf_N94_.tr hsN96_ (by decide) (by decide)
                        have e2_N96_ : ze N96_ 81 2 = ze N94_ 81 2 := hsN96_.e (by decide)
                        have e3_N96_ : ze N96_ 81 3 = ze N94_ 81 3 := hsN96_.e (by decide)
                        have e4_N96_ : ze N96_ 81 4 = ze N94_ 81 4 := hsN96_.e (by decide)
                        have e5_N96_ : ze N96_ 81 5 = ze N94_ 81 5 := hsN96_.e (by decide)
                        have r6_N96_ := ze_r N96_ 81 6
                        refine zw_iconst (pc := 233) (v := Int32.ofInt 1) (by decide) (zdal_p dlC_M_goOn_65 (i := 2) rfl) ?_
                        refine zw_istore_n (pc := 234) (i := 2) (L2 := [some (.ref 81), some (.int (Int32.ofInt v20_)), some (.int (Int32.ofInt 1))]) rfl (by decide) rfl (zdal_p dlC_M_goOn_65 (i := 3) rfl) ?_
                        refine zw_aload_n (pc := 235) (n := 0) (x := 81) rfl d_M_goOn_235 ?_
                        refine zw_dup (pc := 236) rfl d_M_goOn_236 ?_
                        refine zr_getI (hf_N96_.w hW) (pc := 237) f_M_135 rfl d_M_goOn_237 ?_
                        refine zw_iload_n (pc := 240) (n := 2) (x := Int32.ofInt 1) rfl d_M_goOn_240 ?_
                        refine zr_iadd (pc := 241) d_M_goOn_241 ?_
                        refine zr_putI (hf_N96_.w hW) (pc := 242) f_M_135 rfl rfl ⟨by (exact zo_247 e3_N13_ e3_N15_ e3_N17_ e3_N94_ e3_N96_ i3_), by (exact zo_248 e3_N13_ e3_N15_ e3_N17_ e3_N94_ e3_N96_ hn7_ i4_ r3_N1_.2)⟩ rfl rfl d_M_goOn_242 (fun N98_ hsN98_ hvN98_ => ?_)
                        have hf_N98_ : zFr [3, 4, 5, 6, 11] [] Mz N98_ := hf_N96_.tr hsN98_ (by decide) (by decide)
                        have e2_N98_ : ze N98_ 81 2 = ze N96_ 81 2 := hsN98_.e (by decide)
                        have r3_N98_ := ze_r N98_ 81 3
                        have e4_N98_ : ze N98_ 81 4 = ze N96_ 81 4 := hsN98_.e (by decide)
                        have e5_N98_ : ze N98_ 81 5 = ze N96_ 81 5 := hsN98_.e (by decide)
                        have e6_N98_ : ze N98_ 81 6 = ze N96_ 81 6 := hsN98_.e (by decide)
                        have hge_ := zru_ge (P := zpL) (b := b_) (n := n_) (p := s_)
                        have hge2_ := zru_ge (P := zpD) (b := b_) (n := n_) (p := s_)
                        have hfin_ : zRt b_ n_ N98_ := by first | exact zRt_L (s := s_) (by omega) hsn_ hlt_ (by omega) (fun q_ => by have w_ := hwi_ (by omega); rw [show ((1 : Int)).toNat = zru zpL b_ n_ s_ - s_ by omega] at w_; rw [← w_]; first | exact (hsN98_.g (by decide)).trans hwf_) (by omega) | exact zRt_D (s := s_) (by omega) hsn_ hnl_ hdt_ (by omega) (fun q_ => by have w_ := hwi_ (by omega); rw [show ((1 : Int)).toNat = zru zpD b_ n_ s_ - s_ by omega] at w_; omega) (by first | exact Or.inr ⟨fun q_ => by have := q_.1; omega, by omega⟩ | exact Or.inr ⟨fun q_ => q_.2 ⟨hlb_.2, hlb_.1⟩, by omega⟩ | exact Or.inl ⟨⟨by omega, hlc_⟩, by omega⟩) | exact zRt_S (s := s_) (by (exact zo_200 e4_N15_ e4_N17_ e4_N94_ e4_N96_ e4_N98_ hn7_ hs_ hvN13_ i4_ r3_N1_.2)) hsn_ hnl_ hnd_ (by (exact zo_249 e3_N13_ e3_N15_ e3_N17_ e3_N94_ e3_N96_ hn7_ hs_ hsn_ hvN98_ i4_ r3_N1_.2 r3_N98_.1)) (by (exact zo_250 e6_N98_ hcb_ hvN96_)) (by first | exact Or.inl ⟨hsg_, by omega⟩ | exact Or.inr ⟨hsg_, by (exact zo_252 e5_N96_ e5_N98_ hvN94_)⟩)
                        exact zr_vret (pc := 245) rfl hf_N98_ ⟨(show ze N98_ 81 4 = (zru zpB b_ n_ (ze Mz 81 3).toNat : Nat) by (exact zo_204 e4_N15_ e4_N17_ e4_N94_ e4_N96_ e4_N98_ hn7_ hst_ hvN13_ i4_ r3_N1_.2)), hfin_⟩ d_M_goOn_245
                      · skip
                        exact absurd hc_217 (by decide)
                  · skip
                    exact absurd hc_139 (by decide)
              · skip
                exact absurd hc_73 (by decide)
          · skip
            refine zw_aload_n (pc := 63) (n := 0) (x := 81) rfl (zdal_p dlC_M_goOn_61 (i := 11) rfl) ?_
            refine zw_iconst (pc := 64) (v := Int32.ofInt 0) (by decide) (zdal_p dlC_M_goOn_61 (i := 12) rfl) ?_
            refine zr_putI (hf_N17_.w hW) (pc := 65) f_M_155 rfl rfl ⟨by (decide), by (decide)⟩ rfl rfl (zdal_p dlC_M_goOn_61 (i := 13) rfl) (fun N100_ hsN100_ hvN100_ => ?_)
            have hf_N100_ : zFr [3, 4, 5, 6, 11] [] Mz N100_ := hf_N17_.tr hsN100_ (by decide) (by decide)
            have e2_N100_ : ze N100_ 81 2 = ze N17_ 81 2 := hsN100_.e (by decide)
            have e3_N100_ : ze N100_ 81 3 = ze N17_ 81 3 := hsN100_.e (by decide)
            have e4_N100_ : ze N100_ 81 4 = ze N17_ 81 4 := hsN100_.e (by decide)
            have r5_N100_ := ze_r N100_ 81 5
            have e6_N100_ : ze N100_ 81 6 = ze N17_ 81 6 := hsN100_.e (by decide)
            have hfin_ : zRt b_ n_ N100_ := zRt_0 (s := s_) (by (exact zo_253 e4_N100_ e4_N15_ e4_N17_ hn7_ hs_ hvN13_ i4_ r3_N1_.2)) (by rcases hc_ with ⟨q1_, q2_, q3_, q4_⟩ | ⟨q1_, q2_⟩; exfalso; (exact zo_254 hc_60 hp1_N19_ q3_); (exact zo_255 e3_N13_ e3_N15_ e3_N17_ hn7_ hs_ i4_ q1_ r3_N1_.2)) (by (exact zo_256 e3_N100_ e3_N13_ e3_N15_ e3_N17_ hn7_ hs_ i4_ r3_N1_.2)) (by (exact hvN100_))
            exact zr_vret (pc := 68) rfl hf_N100_ ⟨(show ze N100_ 81 4 = (zru zpB b_ n_ (ze Mz 81 3).toNat : Nat) by (exact zo_257 e4_N100_ e4_N15_ e4_N17_ hn7_ hst_ hvN13_ i4_ r3_N1_.2)), hfin_⟩ (zdal_p dlC_M_goOn_61 (i := 14) rfl)
        · skip
          have hbl_ : zhr N1_ 0 = 32 ∨ zhr N1_ 0 = 10 := by (exact zo_258 hc_17 hp1_N11_)
          refine zw_aload_n (pc := 20) (n := 0) (x := 81) rfl (zdal_p dlC_M_goOn_60 (i := 10) rfl) ?_
          refine zw_dup (pc := 21) rfl (zdal_p dlC_M_goOn_60 (i := 11) rfl) ?_
          refine zr_getI (hf_N1_.w hW) (pc := 22) f_M_135 rfl (zdal_p dlC_M_goOn_60 (i := 12) rfl) ?_
          refine zw_iconst (pc := 25) (v := Int32.ofInt 1) (by decide) (zdal_p dlC_M_goOn_60 (i := 13) rfl) ?_
          refine zr_iadd (pc := 26) (zdal_p dlC_M_goOn_60 (i := 14) rfl) ?_
          refine zr_putI (hf_N1_.w hW) (pc := 27) f_M_135 rfl rfl ⟨by (exact zo_74 i3_), by (exact zo_162 hn7_ i4_ r3_N1_.2)⟩ rfl rfl (zdal_p dlC_M_goOn_60 (i := 15) rfl) (fun N102_ hsN102_ hvN102_ => ?_)
          have hf_N102_ : zFr [3, 4, 5, 6, 11] [] Mz N102_ := hf_N1_.tr hsN102_ (by decide) (by decide)
          have hb0_N102_ : zFr [3] [] Mz N102_ := hs2_.tr hsN102_ (by decide) (by decide)
          have e2_N102_ : ze N102_ 81 2 = ze N1_ 81 2 := hsN102_.e (by decide)
          have r3_N102_ := ze_r N102_ 81 3
          have e4_N102_ : ze N102_ 81 4 = ze N1_ 81 4 := hsN102_.e (by decide)
          have e5_N102_ : ze N102_ 81 5 = ze N1_ 81 5 := hsN102_.e (by decide)
          have e6_N102_ : ze N102_ 81 6 = ze N1_ 81 6 := hsN102_.e (by decide)
          have c103_ : zRb b_ n_ N102_ := zRb.fr hsN102_ c6_ (by decide) (by decide)
          refine zw_goto (pc := 30) (tgt := 0) (by decide) (zdal_p dlC_M_goOn_60 (i := 16) rfl) ?_
          exact ih_0 N102_ hb0_N102_ (show 0 ≤ ze N102_ 81 3 by first | with_reducible assumption | (exact zo_163 hvN102_ i3_ r3_N102_.1) | assumption) (show ze N102_ 81 3 ≤ n_ by first | with_reducible assumption | assumption | omega) (show zru zpB b_ n_ (ze N102_ 81 3).toNat = zru zpB b_ n_ (ze Mz 81 3).toNat by rw [show ze N102_ 81 3 = ze N1_ 81 3 + 1 by (exact hvN102_)]; rcases hh_ with ⟨q1_, q2_, q3_, q4_⟩ | ⟨q1_, q2_⟩; exact zru_step (P := zpB) (v := zhr N1_ 0) (by (exact i3_)) (by (exact zo_164 q1_ r3_N1_.2)) (by rw [q2_, Int.add_zero]) (zpB_t.mpr hbl_) (by first | with_reducible assumption | assumption); exfalso; (exact zo_259 hc_17 hp1_N11_ q2_)) (by omega)
  exact lp_0 _ Mz zFr.rf (show 0 ≤ ze Mz 81 3 by first | with_reducible assumption | assumption | omega) (show ze Mz 81 3 ≤ n_ by first | with_reducible assumption | assumption | omega) (show zru zpB b_ n_ (ze Mz 81 3).toNat = zru zpB b_ n_ (ze Mz 81 3).toNat by rfl) (Nat.lt_succ_self _)
set_option maxHeartbeats 4000000 in
theorem c_M_isWordF (l : Launch) (Mz : zMem) (hW : zMt Mz) (a0_ : Int) (ha0_a : -9223372036854775808 ≤ a0_) (ha0_b : a0_ < 9223372036854775808) (b_ : Nat → Int) (n_ : Nat) (p0_ : zRt b_ n_ Mz) : zC l m_M_isWord 0 0 [.ref 81, .long (Int64.ofInt a0_)] Mz (zpI [] [] Mz (fun v N => (((v = 1 ∧ ze Mz 81 7 = 0 ∧ zkd b_ n_ (ze Mz 81 4).toNat = 1 ∧ zke8 b_ n_ (ze Mz 81 4).toNat = a0_) ∨ (v = 0 ∧ (ze Mz 81 7 = 0 → ¬ (zkd b_ n_ (ze Mz 81 4).toNat = 1 ∧ zke8 b_ n_ (ze Mz 81 4).toNat = a0_))))))) := by
  refine zC_of (L0 := [some (.ref 81), some (.long (Int64.ofInt a0_)), none]) md_M_isWord (Nat.le_of_ble_eq_true rfl) rfl ?_ zQ0
  have hf : zFr [] [] Mz Mz := zFr.rf
  have r_4 := ze_r Mz 81 4
  have r_5 := ze_r Mz 81 5
  have r_7 := ze_r Mz 81 7
  obtain ⟨t1_, t2_, t3_, t4_, t5_, t6_⟩ := id p0_
  refine zw_aload_n (pc := 0) (n := 0) (x := 81) rfl (zdal_p dlC_M_isWord_74 (i := 0) rfl) ?_
  refine zr_getI0 hf hW (pc := 1) (by decide) f_M_172 rfl (zdal_p dlC_M_isWord_74 (i := 1) rfl) ?_
  refine zr_if_ne (pc := 4) (tgt := 28) ⟨(ze_r Mz 81 7).1, (ze_r Mz 81 7).2⟩ (by decide) (zdal_p dlC_M_isWord_74 (i := 2) rfl) (fun hc_4 => ?_) (fun hc_4 => ?_)
  · skip
    refine zw_iconst (pc := 28) (v := Int32.ofInt 0) (by decide) (zdal_p dlC_M_isWord_74 (i := 14) rfl) ?_
    exact zr_iret (pc := 29) (ty := .boolean) rfl (z_narB (by (decide))) ⟨by (decide), by (decide)⟩ hf (show ((0 = 1 ∧ ze Mz 81 7 = 0 ∧ zkd b_ n_ (ze Mz 81 4).toNat = 1 ∧ zke8 b_ n_ (ze Mz 81 4).toNat = a0_) ∨ (0 = 0 ∧ (ze Mz 81 7 = 0 → ¬ (zkd b_ n_ (ze Mz 81 4).toNat = 1 ∧ zke8 b_ n_ (ze Mz 81 4).toNat = a0_)))) from Or.inr (⟨(show 0 = 0 by first | rfl | (intro z0_; rintro ⟨z1_, z2_⟩; have w_ := t4_ z1_; unfold zke8 at z2_; omega)), (show (ze Mz 81 7 = 0 → ¬ (zkd b_ n_ (ze Mz 81 4).toNat = 1 ∧ zke8 b_ n_ (ze Mz 81 4).toNat = a0_)) by first | rfl | (intro z0_; rintro ⟨z1_, z2_⟩; have w_ := t4_ z1_; unfold zke8 at z2_; (exact zo_260 z0_ hc_4)))⟩)) (zdal_p dlC_M_isWord_74 (i := 15) rfl)
  · skip
    refine zw_aload_n (pc := 7) (n := 0) (x := 81) rfl (zdal_p dlC_M_isWord_74 (i := 3) rfl) ?_
    refine zr_getI0 hf hW (pc := 8) (by decide) f_M_155 rfl (zdal_p dlC_M_isWord_74 (i := 4) rfl) ?_
    refine zw_iconst (pc := 11) (v := Int32.ofInt 1) (by decide) (zdal_p dlC_M_isWord_74 (i := 5) rfl) ?_
    refine zr_icmp_ne (pc := 12) (tgt := 28) ⟨(ze_r Mz 81 5).1, (ze_r Mz 81 5).2⟩ ⟨(by decide), (by decide)⟩ (by decide) (zdal_p dlC_M_isWord_74 (i := 6) rfl) (fun hc_12 => ?_) (fun hc_12 => ?_)
    · skip
      refine zw_iconst (pc := 28) (v := Int32.ofInt 0) (by decide) (zdal_p dlC_M_isWord_74 (i := 14) rfl) ?_
      exact zr_iret (pc := 29) (ty := .boolean) rfl (z_narB (by (decide))) ⟨by (decide), by (decide)⟩ hf (show ((0 = 1 ∧ ze Mz 81 7 = 0 ∧ zkd b_ n_ (ze Mz 81 4).toNat = 1 ∧ zke8 b_ n_ (ze Mz 81 4).toNat = a0_) ∨ (0 = 0 ∧ (ze Mz 81 7 = 0 → ¬ (zkd b_ n_ (ze Mz 81 4).toNat = 1 ∧ zke8 b_ n_ (ze Mz 81 4).toNat = a0_)))) from Or.inr (⟨(show 0 = 0 by first | rfl | (intro z0_; rintro ⟨z1_, z2_⟩; have w_ := t4_ z1_; unfold zke8 at z2_; omega)), (show (ze Mz 81 7 = 0 → ¬ (zkd b_ n_ (ze Mz 81 4).toNat = 1 ∧ zke8 b_ n_ (ze Mz 81 4).toNat = a0_)) by first | rfl | (intro z0_; rintro ⟨z1_, z2_⟩; have w_ := t4_ z1_; unfold zke8 at z2_; (exact zo_261 r_5.1 r_5.2 t3_ z1_ hc_12)))⟩)) (zdal_p dlC_M_isWord_74 (i := 15) rfl)
    · skip
      refine zw_aload_n (pc := 15) (n := 0) (x := 81) rfl (zdal_p dlC_M_isWord_74 (i := 7) rfl) ?_
      refine zr_getJ (hf.w hW) (pc := 16) f_M_148 rfl (zdal_p dlC_M_isWord_74 (i := 8) rfl) ?_
      have hr1_ := zg_r Mz 81 11
      refine zw_lload_n (pc := 19) (n := 1) (x := Int64.ofInt a0_) rfl (zdal_p dlC_M_isWord_74 (i := 9) rfl) ?_
      refine zr_lcmp (pc := 20) ⟨(zg_r Mz 81 11).1, (zg_r Mz 81 11).2⟩ ⟨ha0_a, ha0_b⟩ (zdal_p dlC_M_isWord_74 (i := 10) rfl) ?_
      have hr2_ := zcmp_s (zg Mz 81 11) a0_
      refine zr_if_ne (pc := 21) (tgt := 28) ⟨(by (exact zo_81 hr2_)), (by (exact zo_82 hr2_))⟩ (by decide) (zdal_p dlC_M_isWord_74 (i := 11) rfl) (fun hc_21 => ?_) (fun hc_21 => ?_)
      · skip
        refine zw_iconst (pc := 28) (v := Int32.ofInt 0) (by decide) (zdal_p dlC_M_isWord_74 (i := 14) rfl) ?_
        exact zr_iret (pc := 29) (ty := .boolean) rfl (z_narB (by (decide))) ⟨by (decide), by (decide)⟩ hf (show ((0 = 1 ∧ ze Mz 81 7 = 0 ∧ zkd b_ n_ (ze Mz 81 4).toNat = 1 ∧ zke8 b_ n_ (ze Mz 81 4).toNat = a0_) ∨ (0 = 0 ∧ (ze Mz 81 7 = 0 → ¬ (zkd b_ n_ (ze Mz 81 4).toNat = 1 ∧ zke8 b_ n_ (ze Mz 81 4).toNat = a0_)))) from Or.inr (⟨(show 0 = 0 by first | rfl | (intro z0_; rintro ⟨z1_, z2_⟩; have w_ := t4_ z1_; unfold zke8 at z2_; omega)), (show (ze Mz 81 7 = 0 → ¬ (zkd b_ n_ (ze Mz 81 4).toNat = 1 ∧ zke8 b_ n_ (ze Mz 81 4).toNat = a0_)) by first | rfl | (intro z0_; rintro ⟨z1_, z2_⟩; have w_ := t4_ z1_; unfold zke8 at z2_; omega))⟩)) (zdal_p dlC_M_isWord_74 (i := 15) rfl)
      · skip
        refine zw_iconst (pc := 24) (v := Int32.ofInt 1) (by decide) (zdal_p dlC_M_isWord_74 (i := 12) rfl) ?_
        refine zw_goto (pc := 25) (tgt := 29) (by decide) (zdal_p dlC_M_isWord_74 (i := 13) rfl) ?_
        exact zr_iret (pc := 29) (ty := .boolean) rfl (z_narB (by (decide))) ⟨by (decide), by (decide)⟩ hf (show ((1 = 1 ∧ ze Mz 81 7 = 0 ∧ zkd b_ n_ (ze Mz 81 4).toNat = 1 ∧ zke8 b_ n_ (ze Mz 81 4).toNat = a0_) ∨ (1 = 0 ∧ (ze Mz 81 7 = 0 → ¬ (zkd b_ n_ (ze Mz 81 4).toNat = 1 ∧ zke8 b_ n_ (ze Mz 81 4).toNat = a0_)))) from Or.inl (⟨(show 1 = 1 by first | rfl | omega | (have w_ := t4_ (by omega); unfold zke8; omega)), (show ze Mz 81 7 = 0 by first | rfl | (exact hc_4) | (have w_ := t4_ (by omega); unfold zke8; omega)), (show zkd b_ n_ (ze Mz 81 4).toNat = 1 by first | rfl | (exact zo_262 hc_12 t3_) | (have w_ := t4_ (by omega); unfold zke8; omega)), (show zke8 b_ n_ (ze Mz 81 4).toNat = a0_ by first | rfl | omega | (have w_ := t4_ (by (exact zo_262 hc_12 t3_)); unfold zke8; omega))⟩)) (zdal_p dlC_M_isWord_74 (i := 15) rfl)
set_option maxHeartbeats 4000000 in
theorem c_M_isSignHereF (l : Launch) (Mz : zMem) (hW : zMt Mz) (a0_ : Int) (ha0_a : -2147483648 ≤ a0_) (ha0_b : a0_ < 2147483648) (b_ : Nat → Int) (n_ : Nat) (p0_ : zRt b_ n_ Mz) : zC l m_M_isSignHere 0 0 [.ref 81, .int (Int32.ofInt a0_)] Mz (zpI [] [] Mz (fun v N => (((v = 1 ∧ ze Mz 81 7 = 0 ∧ zisg b_ n_ (ze Mz 81 4).toNat a0_) ∨ (v = 0 ∧ (ze Mz 81 7 = 0 → ¬ zisg b_ n_ (ze Mz 81 4).toNat a0_)))))) := by
  refine zC_of (L0 := [some (.ref 81), some (.int (Int32.ofInt a0_))]) md_M_isSignHere (Nat.le_of_ble_eq_true rfl) rfl ?_ zQ0
  have hf : zFr [] [] Mz Mz := zFr.rf
  have r_4 := ze_r Mz 81 4
  have r_5 := ze_r Mz 81 5
  have r_6 := ze_r Mz 81 6
  have r_7 := ze_r Mz 81 7
  obtain ⟨t1_, t2_, t3_, t4_, t5_, t6_⟩ := id p0_
  refine zw_aload_n (pc := 0) (n := 0) (x := 81) rfl (zdal_p dlC_M_isSignHere_81 (i := 0) rfl) ?_
  refine zr_getI0 hf hW (pc := 1) (by decide) f_M_172 rfl (zdal_p dlC_M_isSignHere_81 (i := 1) rfl) ?_
  refine zr_if_ne (pc := 4) (tgt := 27) ⟨(ze_r Mz 81 7).1, (ze_r Mz 81 7).2⟩ (by decide) (zdal_p dlC_M_isSignHere_81 (i := 2) rfl) (fun hc_4 => ?_) (fun hc_4 => ?_)
  · skip
    refine zw_iconst (pc := 27) (v := Int32.ofInt 0) (by decide) (zdal_p dlC_M_isSignHere_81 (i := 13) rfl) ?_
    exact zr_iret (pc := 28) (ty := .boolean) rfl (z_narB (by (decide))) ⟨by (decide), by (decide)⟩ hf (show ((0 = 1 ∧ ze Mz 81 7 = 0 ∧ zisg b_ n_ (ze Mz 81 4).toNat a0_) ∨ (0 = 0 ∧ (ze Mz 81 7 = 0 → ¬ zisg b_ n_ (ze Mz 81 4).toNat a0_))) from Or.inr (⟨(show 0 = 0 by first | rfl | (intro z0_; rintro ⟨z1_, z2_⟩; have w_ := t6_ z1_; omega)), (show (ze Mz 81 7 = 0 → ¬ zisg b_ n_ (ze Mz 81 4).toNat a0_) by first | rfl | (intro z0_; rintro ⟨z1_, z2_⟩; have w_ := t6_ z1_; (exact zo_260 z0_ hc_4)))⟩)) (zdal_p dlC_M_isSignHere_81 (i := 14) rfl)
  · skip
    refine zw_aload_n (pc := 7) (n := 0) (x := 81) rfl (zdal_p dlC_M_isSignHere_81 (i := 3) rfl) ?_
    refine zr_getI0 hf hW (pc := 8) (by decide) f_M_155 rfl (zdal_p dlC_M_isSignHere_81 (i := 4) rfl) ?_
    refine zw_iconst (pc := 11) (v := Int32.ofInt 3) (by decide) (zdal_p dlC_M_isSignHere_81 (i := 5) rfl) ?_
    refine zr_icmp_ne (pc := 12) (tgt := 27) ⟨(ze_r Mz 81 5).1, (ze_r Mz 81 5).2⟩ ⟨(by decide), (by decide)⟩ (by decide) (zdal_p dlC_M_isSignHere_81 (i := 6) rfl) (fun hc_12 => ?_) (fun hc_12 => ?_)
    · skip
      refine zw_iconst (pc := 27) (v := Int32.ofInt 0) (by decide) (zdal_p dlC_M_isSignHere_81 (i := 13) rfl) ?_
      exact zr_iret (pc := 28) (ty := .boolean) rfl (z_narB (by (decide))) ⟨by (decide), by (decide)⟩ hf (show ((0 = 1 ∧ ze Mz 81 7 = 0 ∧ zisg b_ n_ (ze Mz 81 4).toNat a0_) ∨ (0 = 0 ∧ (ze Mz 81 7 = 0 → ¬ zisg b_ n_ (ze Mz 81 4).toNat a0_))) from Or.inr (⟨(show 0 = 0 by first | rfl | (intro z0_; rintro ⟨z1_, z2_⟩; have w_ := t6_ z1_; omega)), (show (ze Mz 81 7 = 0 → ¬ zisg b_ n_ (ze Mz 81 4).toNat a0_) by first | rfl | (intro z0_; rintro ⟨z1_, z2_⟩; have w_ := t6_ z1_; (exact zo_263 r_5.1 r_5.2 t3_ z1_ hc_12)))⟩)) (zdal_p dlC_M_isSignHere_81 (i := 14) rfl)
    · skip
      refine zw_aload_n (pc := 15) (n := 0) (x := 81) rfl (zdal_p dlC_M_isSignHere_81 (i := 7) rfl) ?_
      refine zr_getI0 hf hW (pc := 16) (by decide) f_M_152 rfl (zdal_p dlC_M_isSignHere_81 (i := 8) rfl) ?_
      refine zw_iload_n (pc := 19) (n := 1) (x := Int32.ofInt a0_) rfl (zdal_p dlC_M_isSignHere_81 (i := 9) rfl) ?_
      refine zr_icmp_ne (pc := 20) (tgt := 27) ⟨(ze_r Mz 81 6).1, (ze_r Mz 81 6).2⟩ ⟨ha0_a, ha0_b⟩ (by decide) (zdal_p dlC_M_isSignHere_81 (i := 10) rfl) (fun hc_20 => ?_) (fun hc_20 => ?_)
      · skip
        refine zw_iconst (pc := 27) (v := Int32.ofInt 0) (by decide) (zdal_p dlC_M_isSignHere_81 (i := 13) rfl) ?_
        exact zr_iret (pc := 28) (ty := .boolean) rfl (z_narB (by (decide))) ⟨by (decide), by (decide)⟩ hf (show ((0 = 1 ∧ ze Mz 81 7 = 0 ∧ zisg b_ n_ (ze Mz 81 4).toNat a0_) ∨ (0 = 0 ∧ (ze Mz 81 7 = 0 → ¬ zisg b_ n_ (ze Mz 81 4).toNat a0_))) from Or.inr (⟨(show 0 = 0 by first | rfl | (intro z0_; rintro ⟨z1_, z2_⟩; have w_ := t6_ z1_; omega)), (show (ze Mz 81 7 = 0 → ¬ zisg b_ n_ (ze Mz 81 4).toNat a0_) by first | rfl | (intro z0_; rintro ⟨z1_, z2_⟩; have w_ := t6_ z1_; (exact zo_264 w_ z2_ hc_20)))⟩)) (zdal_p dlC_M_isSignHere_81 (i := 14) rfl)
      · skip
        refine zw_iconst (pc := 23) (v := Int32.ofInt 1) (by decide) (zdal_p dlC_M_isSignHere_81 (i := 11) rfl) ?_
        refine zw_goto (pc := 24) (tgt := 28) (by decide) (zdal_p dlC_M_isSignHere_81 (i := 12) rfl) ?_
        exact zr_iret (pc := 28) (ty := .boolean) rfl (z_narB (by (decide))) ⟨by (decide), by (decide)⟩ hf (show ((1 = 1 ∧ ze Mz 81 7 = 0 ∧ zisg b_ n_ (ze Mz 81 4).toNat a0_) ∨ (1 = 0 ∧ (ze Mz 81 7 = 0 → ¬ zisg b_ n_ (ze Mz 81 4).toNat a0_))) from Or.inl (⟨(show 1 = 1 by first | rfl | omega | exact ⟨by omega, by have w_ := t6_ (by omega); omega⟩), (show ze Mz 81 7 = 0 by first | rfl | (exact hc_4) | exact ⟨by omega, by have w_ := t6_ (by omega); omega⟩), (show zisg b_ n_ (ze Mz 81 4).toNat a0_ by first | rfl | omega | exact ⟨by (exact zo_265 hc_12 t3_), by have w_ := t6_ (by (exact zo_265 hc_12 t3_)); (exact zo_266 hc_20 w_)⟩)⟩)) (zdal_p dlC_M_isSignHere_81 (i := 14) rfl)
set_option maxHeartbeats 4000000 in
theorem c_M_isNameF (l : Launch) (Mz : zMem) (hW : zMt Mz) (b_ : Nat → Int) (n_ : Nat) (p0_ : zRt b_ n_ Mz) : zC l m_M_isName 0 0 [.ref 81] Mz (zpI [] [] Mz (fun v N => (((v = 1 ∧ zisn b_ n_ (ze Mz 81 4).toNat) ∨ (v = 0 ∧ ¬ zisn b_ n_ (ze Mz 81 4).toNat))))) := by
  refine zC_of (L0 := [some (.ref 81)]) md_M_isName (Nat.le_of_ble_eq_true rfl) rfl ?_ zQ0
  have hf : zFr [] [] Mz Mz := zFr.rf
  have r_4 := ze_r Mz 81 4
  have r_5 := ze_r Mz 81 5
  obtain ⟨t1_, t2_, t3_, t4_, t5_, t6_⟩ := id p0_
  refine zw_aload_n (pc := 0) (n := 0) (x := 81) rfl (zdal_p dlC_M_isName_91 (i := 0) rfl) ?_
  refine zr_getI0 hf hW (pc := 1) (by decide) f_M_155 rfl (zdal_p dlC_M_isName_91 (i := 1) rfl) ?_
  refine zw_iconst (pc := 4) (v := Int32.ofInt 1) (by decide) (zdal_p dlC_M_isName_91 (i := 2) rfl) ?_
  refine zr_icmp_ne (pc := 5) (tgt := 56) ⟨(ze_r Mz 81 5).1, (ze_r Mz 81 5).2⟩ ⟨(by decide), (by decide)⟩ (by decide) (zdal_p dlC_M_isName_91 (i := 3) rfl) (fun hc_5 => ?_) (fun hc_5 => ?_)
  · skip
    refine zw_iconst (pc := 56) (v := Int32.ofInt 0) (by decide) d_M_isName_56 ?_
    exact zr_iret (pc := 57) (ty := .boolean) rfl (z_narB (by (decide))) ⟨by (decide), by (decide)⟩ hf (show ((0 = 1 ∧ zisn b_ n_ (ze Mz 81 4).toNat) ∨ (0 = 0 ∧ ¬ zisn b_ n_ (ze Mz 81 4).toNat)) from Or.inr (⟨(show 0 = 0 by first | rfl | (rintro ⟨q0_, q1_, q2_, q3_, q4_⟩; have w_ := t4_ q0_; have e_ : zke8 b_ n_ (ze Mz 81 4).toNat = zg Mz 81 11 := w_.symm; first | omega | exact q1_ ((zke8_w q0_ (i := 0) (by decide)).mp (by rw [e_]; have h2_ : zkW8 0 = 123610792682867 := rfl; omega)) | exact q2_ ((zke8_w q0_ (i := 1) (by decide)).mp (by rw [e_]; have h2_ : zkW8 1 = 1836021349 := rfl; omega)) | exact q3_ ((zke8_w q0_ (i := 2) (by decide)).mp (by rw [e_]; have h2_ : zkW8 2 = 7103860 := rfl; omega)) | exact q4_ ((zke8_w q0_ (i := 3) (by decide)).mp (by rw [e_]; have h2_ : zkW8 3 = 1936683636 := rfl; omega)))), (show ¬ zisn b_ n_ (ze Mz 81 4).toNat by first | rfl | (rintro ⟨q0_, q1_, q2_, q3_, q4_⟩; have w_ := t4_ q0_; have e_ : zke8 b_ n_ (ze Mz 81 4).toNat = zg Mz 81 11 := w_.symm; first | (exact zo_267 q0_ r_5.1 r_5.2 t3_ hc_5) | exact q1_ ((zke8_w q0_ (i := 0) (by decide)).mp (by rw [e_]; have h2_ : zkW8 0 = 123610792682867 := rfl; omega)) | exact q2_ ((zke8_w q0_ (i := 1) (by decide)).mp (by rw [e_]; have h2_ : zkW8 1 = 1836021349 := rfl; omega)) | exact q3_ ((zke8_w q0_ (i := 2) (by decide)).mp (by rw [e_]; have h2_ : zkW8 2 = 7103860 := rfl; omega)) | exact q4_ ((zke8_w q0_ (i := 3) (by decide)).mp (by rw [e_]; have h2_ : zkW8 3 = 1936683636 := rfl; omega))))⟩)) d_M_isName_57
  · skip
    refine zw_aload_n (pc := 8) (n := 0) (x := 81) rfl (zdal_p dlC_M_isName_91 (i := 4) rfl) ?_
    refine zr_getJ (hf.w hW) (pc := 9) f_M_148 rfl (zdal_p dlC_M_isName_91 (i := 5) rfl) ?_
    have hr1_ := zg_r Mz 81 11
    refine zr_ldc2 (pc := 12) (n := 123610792682867) (by decide) k_M_175 (zdal_p dlC_M_isName_91 (i := 6) rfl) ?_
    refine zr_lcmp (pc := 15) ⟨(zg_r Mz 81 11).1, (zg_r Mz 81 11).2⟩ ⟨(by decide), (by decide)⟩ (zdal_p dlC_M_isName_91 (i := 7) rfl) ?_
    have hr2_ := zcmp_s (zg Mz 81 11) 123610792682867
    refine zr_if_eq (pc := 16) (tgt := 56) ⟨(by (exact zo_268 hr2_)), (by (exact zo_269 hr2_))⟩ (by decide) (zdal_p dlC_M_isName_91 (i := 8) rfl) (fun hc_16 => ?_) (fun hc_16 => ?_)
    · skip
      refine zw_iconst (pc := 56) (v := Int32.ofInt 0) (by decide) d_M_isName_56 ?_
      exact zr_iret (pc := 57) (ty := .boolean) rfl (z_narB (by (decide))) ⟨by (decide), by (decide)⟩ hf (show ((0 = 1 ∧ zisn b_ n_ (ze Mz 81 4).toNat) ∨ (0 = 0 ∧ ¬ zisn b_ n_ (ze Mz 81 4).toNat)) from Or.inr (⟨(show 0 = 0 by first | rfl | (rintro ⟨q0_, q1_, q2_, q3_, q4_⟩; have w_ := t4_ q0_; have e_ : zke8 b_ n_ (ze Mz 81 4).toNat = zg Mz 81 11 := w_.symm; first | omega | exact q1_ ((zke8_w q0_ (i := 0) (by decide)).mp (by rw [e_]; have h2_ : zkW8 0 = 123610792682867 := rfl; omega)) | exact q2_ ((zke8_w q0_ (i := 1) (by decide)).mp (by rw [e_]; have h2_ : zkW8 1 = 1836021349 := rfl; omega)) | exact q3_ ((zke8_w q0_ (i := 2) (by decide)).mp (by rw [e_]; have h2_ : zkW8 2 = 7103860 := rfl; omega)) | exact q4_ ((zke8_w q0_ (i := 3) (by decide)).mp (by rw [e_]; have h2_ : zkW8 3 = 1936683636 := rfl; omega)))), (show ¬ zisn b_ n_ (ze Mz 81 4).toNat by first | rfl | (rintro ⟨q0_, q1_, q2_, q3_, q4_⟩; have w_ := t4_ q0_; have e_ : zke8 b_ n_ (ze Mz 81 4).toNat = zg Mz 81 11 := w_.symm; first | omega | exact q1_ ((zke8_w q0_ (i := 0) (by decide)).mp (by rw [e_]; have h2_ : zkW8 0 = 123610792682867 := rfl; omega)) | exact q2_ ((zke8_w q0_ (i := 1) (by decide)).mp (by rw [e_]; have h2_ : zkW8 1 = 1836021349 := rfl; omega)) | exact q3_ ((zke8_w q0_ (i := 2) (by decide)).mp (by rw [e_]; have h2_ : zkW8 2 = 7103860 := rfl; omega)) | exact q4_ ((zke8_w q0_ (i := 3) (by decide)).mp (by rw [e_]; have h2_ : zkW8 3 = 1936683636 := rfl; omega))))⟩)) d_M_isName_57
    · skip
      refine zw_aload_n (pc := 19) (n := 0) (x := 81) rfl (zdal_p dlC_M_isName_91 (i := 9) rfl) ?_
      refine zr_getJ (hf.w hW) (pc := 20) f_M_148 rfl (zdal_p dlC_M_isName_91 (i := 10) rfl) ?_
      refine zr_ldc2 (pc := 23) (n := 1836021349) (by decide) k_M_177 (zdal_p dlC_M_isName_91 (i := 11) rfl) ?_
      refine zr_lcmp (pc := 26) ⟨(zg_r Mz 81 11).1, (zg_r Mz 81 11).2⟩ ⟨(by decide), (by decide)⟩ (zdal_p dlC_M_isName_91 (i := 12) rfl) ?_
      have hr3_ := zcmp_s (zg Mz 81 11) 1836021349
      refine zr_if_eq (pc := 27) (tgt := 56) ⟨(by (exact zo_270 hr3_)), (by (exact zo_271 hr3_))⟩ (by decide) (zdal_p dlC_M_isName_91 (i := 13) rfl) (fun hc_27 => ?_) (fun hc_27 => ?_)
      · skip
        refine zw_iconst (pc := 56) (v := Int32.ofInt 0) (by decide) d_M_isName_56 ?_
        exact zr_iret (pc := 57) (ty := .boolean) rfl (z_narB (by (decide))) ⟨by (decide), by (decide)⟩ hf (show ((0 = 1 ∧ zisn b_ n_ (ze Mz 81 4).toNat) ∨ (0 = 0 ∧ ¬ zisn b_ n_ (ze Mz 81 4).toNat)) from Or.inr (⟨(show 0 = 0 by first | rfl | (rintro ⟨q0_, q1_, q2_, q3_, q4_⟩; have w_ := t4_ q0_; have e_ : zke8 b_ n_ (ze Mz 81 4).toNat = zg Mz 81 11 := w_.symm; first | omega | exact q1_ ((zke8_w q0_ (i := 0) (by decide)).mp (by rw [e_]; have h2_ : zkW8 0 = 123610792682867 := rfl; omega)) | exact q2_ ((zke8_w q0_ (i := 1) (by decide)).mp (by rw [e_]; have h2_ : zkW8 1 = 1836021349 := rfl; omega)) | exact q3_ ((zke8_w q0_ (i := 2) (by decide)).mp (by rw [e_]; have h2_ : zkW8 2 = 7103860 := rfl; omega)) | exact q4_ ((zke8_w q0_ (i := 3) (by decide)).mp (by rw [e_]; have h2_ : zkW8 3 = 1936683636 := rfl; omega)))), (show ¬ zisn b_ n_ (ze Mz 81 4).toNat by first | rfl | (rintro ⟨q0_, q1_, q2_, q3_, q4_⟩; have w_ := t4_ q0_; have e_ : zke8 b_ n_ (ze Mz 81 4).toNat = zg Mz 81 11 := w_.symm; first | omega | exact q1_ ((zke8_w q0_ (i := 0) (by decide)).mp (by rw [e_]; have h2_ : zkW8 0 = 123610792682867 := rfl; omega)) | exact q2_ ((zke8_w q0_ (i := 1) (by decide)).mp (by rw [e_]; have h2_ : zkW8 1 = 1836021349 := rfl; omega)) | exact q3_ ((zke8_w q0_ (i := 2) (by decide)).mp (by rw [e_]; have h2_ : zkW8 2 = 7103860 := rfl; omega)) | exact q4_ ((zke8_w q0_ (i := 3) (by decide)).mp (by rw [e_]; have h2_ : zkW8 3 = 1936683636 := rfl; omega))))⟩)) d_M_isName_57
      · skip
        refine zw_aload_n (pc := 30) (n := 0) (x := 81) rfl (zdal_p dlC_M_isName_91 (i := 14) rfl) ?_
        refine zr_getJ (hf.w hW) (pc := 31) f_M_148 rfl (zdal_p dlC_M_isName_91 (i := 15) rfl) ?_
        refine zr_ldc2 (pc := 34) (n := 7103860) (by decide) k_M_179 (zdal_p dlC_M_isName_91 (i := 16) rfl) ?_
        refine zr_lcmp (pc := 37) ⟨(zg_r Mz 81 11).1, (zg_r Mz 81 11).2⟩ ⟨(by decide), (by decide)⟩ (zdal_p dlC_M_isName_91 (i := 17) rfl) ?_
        have hr4_ := zcmp_s (zg Mz 81 11) 7103860
        refine zr_if_eq (pc := 38) (tgt := 56) ⟨(by (exact zo_272 hr4_)), (by (exact zo_273 hr4_))⟩ (by decide) (zdal_p dlC_M_isName_91 (i := 18) rfl) (fun hc_38 => ?_) (fun hc_38 => ?_)
        · skip
          refine zw_iconst (pc := 56) (v := Int32.ofInt 0) (by decide) d_M_isName_56 ?_
          exact zr_iret (pc := 57) (ty := .boolean) rfl (z_narB (by (decide))) ⟨by (decide), by (decide)⟩ hf (show ((0 = 1 ∧ zisn b_ n_ (ze Mz 81 4).toNat) ∨ (0 = 0 ∧ ¬ zisn b_ n_ (ze Mz 81 4).toNat)) from Or.inr (⟨(show 0 = 0 by first | rfl | (rintro ⟨q0_, q1_, q2_, q3_, q4_⟩; have w_ := t4_ q0_; have e_ : zke8 b_ n_ (ze Mz 81 4).toNat = zg Mz 81 11 := w_.symm; first | omega | exact q1_ ((zke8_w q0_ (i := 0) (by decide)).mp (by rw [e_]; have h2_ : zkW8 0 = 123610792682867 := rfl; omega)) | exact q2_ ((zke8_w q0_ (i := 1) (by decide)).mp (by rw [e_]; have h2_ : zkW8 1 = 1836021349 := rfl; omega)) | exact q3_ ((zke8_w q0_ (i := 2) (by decide)).mp (by rw [e_]; have h2_ : zkW8 2 = 7103860 := rfl; omega)) | exact q4_ ((zke8_w q0_ (i := 3) (by decide)).mp (by rw [e_]; have h2_ : zkW8 3 = 1936683636 := rfl; omega)))), (show ¬ zisn b_ n_ (ze Mz 81 4).toNat by first | rfl | (rintro ⟨q0_, q1_, q2_, q3_, q4_⟩; have w_ := t4_ q0_; have e_ : zke8 b_ n_ (ze Mz 81 4).toNat = zg Mz 81 11 := w_.symm; first | omega | exact q1_ ((zke8_w q0_ (i := 0) (by decide)).mp (by rw [e_]; have h2_ : zkW8 0 = 123610792682867 := rfl; omega)) | exact q2_ ((zke8_w q0_ (i := 1) (by decide)).mp (by rw [e_]; have h2_ : zkW8 1 = 1836021349 := rfl; omega)) | exact q3_ ((zke8_w q0_ (i := 2) (by decide)).mp (by rw [e_]; have h2_ : zkW8 2 = 7103860 := rfl; omega)) | exact q4_ ((zke8_w q0_ (i := 3) (by decide)).mp (by rw [e_]; have h2_ : zkW8 3 = 1936683636 := rfl; omega))))⟩)) d_M_isName_57
        · skip
          refine zw_aload_n (pc := 41) (n := 0) (x := 81) rfl (zdal_p dlC_M_isName_91 (i := 19) rfl) ?_
          refine zr_getJ (hf.w hW) (pc := 42) f_M_148 rfl (zdal_p dlC_M_isName_91 (i := 20) rfl) ?_
          refine zr_ldc2 (pc := 45) (n := 1936683636) (by decide) k_M_181 (zdal_p dlC_M_isName_91 (i := 21) rfl) ?_
          refine zr_lcmp (pc := 48) ⟨(zg_r Mz 81 11).1, (zg_r Mz 81 11).2⟩ ⟨(by decide), (by decide)⟩ (zdal_p dlC_M_isName_91 (i := 22) rfl) ?_
          have hr5_ := zcmp_s (zg Mz 81 11) 1936683636
          refine zr_if_eq (pc := 49) (tgt := 56) ⟨(by (exact zo_274 hr5_)), (by (exact zo_275 hr5_))⟩ (by decide) (zdal_p dlC_M_isName_91 (i := 23) rfl) (fun hc_49 => ?_) (fun hc_49 => ?_)
          · skip
            refine zw_iconst (pc := 56) (v := Int32.ofInt 0) (by decide) d_M_isName_56 ?_
            exact zr_iret (pc := 57) (ty := .boolean) rfl (z_narB (by (decide))) ⟨by (decide), by (decide)⟩ hf (show ((0 = 1 ∧ zisn b_ n_ (ze Mz 81 4).toNat) ∨ (0 = 0 ∧ ¬ zisn b_ n_ (ze Mz 81 4).toNat)) from Or.inr (⟨(show 0 = 0 by first | rfl | (rintro ⟨q0_, q1_, q2_, q3_, q4_⟩; have w_ := t4_ q0_; have e_ : zke8 b_ n_ (ze Mz 81 4).toNat = zg Mz 81 11 := w_.symm; first | omega | exact q1_ ((zke8_w q0_ (i := 0) (by decide)).mp (by rw [e_]; have h2_ : zkW8 0 = 123610792682867 := rfl; omega)) | exact q2_ ((zke8_w q0_ (i := 1) (by decide)).mp (by rw [e_]; have h2_ : zkW8 1 = 1836021349 := rfl; omega)) | exact q3_ ((zke8_w q0_ (i := 2) (by decide)).mp (by rw [e_]; have h2_ : zkW8 2 = 7103860 := rfl; omega)) | exact q4_ ((zke8_w q0_ (i := 3) (by decide)).mp (by rw [e_]; have h2_ : zkW8 3 = 1936683636 := rfl; omega)))), (show ¬ zisn b_ n_ (ze Mz 81 4).toNat by first | rfl | (rintro ⟨q0_, q1_, q2_, q3_, q4_⟩; have w_ := t4_ q0_; have e_ : zke8 b_ n_ (ze Mz 81 4).toNat = zg Mz 81 11 := w_.symm; first | omega | exact q1_ ((zke8_w q0_ (i := 0) (by decide)).mp (by rw [e_]; have h2_ : zkW8 0 = 123610792682867 := rfl; omega)) | exact q2_ ((zke8_w q0_ (i := 1) (by decide)).mp (by rw [e_]; have h2_ : zkW8 1 = 1836021349 := rfl; omega)) | exact q3_ ((zke8_w q0_ (i := 2) (by decide)).mp (by rw [e_]; have h2_ : zkW8 2 = 7103860 := rfl; omega)) | exact q4_ ((zke8_w q0_ (i := 3) (by decide)).mp (by rw [e_]; have h2_ : zkW8 3 = 1936683636 := rfl; omega))))⟩)) d_M_isName_57
          · skip
            refine zw_iconst (pc := 52) (v := Int32.ofInt 1) (by decide) (zdal_p dlC_M_isName_92 (i := 0) rfl) ?_
            refine zw_goto (pc := 53) (tgt := 57) (by decide) (zdal_p dlC_M_isName_92 (i := 1) rfl) ?_
            exact zr_iret (pc := 57) (ty := .boolean) rfl (z_narB (by (decide))) ⟨by (decide), by (decide)⟩ hf (show ((1 = 1 ∧ zisn b_ n_ (ze Mz 81 4).toNat) ∨ (1 = 0 ∧ ¬ zisn b_ n_ (ze Mz 81 4).toNat)) from Or.inl (⟨(show 1 = 1 by first | rfl | (have k_ : zkd b_ n_ (ze Mz 81 4).toNat = 1 := (by omega); have w_ := t4_ k_; have e_ : zke8 b_ n_ (ze Mz 81 4).toNat = zg Mz 81 11 := w_.symm; exact ⟨k_, fun q_ => by have h_ := (zke8_w k_ (i := 0) (by decide)).mpr q_; rw [e_] at h_; have h2_ : zkW8 0 = 123610792682867 := rfl; omega, fun q_ => by have h_ := (zke8_w k_ (i := 1) (by decide)).mpr q_; rw [e_] at h_; have h2_ : zkW8 1 = 1836021349 := rfl; omega, fun q_ => by have h_ := (zke8_w k_ (i := 2) (by decide)).mpr q_; rw [e_] at h_; have h2_ : zkW8 2 = 7103860 := rfl; omega, fun q_ => by have h_ := (zke8_w k_ (i := 3) (by decide)).mpr q_; rw [e_] at h_; have h2_ : zkW8 3 = 1936683636 := rfl; omega⟩)), (show zisn b_ n_ (ze Mz 81 4).toNat by first | rfl | (have k_ : zkd b_ n_ (ze Mz 81 4).toNat = 1 := (by (exact zo_262 hc_5 t3_)); have w_ := t4_ k_; have e_ : zke8 b_ n_ (ze Mz 81 4).toNat = zg Mz 81 11 := w_.symm; exact ⟨k_, fun q_ => by have h_ := (zke8_w k_ (i := 0) (by decide)).mpr q_; rw [e_] at h_; have h2_ : zkW8 0 = 123610792682867 := rfl; omega, fun q_ => by have h_ := (zke8_w k_ (i := 1) (by decide)).mpr q_; rw [e_] at h_; have h2_ : zkW8 1 = 1836021349 := rfl; omega, fun q_ => by have h_ := (zke8_w k_ (i := 2) (by decide)).mpr q_; rw [e_] at h_; have h2_ : zkW8 2 = 7103860 := rfl; omega, fun q_ => by have h_ := (zke8_w k_ (i := 3) (by decide)).mpr q_; rw [e_] at h_; have h2_ : zkW8 3 = 1936683636 := rfl; omega⟩))⟩)) d_M_isName_57
set_option maxHeartbeats 4000000 in
theorem c_M_wrongAtF (l : Launch) (Mz : zMem) (hW : zMt Mz) (a0_ : Int) (ha0_a : -2147483648 ≤ a0_) (ha0_b : a0_ < 2147483648) (a1_ : Int) (ha1_a : -2147483648 ≤ a1_) (ha1_b : a1_ < 2147483648) (p0_ : 1 ≤ a0_) : zC l m_M_wrongAt 0 0 [.ref 81, .int (Int32.ofInt a0_), .int (Int32.ofInt a1_)] Mz (zpV [7, 8] [] Mz (fun N => 1 ≤ ze N 81 7)) := by
  refine zC_of (L0 := [some (.ref 81), some (.int (Int32.ofInt a0_)), some (.int (Int32.ofInt a1_))]) md_M_wrongAt (Nat.le_of_ble_eq_true rfl) rfl ?_ zQ0
  have hf : zFr [7, 8] [] Mz Mz := zFr.rf
  have r_7 := ze_r Mz 81 7
  have r_8 := ze_r Mz 81 8
  refine zw_aload_n (pc := 0) (n := 0) (x := 81) rfl (zdal_p dlC_M_wrongAt_76 (i := 0) rfl) ?_
  refine zr_getI (hf.w hW) (pc := 1) f_M_172 rfl (zdal_p dlC_M_wrongAt_76 (i := 1) rfl) ?_
  refine zr_if_le (pc := 4) (tgt := 8) ⟨(ze_r Mz 81 7).1, (ze_r Mz 81 7).2⟩ (by decide) (zdal_p dlC_M_wrongAt_76 (i := 2) rfl) (fun hc_4 => ?_) (fun hc_4 => ?_)
  · skip
    refine zw_aload_n (pc := 8) (n := 0) (x := 81) rfl (zdal_p dlC_M_wrongAt_76 (i := 4) rfl) ?_
    refine zw_iload_n (pc := 9) (n := 1) (x := Int32.ofInt a0_) rfl (zdal_p dlC_M_wrongAt_76 (i := 5) rfl) ?_
    refine zr_putI (hf.w hW) (pc := 10) f_M_172 rfl rfl ⟨by (exact ha0_a), by (exact ha0_b)⟩ rfl rfl (zdal_p dlC_M_wrongAt_76 (i := 6) rfl) (fun N1_ hsN1_ hvN1_ => ?_)
    have hf_N1_ : zFr [7, 8] [] Mz N1_ := hf.tr hsN1_ (by decide) (by decide)
    have r7_N1_ := ze_r N1_ 81 7
    have e8_N1_ : ze N1_ 81 8 = ze Mz 81 8 := hsN1_.e (by decide)
    refine zw_aload_n (pc := 13) (n := 0) (x := 81) rfl (zdal_p dlC_M_wrongAt_76 (i := 7) rfl) ?_
    refine zw_iload_n (pc := 14) (n := 2) (x := Int32.ofInt a1_) rfl (zdal_p dlC_M_wrongAt_76 (i := 8) rfl) ?_
    refine zr_putI (hf_N1_.w hW) (pc := 15) f_M_13 rfl rfl ⟨by (exact ha1_a), by (exact ha1_b)⟩ rfl rfl (zdal_p dlC_M_wrongAt_76 (i := 9) rfl) (fun N2_ hsN2_ hvN2_ => ?_)
    have hf_N2_ : zFr [7, 8] [] Mz N2_ := hf_N1_.tr hsN2_ (by decide) (by decide)
    have e7_N2_ : ze N2_ 81 7 = ze N1_ 81 7 := hsN2_.e (by decide)
    have r8_N2_ := ze_r N2_ 81 8
    exact zr_vret (pc := 18) rfl hf_N2_ (show 1 ≤ ze N2_ 81 7 by first | with_reducible assumption | (exact zo_276 e7_N2_ hvN1_ p0_ r7_N1_.1) | assumption) (zdal_p dlC_M_wrongAt_76 (i := 10) rfl)
  · skip
    exact zr_vret (pc := 7) rfl hf (show 1 ≤ ze Mz 81 7 by first | with_reducible assumption | assumption | omega) (zdal_p dlC_M_wrongAt_76 (i := 3) rfl)
set_option maxHeartbeats 4000000 in
theorem c_M_wrongF (l : Launch) (Mz : zMem) (hW : zMt Mz) (a0_ : Int) (ha0_a : -2147483648 ≤ a0_) (ha0_b : a0_ < 2147483648) (p0_ : 1 ≤ a0_) : zC l m_M_wrong 0 0 [.ref 81, .int (Int32.ofInt a0_)] Mz (zpV [7, 8] [] Mz (fun N => 1 ≤ ze N 81 7)) := by
  refine zC_of (L0 := [some (.ref 81), some (.int (Int32.ofInt a0_))]) md_M_wrong (Nat.le_of_ble_eq_true rfl) rfl ?_ zQ0
  have hf : zFr [7, 8] [] Mz Mz := zFr.rf
  have r_4 := ze_r Mz 81 4
  have r_5 := ze_r Mz 81 5
  have r_7 := ze_r Mz 81 7
  refine zw_aload_n (pc := 0) (n := 0) (x := 81) rfl (zdal_p dlC_M_wrong_75 (i := 0) rfl) ?_
  refine zw_aload_n (pc := 1) (n := 0) (x := 81) rfl (zdal_p dlC_M_wrong_75 (i := 1) rfl) ?_
  refine zr_getI0 hf hW (pc := 2) (by decide) f_M_155 rfl (zdal_p dlC_M_wrong_75 (i := 2) rfl) ?_
  refine zw_iconst (pc := 5) (v := Int32.ofInt 4) (by decide) (zdal_p dlC_M_wrong_75 (i := 3) rfl) ?_
  refine zr_icmp_ne (pc := 6) (tgt := 13) ⟨(ze_r Mz 81 5).1, (ze_r Mz 81 5).2⟩ ⟨(by decide), (by decide)⟩ (by decide) (zdal_p dlC_M_wrong_75 (i := 4) rfl) (fun hc_6 => ?_) (fun hc_6 => ?_)
  · skip
    refine zw_iload_n (pc := 13) (n := 1) (x := Int32.ofInt a0_) rfl (zdal_p dlC_M_wrong_75 (i := 7) rfl) ?_
    refine zw_aload_n (pc := 14) (n := 0) (x := 81) rfl (zdal_p dlC_M_wrong_75 (i := 8) rfl) ?_
    refine zr_getI0 hf hW (pc := 15) (by decide) f_M_145 rfl (zdal_p dlC_M_wrong_75 (i := 9) rfl) ?_
    refine zr_callV (hf.w hW) hf.x (pc := 18) [.int (Int32.ofInt a0_), .int (Int32.ofInt (ze Mz 81 4))] [] l_M_168 (c_M_wrongAtF l Mz (hf.w hW) a0_ ha0_a ha0_b (ze Mz 81 4) (ze_r Mz 81 4).1 (ze_r Mz 81 4).2 (show 1 ≤ a0_ by first | with_reducible assumption | assumption | omega)) rfl rfl rfl (by decide) (Nat.le_of_ble_eq_true rfl) (zdal_p dlC_M_wrong_75 (i := 10) rfl) ?_
    rintro _ N1_ ⟨rfl, hsN1_, hp0_N1_⟩
    replace hp0_N1_ : 1 ≤ ze N1_ 81 7 := hp0_N1_
    have hf_N1_ : zFr [7, 8] [] Mz N1_ := hf.tr hsN1_ (by decide) (by decide)
    have e4_N1_ : ze N1_ 81 4 = ze Mz 81 4 := hsN1_.e (by decide)
    have e5_N1_ : ze N1_ 81 5 = ze Mz 81 5 := hsN1_.e (by decide)
    have r7_N1_ := ze_r N1_ 81 7
    show zW l m_M_wrong (zn Mz + 0, zw Mz + 0) N1_ 21 [some (.ref 81), some (.int (Int32.ofInt a0_))] [] _
    exact zr_vret (pc := 21) rfl hf_N1_ (show 1 ≤ ze N1_ 81 7 by first | with_reducible assumption | assumption | omega) (zdal_p dlC_M_wrong_75 (i := 11) rfl)
  · skip
    refine zw_iconst (pc := 9) (v := Int32.ofInt 1) (by decide) (zdal_p dlC_M_wrong_75 (i := 5) rfl) ?_
    refine zw_goto (pc := 10) (tgt := 14) (by decide) (zdal_p dlC_M_wrong_75 (i := 6) rfl) ?_
    refine zw_aload_n (pc := 14) (n := 0) (x := 81) rfl (zdal_p dlC_M_wrong_75 (i := 8) rfl) ?_
    refine zr_getI0 hf hW (pc := 15) (by decide) f_M_145 rfl (zdal_p dlC_M_wrong_75 (i := 9) rfl) ?_
    refine zr_callV (hf.w hW) hf.x (pc := 18) [.int (Int32.ofInt 1), .int (Int32.ofInt (ze Mz 81 4))] [] l_M_168 (c_M_wrongAtF l Mz (hf.w hW) 1 (by decide) (by decide) (ze Mz 81 4) (ze_r Mz 81 4).1 (ze_r Mz 81 4).2 (show 1 ≤ 1 by first | with_reducible assumption | (decide) | assumption)) rfl rfl rfl (by decide) (Nat.le_of_ble_eq_true rfl) (zdal_p dlC_M_wrong_75 (i := 10) rfl) ?_
    rintro _ N3_ ⟨rfl, hsN3_, hp0_N3_⟩
    replace hp0_N3_ : 1 ≤ ze N3_ 81 7 := hp0_N3_
    have hf_N3_ : zFr [7, 8] [] Mz N3_ := hf.tr hsN3_ (by decide) (by decide)
    have e4_N3_ : ze N3_ 81 4 = ze Mz 81 4 := hsN3_.e (by decide)
    have e5_N3_ : ze N3_ 81 5 = ze Mz 81 5 := hsN3_.e (by decide)
    have r7_N3_ := ze_r N3_ 81 7
    show zW l m_M_wrong (zn Mz + 0, zw Mz + 0) N3_ 21 [some (.ref 81), some (.int (Int32.ofInt a0_))] [] _
    exact zr_vret (pc := 21) rfl hf_N3_ (show 1 ≤ ze N3_ 81 7 by first | with_reducible assumption | assumption | omega) (zdal_p dlC_M_wrong_75 (i := 11) rfl)
set_option maxHeartbeats 4000000 in
theorem c_M_mustF (l : Launch) (Mz : zMem) (hW : zMt Mz) (a0_ : Int) (ha0_a : -2147483648 ≤ a0_) (ha0_b : a0_ < 2147483648) (b_ : Nat → Int) (n_ : Nat) (p0_ : zRb b_ n_ Mz) (p1_ : zRt b_ n_ Mz) (p2_ : 0 ≤ ze Mz 81 7) : zC l m_M_must 0 0 [.ref 81, .int (Int32.ofInt a0_)] Mz (zpV [3, 4, 5, 6, 7, 8, 11] [] Mz (fun N => zRt b_ n_ N ∧ (((1 ≤ ze N 81 7 ∧ (ze Mz 81 7 = 0 → ¬ zisg b_ n_ (ze Mz 81 4).toNat a0_)) ∨ (ze N 81 7 = 0 ∧ ze Mz 81 7 = 0 ∧ zisg b_ n_ (ze Mz 81 4).toNat a0_ ∧ (ze N 81 4).toNat = znx b_ n_ (ze Mz 81 4).toNat))))) := by
  refine zC_of (L0 := [some (.ref 81), some (.int (Int32.ofInt a0_))]) md_M_must (Nat.le_of_ble_eq_true rfl) rfl ?_ zQ0
  have hf : zFr [3, 4, 5, 6, 7, 8, 11] [] Mz Mz := zFr.rf
  have r_3 := ze_r Mz 81 3
  have r_4 := ze_r Mz 81 4
  have r_7 := ze_r Mz 81 7
  refine zw_aload_n (pc := 0) (n := 0) (x := 81) rfl (zdal_p dlC_M_must_80 (i := 0) rfl) ?_
  refine zr_callV (hf.w hW) hf.x (pc := 1) [] [] l_M_183 (c_M_isGood l Mz (hf.w hW) ) rfl rfl rfl (by decide) (Nat.le_of_ble_eq_true rfl) (zdal_p dlC_M_must_80 (i := 1) rfl) ?_
  rintro _ N1_ ⟨v2_, rfl, ⟨hv2_a, hv2_b⟩, hsN1_, hp0_N1_⟩
  obtain rfl := hsN1_.eq.symm
  replace hp0_N1_ : ((v2_ = 1 ∧ ze Mz 81 7 = 0) ∨ (v2_ = 0 ∧ ze Mz 81 7 ≠ 0)) := hp0_N1_
  rcases hp0_N1_ with ⟨rfl, ha1_0_hp0_N1_⟩ | ⟨rfl, ha1_0_hp0_N1_⟩
  · skip
    show zW l m_M_must (zn Mz + 0, zw Mz + 0) Mz 4 [some (.ref 81), some (.int (Int32.ofInt a0_))] [.int (Int32.ofInt 1)] _
    refine zr_if_eq (pc := 4) (tgt := 20) ⟨(by decide), (by decide)⟩ (by decide) (zdal_p dlC_M_must_80 (i := 2) rfl) (fun hc_4 => ?_) (fun hc_4 => ?_)
    · skip
      exact absurd hc_4 (by decide)
    · skip
      refine zw_aload_n (pc := 7) (n := 0) (x := 81) rfl (zdal_p dlC_M_must_80 (i := 3) rfl) ?_
      refine zw_iload_n (pc := 8) (n := 1) (x := Int32.ofInt a0_) rfl (zdal_p dlC_M_must_80 (i := 4) rfl) ?_
      refine zr_callV (hf.w hW) hf.x (pc := 9) [.int (Int32.ofInt a0_)] [] l_M_187 (c_M_isSignHereF l Mz (hf.w hW) a0_ ha0_a ha0_b b_ n_ p1_) rfl rfl rfl (by decide) (Nat.le_of_ble_eq_true rfl) (zdal_p dlC_M_must_80 (i := 5) rfl) ?_
      rintro _ N3_ ⟨v4_, rfl, ⟨hv4_a, hv4_b⟩, hsN3_, hp0_N3_⟩
      obtain rfl := hsN3_.eq.symm
      replace hp0_N3_ : ((v4_ = 1 ∧ ze Mz 81 7 = 0 ∧ zisg b_ n_ (ze Mz 81 4).toNat a0_) ∨ (v4_ = 0 ∧ (ze Mz 81 7 = 0 → ¬ zisg b_ n_ (ze Mz 81 4).toNat a0_))) := hp0_N3_
      rcases hp0_N3_ with ⟨rfl, ha9_0_hp0_N3_, ha9_1_hp0_N3_⟩ | ⟨rfl, ha9_0_hp0_N3_⟩
      · skip
        have hsg_ := ha9_1_hp0_N3_
        show zW l m_M_must (zn Mz + 0, zw Mz + 0) Mz 12 [some (.ref 81), some (.int (Int32.ofInt a0_))] [.int (Int32.ofInt 1)] _
        refine zr_if_ne (pc := 12) (tgt := 20) ⟨(by decide), (by decide)⟩ (by decide) (zdal_p dlC_M_must_80 (i := 6) rfl) (fun hc_12 => ?_) (fun hc_12 => ?_)
        · skip
          refine zw_aload_n (pc := 20) (n := 0) (x := 81) rfl (zdal_p dlC_M_must_80 (i := 10) rfl) ?_
          refine zr_callV (hf.w hW) hf.x (pc := 21) [] [] l_M_183 (c_M_isGood l Mz (hf.w hW) ) rfl rfl rfl (by decide) (Nat.le_of_ble_eq_true rfl) (zdal_p dlC_M_must_80 (i := 11) rfl) ?_
          rintro _ N5_ ⟨v6_, rfl, ⟨hv6_a, hv6_b⟩, hsN5_, hp0_N5_⟩
          obtain rfl := hsN5_.eq.symm
          replace hp0_N5_ : ((v6_ = 1 ∧ ze Mz 81 7 = 0) ∨ (v6_ = 0 ∧ ze Mz 81 7 ≠ 0)) := hp0_N5_
          rcases hp0_N5_ with ⟨rfl, ha21_0_hp0_N5_⟩ | ⟨rfl, ha21_0_hp0_N5_⟩
          · skip
            show zW l m_M_must (zn Mz + 0, zw Mz + 0) Mz 24 [some (.ref 81), some (.int (Int32.ofInt a0_))] [.int (Int32.ofInt 1)] _
            refine zr_if_eq (pc := 24) (tgt := 31) ⟨(by decide), (by decide)⟩ (by decide) (zdal_p dlC_M_must_80 (i := 12) rfl) (fun hc_24 => ?_) (fun hc_24 => ?_)
            · skip
              exact absurd hc_24 (by decide)
            · skip
              have hyt_ := p1_
              have hyx_ := hyt_.x
              refine zw_aload_n (pc := 27) (n := 0) (x := 81) rfl (zdal_p dlC_M_must_80 (i := 13) rfl) ?_
              refine zr_callV (hf.w hW) hf.x (pc := 28) [] [] l_M_193 (c_M_goOnF l Mz (hf.w hW) b_ n_ p0_ (show 0 ≤ ze Mz 81 3 by first | with_reducible assumption | (exact zo_57 hyx_.2.1) | assumption) (show ze Mz 81 3 ≤ n_ by first | with_reducible assumption | (exact zo_277 hyx_.2.2 r_3.2) | assumption)) rfl rfl rfl (by decide) (Nat.le_of_ble_eq_true rfl) (zdal_p dlC_M_must_80 (i := 14) rfl) ?_
              rintro _ N7_ ⟨rfl, hsN7_, ⟨hp0_N7_, hp1_N7_⟩⟩
              have hf_N7_ : zFr [3, 4, 5, 6, 7, 8, 11] [] Mz N7_ := hf.tr hsN7_ (by decide) (by decide)
              have r3_N7_ := ze_r N7_ 81 3
              have r4_N7_ := ze_r N7_ 81 4
              have e7_N7_ : ze N7_ 81 7 = ze Mz 81 7 := hsN7_.e (by decide)
              show zW l m_M_must (zn Mz + 0, zw Mz + 0) N7_ 31 [some (.ref 81), some (.int (Int32.ofInt a0_))] [] _
              have hnn_ := hyt_.nx hp0_N7_
              exact zr_vret (pc := 31) rfl hf_N7_ ⟨hp1_N7_, (show ((1 ≤ ze N7_ 81 7 ∧ (ze Mz 81 7 = 0 → ¬ zisg b_ n_ (ze Mz 81 4).toNat a0_)) ∨ (ze N7_ 81 7 = 0 ∧ ze Mz 81 7 = 0 ∧ zisg b_ n_ (ze Mz 81 4).toNat a0_ ∧ (ze N7_ 81 4).toNat = znx b_ n_ (ze Mz 81 4).toNat)) from Or.inr (⟨(show ze N7_ 81 7 = 0 by first | (exact zo_278 e7_N7_ ha1_0_hp0_N1_ p2_) | exact hsg_ | exact hnn_.2.trans (by rw [show ze Mz 81 4 = ze Mz 81 4 by omega])), (show ze Mz 81 7 = 0 by first | (exact ha1_0_hp0_N1_) | exact hsg_ | exact hnn_.2.trans (by rw [show ze Mz 81 4 = ze Mz 81 4 by omega])), (show zisg b_ n_ (ze Mz 81 4).toNat a0_ by first | omega | exact hsg_ | exact hnn_.2.trans (by rw [show ze Mz 81 4 = ze Mz 81 4 by omega])), (show (ze N7_ 81 4).toNat = znx b_ n_ (ze Mz 81 4).toNat by first | (exact zo_279 hnn_.2 hp0_N7_ r4_N7_.1 r4_N7_.2) | exact hsg_ | exact hnn_.2.trans (by rw [show ze Mz 81 4 = ze Mz 81 4 by omega]))⟩))⟩ (zdal_p dlC_M_must_80 (i := 15) rfl)
          · skip
            exfalso; (exact zo_280 ha1_0_hp0_N1_ p2_ ha21_0_hp0_N5_)
        · skip
          exact absurd hc_12 (by decide)
      · skip
        have hns_ := ha9_0_hp0_N3_
        show zW l m_M_must (zn Mz + 0, zw Mz + 0) Mz 12 [some (.ref 81), some (.int (Int32.ofInt a0_))] [.int (Int32.ofInt 0)] _
        refine zr_if_ne (pc := 12) (tgt := 20) ⟨(by decide), (by decide)⟩ (by decide) (zdal_p dlC_M_must_80 (i := 6) rfl) (fun hc_12 => ?_) (fun hc_12 => ?_)
        · skip
          exact absurd hc_12 (by decide)
        · skip
          refine zw_aload_n (pc := 15) (n := 0) (x := 81) rfl (zdal_p dlC_M_must_80 (i := 7) rfl) ?_
          refine zw_iconst (pc := 16) (v := Int32.ofInt 2) (by decide) (zdal_p dlC_M_must_80 (i := 8) rfl) ?_
          refine zr_callV (hf.w hW) hf.x (pc := 17) [.int (Int32.ofInt 2)] [] l_M_190 (c_M_wrongF l Mz (hf.w hW) 2 (by decide) (by decide) (show 1 ≤ 2 by first | with_reducible assumption | (decide) | assumption)) rfl rfl rfl (by decide) (Nat.le_of_ble_eq_true rfl) (zdal_p dlC_M_must_80 (i := 9) rfl) ?_
          rintro _ N10_ ⟨rfl, hsN10_, hp0_N10_⟩
          replace hp0_N10_ : 1 ≤ ze N10_ 81 7 := hp0_N10_
          have hf_N10_ : zFr [3, 4, 5, 6, 7, 8, 11] [] Mz N10_ := hf.tr hsN10_ (by decide) (by decide)
          have e3_N10_ : ze N10_ 81 3 = ze Mz 81 3 := hsN10_.e (by decide)
          have e4_N10_ : ze N10_ 81 4 = ze Mz 81 4 := hsN10_.e (by decide)
          have r7_N10_ := ze_r N10_ 81 7
          have c13_ : zRt b_ n_ N10_ := zRt.fr hsN10_ p1_ (by decide) (by decide)
          show zW l m_M_must (zn Mz + 0, zw Mz + 0) N10_ 20 [some (.ref 81), some (.int (Int32.ofInt a0_))] [] _
          refine zw_aload_n (pc := 20) (n := 0) (x := 81) rfl (zdal_p dlC_M_must_80 (i := 10) rfl) ?_
          refine zr_callV (hf_N10_.w hW) hf_N10_.x (pc := 21) [] [] l_M_183 (c_M_isGood l N10_ (hf_N10_.w hW) ) rfl rfl rfl (by decide) (Nat.le_of_ble_eq_true rfl) (zdal_p dlC_M_must_80 (i := 11) rfl) ?_
          rintro _ N14_ ⟨v15_, rfl, ⟨hv15_a, hv15_b⟩, hsN14_, hp0_N14_⟩
          obtain rfl := hsN14_.eq.symm
          replace hp0_N14_ : ((v15_ = 1 ∧ ze N10_ 81 7 = 0) ∨ (v15_ = 0 ∧ ze N10_ 81 7 ≠ 0)) := hp0_N14_
          rcases hp0_N14_ with ⟨rfl, ha21_0_hp0_N14_⟩ | ⟨rfl, ha21_0_hp0_N14_⟩
          · skip
            exfalso; (exact zo_281 ha21_0_hp0_N14_ hp0_N10_)
          · skip
            show zW l m_M_must (zn Mz + 0, zw Mz + 0) N10_ 24 [some (.ref 81), some (.int (Int32.ofInt a0_))] [.int (Int32.ofInt 0)] _
            refine zr_if_eq (pc := 24) (tgt := 31) ⟨(by decide), (by decide)⟩ (by decide) (zdal_p dlC_M_must_80 (i := 12) rfl) (fun hc_24 => ?_) (fun hc_24 => ?_)
            · skip
              exact zr_vret (pc := 31) rfl hf_N10_ ⟨c13_, (show ((1 ≤ ze N10_ 81 7 ∧ (ze Mz 81 7 = 0 → ¬ zisg b_ n_ (ze Mz 81 4).toNat a0_)) ∨ (ze N10_ 81 7 = 0 ∧ ze Mz 81 7 = 0 ∧ zisg b_ n_ (ze Mz 81 4).toNat a0_ ∧ (ze N10_ 81 4).toNat = znx b_ n_ (ze Mz 81 4).toNat)) from Or.inl (⟨(show 1 ≤ ze N10_ 81 7 by first | (exact hp0_N10_) | exact hns_ | (intro z_; exfalso; omega)), (show (ze Mz 81 7 = 0 → ¬ zisg b_ n_ (ze Mz 81 4).toNat a0_) by first | (exact ha9_0_hp0_N3_) | exact hns_ | (intro z_; exfalso; omega))⟩))⟩ (zdal_p dlC_M_must_80 (i := 15) rfl)
            · skip
              exact absurd hc_24 (by decide)
  · skip
    show zW l m_M_must (zn Mz + 0, zw Mz + 0) Mz 4 [some (.ref 81), some (.int (Int32.ofInt a0_))] [.int (Int32.ofInt 0)] _
    refine zr_if_eq (pc := 4) (tgt := 20) ⟨(by decide), (by decide)⟩ (by decide) (zdal_p dlC_M_must_80 (i := 2) rfl) (fun hc_4 => ?_) (fun hc_4 => ?_)
    · skip
      refine zw_aload_n (pc := 20) (n := 0) (x := 81) rfl (zdal_p dlC_M_must_80 (i := 10) rfl) ?_
      refine zr_callV (hf.w hW) hf.x (pc := 21) [] [] l_M_183 (c_M_isGood l Mz (hf.w hW) ) rfl rfl rfl (by decide) (Nat.le_of_ble_eq_true rfl) (zdal_p dlC_M_must_80 (i := 11) rfl) ?_
      rintro _ N16_ ⟨v17_, rfl, ⟨hv17_a, hv17_b⟩, hsN16_, hp0_N16_⟩
      obtain rfl := hsN16_.eq.symm
      replace hp0_N16_ : ((v17_ = 1 ∧ ze Mz 81 7 = 0) ∨ (v17_ = 0 ∧ ze Mz 81 7 ≠ 0)) := hp0_N16_
      rcases hp0_N16_ with ⟨rfl, ha21_0_hp0_N16_⟩ | ⟨rfl, ha21_0_hp0_N16_⟩
      · skip
        exfalso; (exact zo_280 ha21_0_hp0_N16_ p2_ ha1_0_hp0_N1_)
      · skip
        show zW l m_M_must (zn Mz + 0, zw Mz + 0) Mz 24 [some (.ref 81), some (.int (Int32.ofInt a0_))] [.int (Int32.ofInt 0)] _
        refine zr_if_eq (pc := 24) (tgt := 31) ⟨(by decide), (by decide)⟩ (by decide) (zdal_p dlC_M_must_80 (i := 12) rfl) (fun hc_24 => ?_) (fun hc_24 => ?_)
        · skip
          exact zr_vret (pc := 31) rfl hf ⟨p1_, (show ((1 ≤ ze Mz 81 7 ∧ (ze Mz 81 7 = 0 → ¬ zisg b_ n_ (ze Mz 81 4).toNat a0_)) ∨ (ze Mz 81 7 = 0 ∧ ze Mz 81 7 = 0 ∧ zisg b_ n_ (ze Mz 81 4).toNat a0_ ∧ (ze Mz 81 4).toNat = znx b_ n_ (ze Mz 81 4).toNat)) from Or.inl (⟨(show 1 ≤ ze Mz 81 7 by first | (exact zo_136 p2_ ha1_0_hp0_N1_) | exact hns_ | (intro z_; exfalso; omega)), (show (ze Mz 81 7 = 0 → ¬ zisg b_ n_ (ze Mz 81 4).toNat a0_) by first | omega | exact hns_ | (intro z_; exfalso; omega))⟩))⟩ (zdal_p dlC_M_must_80 (i := 15) rfl)
        · skip
          exact absurd hc_24 (by decide)
    · skip
      exact absurd hc_4 (by decide)
set_option maxHeartbeats 4000000 in
theorem c_M_numberF (l : Launch) (Mz : zMem) (hW : zMt Mz) (a0_ : Int) (ha0_a : -2147483648 ≤ a0_) (ha0_b : a0_ < 2147483648) (a1_ : Int) (ha1_a : -2147483648 ≤ a1_) (ha1_b : a1_ < 2147483648) (b_ : Nat → Int) (n_ : Nat) (p0_ : zRb b_ n_ Mz) (p1_ : zRt b_ n_ Mz) (p2_ : 0 ≤ ze Mz 81 7) : zC l m_M_number 0 0 [.ref 81, .int (Int32.ofInt a0_), .int (Int32.ofInt a1_)] Mz (zpI [3, 4, 5, 6, 7, 8, 11] [] Mz (fun v N => zRt b_ n_ N ∧ (((1 ≤ ze N 81 7 ∧ (ze Mz 81 7 = 0 → ¬ (zkd b_ n_ (ze Mz 81 4).toNat = 2 ∧ a0_ ≤ znu b_ n_ (ze Mz 81 4).toNat ∧ znu b_ n_ (ze Mz 81 4).toNat ≤ a1_))) ∨ (ze N 81 7 = 0 ∧ ze Mz 81 7 = 0 ∧ (zkd b_ n_ (ze Mz 81 4).toNat = 2 ∧ a0_ ≤ znu b_ n_ (ze Mz 81 4).toNat ∧ znu b_ n_ (ze Mz 81 4).toNat ≤ a1_) ∧ v = znu b_ n_ (ze Mz 81 4).toNat ∧ (ze N 81 4).toNat = znx b_ n_ (ze Mz 81 4).toNat))))) := by
  refine zC_of (L0 := [some (.ref 81), some (.int (Int32.ofInt a0_)), some (.int (Int32.ofInt a1_)), none]) md_M_number (Nat.le_of_ble_eq_true rfl) rfl ?_ zQ0
  have hf : zFr [3, 4, 5, 6, 7, 8, 11] [] Mz Mz := zFr.rf
  have r_3 := ze_r Mz 81 3
  have r_4 := ze_r Mz 81 4
  have r_5 := ze_r Mz 81 5
  have r_6 := ze_r Mz 81 6
  have r_7 := ze_r Mz 81 7
  obtain ⟨t1_, t2_, t3_, t4_, t5_, t6_⟩ := id p1_
  refine zw_aload_n (pc := 0) (n := 0) (x := 81) rfl (zdal_p dlC_M_number_78 (i := 0) rfl) ?_
  refine zr_callV (hf.w hW) hf.x (pc := 1) [] [] l_M_183 (c_M_isGood l Mz (hf.w hW) ) rfl rfl rfl (by decide) (Nat.le_of_ble_eq_true rfl) (zdal_p dlC_M_number_78 (i := 1) rfl) ?_
  rintro _ N1_ ⟨v2_, rfl, ⟨hv2_a, hv2_b⟩, hsN1_, hp0_N1_⟩
  obtain rfl := hsN1_.eq.symm
  replace hp0_N1_ : ((v2_ = 1 ∧ ze Mz 81 7 = 0) ∨ (v2_ = 0 ∧ ze Mz 81 7 ≠ 0)) := hp0_N1_
  rcases hp0_N1_ with ⟨rfl, ha1_0_hp0_N1_⟩ | ⟨rfl, ha1_0_hp0_N1_⟩
  · skip
    show zW l m_M_number (zn Mz + 0, zw Mz + 0) Mz 4 [some (.ref 81), some (.int (Int32.ofInt a0_)), some (.int (Int32.ofInt a1_)), none] [.int (Int32.ofInt 1)] _
    refine zr_if_eq (pc := 4) (tgt := 20) ⟨(by decide), (by decide)⟩ (by decide) (zdal_p dlC_M_number_78 (i := 2) rfl) (fun hc_4 => ?_) (fun hc_4 => ?_)
    · skip
      exact absurd hc_4 (by decide)
    · skip
      refine zw_aload_n (pc := 7) (n := 0) (x := 81) rfl (zdal_p dlC_M_number_78 (i := 3) rfl) ?_
      refine zr_getI (hf.w hW) (pc := 8) f_M_155 rfl (zdal_p dlC_M_number_78 (i := 4) rfl) ?_
      refine zw_iconst (pc := 11) (v := Int32.ofInt 2) (by decide) (zdal_p dlC_M_number_78 (i := 5) rfl) ?_
      refine zr_icmp_eq (pc := 12) (tgt := 20) ⟨(ze_r Mz 81 5).1, (ze_r Mz 81 5).2⟩ ⟨(by decide), (by decide)⟩ (by decide) (zdal_p dlC_M_number_78 (i := 6) rfl) (fun hc_12 => ?_) (fun hc_12 => ?_)
      · skip
        refine zw_aload_n (pc := 20) (n := 0) (x := 81) rfl (zdal_p dlC_M_number_78 (i := 10) rfl) ?_
        refine zr_getI (hf.w hW) (pc := 21) f_M_152 rfl (zdal_p dlC_M_number_78 (i := 11) rfl) ?_
        refine zw_istore_n (pc := 24) (i := 3) (L2 := [some (.ref 81), some (.int (Int32.ofInt a0_)), some (.int (Int32.ofInt a1_)), some (.int (Int32.ofInt (ze Mz 81 6)))]) rfl (by decide) rfl (zdal_p dlC_M_number_78 (i := 12) rfl) ?_
        refine zw_aload_n (pc := 25) (n := 0) (x := 81) rfl (zdal_p dlC_M_number_78 (i := 13) rfl) ?_
        refine zr_callV (hf.w hW) hf.x (pc := 26) [] [] l_M_183 (c_M_isGood l Mz (hf.w hW) ) rfl rfl rfl (by decide) (Nat.le_of_ble_eq_true rfl) (zdal_p dlC_M_number_78 (i := 14) rfl) ?_
        rintro _ N3_ ⟨v4_, rfl, ⟨hv4_a, hv4_b⟩, hsN3_, hp0_N3_⟩
        obtain rfl := hsN3_.eq.symm
        replace hp0_N3_ : ((v4_ = 1 ∧ ze Mz 81 7 = 0) ∨ (v4_ = 0 ∧ ze Mz 81 7 ≠ 0)) := hp0_N3_
        rcases hp0_N3_ with ⟨rfl, ha26_0_hp0_N3_⟩ | ⟨rfl, ha26_0_hp0_N3_⟩
        · skip
          show zW l m_M_number (zn Mz + 0, zw Mz + 0) Mz 29 [some (.ref 81), some (.int (Int32.ofInt a0_)), some (.int (Int32.ofInt a1_)), some (.int (Int32.ofInt (ze Mz 81 6)))] [.int (Int32.ofInt 1)] _
          refine zr_if_eq (pc := 29) (tgt := 49) ⟨(by decide), (by decide)⟩ (by decide) (zdal_p dlC_M_number_78 (i := 15) rfl) (fun hc_29 => ?_) (fun hc_29 => ?_)
          · skip
            exact absurd hc_29 (by decide)
          · skip
            refine zw_iload_n (pc := 32) (n := 3) (x := Int32.ofInt (ze Mz 81 6)) rfl (zdal_p dlC_M_number_78 (i := 16) rfl) ?_
            refine zr_i2l (pc := 33) ⟨(ze_r Mz 81 6).1, (ze_r Mz 81 6).2⟩ (zdal_p dlC_M_number_78 (i := 17) rfl) ?_
            refine zw_iload_n (pc := 34) (n := 1) (x := Int32.ofInt a0_) rfl (zdal_p dlC_M_number_78 (i := 18) rfl) ?_
            refine zr_i2l (pc := 35) ⟨ha0_a, ha0_b⟩ (zdal_p dlC_M_number_78 (i := 19) rfl) ?_
            refine zw_iload_n (pc := 36) (n := 2) (x := Int32.ofInt a1_) rfl (zdal_p dlC_M_number_78 (i := 20) rfl) ?_
            refine zr_i2l (pc := 37) ⟨ha1_a, ha1_b⟩ (zdal_p dlC_M_number_78 (i := 21) rfl) ?_
            refine zr_callS hf.x (pc := 38) [.long (Int64.ofInt (ze Mz 81 6)), .long (Int64.ofInt a0_), .long (Int64.ofInt a1_)] [] l_M_131 (c_M_isIn l Mz (hf.w hW) (ze Mz 81 6) (by (exact zo_282 r_6.1)) (by (exact zo_283 r_6.2)) a0_ (by (exact zo_282 ha0_a)) (by (exact zo_283 ha0_b)) a1_ (by (exact zo_282 ha1_a)) (by (exact zo_283 ha1_b))) rfl rfl (by decide) (Nat.le_of_ble_eq_true rfl) (zdal_p dlC_M_number_78 (i := 22) rfl) ?_
            rintro _ N5_ ⟨v6_, rfl, ⟨hv6_a, hv6_b⟩, hsN5_, hp0_N5_⟩
            obtain rfl := hsN5_.eq.symm
            replace hp0_N5_ : ((v6_ = 1 ∧ a0_ ≤ (ze Mz 81 6) ∧ (ze Mz 81 6) ≤ a1_) ∨ (v6_ = 0 ∧ ((ze Mz 81 6) < a0_ ∨ a1_ < (ze Mz 81 6)))) := hp0_N5_
            rcases hp0_N5_ with ⟨rfl, ha38_0_hp0_N5_, ha38_1_hp0_N5_⟩ | ⟨rfl, ha38_0_hp0_N5_⟩
            · skip
              show zW l m_M_number (zn Mz + 0, zw Mz + 0) Mz 41 [some (.ref 81), some (.int (Int32.ofInt a0_)), some (.int (Int32.ofInt a1_)), some (.int (Int32.ofInt (ze Mz 81 6)))] [.int (Int32.ofInt 1)] _
              refine zr_if_ne (pc := 41) (tgt := 49) ⟨(by decide), (by decide)⟩ (by decide) (zdal_p dlC_M_number_78 (i := 23) rfl) (fun hc_41 => ?_) (fun hc_41 => ?_)
              · skip
                refine zw_aload_n (pc := 49) (n := 0) (x := 81) rfl (zdal_p dlC_M_number_79 (i := 3) rfl) ?_
                refine zr_callV (hf.w hW) hf.x (pc := 50) [] [] l_M_183 (c_M_isGood l Mz (hf.w hW) ) rfl rfl rfl (by decide) (Nat.le_of_ble_eq_true rfl) (zdal_p dlC_M_number_79 (i := 4) rfl) ?_
                rintro _ N7_ ⟨v8_, rfl, ⟨hv8_a, hv8_b⟩, hsN7_, hp0_N7_⟩
                obtain rfl := hsN7_.eq.symm
                replace hp0_N7_ : ((v8_ = 1 ∧ ze Mz 81 7 = 0) ∨ (v8_ = 0 ∧ ze Mz 81 7 ≠ 0)) := hp0_N7_
                rcases hp0_N7_ with ⟨rfl, ha50_0_hp0_N7_⟩ | ⟨rfl, ha50_0_hp0_N7_⟩
                · skip
                  show zW l m_M_number (zn Mz + 0, zw Mz + 0) Mz 53 [some (.ref 81), some (.int (Int32.ofInt a0_)), some (.int (Int32.ofInt a1_)), some (.int (Int32.ofInt (ze Mz 81 6)))] [.int (Int32.ofInt 1)] _
                  refine zr_if_eq (pc := 53) (tgt := 60) ⟨(by decide), (by decide)⟩ (by decide) (zdal_p dlC_M_number_79 (i := 5) rfl) (fun hc_53 => ?_) (fun hc_53 => ?_)
                  · skip
                    exact absurd hc_53 (by decide)
                  · skip
                    have hyt_ := p1_
                    have hyx_ := hyt_.x
                    refine zw_aload_n (pc := 56) (n := 0) (x := 81) rfl (zdal_p dlC_M_number_79 (i := 6) rfl) ?_
                    refine zr_callV (hf.w hW) hf.x (pc := 57) [] [] l_M_193 (c_M_goOnF l Mz (hf.w hW) b_ n_ p0_ (show 0 ≤ ze Mz 81 3 by first | with_reducible assumption | (exact zo_57 hyx_.2.1) | assumption) (show ze Mz 81 3 ≤ n_ by first | with_reducible assumption | (exact zo_277 hyx_.2.2 r_3.2) | assumption)) rfl rfl rfl (by decide) (Nat.le_of_ble_eq_true rfl) (zdal_p dlC_M_number_79 (i := 7) rfl) ?_
                    rintro _ N9_ ⟨rfl, hsN9_, ⟨hp0_N9_, hp1_N9_⟩⟩
                    have hf_N9_ : zFr [3, 4, 5, 6, 7, 8, 11] [] Mz N9_ := hf.tr hsN9_ (by decide) (by decide)
                    have r3_N9_ := ze_r N9_ 81 3
                    have r4_N9_ := ze_r N9_ 81 4
                    have r5_N9_ := ze_r N9_ 81 5
                    have r6_N9_ := ze_r N9_ 81 6
                    have e7_N9_ : ze N9_ 81 7 = ze Mz 81 7 := hsN9_.e (by decide)
                    show zW l m_M_number (zn Mz + 0, zw Mz + 0) N9_ 60 [some (.ref 81), some (.int (Int32.ofInt a0_)), some (.int (Int32.ofInt a1_)), some (.int (Int32.ofInt (ze Mz 81 6)))] [] _
                    have hnn_ := hyt_.nx hp0_N9_
                    refine zw_iload_n (pc := 60) (n := 3) (x := Int32.ofInt (ze Mz 81 6)) rfl (zdal_p dlC_M_number_79 (i := 8) rfl) ?_
                    exact zr_iret (pc := 61) (ty := .int) rfl rfl ⟨by (exact zo_284 r_6.1), by (exact zo_285 r_6.2)⟩ hf_N9_ ⟨hp1_N9_, (show ((1 ≤ ze N9_ 81 7 ∧ (ze Mz 81 7 = 0 → ¬ (zkd b_ n_ (ze Mz 81 4).toNat = 2 ∧ a0_ ≤ znu b_ n_ (ze Mz 81 4).toNat ∧ znu b_ n_ (ze Mz 81 4).toNat ≤ a1_))) ∨ (ze N9_ 81 7 = 0 ∧ ze Mz 81 7 = 0 ∧ (zkd b_ n_ (ze Mz 81 4).toNat = 2 ∧ a0_ ≤ znu b_ n_ (ze Mz 81 4).toNat ∧ znu b_ n_ (ze Mz 81 4).toNat ≤ a1_) ∧ (ze Mz 81 6) = znu b_ n_ (ze Mz 81 4).toNat ∧ (ze N9_ 81 4).toNat = znx b_ n_ (ze Mz 81 4).toNat)) from Or.inr (⟨(show ze N9_ 81 7 = 0 by first | (exact zo_278 e7_N9_ ha1_0_hp0_N1_ p2_) | (have k_ : zkd b_ n_ (ze Mz 81 4).toNat = 2 := (by omega); have w_ := (p1_.v2 k_).1; first | omega | exact ⟨k_, by omega, by omega⟩) | exact hnn_.2.trans (by rw [show ze Mz 81 4 = ze Mz 81 4 by omega])), (show ze Mz 81 7 = 0 by first | (exact ha1_0_hp0_N1_) | (have k_ : zkd b_ n_ (ze Mz 81 4).toNat = 2 := (by omega); have w_ := (p1_.v2 k_).1; first | omega | exact ⟨k_, by omega, by omega⟩) | exact hnn_.2.trans (by rw [show ze Mz 81 4 = ze Mz 81 4 by omega])), (show (zkd b_ n_ (ze Mz 81 4).toNat = 2 ∧ a0_ ≤ znu b_ n_ (ze Mz 81 4).toNat ∧ znu b_ n_ (ze Mz 81 4).toNat ≤ a1_) by first | omega | (have k_ : zkd b_ n_ (ze Mz 81 4).toNat = 2 := (by (exact zo_286 hc_12 t3_)); have w_ := (p1_.v2 k_).1; first | (exact zo_287 ha38_0_hp0_N5_ ha38_1_hp0_N5_ k_ w_) | exact ⟨k_, by omega, by omega⟩) | exact hnn_.2.trans (by rw [show ze Mz 81 4 = ze Mz 81 4 by omega])), (show (ze Mz 81 6) = znu b_ n_ (ze Mz 81 4).toNat by first | omega | (have k_ : zkd b_ n_ (ze Mz 81 4).toNat = 2 := (by (exact zo_286 hc_12 t3_)); have w_ := (p1_.v2 k_).1; first | (exact w_) | exact ⟨k_, by omega, by omega⟩) | exact hnn_.2.trans (by rw [show ze Mz 81 4 = ze Mz 81 4 by omega])), (show (ze N9_ 81 4).toNat = znx b_ n_ (ze Mz 81 4).toNat by first | (exact zo_279 hnn_.2 hp0_N9_ r4_N9_.1 r4_N9_.2) | (have k_ : zkd b_ n_ (ze Mz 81 4).toNat = 2 := (by omega); have w_ := (p1_.v2 k_).1; first | omega | exact ⟨k_, by omega, by omega⟩) | exact hnn_.2.trans (by rw [show ze Mz 81 4 = ze Mz 81 4 by omega]))⟩))⟩ (zdal_p dlC_M_number_79 (i := 9) rfl)
                · skip
                  exfalso; (exact zo_280 ha1_0_hp0_N1_ p2_ ha50_0_hp0_N7_)
              · skip
                exact absurd hc_41 (by decide)
            · skip
              show zW l m_M_number (zn Mz + 0, zw Mz + 0) Mz 41 [some (.ref 81), some (.int (Int32.ofInt a0_)), some (.int (Int32.ofInt a1_)), some (.int (Int32.ofInt (ze Mz 81 6)))] [.int (Int32.ofInt 0)] _
              refine zr_if_ne (pc := 41) (tgt := 49) ⟨(by decide), (by decide)⟩ (by decide) (zdal_p dlC_M_number_78 (i := 23) rfl) (fun hc_41 => ?_) (fun hc_41 => ?_)
              · skip
                exact absurd hc_41 (by decide)
              · skip
                refine zw_aload_n (pc := 44) (n := 0) (x := 81) rfl (zdal_p dlC_M_number_79 (i := 0) rfl) ?_
                refine zw_iconst (pc := 45) (v := Int32.ofInt 4) (by decide) (zdal_p dlC_M_number_79 (i := 1) rfl) ?_
                refine zr_callV (hf.w hW) hf.x (pc := 46) [.int (Int32.ofInt 4)] [] l_M_190 (c_M_wrongF l Mz (hf.w hW) 4 (by decide) (by decide) (show 1 ≤ 4 by first | with_reducible assumption | (decide) | assumption)) rfl rfl rfl (by decide) (Nat.le_of_ble_eq_true rfl) (zdal_p dlC_M_number_79 (i := 2) rfl) ?_
                rintro _ N12_ ⟨rfl, hsN12_, hp0_N12_⟩
                replace hp0_N12_ : 1 ≤ ze N12_ 81 7 := hp0_N12_
                have hf_N12_ : zFr [3, 4, 5, 6, 7, 8, 11] [] Mz N12_ := hf.tr hsN12_ (by decide) (by decide)
                have e3_N12_ : ze N12_ 81 3 = ze Mz 81 3 := hsN12_.e (by decide)
                have e4_N12_ : ze N12_ 81 4 = ze Mz 81 4 := hsN12_.e (by decide)
                have e5_N12_ : ze N12_ 81 5 = ze Mz 81 5 := hsN12_.e (by decide)
                have e6_N12_ : ze N12_ 81 6 = ze Mz 81 6 := hsN12_.e (by decide)
                have r7_N12_ := ze_r N12_ 81 7
                have c15_ : zRt b_ n_ N12_ := zRt.fr hsN12_ p1_ (by decide) (by decide)
                show zW l m_M_number (zn Mz + 0, zw Mz + 0) N12_ 49 [some (.ref 81), some (.int (Int32.ofInt a0_)), some (.int (Int32.ofInt a1_)), some (.int (Int32.ofInt (ze Mz 81 6)))] [] _
                refine zw_aload_n (pc := 49) (n := 0) (x := 81) rfl (zdal_p dlC_M_number_79 (i := 3) rfl) ?_
                refine zr_callV (hf_N12_.w hW) hf_N12_.x (pc := 50) [] [] l_M_183 (c_M_isGood l N12_ (hf_N12_.w hW) ) rfl rfl rfl (by decide) (Nat.le_of_ble_eq_true rfl) (zdal_p dlC_M_number_79 (i := 4) rfl) ?_
                rintro _ N16_ ⟨v17_, rfl, ⟨hv17_a, hv17_b⟩, hsN16_, hp0_N16_⟩
                obtain rfl := hsN16_.eq.symm
                replace hp0_N16_ : ((v17_ = 1 ∧ ze N12_ 81 7 = 0) ∨ (v17_ = 0 ∧ ze N12_ 81 7 ≠ 0)) := hp0_N16_
                rcases hp0_N16_ with ⟨rfl, ha50_0_hp0_N16_⟩ | ⟨rfl, ha50_0_hp0_N16_⟩
                · skip
                  exfalso; (exact zo_281 ha50_0_hp0_N16_ hp0_N12_)
                · skip
                  show zW l m_M_number (zn Mz + 0, zw Mz + 0) N12_ 53 [some (.ref 81), some (.int (Int32.ofInt a0_)), some (.int (Int32.ofInt a1_)), some (.int (Int32.ofInt (ze Mz 81 6)))] [.int (Int32.ofInt 0)] _
                  refine zr_if_eq (pc := 53) (tgt := 60) ⟨(by decide), (by decide)⟩ (by decide) (zdal_p dlC_M_number_79 (i := 5) rfl) (fun hc_53 => ?_) (fun hc_53 => ?_)
                  · skip
                    refine zw_iload_n (pc := 60) (n := 3) (x := Int32.ofInt (ze Mz 81 6)) rfl (zdal_p dlC_M_number_79 (i := 8) rfl) ?_
                    exact zr_iret (pc := 61) (ty := .int) rfl rfl ⟨by (exact zo_284 r_6.1), by (exact zo_285 r_6.2)⟩ hf_N12_ ⟨c15_, (show ((1 ≤ ze N12_ 81 7 ∧ (ze Mz 81 7 = 0 → ¬ (zkd b_ n_ (ze Mz 81 4).toNat = 2 ∧ a0_ ≤ znu b_ n_ (ze Mz 81 4).toNat ∧ znu b_ n_ (ze Mz 81 4).toNat ≤ a1_))) ∨ (ze N12_ 81 7 = 0 ∧ ze Mz 81 7 = 0 ∧ (zkd b_ n_ (ze Mz 81 4).toNat = 2 ∧ a0_ ≤ znu b_ n_ (ze Mz 81 4).toNat ∧ znu b_ n_ (ze Mz 81 4).toNat ≤ a1_) ∧ (ze Mz 81 6) = znu b_ n_ (ze Mz 81 4).toNat ∧ (ze N12_ 81 4).toNat = znx b_ n_ (ze Mz 81 4).toNat)) from Or.inl (⟨(show 1 ≤ ze N12_ 81 7 by first | (exact hp0_N12_) | (intro z_; exfalso; omega) | (intro z_; rintro ⟨z1_, z2_, z3_⟩; have w_ := (p1_.v2 z1_).1; omega)), (show (ze Mz 81 7 = 0 → ¬ (zkd b_ n_ (ze Mz 81 4).toNat = 2 ∧ a0_ ≤ znu b_ n_ (ze Mz 81 4).toNat ∧ znu b_ n_ (ze Mz 81 4).toNat ≤ a1_)) by first | omega | (intro z_; exfalso; omega) | (intro z_; rintro ⟨z1_, z2_, z3_⟩; have w_ := (p1_.v2 z1_).1; (exact zo_288 w_ z2_ z3_ ha38_0_hp0_N5_)))⟩))⟩ (zdal_p dlC_M_number_79 (i := 9) rfl)
                  · skip
                    exact absurd hc_53 (by decide)
        · skip
          exfalso; (exact zo_280 ha1_0_hp0_N1_ p2_ ha26_0_hp0_N3_)
      · skip
        refine zw_aload_n (pc := 15) (n := 0) (x := 81) rfl (zdal_p dlC_M_number_78 (i := 7) rfl) ?_
        refine zw_iconst (pc := 16) (v := Int32.ofInt 2) (by decide) (zdal_p dlC_M_number_78 (i := 8) rfl) ?_
        refine zr_callV (hf.w hW) hf.x (pc := 17) [.int (Int32.ofInt 2)] [] l_M_190 (c_M_wrongF l Mz (hf.w hW) 2 (by decide) (by decide) (show 1 ≤ 2 by first | with_reducible assumption | (decide) | assumption)) rfl rfl rfl (by decide) (Nat.le_of_ble_eq_true rfl) (zdal_p dlC_M_number_78 (i := 9) rfl) ?_
        rintro _ N18_ ⟨rfl, hsN18_, hp0_N18_⟩
        replace hp0_N18_ : 1 ≤ ze N18_ 81 7 := hp0_N18_
        have hf_N18_ : zFr [3, 4, 5, 6, 7, 8, 11] [] Mz N18_ := hf.tr hsN18_ (by decide) (by decide)
        have e3_N18_ : ze N18_ 81 3 = ze Mz 81 3 := hsN18_.e (by decide)
        have e4_N18_ : ze N18_ 81 4 = ze Mz 81 4 := hsN18_.e (by decide)
        have e5_N18_ : ze N18_ 81 5 = ze Mz 81 5 := hsN18_.e (by decide)
        have e6_N18_ : ze N18_ 81 6 = ze Mz 81 6 := hsN18_.e (by decide)
        have r7_N18_ := ze_r N18_ 81 7
        have c21_ : zRt b_ n_ N18_ := zRt.fr hsN18_ p1_ (by decide) (by decide)
        show zW l m_M_number (zn Mz + 0, zw Mz + 0) N18_ 20 [some (.ref 81), some (.int (Int32.ofInt a0_)), some (.int (Int32.ofInt a1_)), none] [] _
        refine zw_aload_n (pc := 20) (n := 0) (x := 81) rfl (zdal_p dlC_M_number_78 (i := 10) rfl) ?_
        refine zr_getI (hf_N18_.w hW) (pc := 21) f_M_152 rfl (zdal_p dlC_M_number_78 (i := 11) rfl) ?_
        refine zw_istore_n (pc := 24) (i := 3) (L2 := [some (.ref 81), some (.int (Int32.ofInt a0_)), some (.int (Int32.ofInt a1_)), some (.int (Int32.ofInt (ze N18_ 81 6)))]) rfl (by decide) rfl (zdal_p dlC_M_number_78 (i := 12) rfl) ?_
        refine zw_aload_n (pc := 25) (n := 0) (x := 81) rfl (zdal_p dlC_M_number_78 (i := 13) rfl) ?_
        refine zr_callV (hf_N18_.w hW) hf_N18_.x (pc := 26) [] [] l_M_183 (c_M_isGood l N18_ (hf_N18_.w hW) ) rfl rfl rfl (by decide) (Nat.le_of_ble_eq_true rfl) (zdal_p dlC_M_number_78 (i := 14) rfl) ?_
        rintro _ N22_ ⟨v23_, rfl, ⟨hv23_a, hv23_b⟩, hsN22_, hp0_N22_⟩
        obtain rfl := hsN22_.eq.symm
        replace hp0_N22_ : ((v23_ = 1 ∧ ze N18_ 81 7 = 0) ∨ (v23_ = 0 ∧ ze N18_ 81 7 ≠ 0)) := hp0_N22_
        rcases hp0_N22_ with ⟨rfl, ha26_0_hp0_N22_⟩ | ⟨rfl, ha26_0_hp0_N22_⟩
        · skip
          exfalso; (exact zo_281 ha26_0_hp0_N22_ hp0_N18_)
        · skip
          show zW l m_M_number (zn Mz + 0, zw Mz + 0) N18_ 29 [some (.ref 81), some (.int (Int32.ofInt a0_)), some (.int (Int32.ofInt a1_)), some (.int (Int32.ofInt (ze N18_ 81 6)))] [.int (Int32.ofInt 0)] _
          refine zr_if_eq (pc := 29) (tgt := 49) ⟨(by decide), (by decide)⟩ (by decide) (zdal_p dlC_M_number_78 (i := 15) rfl) (fun hc_29 => ?_) (fun hc_29 => ?_)
          · skip
            refine zw_aload_n (pc := 49) (n := 0) (x := 81) rfl (zdal_p dlC_M_number_79 (i := 3) rfl) ?_
            refine zr_callV (hf_N18_.w hW) hf_N18_.x (pc := 50) [] [] l_M_183 (c_M_isGood l N18_ (hf_N18_.w hW) ) rfl rfl rfl (by decide) (Nat.le_of_ble_eq_true rfl) (zdal_p dlC_M_number_79 (i := 4) rfl) ?_
            rintro _ N24_ ⟨v25_, rfl, ⟨hv25_a, hv25_b⟩, hsN24_, hp0_N24_⟩
            obtain rfl := hsN24_.eq.symm
            replace hp0_N24_ : ((v25_ = 1 ∧ ze N18_ 81 7 = 0) ∨ (v25_ = 0 ∧ ze N18_ 81 7 ≠ 0)) := hp0_N24_
            rcases hp0_N24_ with ⟨rfl, ha50_0_hp0_N24_⟩ | ⟨rfl, ha50_0_hp0_N24_⟩
            · skip
              exfalso; (exact zo_281 ha50_0_hp0_N24_ hp0_N18_)
            · skip
              show zW l m_M_number (zn Mz + 0, zw Mz + 0) N18_ 53 [some (.ref 81), some (.int (Int32.ofInt a0_)), some (.int (Int32.ofInt a1_)), some (.int (Int32.ofInt (ze N18_ 81 6)))] [.int (Int32.ofInt 0)] _
              refine zr_if_eq (pc := 53) (tgt := 60) ⟨(by decide), (by decide)⟩ (by decide) (zdal_p dlC_M_number_79 (i := 5) rfl) (fun hc_53 => ?_) (fun hc_53 => ?_)
              · skip
                refine zw_iload_n (pc := 60) (n := 3) (x := Int32.ofInt (ze N18_ 81 6)) rfl (zdal_p dlC_M_number_79 (i := 8) rfl) ?_
                exact zr_iret (pc := 61) (ty := .int) rfl rfl ⟨by (exact zo_289 e6_N18_ r_6.1), by (exact zo_290 e6_N18_ r_6.2)⟩ hf_N18_ ⟨c21_, (show ((1 ≤ ze N18_ 81 7 ∧ (ze Mz 81 7 = 0 → ¬ (zkd b_ n_ (ze Mz 81 4).toNat = 2 ∧ a0_ ≤ znu b_ n_ (ze Mz 81 4).toNat ∧ znu b_ n_ (ze Mz 81 4).toNat ≤ a1_))) ∨ (ze N18_ 81 7 = 0 ∧ ze Mz 81 7 = 0 ∧ (zkd b_ n_ (ze Mz 81 4).toNat = 2 ∧ a0_ ≤ znu b_ n_ (ze Mz 81 4).toNat ∧ znu b_ n_ (ze Mz 81 4).toNat ≤ a1_) ∧ (ze N18_ 81 6) = znu b_ n_ (ze Mz 81 4).toNat ∧ (ze N18_ 81 4).toNat = znx b_ n_ (ze Mz 81 4).toNat)) from Or.inl (⟨(show 1 ≤ ze N18_ 81 7 by first | (exact hp0_N18_) | (intro z_; exfalso; omega) | (intro z_; rintro ⟨z1_, z2_, z3_⟩; have w_ := (p1_.v2 z1_).1; omega)), (show (ze Mz 81 7 = 0 → ¬ (zkd b_ n_ (ze Mz 81 4).toNat = 2 ∧ a0_ ≤ znu b_ n_ (ze Mz 81 4).toNat ∧ znu b_ n_ (ze Mz 81 4).toNat ≤ a1_)) by first | omega | (intro z_; exfalso; omega) | (intro z_; rintro ⟨z1_, z2_, z3_⟩; have w_ := (p1_.v2 z1_).1; omega))⟩))⟩ (zdal_p dlC_M_number_79 (i := 9) rfl)
              · skip
                exact absurd hc_53 (by decide)
          · skip
            exact absurd hc_29 (by decide)
  · skip
    show zW l m_M_number (zn Mz + 0, zw Mz + 0) Mz 4 [some (.ref 81), some (.int (Int32.ofInt a0_)), some (.int (Int32.ofInt a1_)), none] [.int (Int32.ofInt 0)] _
    refine zr_if_eq (pc := 4) (tgt := 20) ⟨(by decide), (by decide)⟩ (by decide) (zdal_p dlC_M_number_78 (i := 2) rfl) (fun hc_4 => ?_) (fun hc_4 => ?_)
    · skip
      refine zw_aload_n (pc := 20) (n := 0) (x := 81) rfl (zdal_p dlC_M_number_78 (i := 10) rfl) ?_
      refine zr_getI (hf.w hW) (pc := 21) f_M_152 rfl (zdal_p dlC_M_number_78 (i := 11) rfl) ?_
      refine zw_istore_n (pc := 24) (i := 3) (L2 := [some (.ref 81), some (.int (Int32.ofInt a0_)), some (.int (Int32.ofInt a1_)), some (.int (Int32.ofInt (ze Mz 81 6)))]) rfl (by decide) rfl (zdal_p dlC_M_number_78 (i := 12) rfl) ?_
      refine zw_aload_n (pc := 25) (n := 0) (x := 81) rfl (zdal_p dlC_M_number_78 (i := 13) rfl) ?_
      refine zr_callV (hf.w hW) hf.x (pc := 26) [] [] l_M_183 (c_M_isGood l Mz (hf.w hW) ) rfl rfl rfl (by decide) (Nat.le_of_ble_eq_true rfl) (zdal_p dlC_M_number_78 (i := 14) rfl) ?_
      rintro _ N26_ ⟨v27_, rfl, ⟨hv27_a, hv27_b⟩, hsN26_, hp0_N26_⟩
      obtain rfl := hsN26_.eq.symm
      replace hp0_N26_ : ((v27_ = 1 ∧ ze Mz 81 7 = 0) ∨ (v27_ = 0 ∧ ze Mz 81 7 ≠ 0)) := hp0_N26_
      rcases hp0_N26_ with ⟨rfl, ha26_0_hp0_N26_⟩ | ⟨rfl, ha26_0_hp0_N26_⟩
      · skip
        exfalso; (exact zo_280 ha26_0_hp0_N26_ p2_ ha1_0_hp0_N1_)
      · skip
        show zW l m_M_number (zn Mz + 0, zw Mz + 0) Mz 29 [some (.ref 81), some (.int (Int32.ofInt a0_)), some (.int (Int32.ofInt a1_)), some (.int (Int32.ofInt (ze Mz 81 6)))] [.int (Int32.ofInt 0)] _
        refine zr_if_eq (pc := 29) (tgt := 49) ⟨(by decide), (by decide)⟩ (by decide) (zdal_p dlC_M_number_78 (i := 15) rfl) (fun hc_29 => ?_) (fun hc_29 => ?_)
        · skip
          refine zw_aload_n (pc := 49) (n := 0) (x := 81) rfl (zdal_p dlC_M_number_79 (i := 3) rfl) ?_
          refine zr_callV (hf.w hW) hf.x (pc := 50) [] [] l_M_183 (c_M_isGood l Mz (hf.w hW) ) rfl rfl rfl (by decide) (Nat.le_of_ble_eq_true rfl) (zdal_p dlC_M_number_79 (i := 4) rfl) ?_
          rintro _ N28_ ⟨v29_, rfl, ⟨hv29_a, hv29_b⟩, hsN28_, hp0_N28_⟩
          obtain rfl := hsN28_.eq.symm
          replace hp0_N28_ : ((v29_ = 1 ∧ ze Mz 81 7 = 0) ∨ (v29_ = 0 ∧ ze Mz 81 7 ≠ 0)) := hp0_N28_
          rcases hp0_N28_ with ⟨rfl, ha50_0_hp0_N28_⟩ | ⟨rfl, ha50_0_hp0_N28_⟩
          · skip
            exfalso; (exact zo_280 ha50_0_hp0_N28_ p2_ ha1_0_hp0_N1_)
          · skip
            show zW l m_M_number (zn Mz + 0, zw Mz + 0) Mz 53 [some (.ref 81), some (.int (Int32.ofInt a0_)), some (.int (Int32.ofInt a1_)), some (.int (Int32.ofInt (ze Mz 81 6)))] [.int (Int32.ofInt 0)] _
            refine zr_if_eq (pc := 53) (tgt := 60) ⟨(by decide), (by decide)⟩ (by decide) (zdal_p dlC_M_number_79 (i := 5) rfl) (fun hc_53 => ?_) (fun hc_53 => ?_)
            · skip
              refine zw_iload_n (pc := 60) (n := 3) (x := Int32.ofInt (ze Mz 81 6)) rfl (zdal_p dlC_M_number_79 (i := 8) rfl) ?_
              exact zr_iret (pc := 61) (ty := .int) rfl rfl ⟨by (exact zo_284 r_6.1), by (exact zo_285 r_6.2)⟩ hf ⟨p1_, (show ((1 ≤ ze Mz 81 7 ∧ (ze Mz 81 7 = 0 → ¬ (zkd b_ n_ (ze Mz 81 4).toNat = 2 ∧ a0_ ≤ znu b_ n_ (ze Mz 81 4).toNat ∧ znu b_ n_ (ze Mz 81 4).toNat ≤ a1_))) ∨ (ze Mz 81 7 = 0 ∧ ze Mz 81 7 = 0 ∧ (zkd b_ n_ (ze Mz 81 4).toNat = 2 ∧ a0_ ≤ znu b_ n_ (ze Mz 81 4).toNat ∧ znu b_ n_ (ze Mz 81 4).toNat ≤ a1_) ∧ (ze Mz 81 6) = znu b_ n_ (ze Mz 81 4).toNat ∧ (ze Mz 81 4).toNat = znx b_ n_ (ze Mz 81 4).toNat)) from Or.inl (⟨(show 1 ≤ ze Mz 81 7 by first | (exact zo_136 p2_ ha1_0_hp0_N1_) | (intro z_; exfalso; omega) | (intro z_; rintro ⟨z1_, z2_, z3_⟩; have w_ := (p1_.v2 z1_).1; omega)), (show (ze Mz 81 7 = 0 → ¬ (zkd b_ n_ (ze Mz 81 4).toNat = 2 ∧ a0_ ≤ znu b_ n_ (ze Mz 81 4).toNat ∧ znu b_ n_ (ze Mz 81 4).toNat ≤ a1_)) by first | omega | (intro z_; exfalso; omega) | (intro z_; rintro ⟨z1_, z2_, z3_⟩; have w_ := (p1_.v2 z1_).1; omega))⟩))⟩ (zdal_p dlC_M_number_79 (i := 9) rfl)
            · skip
              exact absurd hc_53 (by decide)
        · skip
          exact absurd hc_29 (by decide)
    · skip
      exact absurd hc_4 (by decide)
def zRmk (F : Nat) (K : Nat → Nat → Int) (M : zMem) : Prop := ze M 81 26 = F ∧ ∀ i j, i < F → j < F → ze M 93 (64 * i + j) = K i j
def zrw (F : Nat) (M : zMem) (q : Nat) (e : Int) : Nat → Int := fun k => if k < F then zg M q (e.toNat + k) else 0
section ZRM
variable {F : Nat} {K : Nat → Nat → Int} {S C : List Nat} {M N P : zMem}
theorem zRmk.fr (hf : zFr S C M N) (h : zRmk F K M) (hs : 26 ∉ S) (hc : 93 ∉ C) : zRmk F K N :=
  ⟨(hf.e hs).trans h.1, fun i j hi hj => (hf.ie (by decide) hc _).trans (h.2 i j hi hj)⟩
theorem zRmk.k (h : zRmk F K M) {i j v : Int} (i0 : 0 ≤ i) (i1 : i < F) (j0 : 0 ≤ j) (j1 : j < F) (hv : v = ze M 93 (64 * i + j).toNat) : v = K i.toNat j.toNat := by
  rw [hv, show (64 * i + j).toNat = 64 * i.toNat + j.toNat by omega]
  exact h.2 _ _ (by omega) (by omega)
theorem zrw_at {q : Nat} {e : Int} {k : Nat} (hk : k < F) (e0 : 0 ≤ e) {v : Int} {x : Nat} (hv : v = zg M q x) (hx : (x : Int) = e + k) : v = zrw F M q e k := by
  unfold zrw
  rw [if_pos hk, hv, show x = e.toNat + k by omega]
theorem zrw_n {q : Nat} {e : Int} {k : Nat} (hk : F ≤ k) : zrw F M q e k = 0 := if_neg (by omega)
theorem zrw_c {q r : Nat} {e e' : Int} (h : ∀ k : Nat, k < F → zg N r (e'.toNat + k) = zg M q (e.toNat + k)) : zrw F N r e' = zrw F M q e := funext fun k => by
  unfold zrw
  by_cases g : k < F
  · rw [if_pos g, if_pos g, h k g]
  · rw [if_neg g, if_neg g]
theorem zrw_v {q : Nat} {e : Int} {u : Nat → Int} (h : ∀ k : Nat, k < F → zg N q (e.toNat + k) = u k) (hu : ∀ k, F ≤ k → u k = 0) : zrw F N q e = u := funext fun k => by
  unfold zrw
  by_cases g : k < F
  · rw [if_pos g, h k g]
  · rw [if_neg g, hu k (by omega)]
def zIn (x : Int) : Prop := -zLim ≤ x ∧ x ≤ zLim
def zIsA (F : Nat) (v : Nat → Int) (s i : Int) : Prop := (s = 0 ∨ s = 1) ∧ (s = 1 ↔ ∀ k : Nat, k < F → (k : Int) < i → zIn (v k))
def zIsB (F : Nat) (K : Nat → Nat → Int) (v : Nat → Int) (s i : Int) : Prop := (s = 0 ∨ s = 1) ∧ (zbd F K v → (s = 1 ↔ (∀ k : Nat, k < F → zIn (v k)) ∧ ∀ k : Nat, k < F → (k : Int) < i → zIn (zmq F K v k)))
def zIsF (F : Nat) (K : Nat → Nat → Int) (v : Nat → Int) (s : Int) : Prop := zbd F K v → (s = 1 ↔ zfit F K v)
theorem zIsA_0 {v : Nat → Int} : zIsA F v 1 0 := ⟨Or.inr rfl, fun _ k _ h => absurd h (by omega), fun _ => rfl⟩
theorem zIsA_t {v : Nat → Int} {s i x : Int} (h : zIsA F v s i) (hs : s ≠ 0) (i0 : 0 ≤ i) (hx : x = v i.toNat) (hb : zIn x) : zIsA F v 1 (i + 1) := by
  refine ⟨Or.inr rfl, fun _ k hk hki => ?_, fun _ => rfl⟩
  have h1 : s = 1 := h.1.resolve_left hs
  by_cases g : (k : Int) = i
  · rw [show k = i.toNat by omega, ← hx]
    exact hb
  · exact h.2.mp h1 k hk (by omega)
theorem zIsA_f {v : Nat → Int} {s i : Int} (h : zIsA F v s i) (hi : i < F) (i0 : 0 ≤ i) (hb : s = 0 ∨ ¬ zIn (v i.toNat)) : zIsA F v 0 (i + 1) := by
  refine ⟨Or.inl rfl, fun z => absurd z (by decide), fun z => ?_⟩
  rcases hb with hb | hb
  · have := h.2.mpr (fun k hk hki => z k hk (by omega))
    omega
  · exact absurd (z i.toNat (by omega) (by omega)) hb
theorem zIsB_0 {v : Nat → Int} {s i : Int} (h : zIsA F v s i) (hi : (F : Int) ≤ i) : zIsB F K v s 0 :=
  ⟨h.1, fun _ => h.2.trans ⟨fun z => ⟨fun k hk => z k hk (by omega), fun k _ hk => absurd hk (by omega)⟩, fun z k hk _ => z.1 k hk⟩⟩
theorem zIsB_t {v : Nat → Int} {s i x : Int} (h : zIsB F K v s i) (hs : s ≠ 0) (i0 : 0 ≤ i) (hi : i < F) (hx : Int64.ofInt x = Int64.ofInt (zmq F K v i.toNat)) (hx2 : zn64 x) {r : Int} (hr : (r = 1 ∧ -1000000000000 ≤ x ∧ x ≤ 1000000000000) ∨ (r = 0 ∧ (x < -1000000000000 ∨ 1000000000000 < x))) : zIsB F K v r (i + 1) := by
  have h1 : s = 1 := h.1.resolve_left hs
  refine ⟨by omega, fun hb => ?_⟩
  have hbi := hb i.toNat (by omega)
  have e : x = zmq F K v i.toNat := z64q hx2 ⟨by omega, by omega⟩ hx
  have h2 := (h.2 hb).mp h1
  constructor
  · intro hr1
    refine ⟨h2.1, fun k hk hki => ?_⟩
    by_cases g : (k : Int) = i
    · rw [show k = i.toNat by omega, ← e]
      unfold zIn zLim
      omega
    · exact h2.2 k hk (by omega)
  · intro z
    have := z.2 i.toNat (by omega) (by omega)
    rw [← e] at this
    unfold zIn zLim at this
    omega
theorem zIsF_e {v : Nat → Int} {s i : Int} (h : zIsB F K v s i) (hi : (F : Int) ≤ i ∨ s = 0) : zIsF F K v s := fun hb => by
  have h2 := h.2 hb
  constructor
  · intro h1
    have h3 := h2.mp h1
    exact fun k hk => ⟨h3.1 k hk, h3.2 k hk (by omega)⟩
  · intro hf
    exact h2.mpr ⟨fun k hk => (hf k hk).1, fun k hk _ => (hf k hk).2⟩
def zLkd (F : Nat) (K : Nat → Nat → Int) (e : Int) (M N : zMem) : Prop := ((∀ x : Nat, zg N 95 x = zg M 95 x) ∧ ze N 81 39 = ze M 81 39 ∧ (zbd F K (zrw F M 95 e) → zfit F K (zrw F M 95 e))) ∨ ((∀ x : Nat, ¬ (e ≤ x ∧ (x : Int) < e + F) → zg N 95 x = zg M 95 x) ∧ ze N 81 39 = 1 ∧ (zbd F K (zrw F M 95 e) → ¬ zfit F K (zrw F M 95 e)))
def zOutR (F : Nat) (e : Int) (M N : zMem) : Prop := ∀ x : Nat, ¬ (e ≤ x ∧ (x : Int) < e + F) → zg N 95 x = zg M 95 x
theorem zOutR_s {e x : Int} {v : Int} (h : zOutR F e M N) (hP : P = zsJ N 95 x.toNat (Int64.ofInt v)) (hx : e ≤ x ∧ x < e + F) (e0 : 0 ≤ e) : zOutR F e M P := fun y hy => by
  rw [zs_othJ hP (by omega)]
  exact h y hy
theorem zOutR.tr {e : Int} (h : zOutR F e M N) (h2 : zOutR F e N P) : zOutR F e M P := fun x hx => (h2 x hx).trans (h x hx)
def zAcc (F : Nat) (lo : Int) (v : Nat → Int) (ok : Prop) (M N : zMem) : Prop := (ze N 81 39 = ze M 81 39 ∨ ze N 81 39 = 1) ∧ (∀ x : Nat, (x : Int) < lo → zg N 95 x = zg M 95 x) ∧ (ze M 81 39 = 0 → (ok ∧ ze N 81 39 = 0 ∧ zrw F N 95 lo = v) ∨ (¬ ok ∧ ze N 81 39 = 1))
theorem zAcc_l {lo : Int} {v : Nat → Int} {N' : zMem} (lo0 : 0 ≤ lo) (h39 : ze N 81 39 = ze M 81 39) (ho : ∀ x : Nat, (x : Int) < lo → zg N 95 x = zg M 95 x) (hv : ze M 81 39 = 0 → zrw F N 95 lo = v ∧ zbd F K v) (hk : zLkd F K lo N N') : zAcc F lo v (zfit F K v) M N' := by
  rcases hk with ⟨k1, k2, k3⟩ | ⟨k1, k2, k3⟩
  · refine ⟨Or.inl (k2.trans h39), fun x hx => (k1 x).trans (ho x hx), fun hM => ?_⟩
    obtain ⟨a, b⟩ := hv hM
    rw [a] at k3
    refine Or.inl ⟨k3 b, by omega, ?_⟩
    rw [← a]
    exact zrw_c (fun k _ => k1 _)
  · refine ⟨Or.inr k2, fun x hx => (k1 x (by omega)).trans (ho x hx), fun hM => ?_⟩
    obtain ⟨a, b⟩ := hv hM
    rw [a] at k3
    exact Or.inr ⟨k3 b, k2⟩
def zsvR (F : Nat) (K : Nat → Nat → Int) (M : zMem) (u : Nat → Int) : Prop := (∀ j, j < F → zg M 96 j = zmq F K u j) ∧ ∀ i, i < F → -100000000000000000 ≤ u i * K i i ∧ u i * K i i ≤ 100000000000000000
def zUpR (F : Nat) (M N : zMem) (e : Int) (u : Nat → Int) (j : Int) : Prop := ∀ x : Nat, e + j < x → (x : Int) < e + F → zg N 95 x = u ((x : Int) - e).toNat
def zXin (F : Nat) (K : Nat → Nat → Int) (u : Nat → Int) (r j i : Int) : Prop := Int64.ofInt r = Int64.ofInt (zmq F K u j.toNat - zsm (fun t => u (j.toNat + 1 + t) * K (j.toNat + 1 + t) j.toNat) (i - j - 1).toNat)
theorem zXin_0 {u : Nat → Int} {r j : Int} (j0 : 0 ≤ j) (h : zsvR F K M u) (jF : j < F) (hr : r = zg M 96 j.toNat) : zXin F K u r j (j + 1) := by
  unfold zXin
  rw [show (j + 1 - j - 1).toNat = 0 by omega, hr, h.1 _ (by omega)]
  show _ = Int64.ofInt (_ - 0)
  rw [Int.sub_zero]
theorem zXin_s {u : Nat → Int} {r v x y i j e : Int} (h : zXin F K u r j i) (hv : Int64.ofInt v = Int64.ofInt (r - x * y)) (j0 : 0 ≤ j) (ji : j < i) (iF : i < F) (e0 : 0 ≤ e) (hU : zUpR F M P e u j) (hx : x = zg P 95 (e + i).toNat) (hy : y = K i.toNat j.toNat) : zXin F K u v j (i + 1) := by
  have ex : x = u i.toNat := by
    rw [hx, hU _ (by omega) (by omega)]
    congr 1
    omega
  have ei : j.toNat + 1 + (i - j - 1).toNat = i.toNat := by omega
  unfold zXin at h ⊢
  rw [show (i + 1 - j - 1).toNat = (i - j - 1).toNat + 1 by omega]
  show _ = Int64.ofInt (_ - (zsm _ (i - j - 1).toNat + u (j.toNat + 1 + (i - j - 1).toNat) * K (j.toNat + 1 + (i - j - 1).toNat) j.toNat))
  rw [ei, hv, Int64.ofInt_sub, h, ← Int64.ofInt_sub, ex, hy]
  congr 1
  omega
theorem zXin_e (hA : zTA F K) {u : Nat → Int} {r j i q m : Int} (h : zXin F K u r j i) (hi : i = (F : Int)) (hs : zsvR F K M u) (hr : zn64 r) (j0 : 0 ≤ j) (jF : j < F) (hm : m = K j.toNat j.toNat) (hq : q = zlquo r m) : q = u j.toNat := by
  unfold zXin at h
  have h1 := zmq_tail hA (u := u) (j := j.toNat) (by omega)
  rw [hi, show ((F : Int) - j - 1).toNat = F - 1 - j.toNat by omega, h1, Int.add_sub_cancel] at h
  have h2 := hs.2 j.toNat (by omega)
  have h3 := hA.2.1 j.toNat j.toNat (by omega) (by omega)
  have h4 := hA.2.2.2.1 j.toNat (by omega)
  rw [hq, hm, z64q hr ⟨by omega, by omega⟩ h]
  exact zq_x (by omega) (by omega) (by omega) (by omega)
theorem zUpR_0 {e j : Int} {u : Nat → Int} (hj : (F : Int) - 1 ≤ j) : zUpR F M N e u j := fun x h1 h2 => absurd h2 (by omega)
theorem zUpR_s {e j v : Int} {u : Nat → Int} (h : zUpR F M N e u j) (hP : P = zsJ N 95 (e + j).toNat (Int64.ofInt v)) (hv2 : zn64 v) (e0 : 0 ≤ e) (j0 : 0 ≤ j) (jF : j < F) (hv : v = u j.toNat) : zUpR F M P e u (j - 1) := fun x g1 g2 => by
  by_cases g : (x : Int) = e + j
  · rw [show x = (e + j).toNat by omega, zs_getJ hP hv2, hv, show (((e + j).toNat : Int) - e).toNat = j.toNat by omega]
  · rw [zs_othJ hP (by omega)]
    exact h x (by omega) g2
def zNumR (F : Nat) (K : Nat → Nat → Int) (M N : zMem) (e : Int) : Prop := zOutR F e M N ∧ ∀ u, zsvR F K M u → ∀ k : Nat, k < F → zg N 95 (e.toNat + k) = u k
theorem zNumR_e {e j : Int} (e0 : 0 ≤ e) (ho : zOutR F e M N) (h : ∀ u, zsvR F K M u → zUpR F M N e u j) (hj : j < 0) : zNumR F K M N e := ⟨ho, fun u hu k hk => by
  have := h u hu (e.toNat + k) (by omega) (by omega)
  rwa [show (((e.toNat + k : Nat) : Int) - e).toNat = k by omega] at this⟩
def zMuI (F : Nat) (M N : zMem) (i : Int) : Prop := (ze N 81 39 = ze M 81 39 ∨ ze N 81 39 = 1) ∧ (∀ k : Nat, i ≤ k → zg N 96 k = zg M 96 k) ∧ (ze M 81 39 = 0 → ((∀ k : Nat, (k : Int) < i → zIn (zg M 96 k * zg M 97 k)) ∧ ze N 81 39 = 0 ∧ ∀ k : Nat, (k : Int) < i → zg N 96 k = zg M 96 k * zg M 97 k) ∨ ((∃ k : Nat, (k : Int) < i ∧ ¬ zIn (zg M 96 k * zg M 97 k)) ∧ ze N 81 39 = 1))
theorem zMuI_0 : zMuI F M M 0 := ⟨Or.inl rfl, fun _ _ => rfl, fun h => Or.inl ⟨fun k hk => absurd hk (by omega), h, fun k hk => absurd hk (by omega)⟩⟩
theorem zMuI_s {Q : zMem} {i a b x y w : Int} (h : zMuI F M N i) (i0 : 0 ≤ i) (ha : a = zg M 96 i.toNat) (hb : b = zg M 97 i.toNat) (hx : ze M 81 39 = 0 → (0 < a ∧ x = a) ∨ (a ≤ 0 ∧ x = -a)) (hy : ze M 81 39 = 0 → (0 < b ∧ y = b) ∨ (b ≤ 0 ∧ y = -b)) (hg : (ze P 81 39 = 1 ∧ 1 ≤ x ∧ zlquo 1000000000000 x < y) ∨ (ze P 81 39 = ze N 81 39 ∧ (x ≤ 0 ∨ y ≤ zlquo 1000000000000 x))) (hab : ze M 81 39 = 0 → zIn a ∧ zIn b) (hP : ∀ k : Nat, zg P 96 k = zg N 96 k) (hQ : Q = zsJ P 96 i.toNat (Int64.ofInt w)) (h39 : ze Q 81 39 = ze P 81 39) (hw : (ze P 81 39 ≠ 0 ∧ w = 0) ∨ (ze P 81 39 = 0 ∧ w = a * b)) : zMuI F M Q (i + 1) := by
  obtain ⟨h1, h2, h3⟩ := h
  have o : ∀ k : Nat, (k : Int) ≠ i → zg Q 96 k = zg N 96 k := fun k hk => by rw [zs_othJ hQ (by omega), hP]
  refine ⟨by clear h3 hx hy; omega, fun k hk => by clear h3 hx hy; rw [o k (by omega)]; exact h2 k (by omega), fun hM => ?_⟩
  have h3' := h3 hM
  have hx' := hx hM
  have hy' := hy hM
  clear h3 hx hy
  obtain ⟨za, zb⟩ := hab hM
  unfold zIn zLim at za zb
  have hm := zmo hx' hy'
  rcases h3' with ⟨a1, a2, a3⟩ | ⟨a1, a2⟩
  · have g2' : x ≤ 1000000000000 := by omega
    rcases hg with ⟨g1, g2, g3⟩ | ⟨g1, g3⟩
    · refine Or.inr ⟨⟨i.toNat, by omega, fun z => ?_⟩, by omega⟩
      rw [← ha, ← hb] at z
      have h4 := (zq_l (m := x) (o := y) g2 g2').mp g3
      have h5 := hm.mp z
      omega
    · have hin : zIn (a * b) := by
        refine hm.mpr ?_
        by_cases g : x ≤ 0
        · have : x = 0 := by omega
          rw [this, Int.mul_zero]
          omega
        · have h4 := (zq_l (m := x) (o := y) (by omega) (by omega))
          omega
      have hn : zn64 w := by
        have := hin
        unfold zIn zLim at this
        constructor <;> omega
      refine Or.inl ⟨fun k hk => ?_, by omega, fun k hk => ?_⟩
      · by_cases g : (k : Int) = i
        · rw [show k = i.toNat by omega, ← ha, ← hb]
          exact hin
        · exact a1 k (by omega)
      · by_cases g : (k : Int) = i
        · rw [show k = i.toNat by omega, zs_getJ hQ hn, ← ha, ← hb]
          omega
        · rw [o k g]
          exact a3 k (by omega)
  · obtain ⟨k, k1, k2⟩ := a1
    exact Or.inr ⟨⟨k, by omega, k2⟩, by omega⟩
end ZRM
set_option maxHeartbeats 4000000 in
theorem c_M_markAt_95F (l : Launch) (Mz : zMem) (hW : zMt Mz) (a1_ : Int) (ha1_a : -2147483648 ≤ a1_) (ha1_b : a1_ < 2147483648) (a2_ : Int) (ha2_a : -2147483648 ≤ a2_) (ha2_b : a2_ < 2147483648) (F_ : Nat) (K_ : Nat → Nat → Int) (hA_ : zTA F_ K_) (p0_ : zRmk F_ K_ Mz) (p1_ : 0 ≤ a1_) (p2_ : a1_ ≤ 2496) (p3_ : 0 ≤ a2_) (p4_ : a2_ < F_) : zC l m_M_markAt 0 0 [.ref 81, .ref 95, .int (Int32.ofInt a1_), .int (Int32.ofInt a2_)] Mz (zpJ [] [] Mz (fun v N => Int64.ofInt v = Int64.ofInt (zmq F_ K_ (zrw F_ Mz 95 a1_) (a2_).toNat))) := by
  refine zC_of (L0 := [some (.ref 81), some (.ref 95), some (.int (Int32.ofInt a1_)), some (.int (Int32.ofInt a2_)), none, none, none]) md_M_markAt (Nat.le_of_ble_eq_true rfl) rfl ?_ zQ0
  have hf : zFr [] [] Mz Mz := zFr.rf
  have r_26 := ze_r Mz 81 26
  obtain ⟨⟨hF1_, hF27_⟩, hAr_⟩ := id hA_
  obtain ⟨hFc_, hKt_⟩ := id p0_
  refine zw_lconst (pc := 0) (v := Int64.ofInt 0) (by decide) (zdal_p dlC_M_markAt_114 (i := 0) rfl) ?_
  refine zw_lstore (pc := 1) (i := 4) (L2 := [some (.ref 81), some (.ref 95), some (.int (Int32.ofInt a1_)), some (.int (Int32.ofInt a2_)), some (.long (Int64.ofInt 0)), none, none]) (by decide) rfl (zdal_p dlC_M_markAt_114 (i := 1) rfl) ?_
  refine zw_iconst (pc := 3) (v := Int32.ofInt 0) (by decide) (zdal_p dlC_M_markAt_114 (i := 2) rfl) ?_
  refine zw_istore (pc := 4) (i := 6) (L2 := [some (.ref 81), some (.ref 95), some (.int (Int32.ofInt a1_)), some (.int (Int32.ofInt a2_)), some (.long (Int64.ofInt 0)), none, some (.int (Int32.ofInt 0))]) (by decide) rfl (zdal_p dlC_M_markAt_114 (i := 3) rfl) ?_
  have lp_6 : ∀ (n : Nat) (u1_ : Int) (hu1_a : -9223372036854775808 ≤ u1_) (hu1_b : u1_ < 9223372036854775808) (u2_ : Int) (hu2_a : -2147483648 ≤ u2_) (hu2_b : u2_ < 2147483648) (i3_ : 0 ≤ u2_) (i4_ : u2_ ≤ F_) (i5_ : Int64.ofInt u1_ = Int64.ofInt (zsm (fun i => (zrw F_ Mz 95 a1_) i * K_ i (a2_).toNat) (u2_).toNat)), (F_ - u2_).toNat < n → zW l m_M_markAt (zn Mz + 0, zw Mz + 0) Mz 6 [some (.ref 81), some (.ref 95), some (.int (Int32.ofInt a1_)), some (.int (Int32.ofInt a2_)), some (.long (Int64.ofInt u1_)), none, some (.int (Int32.ofInt u2_))] [] (zpJ [] [] Mz (fun v N => Int64.ofInt v = Int64.ofInt (zmq F_ K_ (zrw F_ Mz 95 a1_) (a2_).toNat))) := by
    intro n
    induction n with
    | zero =>
      intro u1_ hu1_a hu1_b u2_ hu2_a hu2_b i3_ i4_ i5_ h0
      exact absurd h0 (Nat.not_lt_zero _)
    | succ n ih_6 =>
      intro u1_ hu1_a hu1_b u2_ hu2_a hu2_b i3_ i4_ i5_ hlt_6
      refine zw_iload (pc := 6) (i := 6) (x := Int32.ofInt u2_) rfl (zdal_p dlC_M_markAt_114 (i := 4) rfl) ?_
      refine zw_aload_n (pc := 8) (n := 0) (x := 81) rfl (zdal_p dlC_M_markAt_114 (i := 5) rfl) ?_
      refine zr_getI0 hf hW (pc := 9) (by decide) f_M_235 rfl (zdal_p dlC_M_markAt_114 (i := 6) rfl) ?_
      refine zr_icmp_ge (pc := 12) (tgt := 46) ⟨hu2_a, hu2_b⟩ ⟨(ze_r Mz 81 26).1, (ze_r Mz 81 26).2⟩ (by decide) (zdal_p dlC_M_markAt_114 (i := 7) rfl) (fun hc_12 => ?_) (fun hc_12 => ?_)
      · skip
        refine zw_lload (pc := 46) (i := 4) (x := Int64.ofInt u1_) rfl (zdal_p dlC_M_markAt_115 (i := 4) rfl) ?_
        exact zr_lret (pc := 48) rfl ⟨by (exact hu1_a), by (exact hu1_b)⟩ hf (show Int64.ofInt u1_ = Int64.ofInt (zmq F_ K_ (zrw F_ Mz 95 a1_) (a2_).toNat) by have e_ : (u2_).toNat = F_ := (by omega); have h_ := (show Int64.ofInt u1_ = Int64.ofInt (zsm (fun i => (zrw F_ Mz 95 a1_) i * K_ i (a2_).toNat) (u2_).toNat) by first | with_reducible assumption | assumption); rw [e_] at h_; exact h_) (zdal_p dlC_M_markAt_115 (i := 5) rfl)
      · skip
        refine zw_lload (pc := 15) (i := 4) (x := Int64.ofInt u1_) rfl (zdal_p dlC_M_markAt_114 (i := 8) rfl) ?_
        refine zw_aload_n (pc := 17) (n := 1) (x := 95) rfl (zdal_p dlC_M_markAt_114 (i := 9) rfl) ?_
        refine zw_iload_n (pc := 18) (n := 2) (x := Int32.ofInt a1_) rfl (zdal_p dlC_M_markAt_114 (i := 10) rfl) ?_
        refine zw_iload (pc := 19) (i := 6) (x := Int32.ofInt u2_) rfl (zdal_p dlC_M_markAt_114 (i := 11) rfl) ?_
        refine zr_iadd (pc := 21) (zdal_p dlC_M_markAt_114 (i := 12) rfl) ?_
        refine zr_laldn (pc := 22) (zh_95 (hf.w hW)).2 (by decide) (by (exact zo_833 i3_ p1_)) (by (exact zo_2612 hF27_ hu2_b i4_ p2_)) (zdal_p dlC_M_markAt_114 (i := 13) rfl) (fun v6_ hv6_ hv6_a hv6_b => ?_)
        have hx_ := zrw_at (F := F_) (k := (u2_).toNat) (e := a1_) (by (exact zo_73 hFc_ hc_12 hu2_b i3_ i4_)) (by (exact p1_)) hv6_ (by omega)
        refine zw_aload_n (pc := 23) (n := 0) (x := 81) rfl (zdal_p dlC_M_markAt_114 (i := 14) rfl) ?_
        refine zr_getF (r := 93) (hf.w hW) (pc := 24) f_M_50 rfl (zh_93 (hf.w hW)).1 (zdal_p dlC_M_markAt_114 (i := 15) rfl) ?_
        refine zw_bipush (pc := 27) (v := Int32.ofInt 64) (by decide) (zdal_p dlC_M_markAt_114 (i := 16) rfl) ?_
        refine zw_iload (pc := 29) (i := 6) (x := Int32.ofInt u2_) rfl (zdal_p dlC_M_markAt_114 (i := 17) rfl) ?_
        refine zr_imul (pc := 31) (zdal_p dlC_M_markAt_114 (i := 18) rfl) ?_
        refine zw_iload_n (pc := 32) (n := 3) (x := Int32.ofInt a2_) rfl (zdal_p dlC_M_markAt_114 (i := 19) rfl) ?_
        refine zr_iadd (pc := 33) (zdal_p dlC_M_markAt_114 (i := 20) rfl) ?_
        refine zr_ialdn (pc := 34) (zh_93 (hf.w hW)).2 (by decide) (by (exact zo_529 i3_ p3_)) (by omega) (zdal_p dlC_M_markAt_114 (i := 21) rfl) (fun v7_ hv7_ hv7_a hv7_b => ?_)
        have hy_ := p0_.k (by (exact i3_)) (by (exact zo_2223 hFc_ hc_12 hu2_b i4_)) (by (exact p3_)) (by (exact p4_)) hv7_
        refine zr_i2l (pc := 35) ⟨hv7_a, hv7_b⟩ (zdal_p dlC_M_markAt_114 (i := 22) rfl) ?_
        refine zr_lmul (pc := 36) (zdal_p dlC_M_markAt_114 (i := 23) rfl) ?_
        refine zr_ladd (pc := 37) (zdal_p dlC_M_markAt_115 (i := 0) rfl) ?_
        refine zk_nmJ (fun v8_ hv8_ hv8_e => ?_)
        obtain ⟨hv8_a, hv8_b⟩ := hv8_
        have hz_ := zmq_s (show Int64.ofInt u1_ = Int64.ofInt (zsm (fun i => (zrw F_ Mz 95 a1_) i * K_ i (a2_).toNat) (u2_).toNat) by first | with_reducible assumption | assumption) hv8_e (by (exact i3_)) (by show _ * _ = _; rw [← hx_, ← hy_])
        refine zw_lstore (pc := 38) (i := 4) (L2 := [some (.ref 81), some (.ref 95), some (.int (Int32.ofInt a1_)), some (.int (Int32.ofInt a2_)), some (.long (Int64.ofInt v8_)), none, some (.int (Int32.ofInt u2_))]) (by decide) rfl (zdal_p dlC_M_markAt_115 (i := 1) rfl) ?_
        refine zr_iinc (pc := 40) (i := 6) (a := u2_) (n := 1) (L2 := [some (.ref 81), some (.ref 95), some (.int (Int32.ofInt a1_)), some (.int (Int32.ofInt a2_)), some (.long (Int64.ofInt v8_)), none, some (.int (Int32.ofInt (u2_ + 1)))]) rfl (by decide) rfl (zdal_p dlC_M_markAt_115 (i := 2) rfl) ?_
        refine zw_goto (pc := 43) (tgt := 6) (by decide) (zdal_p dlC_M_markAt_115 (i := 3) rfl) ?_
        exact ih_6 v8_ hv8_a hv8_b (u2_ + 1) (by (exact zo_74 i3_)) (by (exact zo_75 hF27_ hu2_b i4_)) (show 0 ≤ (u2_ + 1) by first | with_reducible assumption | (exact zo_76 i3_) | assumption) (show (u2_ + 1) ≤ F_ by first | with_reducible assumption | (exact zo_77 hFc_ hc_12 hu2_b i4_) | assumption) (show Int64.ofInt v8_ = Int64.ofInt (zsm (fun i => (zrw F_ Mz 95 a1_) i * K_ i (a2_).toNat) ((u2_ + 1)).toNat) by exact hz_) (by (exact zo_78 hFc_ hc_12 hlt_6 hu2_b i4_))
  exact lp_6 _ 0 (by decide) (by decide) 0 (by decide) (by decide) (show 0 ≤ (0 : Int) by first | with_reducible assumption | (decide) | assumption) (show (0 : Int) ≤ F_ by first | with_reducible assumption | (exact zo_85) | assumption) (show Int64.ofInt (0 : Int) = Int64.ofInt (zsm (fun i => (zrw F_ Mz 95 a1_) i * K_ i (a2_).toNat) ((0 : Int)).toNat) by rfl) (Nat.lt_succ_self _)
set_option maxHeartbeats 4000000 in
theorem c_M_isFit_95F (l : Launch) (Mz : zMem) (hW : zMt Mz) (a1_ : Int) (ha1_a : -2147483648 ≤ a1_) (ha1_b : a1_ < 2147483648) (F_ : Nat) (K_ : Nat → Nat → Int) (hA_ : zTA F_ K_) (p0_ : zRmk F_ K_ Mz) (p1_ : 0 ≤ a1_) (p2_ : a1_ ≤ 2496) : zC l m_M_isFit 0 0 [.ref 81, .ref 95, .int (Int32.ofInt a1_)] Mz (zpI [] [] Mz (fun v N => ((v = 0 ∨ v = 1)) ∧ zIsF F_ K_ (zrw F_ Mz 95 a1_) v)) := by
  refine zC_of (L0 := [some (.ref 81), some (.ref 95), some (.int (Int32.ofInt a1_)), none, none]) md_M_isFit (Nat.le_of_ble_eq_true rfl) rfl ?_ zQ0
  have hf : zFr [] [] Mz Mz := zFr.rf
  have r_26 := ze_r Mz 81 26
  obtain ⟨⟨hF1_, hF27_⟩, hAr_⟩ := id hA_
  obtain ⟨hFc_, hKt_⟩ := id p0_
  refine zw_iconst (pc := 0) (v := Int32.ofInt 1) (by decide) (zdal_p dlC_M_isFit_112 (i := 0) rfl) ?_
  refine zw_istore_n (pc := 1) (i := 3) (L2 := [some (.ref 81), some (.ref 95), some (.int (Int32.ofInt a1_)), some (.int (Int32.ofInt 1)), none]) rfl (by decide) rfl (zdal_p dlC_M_isFit_112 (i := 1) rfl) ?_
  refine zw_iconst (pc := 2) (v := Int32.ofInt 0) (by decide) (zdal_p dlC_M_isFit_112 (i := 2) rfl) ?_
  refine zw_istore (pc := 3) (i := 4) (L2 := [some (.ref 81), some (.ref 95), some (.int (Int32.ofInt a1_)), some (.int (Int32.ofInt 1)), some (.int (Int32.ofInt 0))]) (by decide) rfl (zdal_p dlC_M_isFit_112 (i := 3) rfl) ?_
  have lp_5 : ∀ (n : Nat) (u1_ : Int) (hu1_a : -2147483648 ≤ u1_) (hu1_b : u1_ < 2147483648) (hu1_z : u1_ = 0 ∨ u1_ = 1) (u2_ : Int) (hu2_a : -2147483648 ≤ u2_) (hu2_b : u2_ < 2147483648) (i3_ : 0 ≤ u2_) (i4_ : u2_ ≤ F_) (i5_ : zIsA F_ (zrw F_ Mz 95 a1_) u1_ u2_), (F_ - u2_).toNat < n → zW l m_M_isFit (zn Mz + 0, zw Mz + 0) Mz 5 [some (.ref 81), some (.ref 95), some (.int (Int32.ofInt a1_)), some (.int (Int32.ofInt u1_)), some (.int (Int32.ofInt u2_))] [] (zpI [] [] Mz (fun v N => ((v = 0 ∨ v = 1)) ∧ zIsF F_ K_ (zrw F_ Mz 95 a1_) v)) := by
    intro n
    induction n with
    | zero =>
      intro u1_ hu1_a hu1_b hu1_z u2_ hu2_a hu2_b i3_ i4_ i5_ h0
      exact absurd h0 (Nat.not_lt_zero _)
    | succ n ih_5 =>
      intro u1_ hu1_a hu1_b hu1_z u2_ hu2_a hu2_b i3_ i4_ i5_ hlt_5
      have hia_ := (show zIsA F_ (zrw F_ Mz 95 a1_) u1_ u2_ by first | with_reducible assumption | assumption)
      refine zw_iload (pc := 5) (i := 4) (x := Int32.ofInt u2_) rfl (zdal_p dlC_M_isFit_112 (i := 4) rfl) ?_
      refine zw_aload_n (pc := 7) (n := 0) (x := 81) rfl (zdal_p dlC_M_isFit_112 (i := 5) rfl) ?_
      refine zr_getI0 hf hW (pc := 8) (by decide) f_M_235 rfl (zdal_p dlC_M_isFit_112 (i := 6) rfl) ?_
      refine zr_icmp_ge (pc := 11) (tgt := 48) ⟨hu2_a, hu2_b⟩ ⟨(ze_r Mz 81 26).1, (ze_r Mz 81 26).2⟩ (by decide) (zdal_p dlC_M_isFit_112 (i := 7) rfl) (fun hc_11 => ?_) (fun hc_11 => ?_)
      · skip
        have hib0_ := zIsB_0 (K := K_) hia_ (by (exact zo_2228 hF27_ hFc_ hc_11 i3_))
        refine zw_iconst (pc := 48) (v := Int32.ofInt 0) (by decide) (zdal_p dlC_M_isFit_113 (i := 1) rfl) ?_
        refine zw_istore (pc := 49) (i := 4) (L2 := [some (.ref 81), some (.ref 95), some (.int (Int32.ofInt a1_)), some (.int (Int32.ofInt u1_)), some (.int (Int32.ofInt 0))]) (by decide) rfl (zdal_p dlC_M_isFit_113 (i := 2) rfl) ?_
        have lp_51 : ∀ (n : Nat) (u6_ : Int) (hu6_a : -2147483648 ≤ u6_) (hu6_b : u6_ < 2147483648) (hu6_z : u6_ = 0 ∨ u6_ = 1) (u7_ : Int) (hu7_a : -2147483648 ≤ u7_) (hu7_b : u7_ < 2147483648) (i8_ : 0 ≤ u7_) (i9_ : u7_ ≤ F_) (i10_ : zIsB F_ K_ (zrw F_ Mz 95 a1_) u6_ u7_), (F_ - u7_).toNat < n → zW l m_M_isFit (zn Mz + 0, zw Mz + 0) Mz 51 [some (.ref 81), some (.ref 95), some (.int (Int32.ofInt a1_)), some (.int (Int32.ofInt u6_)), some (.int (Int32.ofInt u7_))] [] (zpI [] [] Mz (fun v N => ((v = 0 ∨ v = 1)) ∧ zIsF F_ K_ (zrw F_ Mz 95 a1_) v)) := by
          intro n
          induction n with
          | zero =>
            intro u6_ hu6_a hu6_b hu6_z u7_ hu7_a hu7_b i8_ i9_ i10_ h0
            exact absurd h0 (Nat.not_lt_zero _)
          | succ n ih_51 =>
            intro u6_ hu6_a hu6_b hu6_z u7_ hu7_a hu7_b i8_ i9_ i10_ hlt_51
            have hib_ := (show zIsB F_ K_ (zrw F_ Mz 95 a1_) u6_ u7_ by first | with_reducible assumption | assumption)
            refine zw_iload (pc := 51) (i := 4) (x := Int32.ofInt u7_) rfl (zdal_p dlC_M_isFit_113 (i := 3) rfl) ?_
            refine zw_aload_n (pc := 53) (n := 0) (x := 81) rfl (zdal_p dlC_M_isFit_113 (i := 4) rfl) ?_
            refine zr_getI0 hf hW (pc := 54) (by decide) f_M_235 rfl (zdal_p dlC_M_isFit_113 (i := 5) rfl) ?_
            refine zr_icmp_ge (pc := 57) (tgt := 88) ⟨hu7_a, hu7_b⟩ ⟨(ze_r Mz 81 26).1, (ze_r Mz 81 26).2⟩ (by decide) (zdal_p dlC_M_isFit_113 (i := 6) rfl) (fun hc_57 => ?_) (fun hc_57 => ?_)
            · skip
              refine zw_iload_n (pc := 88) (n := 3) (x := Int32.ofInt u6_) rfl (zdal_p dlC_M_isFit_113 (i := 20) rfl) ?_
              exact zr_iret (pc := 89) (ty := .boolean) rfl (z_narB (by (exact hu6_z))) ⟨by (exact hu6_a), by (exact hu6_b)⟩ hf ⟨(show (u6_ = 0 ∨ u6_ = 1) by have h_ := hib_.1; (exact hu6_z)), (show zIsF F_ K_ (zrw F_ Mz 95 a1_) u6_ by exact zIsF_e hib_ (by omega))⟩ (zdal_p dlC_M_isFit_113 (i := 21) rfl)
            · skip
              refine zw_iload_n (pc := 60) (n := 3) (x := Int32.ofInt u6_) rfl (zdal_p dlC_M_isFit_113 (i := 7) rfl) ?_
              refine zr_if_eq (pc := 61) (tgt := 88) ⟨hu6_a, hu6_b⟩ (by decide) (zdal_p dlC_M_isFit_113 (i := 8) rfl) (fun hc_61 => ?_) (fun hc_61 => ?_)
              · skip
                refine zw_iload_n (pc := 88) (n := 3) (x := Int32.ofInt u6_) rfl (zdal_p dlC_M_isFit_113 (i := 20) rfl) ?_
                exact zr_iret (pc := 89) (ty := .boolean) rfl (z_narB (by (exact hu6_z))) ⟨by (exact hu6_a), by (exact hu6_b)⟩ hf ⟨(show (u6_ = 0 ∨ u6_ = 1) by have h_ := hib_.1; (exact hu6_z)), (show zIsF F_ K_ (zrw F_ Mz 95 a1_) u6_ by exact zIsF_e hib_ (by omega))⟩ (zdal_p dlC_M_isFit_113 (i := 21) rfl)
              · skip
                refine zw_aload_n (pc := 64) (n := 0) (x := 81) rfl (zdal_p dlC_M_isFit_113 (i := 9) rfl) ?_
                refine zw_aload_n (pc := 65) (n := 1) (x := 95) rfl (zdal_p dlC_M_isFit_113 (i := 10) rfl) ?_
                refine zw_iload_n (pc := 66) (n := 2) (x := Int32.ofInt a1_) rfl (zdal_p dlC_M_isFit_113 (i := 11) rfl) ?_
                refine zw_iload (pc := 67) (i := 4) (x := Int32.ofInt u7_) rfl (zdal_p dlC_M_isFit_113 (i := 12) rfl) ?_
                refine zr_callV (hf.w hW) hf.x (pc := 69) [.ref 95, .int (Int32.ofInt a1_), .int (Int32.ofInt u7_)] [] l_M_264 (c_M_markAt_95F l Mz (hf.w hW) a1_ ha1_a ha1_b u7_ hu7_a hu7_b F_ K_ hA_ p0_ (show 0 ≤ a1_ by first | with_reducible assumption | assumption | omega) (show a1_ ≤ 2496 by first | with_reducible assumption | assumption | omega) (show 0 ≤ u7_ by first | with_reducible assumption | assumption | omega) (show u7_ < F_ by first | with_reducible assumption | (exact zo_2223 hFc_ hc_57 hu7_b i9_) | assumption)) rfl rfl rfl (by decide) (Nat.le_of_ble_eq_true rfl) (zdal_p dlC_M_isFit_113 (i := 13) rfl) ?_
                rintro _ N11_ ⟨v12_, rfl, ⟨hv12_a, hv12_b⟩, hsN11_, hp0_N11_⟩
                obtain rfl := hsN11_.eq.symm
                replace hp0_N11_ : Int64.ofInt v12_ = Int64.ofInt (zmq F_ K_ (zrw F_ Mz 95 a1_) (u7_).toNat) := hp0_N11_
                show zW l m_M_isFit (zn Mz + 0, zw Mz + 0) Mz 72 [some (.ref 81), some (.ref 95), some (.int (Int32.ofInt a1_)), some (.int (Int32.ofInt u6_)), some (.int (Int32.ofInt u7_))] [.long (Int64.ofInt v12_)] _
                have hmk_ := hp0_N11_
                have hr64_ : zn64 v12_ := ⟨by (exact hv12_a), by (exact hv12_b)⟩
                refine zr_ldc2 (pc := 72) (n := (-1000000000000)) (by decide) k_M_260 (zdal_p dlC_M_isFit_113 (i := 14) rfl) ?_
                refine zr_ldc2 (pc := 75) (n := 1000000000000) (by decide) k_M_262 (zdal_p dlC_M_isFit_113 (i := 15) rfl) ?_
                refine zr_callS hf.x (pc := 78) [.long (Int64.ofInt v12_), .long (Int64.ofInt ((-1000000000000))), .long (Int64.ofInt 1000000000000)] [] l_M_131 (c_M_isIn l Mz (hf.w hW) v12_ hv12_a hv12_b ((-1000000000000)) (by decide) (by decide) 1000000000000 (by decide) (by decide)) rfl rfl (by decide) (Nat.le_of_ble_eq_true rfl) (zdal_p dlC_M_isFit_113 (i := 16) rfl) ?_
                rintro _ N13_ ⟨v14_, rfl, ⟨hv14_a, hv14_b⟩, hsN13_, hp0_N13_⟩
                obtain rfl := hsN13_.eq.symm
                replace hp0_N13_ : ((v14_ = 1 ∧ ((-1000000000000)) ≤ v12_ ∧ v12_ ≤ 1000000000000) ∨ (v14_ = 0 ∧ (v12_ < ((-1000000000000)) ∨ 1000000000000 < v12_))) := hp0_N13_
                rcases hp0_N13_ with ⟨rfl, ha78_0_hp0_N13_, ha78_1_hp0_N13_⟩ | ⟨rfl, ha78_0_hp0_N13_⟩
                · skip
                  have hnx_ := zIsB_t (r := 1) hib_ (by (exact hc_61)) (by (exact i8_)) (by (exact zo_2223 hFc_ hc_57 hu7_b i9_)) hmk_ hr64_ (Or.inl ⟨rfl, ha78_0_hp0_N13_, ha78_1_hp0_N13_⟩)
                  show zW l m_M_isFit (zn Mz + 0, zw Mz + 0) Mz 81 [some (.ref 81), some (.ref 95), some (.int (Int32.ofInt a1_)), some (.int (Int32.ofInt u6_)), some (.int (Int32.ofInt u7_))] [.int (Int32.ofInt 1)] _
                  refine zw_istore_n (pc := 81) (i := 3) (L2 := [some (.ref 81), some (.ref 95), some (.int (Int32.ofInt a1_)), some (.int (Int32.ofInt 1)), some (.int (Int32.ofInt u7_))]) rfl (by decide) rfl (zdal_p dlC_M_isFit_113 (i := 17) rfl) ?_
                  refine zr_iinc (pc := 82) (i := 4) (a := u7_) (n := 1) (L2 := [some (.ref 81), some (.ref 95), some (.int (Int32.ofInt a1_)), some (.int (Int32.ofInt 1)), some (.int (Int32.ofInt (u7_ + 1)))]) rfl (by decide) rfl (zdal_p dlC_M_isFit_113 (i := 18) rfl) ?_
                  refine zw_goto (pc := 85) (tgt := 51) (by decide) (zdal_p dlC_M_isFit_113 (i := 19) rfl) ?_
                  exact ih_51 1 (by decide) (by decide) (by (decide)) (u7_ + 1) (by (exact zo_74 i8_)) (by (exact zo_75 hF27_ hu7_b i9_)) (show 0 ≤ (u7_ + 1) by first | with_reducible assumption | (exact zo_76 i8_) | assumption) (show (u7_ + 1) ≤ F_ by first | with_reducible assumption | (exact zo_77 hFc_ hc_57 hu7_b i9_) | assumption) (show zIsB F_ K_ (zrw F_ Mz 95 a1_) (1 : Int) (u7_ + 1) by exact hnx_) (by (exact zo_78 hFc_ hc_57 hlt_51 hu7_b i9_))
                · skip
                  have hnx_ := zIsB_t (r := 0) hib_ (by (exact hc_61)) (by (exact i8_)) (by (exact zo_2223 hFc_ hc_57 hu7_b i9_)) hmk_ hr64_ (Or.inr ⟨rfl, ha78_0_hp0_N13_⟩)
                  show zW l m_M_isFit (zn Mz + 0, zw Mz + 0) Mz 81 [some (.ref 81), some (.ref 95), some (.int (Int32.ofInt a1_)), some (.int (Int32.ofInt u6_)), some (.int (Int32.ofInt u7_))] [.int (Int32.ofInt 0)] _
                  refine zw_istore_n (pc := 81) (i := 3) (L2 := [some (.ref 81), some (.ref 95), some (.int (Int32.ofInt a1_)), some (.int (Int32.ofInt 0)), some (.int (Int32.ofInt u7_))]) rfl (by decide) rfl (zdal_p dlC_M_isFit_113 (i := 17) rfl) ?_
                  refine zr_iinc (pc := 82) (i := 4) (a := u7_) (n := 1) (L2 := [some (.ref 81), some (.ref 95), some (.int (Int32.ofInt a1_)), some (.int (Int32.ofInt 0)), some (.int (Int32.ofInt (u7_ + 1)))]) rfl (by decide) rfl (zdal_p dlC_M_isFit_113 (i := 18) rfl) ?_
                  refine zw_goto (pc := 85) (tgt := 51) (by decide) (zdal_p dlC_M_isFit_113 (i := 19) rfl) ?_
                  exact ih_51 0 (by decide) (by decide) (by (decide)) (u7_ + 1) (by (exact zo_74 i8_)) (by (exact zo_75 hF27_ hu7_b i9_)) (show 0 ≤ (u7_ + 1) by first | with_reducible assumption | (exact zo_76 i8_) | assumption) (show (u7_ + 1) ≤ F_ by first | with_reducible assumption | (exact zo_77 hFc_ hc_57 hu7_b i9_) | assumption) (show zIsB F_ K_ (zrw F_ Mz 95 a1_) (0 : Int) (u7_ + 1) by exact hnx_) (by (exact zo_78 hFc_ hc_57 hlt_51 hu7_b i9_))
        exact lp_51 _ u1_ hu1_a hu1_b (by (exact hu1_z)) 0 (by decide) (by decide) (show 0 ≤ (0 : Int) by first | with_reducible assumption | (decide) | assumption) (show (0 : Int) ≤ F_ by first | with_reducible assumption | (exact zo_85) | assumption) (show zIsB F_ K_ (zrw F_ Mz 95 a1_) u1_ (0 : Int) by exact hib0_) (Nat.lt_succ_self _)
      · skip
        refine zw_iload_n (pc := 14) (n := 3) (x := Int32.ofInt u1_) rfl (zdal_p dlC_M_isFit_112 (i := 8) rfl) ?_
        refine zr_if_eq (pc := 15) (tgt := 40) ⟨hu1_a, hu1_b⟩ (by decide) (zdal_p dlC_M_isFit_112 (i := 9) rfl) (fun hc_15 => ?_) (fun hc_15 => ?_)
        · skip
          have hin_ := zIsA_f hia_ (by (exact zo_2223 hFc_ hc_11 hu2_b i4_)) (by (exact i3_)) (by first | exact Or.inl (by (exact hc_15)) | (refine Or.inr (fun q_ => ?_); rw [← hx_] at q_; unfold zIn zLim at q_; omega))
          refine zw_iconst (pc := 40) (v := Int32.ofInt 0) (by decide) (zdal_p dlC_M_isFit_112 (i := 21) rfl) ?_
          refine zw_istore_n (pc := 41) (i := 3) (L2 := [some (.ref 81), some (.ref 95), some (.int (Int32.ofInt a1_)), some (.int (Int32.ofInt 0)), some (.int (Int32.ofInt u2_))]) rfl (by decide) rfl d_M_isFit_41 ?_
          refine zr_iinc (pc := 42) (i := 4) (a := u2_) (n := 1) (L2 := [some (.ref 81), some (.ref 95), some (.int (Int32.ofInt a1_)), some (.int (Int32.ofInt 0)), some (.int (Int32.ofInt (u2_ + 1)))]) rfl (by decide) rfl d_M_isFit_42 ?_
          refine zw_goto (pc := 45) (tgt := 5) (by decide) d_M_isFit_45 ?_
          exact ih_5 0 (by decide) (by decide) (by (decide)) (u2_ + 1) (by (exact zo_74 i3_)) (by (exact zo_75 hF27_ hu2_b i4_)) (show 0 ≤ (u2_ + 1) by first | with_reducible assumption | (exact zo_76 i3_) | assumption) (show (u2_ + 1) ≤ F_ by first | with_reducible assumption | (exact zo_77 hFc_ hc_11 hu2_b i4_) | assumption) (show zIsA F_ (zrw F_ Mz 95 a1_) (0 : Int) (u2_ + 1) by exact hin_) (by (exact zo_78 hFc_ hc_11 hlt_5 hu2_b i4_))
        · skip
          refine zw_aload_n (pc := 18) (n := 1) (x := 95) rfl (zdal_p dlC_M_isFit_112 (i := 10) rfl) ?_
          refine zw_iload_n (pc := 19) (n := 2) (x := Int32.ofInt a1_) rfl (zdal_p dlC_M_isFit_112 (i := 11) rfl) ?_
          refine zw_iload (pc := 20) (i := 4) (x := Int32.ofInt u2_) rfl (zdal_p dlC_M_isFit_112 (i := 12) rfl) ?_
          refine zr_iadd (pc := 22) (zdal_p dlC_M_isFit_112 (i := 13) rfl) ?_
          refine zr_laldn (pc := 23) (zh_95 (hf.w hW)).2 (by decide) (by (exact zo_833 i3_ p1_)) (by (exact zo_2612 hF27_ hu2_b i4_ p2_)) (zdal_p dlC_M_isFit_112 (i := 14) rfl) (fun v15_ hv15_ hv15_a hv15_b => ?_)
          have hx_ := zrw_at (F := F_) (k := (u2_).toNat) (e := a1_) (by (exact zo_73 hFc_ hc_11 hu2_b i3_ i4_)) (by (exact p1_)) hv15_ (by omega)
          refine zr_ldc2 (pc := 24) (n := (-1000000000000)) (by decide) k_M_260 (zdal_p dlC_M_isFit_112 (i := 15) rfl) ?_
          refine zr_ldc2 (pc := 27) (n := 1000000000000) (by decide) k_M_262 (zdal_p dlC_M_isFit_112 (i := 16) rfl) ?_
          refine zr_callS hf.x (pc := 30) [.long (Int64.ofInt v15_), .long (Int64.ofInt ((-1000000000000))), .long (Int64.ofInt 1000000000000)] [] l_M_131 (c_M_isIn l Mz (hf.w hW) v15_ hv15_a hv15_b ((-1000000000000)) (by decide) (by decide) 1000000000000 (by decide) (by decide)) rfl rfl (by decide) (Nat.le_of_ble_eq_true rfl) (zdal_p dlC_M_isFit_112 (i := 17) rfl) ?_
          rintro _ N16_ ⟨v17_, rfl, ⟨hv17_a, hv17_b⟩, hsN16_, hp0_N16_⟩
          obtain rfl := hsN16_.eq.symm
          replace hp0_N16_ : ((v17_ = 1 ∧ ((-1000000000000)) ≤ v15_ ∧ v15_ ≤ 1000000000000) ∨ (v17_ = 0 ∧ (v15_ < ((-1000000000000)) ∨ 1000000000000 < v15_))) := hp0_N16_
          rcases hp0_N16_ with ⟨rfl, ha30_0_hp0_N16_, ha30_1_hp0_N16_⟩ | ⟨rfl, ha30_0_hp0_N16_⟩
          · skip
            show zW l m_M_isFit (zn Mz + 0, zw Mz + 0) Mz 33 [some (.ref 81), some (.ref 95), some (.int (Int32.ofInt a1_)), some (.int (Int32.ofInt u1_)), some (.int (Int32.ofInt u2_))] [.int (Int32.ofInt 1)] _
            refine zr_if_eq (pc := 33) (tgt := 40) ⟨(by decide), (by decide)⟩ (by decide) (zdal_p dlC_M_isFit_112 (i := 18) rfl) (fun hc_33 => ?_) (fun hc_33 => ?_)
            · skip
              exact absurd hc_33 (by decide)
            · skip
              have hin_ := zIsA_t hia_ (by (exact hc_15)) (by (exact i3_)) hx_ (by unfold zIn zLim; omega)
              refine zw_iconst (pc := 36) (v := Int32.ofInt 1) (by decide) (zdal_p dlC_M_isFit_112 (i := 19) rfl) ?_
              refine zw_goto (pc := 37) (tgt := 41) (by decide) (zdal_p dlC_M_isFit_112 (i := 20) rfl) ?_
              refine zw_istore_n (pc := 41) (i := 3) (L2 := [some (.ref 81), some (.ref 95), some (.int (Int32.ofInt a1_)), some (.int (Int32.ofInt 1)), some (.int (Int32.ofInt u2_))]) rfl (by decide) rfl d_M_isFit_41 ?_
              refine zr_iinc (pc := 42) (i := 4) (a := u2_) (n := 1) (L2 := [some (.ref 81), some (.ref 95), some (.int (Int32.ofInt a1_)), some (.int (Int32.ofInt 1)), some (.int (Int32.ofInt (u2_ + 1)))]) rfl (by decide) rfl d_M_isFit_42 ?_
              refine zw_goto (pc := 45) (tgt := 5) (by decide) d_M_isFit_45 ?_
              exact ih_5 1 (by decide) (by decide) (by (decide)) (u2_ + 1) (by (exact zo_74 i3_)) (by (exact zo_75 hF27_ hu2_b i4_)) (show 0 ≤ (u2_ + 1) by first | with_reducible assumption | (exact zo_76 i3_) | assumption) (show (u2_ + 1) ≤ F_ by first | with_reducible assumption | (exact zo_77 hFc_ hc_11 hu2_b i4_) | assumption) (show zIsA F_ (zrw F_ Mz 95 a1_) (1 : Int) (u2_ + 1) by exact hin_) (by (exact zo_78 hFc_ hc_11 hlt_5 hu2_b i4_))
          · skip
            show zW l m_M_isFit (zn Mz + 0, zw Mz + 0) Mz 33 [some (.ref 81), some (.ref 95), some (.int (Int32.ofInt a1_)), some (.int (Int32.ofInt u1_)), some (.int (Int32.ofInt u2_))] [.int (Int32.ofInt 0)] _
            refine zr_if_eq (pc := 33) (tgt := 40) ⟨(by decide), (by decide)⟩ (by decide) (zdal_p dlC_M_isFit_112 (i := 18) rfl) (fun hc_33 => ?_) (fun hc_33 => ?_)
            · skip
              have hin_ := zIsA_f hia_ (by (exact zo_2223 hFc_ hc_11 hu2_b i4_)) (by (exact i3_)) (by first | exact Or.inl (by omega) | (refine Or.inr (fun q_ => ?_); rw [← hx_] at q_; unfold zIn zLim at q_; omega))
              refine zw_iconst (pc := 40) (v := Int32.ofInt 0) (by decide) (zdal_p dlC_M_isFit_112 (i := 21) rfl) ?_
              refine zw_istore_n (pc := 41) (i := 3) (L2 := [some (.ref 81), some (.ref 95), some (.int (Int32.ofInt a1_)), some (.int (Int32.ofInt 0)), some (.int (Int32.ofInt u2_))]) rfl (by decide) rfl d_M_isFit_41 ?_
              refine zr_iinc (pc := 42) (i := 4) (a := u2_) (n := 1) (L2 := [some (.ref 81), some (.ref 95), some (.int (Int32.ofInt a1_)), some (.int (Int32.ofInt 0)), some (.int (Int32.ofInt (u2_ + 1)))]) rfl (by decide) rfl d_M_isFit_42 ?_
              refine zw_goto (pc := 45) (tgt := 5) (by decide) d_M_isFit_45 ?_
              exact ih_5 0 (by decide) (by decide) (by (decide)) (u2_ + 1) (by (exact zo_74 i3_)) (by (exact zo_75 hF27_ hu2_b i4_)) (show 0 ≤ (u2_ + 1) by first | with_reducible assumption | (exact zo_76 i3_) | assumption) (show (u2_ + 1) ≤ F_ by first | with_reducible assumption | (exact zo_77 hFc_ hc_11 hu2_b i4_) | assumption) (show zIsA F_ (zrw F_ Mz 95 a1_) (0 : Int) (u2_ + 1) by exact hin_) (by (exact zo_78 hFc_ hc_11 hlt_5 hu2_b i4_))
            · skip
              exact absurd hc_33 (by decide)
  exact lp_5 _ 1 (by decide) (by decide) (by (decide)) 0 (by decide) (by decide) (show 0 ≤ (0 : Int) by first | with_reducible assumption | (decide) | assumption) (show (0 : Int) ≤ F_ by first | with_reducible assumption | (exact zo_85) | assumption) (show zIsA F_ (zrw F_ Mz 95 a1_) (1 : Int) (0 : Int) by exact zIsA_0) (Nat.lt_succ_self _)
set_option maxHeartbeats 4000000 in
theorem c_M_looksF (l : Launch) (Mz : zMem) (hW : zMt Mz) (F_ : Nat) (K_ : Nat → Nat → Int) (hA_ : zTA F_ K_) (p0_ : zRmk F_ K_ Mz) (p1_ : 1 ≤ ze Mz 81 38) (p2_ : ze Mz 81 38 ≤ 40) : zC l m_M_looks 0 0 [.ref 81] Mz (zpV [39] [95] Mz (fun N => zLkd F_ K_ (64 * (ze Mz 81 38 - 1)) Mz N)) := by
  refine zC_of (L0 := [some (.ref 81), none]) md_M_looks (Nat.le_of_ble_eq_true rfl) rfl ?_ zQ0
  have hf : zFr [39] [95] Mz Mz := zFr.rf
  have r_26 := ze_r Mz 81 26
  have r_38 := ze_r Mz 81 38
  have r_39 := ze_r Mz 81 39
  obtain ⟨⟨hF1_, hF27_⟩, hAr_⟩ := id hA_
  obtain ⟨hFc_, hKt_⟩ := id p0_
  refine zw_aload_n (pc := 0) (n := 0) (x := 81) rfl (zdal_p dlC_M_looks_110 (i := 0) rfl) ?_
  refine zw_aload_n (pc := 1) (n := 0) (x := 81) rfl (zdal_p dlC_M_looks_110 (i := 1) rfl) ?_
  refine zr_getF (r := 95) (hf.w hW) (pc := 2) f_M_56 rfl (zh_95 (hf.w hW)).1 (zdal_p dlC_M_looks_110 (i := 2) rfl) ?_
  refine zw_bipush (pc := 5) (v := Int32.ofInt 64) (by decide) (zdal_p dlC_M_looks_110 (i := 3) rfl) ?_
  refine zw_aload_n (pc := 7) (n := 0) (x := 81) rfl (zdal_p dlC_M_looks_110 (i := 4) rfl) ?_
  refine zr_getI0 hf hW (pc := 8) (by decide) f_M_268 rfl (zdal_p dlC_M_looks_110 (i := 5) rfl) ?_
  refine zw_iconst (pc := 11) (v := Int32.ofInt 1) (by decide) (zdal_p dlC_M_looks_110 (i := 6) rfl) ?_
  refine zr_isub (pc := 12) (zdal_p dlC_M_looks_110 (i := 7) rfl) ?_
  refine zr_imul (pc := 13) (zdal_p dlC_M_looks_110 (i := 8) rfl) ?_
  refine zr_callV (hf.w hW) hf.x (pc := 14) [.ref 95, .int (Int32.ofInt (64 * ((ze Mz 81 38) - 1)))] [] l_M_271 (c_M_isFit_95F l Mz (hf.w hW) (64 * ((ze Mz 81 38) - 1)) (by (exact zo_137 p1_)) (by (exact zo_138 p2_)) F_ K_ hA_ p0_ (show 0 ≤ (64 * ((ze Mz 81 38) - 1)) by first | with_reducible assumption | (exact zo_139 p1_) | assumption) (show (64 * ((ze Mz 81 38) - 1)) ≤ 2496 by first | with_reducible assumption | (exact zo_140 p2_) | assumption)) rfl rfl rfl (by decide) (Nat.le_of_ble_eq_true rfl) (zdal_p dlC_M_looks_110 (i := 9) rfl) ?_
  rintro _ N1_ ⟨v2_, rfl, ⟨hv2_a, hv2_b⟩, hsN1_, ⟨hp0_N1_, hp1_N1_⟩⟩
  obtain rfl := hsN1_.eq.symm
  show zW l m_M_looks (zn Mz + 0, zw Mz + 0) Mz 17 [some (.ref 81), none] [.int (Int32.ofInt v2_)] _
  have hfi_ := hp1_N1_
  have hfz_ := hp0_N1_
  refine zr_if_eq (pc := 17) (tgt := 21) ⟨hv2_a, hv2_b⟩ (by decide) (zdal_p dlC_M_looks_110 (i := 10) rfl) (fun hc_17 => ?_) (fun hc_17 => ?_)
  · skip
    refine zw_aload_n (pc := 21) (n := 0) (x := 81) rfl (zdal_p dlC_M_looks_110 (i := 12) rfl) ?_
    refine zw_iconst (pc := 22) (v := Int32.ofInt 1) (by decide) (zdal_p dlC_M_looks_110 (i := 13) rfl) ?_
    refine zr_putI (hf.w hW) (pc := 23) f_M_275 rfl rfl ⟨by (decide), by (decide)⟩ (z_narB (by (decide))) (z_fitB (by (decide))) (zdal_p dlC_M_looks_110 (i := 14) rfl) (fun N3_ hsN3_ hvN3_ => ?_)
    have hf_N3_ : zFr [39] [95] Mz N3_ := hf.tr hsN3_ (by decide) (by decide)
    have e26_N3_ : ze N3_ 81 26 = ze Mz 81 26 := hsN3_.e (by decide)
    have e38_N3_ : ze N3_ 81 38 = ze Mz 81 38 := hsN3_.e (by decide)
    have r39_N3_ := ze_r N3_ 81 39
    have hg0_ : zOutR F_ (64 * (ze Mz 81 38 - 1)) Mz N3_ := fun x _ => hsN3_.jg (by decide) (by decide) x
    refine zw_iconst (pc := 26) (v := Int32.ofInt 0) (by decide) (zdal_p dlC_M_looks_110 (i := 15) rfl) ?_
    refine zw_istore_n (pc := 27) (i := 1) (L2 := [some (.ref 81), some (.int (Int32.ofInt 0))]) rfl (by decide) rfl (zdal_p dlC_M_looks_110 (i := 16) rfl) ?_
    have lp_28 : ∀ (n : Nat) (u5_ : Int) (hu5_a : -2147483648 ≤ u5_) (hu5_b : u5_ < 2147483648) (N6_ : zMem) (hs7_ : zFr [] [95] N3_ N6_) (i8_ : 0 ≤ u5_) (i9_ : zOutR F_ (64 * (ze Mz 81 38 - 1)) Mz N6_) (i10_ : ze N6_ 81 39 = 1), (F_ - u5_).toNat < n → zW l m_M_looks (zn Mz + 0, zw Mz + 0) N6_ 28 [some (.ref 81), some (.int (Int32.ofInt u5_))] [] (zpV [39] [95] Mz (fun N => zLkd F_ K_ (64 * (ze Mz 81 38 - 1)) Mz N)) := by
      intro n
      induction n with
      | zero =>
        intro u5_ hu5_a hu5_b N6_ hs7_ i8_ i9_ i10_ h0
        exact absurd h0 (Nat.not_lt_zero _)
      | succ n ih_28 =>
        intro u5_ hu5_a hu5_b N6_ hs7_ i8_ i9_ i10_ hlt_28
        have hf_N6_ : zFr [39] [95] Mz N6_ := hf_N3_.tr hs7_ (by decide) (by decide)
        have e26_N6_ : ze N6_ 81 26 = ze N3_ 81 26 := hs7_.e (by decide)
        have e38_N6_ : ze N6_ 81 38 = ze N3_ 81 38 := hs7_.e (by decide)
        have e39_N6_ : ze N6_ 81 39 = ze N3_ 81 39 := hs7_.e (by decide)
        have hou_ := (show zOutR F_ (64 * (ze Mz 81 38 - 1)) Mz N6_ by first | with_reducible assumption | assumption)
        refine zw_iload_n (pc := 28) (n := 1) (x := Int32.ofInt u5_) rfl (zdal_p dlC_M_looks_110 (i := 17) rfl) ?_
        refine zw_aload_n (pc := 29) (n := 0) (x := 81) rfl (zdal_p dlC_M_looks_110 (i := 18) rfl) ?_
        refine zr_getI0 hf_N6_ hW (pc := 30) (by decide) f_M_235 rfl (zdal_p dlC_M_looks_110 (i := 19) rfl) ?_
        refine zr_icmp_ge (pc := 33) (tgt := 59) ⟨hu5_a, hu5_b⟩ ⟨(ze_r Mz 81 26).1, (ze_r Mz 81 26).2⟩ (by decide) (zdal_p dlC_M_looks_110 (i := 20) rfl) (fun hc_33 => ?_) (fun hc_33 => ?_)
        · skip
          exact zr_vret (pc := 59) rfl hf_N6_ (show zLkd F_ K_ (64 * (ze Mz 81 38 - 1)) Mz N6_ by first | exact Or.inl ⟨fun x => rfl, rfl, fun hb_ => (hfi_ hb_).mp (by omega)⟩ | exact Or.inr ⟨hou_, by assumption, fun hb_ hq_ => by have := (hfi_ hb_).mpr hq_; omega⟩) (zdal_p dlC_M_looks_111 (i := 11) rfl)
        · skip
          refine zw_aload_n (pc := 36) (n := 0) (x := 81) rfl (zdal_p dlC_M_looks_110 (i := 21) rfl) ?_
          refine zr_getF (r := 95) (hf_N6_.w hW) (pc := 37) f_M_56 rfl (zh_95 (hf_N6_.w hW)).1 (zdal_p dlC_M_looks_110 (i := 22) rfl) ?_
          refine zw_bipush (pc := 40) (v := Int32.ofInt 64) (by decide) (zdal_p dlC_M_looks_110 (i := 23) rfl) ?_
          refine zw_aload_n (pc := 42) (n := 0) (x := 81) rfl (zdal_p dlC_M_looks_111 (i := 0) rfl) ?_
          refine zr_getI0 hf_N6_ hW (pc := 43) (by decide) f_M_268 rfl (zdal_p dlC_M_looks_111 (i := 1) rfl) ?_
          refine zw_iconst (pc := 46) (v := Int32.ofInt 1) (by decide) (zdal_p dlC_M_looks_111 (i := 2) rfl) ?_
          refine zr_isub (pc := 47) (zdal_p dlC_M_looks_111 (i := 3) rfl) ?_
          refine zr_imul (pc := 48) (zdal_p dlC_M_looks_111 (i := 4) rfl) ?_
          refine zw_iload_n (pc := 49) (n := 1) (x := Int32.ofInt u5_) rfl (zdal_p dlC_M_looks_111 (i := 5) rfl) ?_
          refine zr_iadd (pc := 50) (zdal_p dlC_M_looks_111 (i := 6) rfl) ?_
          refine zw_lconst (pc := 51) (v := Int64.ofInt 0) (by decide) (zdal_p dlC_M_looks_111 (i := 7) rfl) ?_
          refine zr_last (pc := 52) (zh_95 (hf_N6_.w hW)).2 (by decide) (by decide) (by (exact zo_150 i8_ p1_)) (by omega) (zdal_p dlC_M_looks_111 (i := 8) rfl) (fun N12_ hN12_ hsN12_ => ?_)
          have hf_N12_ : zFr [39] [95] Mz N12_ := hf_N6_.tr hsN12_ (by decide) (by decide)
          have hb0_N12_ : zFr [] [95] N3_ N12_ := hs7_.tr hsN12_ (by decide) (by decide)
          have e26_N12_ : ze N12_ 81 26 = ze N6_ 81 26 := hsN12_.e (by decide)
          have e38_N12_ : ze N12_ 81 38 = ze N6_ 81 38 := hsN12_.e (by decide)
          have e39_N12_ : ze N12_ 81 39 = ze N6_ 81 39 := hsN12_.e (by decide)
          have hox_ := zOutR_s hou_ hN12_ (by omega) (by (exact zo_139 p1_))
          refine zr_iinc (pc := 53) (i := 1) (a := u5_) (n := 1) (L2 := [some (.ref 81), some (.int (Int32.ofInt (u5_ + 1)))]) rfl (by decide) rfl (zdal_p dlC_M_looks_111 (i := 9) rfl) ?_
          refine zw_goto (pc := 56) (tgt := 28) (by decide) (zdal_p dlC_M_looks_111 (i := 10) rfl) ?_
          exact ih_28 (u5_ + 1) (by (exact zo_74 i8_)) (by omega) N12_ hb0_N12_ (show 0 ≤ (u5_ + 1) by first | with_reducible assumption | (exact zo_76 i8_) | assumption) (show zOutR F_ (64 * (ze Mz 81 38 - 1)) Mz N12_ by exact hox_) (show ze N12_ 81 39 = 1 by first | with_reducible assumption | (exact zo_594 e39_N12_ i10_) | assumption) (by omega)
    exact lp_28 _ 0 (by decide) (by decide) N3_ zFr.rf (show 0 ≤ (0 : Int) by first | with_reducible assumption | (decide) | assumption) (show zOutR F_ (64 * (ze Mz 81 38 - 1)) Mz N3_ by exact hg0_) (show ze N3_ 81 39 = 1 by first | with_reducible assumption | assumption | omega) (Nat.lt_succ_self _)
  · skip
    exact zr_vret (pc := 20) rfl hf (show zLkd F_ K_ (64 * (ze Mz 81 38 - 1)) Mz Mz by first | exact Or.inl ⟨fun x => rfl, rfl, fun hb_ => (hfi_ hb_).mp (by omega)⟩ | exact Or.inr ⟨hou_, by assumption, fun hb_ hq_ => by have := (hfi_ hb_).mpr hq_; omega⟩) (zdal_p dlC_M_looks_110 (i := 11) rfl)
set_option maxHeartbeats 4000000 in
theorem c_M_laysF (l : Launch) (Mz : zMem) (hW : zMt Mz) (a0_ : Int) (ha0_a : -2147483648 ≤ a0_) (ha0_b : a0_ < 2147483648) (a1_ : Int) (ha1_a : -9223372036854775808 ≤ a1_) (ha1_b : a1_ < 9223372036854775808) (F_ : Nat) (K_ : Nat → Nat → Int) (hA_ : zTA F_ K_) (p0_ : zRmk F_ K_ Mz) (p1_ : 0 ≤ ze Mz 81 38) (p2_ : ze Mz 81 38 ≤ 39) (p3_ : 0 ≤ a0_) (p4_ : a0_ < F_) (p5_ : 0 ≤ a1_) (p6_ : a1_ ≤ 999) : zC l m_M_lays 0 0 [.ref 81, .int (Int32.ofInt a0_), .long (Int64.ofInt a1_)] Mz (zpV [38, 39] [95] Mz (fun N => ze N 81 38 = ze Mz 81 38 + 1 ∧ zAcc F_ (64 * ze Mz 81 38) (zone a0_ a1_) (zfit F_ K_ (zone a0_ a1_)) Mz N)) := by
  refine zC_of (L0 := [some (.ref 81), some (.int (Int32.ofInt a0_)), some (.long (Int64.ofInt a1_)), none, none]) md_M_lays (Nat.le_of_ble_eq_true rfl) rfl ?_ zQ0
  have hf : zFr [38, 39] [95] Mz Mz := zFr.rf
  have r_26 := ze_r Mz 81 26
  have r_38 := ze_r Mz 81 38
  have r_39 := ze_r Mz 81 39
  obtain ⟨⟨hF1_, hF27_⟩, hAr_⟩ := id hA_
  obtain ⟨hFc_, hKt_⟩ := id p0_
  refine zw_iconst (pc := 0) (v := Int32.ofInt 0) (by decide) (zdal_p dlC_M_lays_108 (i := 0) rfl) ?_
  refine zw_istore (pc := 1) (i := 4) (L2 := [some (.ref 81), some (.int (Int32.ofInt a0_)), some (.long (Int64.ofInt a1_)), none, some (.int (Int32.ofInt 0))]) (by decide) rfl (zdal_p dlC_M_lays_108 (i := 1) rfl) ?_
  have lp_3 : ∀ (n : Nat) (u1_ : Int) (hu1_a : -2147483648 ≤ u1_) (hu1_b : u1_ < 2147483648) (N2_ : zMem) (hs3_ : zFr [] [95] Mz N2_) (i4_ : 0 ≤ u1_) (i5_ : u1_ ≤ F_) (i6_ : (∀ x : Nat, (x : Int) < 64 * ze Mz 81 38 → zg N2_ 95 x = zg Mz 95 x)) (i7_ : (∀ k : Nat, (k : Int) < u1_ → zg N2_ 95 ((64 * ze Mz 81 38).toNat + k) = zone a0_ a1_ k)), (F_ - u1_).toNat < n → zW l m_M_lays (zn Mz + 0, zw Mz + 0) N2_ 3 [some (.ref 81), some (.int (Int32.ofInt a0_)), some (.long (Int64.ofInt a1_)), none, some (.int (Int32.ofInt u1_))] [] (zpV [38, 39] [95] Mz (fun N => ze N 81 38 = ze Mz 81 38 + 1 ∧ zAcc F_ (64 * ze Mz 81 38) (zone a0_ a1_) (zfit F_ K_ (zone a0_ a1_)) Mz N)) := by
    intro n
    induction n with
    | zero =>
      intro u1_ hu1_a hu1_b N2_ hs3_ i4_ i5_ i6_ i7_ h0
      exact absurd h0 (Nat.not_lt_zero _)
    | succ n ih_3 =>
      intro u1_ hu1_a hu1_b N2_ hs3_ i4_ i5_ i6_ i7_ hlt_3
      have hf_N2_ : zFr [38, 39] [95] Mz N2_ := hf.tr hs3_ (by decide) (by decide)
      have e26_N2_ : ze N2_ 81 26 = ze Mz 81 26 := hs3_.e (by decide)
      have e38_N2_ : ze N2_ 81 38 = ze Mz 81 38 := hs3_.e (by decide)
      have e39_N2_ : ze N2_ 81 39 = ze Mz 81 39 := hs3_.e (by decide)
      have c8_ : zRmk F_ K_ N2_ := zRmk.fr hs3_ p0_ (by decide) (by decide)
      have hlo_ := (show ∀ x : Nat, (x : Int) < 64 * ze Mz 81 38 → zg N2_ 95 x = zg Mz 95 x by first | with_reducible assumption | assumption)
      have hzo_ := (show ∀ k : Nat, (k : Int) < u1_ → zg N2_ 95 ((64 * ze Mz 81 38).toNat + k) = zone a0_ a1_ k by first | with_reducible assumption | assumption)
      refine zw_iload (pc := 3) (i := 4) (x := Int32.ofInt u1_) rfl (zdal_p dlC_M_lays_108 (i := 2) rfl) ?_
      refine zw_aload_n (pc := 5) (n := 0) (x := 81) rfl (zdal_p dlC_M_lays_108 (i := 3) rfl) ?_
      refine zr_getI0 hf_N2_ hW (pc := 6) (by decide) f_M_235 rfl (zdal_p dlC_M_lays_108 (i := 4) rfl) ?_
      refine zr_icmp_ge (pc := 9) (tgt := 44) ⟨hu1_a, hu1_b⟩ ⟨(ze_r Mz 81 26).1, (ze_r Mz 81 26).2⟩ (by decide) (zdal_p dlC_M_lays_108 (i := 5) rfl) (fun hc_9 => ?_) (fun hc_9 => ?_)
      · skip
        refine zw_aload_n (pc := 44) (n := 0) (x := 81) rfl (zdal_p dlC_M_lays_108 (i := 23) rfl) ?_
        refine zw_dup (pc := 45) rfl (zdal_p dlC_M_lays_109 (i := 0) rfl) ?_
        refine zr_getI (hf_N2_.w hW) (pc := 46) f_M_268 rfl (zdal_p dlC_M_lays_109 (i := 1) rfl) ?_
        refine zw_iconst (pc := 49) (v := Int32.ofInt 1) (by decide) (zdal_p dlC_M_lays_109 (i := 2) rfl) ?_
        refine zr_iadd (pc := 50) (zdal_p dlC_M_lays_109 (i := 3) rfl) ?_
        refine zr_putI (hf_N2_.w hW) (pc := 51) f_M_268 rfl rfl ⟨by (exact zo_1205 e38_N2_ p1_), by omega⟩ rfl rfl (zdal_p dlC_M_lays_109 (i := 4) rfl) (fun N9_ hsN9_ hvN9_ => ?_)
        have hf_N9_ : zFr [38, 39] [95] Mz N9_ := hf_N2_.tr hsN9_ (by decide) (by decide)
        have e26_N9_ : ze N9_ 81 26 = ze N2_ 81 26 := hsN9_.e (by decide)
        have r38_N9_ := ze_r N9_ 81 38
        have e39_N9_ : ze N9_ 81 39 = ze N2_ 81 39 := hsN9_.e (by decide)
        have c10_ : zRmk F_ K_ N9_ := zRmk.fr hsN9_ c8_ (by decide) (by decide)
        have hvv_ : zrw F_ N9_ 95 (64 * ze Mz 81 38) = zone a0_ a1_ := zrw_v (fun k hk => (hsN9_.jg (by decide) (by decide) _).trans (hzo_ k (by (exact zo_110 hF27_ hFc_ hc_9 hk i4_)))) (fun k hk => by unfold zone; rw [if_neg (by omega)])
        have hll_ : ∀ x : Nat, (x : Int) < 64 * ze Mz 81 38 → zg N9_ 95 x = zg Mz 95 x := fun x hx => (hsN9_.jg (by decide) (by decide) x).trans (hlo_ x hx)
        refine zw_aload_n (pc := 54) (n := 0) (x := 81) rfl (zdal_p dlC_M_lays_109 (i := 5) rfl) ?_
        refine zr_callV (hf_N9_.w hW) hf_N9_.x (pc := 55) [] [] l_M_279 (c_M_looksF l N9_ (hf_N9_.w hW) F_ K_ hA_ c10_ (show 1 ≤ ze N9_ 81 38 by first | with_reducible assumption | assumption | omega) (show ze N9_ 81 38 ≤ 40 by first | with_reducible assumption | assumption | omega)) rfl rfl rfl (by decide) (Nat.le_of_ble_eq_true rfl) (zdal_p dlC_M_lays_109 (i := 6) rfl) ?_
        rintro _ N11_ ⟨rfl, hsN11_, hp0_N11_⟩
        replace hp0_N11_ : zLkd F_ K_ (64 * (ze N9_ 81 38 - 1)) N9_ N11_ := hp0_N11_
        have hf_N11_ : zFr [38, 39] [95] Mz N11_ := hf_N9_.tr hsN11_ (by decide) (by decide)
        have e26_N11_ : ze N11_ 81 26 = ze N9_ 81 26 := hsN11_.e (by decide)
        have e38_N11_ : ze N11_ 81 38 = ze N9_ 81 38 := hsN11_.e (by decide)
        have r39_N11_ := ze_r N11_ 81 39
        show zW l m_M_lays (zn Mz + 0, zw Mz + 0) N11_ 58 [some (.ref 81), some (.int (Int32.ofInt a0_)), some (.long (Int64.ofInt a1_)), none, some (.int (Int32.ofInt u1_))] [] _
        have hlk_ := hp0_N11_
        rw [show 64 * (ze N9_ 81 38 - 1) = 64 * ze Mz 81 38 by omega] at hlk_
        have hac_ := zAcc_l (F := F_) (K := K_) (M := Mz) (by (exact zo_2626 p1_)) (by (exact zo_53 e39_N2_ e39_N9_)) hll_ (fun _ => ⟨hvv_, (zone_fit hA_ (by (exact p3_)) (by (exact p4_)) (by (exact p5_)) (by (exact p6_))).b⟩) hlk_
        exact zr_vret (pc := 58) rfl hf_N11_ ⟨(show ze N11_ 81 38 = ze Mz 81 38 + 1 by first | with_reducible assumption | assumption | omega), (show zAcc F_ (64 * ze Mz 81 38) (zone a0_ a1_) (zfit F_ K_ (zone a0_ a1_)) Mz N11_ by exact hac_)⟩ (zdal_p dlC_M_lays_109 (i := 7) rfl)
      · skip
        refine zw_aload_n (pc := 12) (n := 0) (x := 81) rfl (zdal_p dlC_M_lays_108 (i := 6) rfl) ?_
        refine zr_getF (r := 95) (hf_N2_.w hW) (pc := 13) f_M_56 rfl (zh_95 (hf_N2_.w hW)).1 (zdal_p dlC_M_lays_108 (i := 7) rfl) ?_
        refine zw_bipush (pc := 16) (v := Int32.ofInt 64) (by decide) (zdal_p dlC_M_lays_108 (i := 8) rfl) ?_
        refine zw_aload_n (pc := 18) (n := 0) (x := 81) rfl (zdal_p dlC_M_lays_108 (i := 9) rfl) ?_
        refine zr_getI (hf_N2_.w hW) (pc := 19) f_M_268 rfl (zdal_p dlC_M_lays_108 (i := 10) rfl) ?_
        refine zr_imul (pc := 22) (zdal_p dlC_M_lays_108 (i := 11) rfl) ?_
        refine zw_iload (pc := 23) (i := 4) (x := Int32.ofInt u1_) rfl (zdal_p dlC_M_lays_108 (i := 12) rfl) ?_
        refine zr_iadd (pc := 25) (zdal_p dlC_M_lays_108 (i := 13) rfl) ?_
        refine zw_iload (pc := 26) (i := 4) (x := Int32.ofInt u1_) rfl (zdal_p dlC_M_lays_108 (i := 14) rfl) ?_
        refine zw_iload_n (pc := 28) (n := 1) (x := Int32.ofInt a0_) rfl (zdal_p dlC_M_lays_108 (i := 15) rfl) ?_
        refine zr_icmp_ne (pc := 29) (tgt := 36) ⟨hu1_a, hu1_b⟩ ⟨ha0_a, ha0_b⟩ (by decide) (zdal_p dlC_M_lays_108 (i := 16) rfl) (fun hc_29 => ?_) (fun hc_29 => ?_)
        · skip
          refine zw_lconst (pc := 36) (v := Int64.ofInt 0) (by decide) (zdal_p dlC_M_lays_108 (i := 19) rfl) ?_
          refine zr_last (pc := 37) (zh_95 (hf_N2_.w hW)).2 (by decide) (by decide) (by (exact zo_2452 e38_N2_ i4_ p1_)) (by omega) (zdal_p dlC_M_lays_108 (i := 20) rfl) (fun N14_ hN14_ hsN14_ => ?_)
          have hf_N14_ : zFr [38, 39] [95] Mz N14_ := hf_N2_.tr hsN14_ (by decide) (by decide)
          have hb0_N14_ : zFr [] [95] Mz N14_ := hs3_.tr hsN14_ (by decide) (by decide)
          have e26_N14_ : ze N14_ 81 26 = ze N2_ 81 26 := hsN14_.e (by decide)
          have e38_N14_ : ze N14_ 81 38 = ze N2_ 81 38 := hsN14_.e (by decide)
          have e39_N14_ : ze N14_ 81 39 = ze N2_ 81 39 := hsN14_.e (by decide)
          have hl2_ : ∀ x : Nat, (x : Int) < 64 * ze Mz 81 38 → zg N14_ 95 x = zg Mz 95 x := fun x hx => by rw [zs_othJ hN14_ (by omega)]; exact hlo_ x hx
          have hz2_ : ∀ k : Nat, (k : Int) < u1_ + 1 → zg N14_ 95 ((64 * ze Mz 81 38).toNat + k) = zone a0_ a1_ k := fun k hk => by by_cases g_ : (k : Int) = u1_; (rw [show (64 * ze Mz 81 38).toNat + k = (64 * ze N2_ 81 38 + u1_).toNat by omega, zs_getJ hN14_ ⟨by (decide), by (decide)⟩]; unfold zone; first | rw [if_pos (by omega)] | rw [if_neg (by omega)]); (rw [zs_othJ hN14_ (by omega)]; exact hzo_ k (by (exact zo_130 hk g_)))
          refine zr_iinc (pc := 38) (i := 4) (a := u1_) (n := 1) (L2 := [some (.ref 81), some (.int (Int32.ofInt a0_)), some (.long (Int64.ofInt a1_)), none, some (.int (Int32.ofInt (u1_ + 1)))]) rfl (by decide) rfl (zdal_p dlC_M_lays_108 (i := 21) rfl) ?_
          refine zw_goto (pc := 41) (tgt := 3) (by decide) (zdal_p dlC_M_lays_108 (i := 22) rfl) ?_
          exact ih_3 (u1_ + 1) (by (exact zo_74 i4_)) (by (exact zo_75 hF27_ hu1_b i5_)) N14_ hb0_N14_ (show 0 ≤ (u1_ + 1) by first | with_reducible assumption | (exact zo_76 i4_) | assumption) (show (u1_ + 1) ≤ F_ by first | with_reducible assumption | (exact zo_77 hFc_ hc_9 hu1_b i5_) | assumption) (show (∀ x : Nat, (x : Int) < 64 * ze Mz 81 38 → zg N14_ 95 x = zg Mz 95 x) by exact hl2_) (show (∀ k : Nat, (k : Int) < (u1_ + 1) → zg N14_ 95 ((64 * ze Mz 81 38).toNat + k) = zone a0_ a1_ k) by exact hz2_) (by (exact zo_78 hFc_ hc_9 hlt_3 hu1_b i5_))
        · skip
          refine zw_lload_n (pc := 32) (n := 2) (x := Int64.ofInt a1_) rfl (zdal_p dlC_M_lays_108 (i := 17) rfl) ?_
          refine zw_goto (pc := 33) (tgt := 37) (by decide) (zdal_p dlC_M_lays_108 (i := 18) rfl) ?_
          refine zr_last (pc := 37) (zh_95 (hf_N2_.w hW)).2 (by decide) (by decide) (by (exact zo_2452 e38_N2_ i4_ p1_)) (by omega) (zdal_p dlC_M_lays_108 (i := 20) rfl) (fun N16_ hN16_ hsN16_ => ?_)
          have hf_N16_ : zFr [38, 39] [95] Mz N16_ := hf_N2_.tr hsN16_ (by decide) (by decide)
          have hb0_N16_ : zFr [] [95] Mz N16_ := hs3_.tr hsN16_ (by decide) (by decide)
          have e26_N16_ : ze N16_ 81 26 = ze N2_ 81 26 := hsN16_.e (by decide)
          have e38_N16_ : ze N16_ 81 38 = ze N2_ 81 38 := hsN16_.e (by decide)
          have e39_N16_ : ze N16_ 81 39 = ze N2_ 81 39 := hsN16_.e (by decide)
          have hl2_ : ∀ x : Nat, (x : Int) < 64 * ze Mz 81 38 → zg N16_ 95 x = zg Mz 95 x := fun x hx => by rw [zs_othJ hN16_ (by omega)]; exact hlo_ x hx
          have hz2_ : ∀ k : Nat, (k : Int) < u1_ + 1 → zg N16_ 95 ((64 * ze Mz 81 38).toNat + k) = zone a0_ a1_ k := fun k hk => by by_cases g_ : (k : Int) = u1_; (rw [show (64 * ze Mz 81 38).toNat + k = (64 * ze N2_ 81 38 + u1_).toNat by omega, zs_getJ hN16_ ⟨by (exact ha1_a), by (exact ha1_b)⟩]; unfold zone; first | rw [if_pos (by omega)] | rw [if_neg (by omega)]); (rw [zs_othJ hN16_ (by omega)]; exact hzo_ k (by (exact zo_130 hk g_)))
          refine zr_iinc (pc := 38) (i := 4) (a := u1_) (n := 1) (L2 := [some (.ref 81), some (.int (Int32.ofInt a0_)), some (.long (Int64.ofInt a1_)), none, some (.int (Int32.ofInt (u1_ + 1)))]) rfl (by decide) rfl (zdal_p dlC_M_lays_108 (i := 21) rfl) ?_
          refine zw_goto (pc := 41) (tgt := 3) (by decide) (zdal_p dlC_M_lays_108 (i := 22) rfl) ?_
          exact ih_3 (u1_ + 1) (by (exact zo_74 i4_)) (by (exact zo_75 hF27_ hu1_b i5_)) N16_ hb0_N16_ (show 0 ≤ (u1_ + 1) by first | with_reducible assumption | (exact zo_76 i4_) | assumption) (show (u1_ + 1) ≤ F_ by first | with_reducible assumption | (exact zo_77 hFc_ hc_9 hu1_b i5_) | assumption) (show (∀ x : Nat, (x : Int) < 64 * ze Mz 81 38 → zg N16_ 95 x = zg Mz 95 x) by exact hl2_) (show (∀ k : Nat, (k : Int) < (u1_ + 1) → zg N16_ 95 ((64 * ze Mz 81 38).toNat + k) = zone a0_ a1_ k) by exact hz2_) (by (exact zo_78 hFc_ hc_9 hlt_3 hu1_b i5_))
  exact lp_3 _ 0 (by decide) (by decide) Mz zFr.rf (show 0 ≤ (0 : Int) by first | with_reducible assumption | (decide) | assumption) (show (0 : Int) ≤ F_ by first | with_reducible assumption | (exact zo_85) | assumption) (show (∀ x : Nat, (x : Int) < 64 * ze Mz 81 38 → zg Mz 95 x = zg Mz 95 x) by exact fun x _ => rfl) (show (∀ k : Nat, (k : Int) < (0 : Int) → zg Mz 95 ((64 * ze Mz 81 38).toNat + k) = zone a0_ a1_ k) by exact fun k hk => absurd hk (by (exact zo_131))) (Nat.lt_succ_self _)
set_option maxHeartbeats 4000000 in
theorem c_M_numbers_96_95F (l : Launch) (Mz : zMem) (hW : zMt Mz) (a2_ : Int) (ha2_a : -2147483648 ≤ a2_) (ha2_b : a2_ < 2147483648) (F_ : Nat) (K_ : Nat → Nat → Int) (hA_ : zTA F_ K_) (p0_ : zRmk F_ K_ Mz) (p1_ : 0 ≤ a2_) (p2_ : a2_ ≤ 2496) : zC l m_M_numbers 0 0 [.ref 81, .ref 96, .ref 95, .int (Int32.ofInt a2_)] Mz (zpV [] [95] Mz (fun N => zNumR F_ K_ Mz N a2_)) := by
  refine zC_of (L0 := [some (.ref 81), some (.ref 96), some (.ref 95), some (.int (Int32.ofInt a2_)), none, none, none, none]) md_M_numbers (Nat.le_of_ble_eq_true rfl) rfl ?_ zQ0
  have hf : zFr [] [95] Mz Mz := zFr.rf
  have r_26 := ze_r Mz 81 26
  obtain ⟨⟨hF1_, hF27_⟩, hAr_⟩ := id hA_
  obtain ⟨hFc_, hKt_⟩ := id p0_
  refine zw_aload_n (pc := 0) (n := 0) (x := 81) rfl (zdal_p dlC_M_numbers_126 (i := 0) rfl) ?_
  refine zr_getI0 hf hW (pc := 1) (by decide) f_M_235 rfl (zdal_p dlC_M_numbers_126 (i := 1) rfl) ?_
  refine zw_iconst (pc := 4) (v := Int32.ofInt 1) (by decide) (zdal_p dlC_M_numbers_126 (i := 2) rfl) ?_
  refine zr_isub (pc := 5) (zdal_p dlC_M_numbers_126 (i := 3) rfl) ?_
  refine zw_istore (pc := 6) (i := 4) (L2 := [some (.ref 81), some (.ref 96), some (.ref 95), some (.int (Int32.ofInt a2_)), some (.int (Int32.ofInt ((ze Mz 81 26) - 1))), none, none, none]) (by decide) rfl (zdal_p dlC_M_numbers_126 (i := 4) rfl) ?_
  have lp_8 : ∀ (n : Nat) (u1_ : Int) (hu1_a : -2147483648 ≤ u1_) (hu1_b : u1_ < 2147483648) (N2_ : zMem) (hs3_ : zFr [] [95] Mz N2_) (i4_ : u1_ < F_) (i5_ : -1 ≤ u1_) (i6_ : ∀ u : Nat → Int, zsvR F_ K_ Mz u → zUpR F_ Mz N2_ a2_ u u1_) (i7_ : zOutR F_ a2_ Mz N2_), (u1_ + 1).toNat < n → zW l m_M_numbers (zn Mz + 0, zw Mz + 0) N2_ 8 [some (.ref 81), some (.ref 96), some (.ref 95), some (.int (Int32.ofInt a2_)), some (.int (Int32.ofInt u1_)), none, none, none] [] (zpV [] [95] Mz (fun N => zNumR F_ K_ Mz N a2_)) := by
    intro n
    induction n with
    | zero =>
      intro u1_ hu1_a hu1_b N2_ hs3_ i4_ i5_ i6_ i7_ h0
      exact absurd h0 (Nat.not_lt_zero _)
    | succ n ih_8 =>
      intro u1_ hu1_a hu1_b N2_ hs3_ i4_ i5_ i6_ i7_ hlt_8
      have hf_N2_ : zFr [] [95] Mz N2_ := hf.tr hs3_ (by decide) (by decide)
      have e26_N2_ : ze N2_ 81 26 = ze Mz 81 26 := hs3_.e (by decide)
      have c8_ : zRmk F_ K_ N2_ := zRmk.fr hs3_ p0_ (by decide) (by decide)
      refine zw_iload (pc := 8) (i := 4) (x := Int32.ofInt u1_) rfl (zdal_p dlC_M_numbers_126 (i := 5) rfl) ?_
      refine zr_if_lt (pc := 10) (tgt := 95) ⟨hu1_a, hu1_b⟩ (by decide) (zdal_p dlC_M_numbers_126 (i := 6) rfl) (fun hc_10 => ?_) (fun hc_10 => ?_)
      · skip
        exact zr_vret (pc := 95) rfl hf_N2_ (show zNumR F_ K_ Mz N2_ a2_ by exact zNumR_e (by (exact p1_)) (by first | with_reducible assumption | assumption) (by first | with_reducible assumption | assumption) (by (exact hc_10))) (zdal_p dlC_M_numbers_128 (i := 9) rfl)
      · skip
        refine zw_aload_n (pc := 13) (n := 1) (x := 96) rfl (zdal_p dlC_M_numbers_126 (i := 7) rfl) ?_
        refine zw_iload (pc := 14) (i := 4) (x := Int32.ofInt u1_) rfl (zdal_p dlC_M_numbers_126 (i := 8) rfl) ?_
        refine zr_laldn (pc := 16) (zh_96 (hf_N2_.w hW)).2 (by decide) (by (exact hc_10)) (by omega) (zdal_p dlC_M_numbers_126 (i := 9) rfl) (fun v9_ hv9_ hv9_a hv9_b => ?_)
        rw [hf_N2_.jg (by decide) (by decide)] at hv9_
        have hr0_ := hv9_
        refine zw_lstore (pc := 17) (i := 5) (L2 := [some (.ref 81), some (.ref 96), some (.ref 95), some (.int (Int32.ofInt a2_)), some (.int (Int32.ofInt u1_)), some (.long (Int64.ofInt v9_)), none, none]) (by decide) rfl (zdal_p dlC_M_numbers_126 (i := 10) rfl) ?_
        refine zw_iload (pc := 19) (i := 4) (x := Int32.ofInt u1_) rfl (zdal_p dlC_M_numbers_126 (i := 11) rfl) ?_
        refine zw_iconst (pc := 21) (v := Int32.ofInt 1) (by decide) (zdal_p dlC_M_numbers_126 (i := 12) rfl) ?_
        refine zr_iadd (pc := 22) (zdal_p dlC_M_numbers_126 (i := 13) rfl) ?_
        refine zw_istore (pc := 23) (i := 7) (L2 := [some (.ref 81), some (.ref 96), some (.ref 95), some (.int (Int32.ofInt a2_)), some (.int (Int32.ofInt u1_)), some (.long (Int64.ofInt v9_)), none, some (.int (Int32.ofInt (u1_ + 1)))]) (by decide) rfl (zdal_p dlC_M_numbers_126 (i := 14) rfl) ?_
        have hup_ := (show ∀ u : Nat → Int, zsvR F_ K_ Mz u → zUpR F_ Mz N2_ a2_ u u1_ by first | with_reducible assumption | assumption)
        have hou_ := (show zOutR F_ a2_ Mz N2_ by first | with_reducible assumption | assumption)
        have lp_25 : ∀ (n : Nat) (u10_ : Int) (hu10_a : -9223372036854775808 ≤ u10_) (hu10_b : u10_ < 9223372036854775808) (u11_ : Int) (hu11_a : -2147483648 ≤ u11_) (hu11_b : u11_ < 2147483648) (i12_ : u1_ < u11_) (i13_ : u11_ ≤ F_) (i14_ : ∀ u : Nat → Int, zsvR F_ K_ Mz u → zXin F_ K_ u u10_ u1_ u11_), (F_ - u11_).toNat < n → zW l m_M_numbers (zn Mz + 0, zw Mz + 0) N2_ 25 [some (.ref 81), some (.ref 96), some (.ref 95), some (.int (Int32.ofInt a2_)), some (.int (Int32.ofInt u1_)), some (.long (Int64.ofInt u10_)), none, some (.int (Int32.ofInt u11_))] [] (zpV [] [95] Mz (fun N => zNumR F_ K_ Mz N a2_)) := by
          intro n
          induction n with
          | zero =>
            intro u10_ hu10_a hu10_b u11_ hu11_a hu11_b i12_ i13_ i14_ h0
            exact absurd h0 (Nat.not_lt_zero _)
          | succ n ih_25 =>
            intro u10_ hu10_a hu10_b u11_ hu11_a hu11_b i12_ i13_ i14_ hlt_25
            have hxi_ := (show ∀ u : Nat → Int, zsvR F_ K_ Mz u → zXin F_ K_ u u10_ u1_ u11_ by first | with_reducible assumption | assumption)
            refine zw_iload (pc := 25) (i := 7) (x := Int32.ofInt u11_) rfl (zdal_p dlC_M_numbers_126 (i := 15) rfl) ?_
            refine zw_aload_n (pc := 27) (n := 0) (x := 81) rfl (zdal_p dlC_M_numbers_126 (i := 16) rfl) ?_
            refine zr_getI0 hf_N2_ hW (pc := 28) (by decide) f_M_235 rfl (zdal_p dlC_M_numbers_126 (i := 17) rfl) ?_
            refine zr_icmp_ge (pc := 31) (tgt := 66) ⟨hu11_a, hu11_b⟩ ⟨(ze_r Mz 81 26).1, (ze_r Mz 81 26).2⟩ (by decide) (zdal_p dlC_M_numbers_126 (i := 18) rfl) (fun hc_31 => ?_) (fun hc_31 => ?_)
            · skip
              refine zw_aload_n (pc := 66) (n := 2) (x := 95) rfl (zdal_p dlC_M_numbers_127 (i := 15) rfl) ?_
              refine zw_iload_n (pc := 67) (n := 3) (x := Int32.ofInt a2_) rfl (zdal_p dlC_M_numbers_127 (i := 16) rfl) ?_
              refine zw_iload (pc := 68) (i := 4) (x := Int32.ofInt u1_) rfl (zdal_p dlC_M_numbers_127 (i := 17) rfl) ?_
              refine zr_iadd (pc := 70) (zdal_p dlC_M_numbers_127 (i := 18) rfl) ?_
              refine zw_lload (pc := 71) (i := 5) (x := Int64.ofInt u10_) rfl (zdal_p dlC_M_numbers_127 (i := 19) rfl) ?_
              refine zw_aload_n (pc := 73) (n := 0) (x := 81) rfl (zdal_p dlC_M_numbers_127 (i := 20) rfl) ?_
              refine zr_getF (r := 93) (hf_N2_.w hW) (pc := 74) f_M_50 rfl (zh_93 (hf_N2_.w hW)).1 (zdal_p dlC_M_numbers_127 (i := 21) rfl) ?_
              refine zw_bipush (pc := 77) (v := Int32.ofInt 64) (by decide) (zdal_p dlC_M_numbers_127 (i := 22) rfl) ?_
              refine zw_iload (pc := 79) (i := 4) (x := Int32.ofInt u1_) rfl (zdal_p dlC_M_numbers_127 (i := 23) rfl) ?_
              refine zr_imul (pc := 81) (zdal_p dlC_M_numbers_128 (i := 0) rfl) ?_
              refine zw_iload (pc := 82) (i := 4) (x := Int32.ofInt u1_) rfl (zdal_p dlC_M_numbers_128 (i := 1) rfl) ?_
              refine zr_iadd (pc := 84) (zdal_p dlC_M_numbers_128 (i := 2) rfl) ?_
              refine zr_ialdn (pc := 85) (zh_93 (hf_N2_.w hW)).2 (by decide) (by (exact zo_888 hc_10)) (by omega) (zdal_p dlC_M_numbers_128 (i := 3) rfl) (fun v15_ hv15_ hv15_a hv15_b => ?_)
              rw [hf_N2_.ie (by decide) (by decide)] at hv15_
              have hm_ := p0_.k (by (exact hc_10)) (by (exact i4_)) (by (exact hc_10)) (by (exact i4_)) hv15_
              have hm1_ := hAr_.2.2.1 (u1_).toNat (by omega)
              refine zr_i2l (pc := 86) ⟨hv15_a, hv15_b⟩ (zdal_p dlC_M_numbers_128 (i := 4) rfl) ?_
              refine zr_ldiv (pc := 87) ⟨by (exact zo_282 hv15_a), by (exact zo_283 hv15_b)⟩ (by omega) (zdal_p dlC_M_numbers_128 (i := 5) rfl) ?_
              have hr16_ := zlquo_r u10_ v15_
              obtain ⟨q_, hq_⟩ : ∃ q, q = (zlquo u10_ v15_) := ⟨_, rfl⟩
              have hqu_ := fun u hu => zXin_e hA_ (hxi_ u hu) (by omega) hu ⟨by (exact hu10_a), by (exact hu10_b)⟩ (by (exact hc_10)) (by (exact i4_)) hm_ hq_
              refine zr_last (pc := 88) (zh_95 (hf_N2_.w hW)).2 (by decide) (by decide) (by (exact zo_833 hc_10 p1_)) (by omega) (zdal_p dlC_M_numbers_128 (i := 6) rfl) (fun N17_ hN17_ hsN17_ => ?_)
              have hf_N17_ : zFr [] [95] Mz N17_ := hf_N2_.tr hsN17_ (by decide) (by decide)
              have hb0_N17_ : zFr [] [95] Mz N17_ := hs3_.tr hsN17_ (by decide) (by decide)
              have e26_N17_ : ze N17_ 81 26 = ze N2_ 81 26 := hsN17_.e (by decide)
              have hu1_ := fun u hu => zUpR_s (hup_ u hu) hN17_ ⟨by (exact zo_79 hr16_.1), by (exact zo_80 hr16_.2)⟩ (by (exact p1_)) (by (exact hc_10)) (by (exact i4_)) (by rw [← hq_]; exact hqu_ u hu)
              have ho1_ := zOutR_s hou_ hN17_ (by omega) (by (exact p1_))
              refine zr_iinc (pc := 89) (i := 4) (a := u1_) (n := -1) (L2 := [some (.ref 81), some (.ref 96), some (.ref 95), some (.int (Int32.ofInt a2_)), some (.int (Int32.ofInt (u1_ + (-1)))), some (.long (Int64.ofInt u10_)), none, some (.int (Int32.ofInt u11_))]) rfl (by decide) rfl (zdal_p dlC_M_numbers_128 (i := 7) rfl) ?_
              refine zw_goto (pc := 92) (tgt := 8) (by decide) (zdal_p dlC_M_numbers_128 (i := 8) rfl) ?_
              refine zW_le [some (.ref 81), some (.ref 96), some (.ref 95), some (.int (Int32.ofInt a2_)), some (.int (Int32.ofInt (u1_ + (-1)))), none, none, none] (⟨rfl, rfl, rfl, rfl, rfl, trivial⟩) ?_
              exact ih_8 (u1_ + (-1)) (by (exact zo_892 hc_10)) (by (exact zo_893 hu1_b)) N17_ hb0_N17_ (show (u1_ + (-1)) < F_ by first | with_reducible assumption | (exact zo_2217 hu1_b i4_) | assumption) (show -1 ≤ (u1_ + (-1)) by first | with_reducible assumption | (exact zo_938 hc_10) | assumption) (show ∀ u : Nat → Int, zsvR F_ K_ Mz u → zUpR F_ Mz N17_ a2_ u (u1_ + (-1)) by exact hu1_) (show zOutR F_ a2_ Mz N17_ by exact ho1_) (by (exact zo_896 hc_10 hlt_8 hu1_b))
            · skip
              refine zw_lload (pc := 34) (i := 5) (x := Int64.ofInt u10_) rfl (zdal_p dlC_M_numbers_126 (i := 19) rfl) ?_
              refine zw_aload_n (pc := 36) (n := 2) (x := 95) rfl (zdal_p dlC_M_numbers_126 (i := 20) rfl) ?_
              refine zw_iload_n (pc := 37) (n := 3) (x := Int32.ofInt a2_) rfl (zdal_p dlC_M_numbers_126 (i := 21) rfl) ?_
              refine zw_iload (pc := 38) (i := 7) (x := Int32.ofInt u11_) rfl (zdal_p dlC_M_numbers_126 (i := 22) rfl) ?_
              refine zr_iadd (pc := 40) (zdal_p dlC_M_numbers_126 (i := 23) rfl) ?_
              refine zr_laldn (pc := 41) (zh_95 (hf_N2_.w hW)).2 (by decide) (by omega) (by (exact zo_2612 hF27_ hu11_b i13_ p2_)) (zdal_p dlC_M_numbers_127 (i := 0) rfl) (fun v19_ hv19_ hv19_a hv19_b => ?_)
              have hx_ := hv19_
              refine zw_aload_n (pc := 42) (n := 0) (x := 81) rfl (zdal_p dlC_M_numbers_127 (i := 1) rfl) ?_
              refine zr_getF (r := 93) (hf_N2_.w hW) (pc := 43) f_M_50 rfl (zh_93 (hf_N2_.w hW)).1 (zdal_p dlC_M_numbers_127 (i := 2) rfl) ?_
              refine zw_bipush (pc := 46) (v := Int32.ofInt 64) (by decide) (zdal_p dlC_M_numbers_127 (i := 3) rfl) ?_
              refine zw_iload (pc := 48) (i := 7) (x := Int32.ofInt u11_) rfl (zdal_p dlC_M_numbers_127 (i := 4) rfl) ?_
              refine zr_imul (pc := 50) (zdal_p dlC_M_numbers_127 (i := 5) rfl) ?_
              refine zw_iload (pc := 51) (i := 4) (x := Int32.ofInt u1_) rfl (zdal_p dlC_M_numbers_127 (i := 6) rfl) ?_
              refine zr_iadd (pc := 53) (zdal_p dlC_M_numbers_127 (i := 7) rfl) ?_
              refine zr_ialdn (pc := 54) (zh_93 (hf_N2_.w hW)).2 (by decide) (by omega) (by omega) (zdal_p dlC_M_numbers_127 (i := 8) rfl) (fun v20_ hv20_ hv20_a hv20_b => ?_)
              rw [hf_N2_.ie (by decide) (by decide)] at hv20_
              have hy_ := p0_.k (by omega) (by (exact zo_2223 hFc_ hc_31 hu11_b i13_)) (by (exact hc_10)) (by (exact i4_)) hv20_
              refine zr_i2l (pc := 55) ⟨hv20_a, hv20_b⟩ (zdal_p dlC_M_numbers_127 (i := 9) rfl) ?_
              refine zr_lmul (pc := 56) (zdal_p dlC_M_numbers_127 (i := 10) rfl) ?_
              refine zr_lsub (pc := 57) (zdal_p dlC_M_numbers_127 (i := 11) rfl) ?_
              refine zk_nmJ (fun v21_ hv21_ hv21_e => ?_)
              obtain ⟨hv21_a, hv21_b⟩ := hv21_
              have hz_ := fun u hu => zXin_s (hxi_ u hu) hv21_e (by (exact hc_10)) (by (exact i12_)) (by (exact zo_2223 hFc_ hc_31 hu11_b i13_)) (by (exact p1_)) (hup_ u hu) hx_ hy_
              refine zw_lstore (pc := 58) (i := 5) (L2 := [some (.ref 81), some (.ref 96), some (.ref 95), some (.int (Int32.ofInt a2_)), some (.int (Int32.ofInt u1_)), some (.long (Int64.ofInt v21_)), none, some (.int (Int32.ofInt u11_))]) (by decide) rfl (zdal_p dlC_M_numbers_127 (i := 12) rfl) ?_
              refine zr_iinc (pc := 60) (i := 7) (a := u11_) (n := 1) (L2 := [some (.ref 81), some (.ref 96), some (.ref 95), some (.int (Int32.ofInt a2_)), some (.int (Int32.ofInt u1_)), some (.long (Int64.ofInt v21_)), none, some (.int (Int32.ofInt (u11_ + 1)))]) rfl (by decide) rfl (zdal_p dlC_M_numbers_127 (i := 13) rfl) ?_
              refine zw_goto (pc := 63) (tgt := 25) (by decide) (zdal_p dlC_M_numbers_127 (i := 14) rfl) ?_
              exact ih_25 v21_ hv21_a hv21_b (u11_ + 1) (by (exact zo_679 hu11_a)) (by (exact zo_75 hF27_ hu11_b i13_)) (show u1_ < (u11_ + 1) by first | with_reducible assumption | assumption | omega) (show (u11_ + 1) ≤ F_ by first | with_reducible assumption | (exact zo_77 hFc_ hc_31 hu11_b i13_) | assumption) (show ∀ u : Nat → Int, zsvR F_ K_ Mz u → zXin F_ K_ u v21_ u1_ (u11_ + 1) by exact hz_) (by (exact zo_78 hFc_ hc_31 hlt_25 hu11_b i13_))
        exact lp_25 _ v9_ hv9_a hv9_b (u1_ + 1) (by (exact zo_74 hc_10)) (by omega) (show u1_ < (u1_ + 1) by first | with_reducible assumption | (exact zo_683) | assumption) (show (u1_ + 1) ≤ F_ by first | with_reducible assumption | assumption | omega) (show ∀ u : Nat → Int, zsvR F_ K_ Mz u → zXin F_ K_ u v9_ u1_ (u1_ + 1) by exact fun u hu => zXin_0 (by (exact hc_10)) hu (by (exact i4_)) hr0_) (Nat.lt_succ_self _)
  exact lp_8 _ ((ze Mz 81 26) - 1) (by (exact zo_786 hFc_ r_26.1)) (by (exact zo_601 r_26.2)) Mz zFr.rf (show ((ze Mz 81 26) - 1) < F_ by first | with_reducible assumption | (exact zo_792 hFc_ r_26.2) | assumption) (show -1 ≤ ((ze Mz 81 26) - 1) by first | with_reducible assumption | assumption | omega) (show ∀ u : Nat → Int, zsvR F_ K_ Mz u → zUpR F_ Mz Mz a2_ u ((ze Mz 81 26) - 1) by exact fun u hu => zUpR_0 (by omega)) (show zOutR F_ a2_ Mz Mz by exact fun x _ => rfl) (Nat.lt_succ_self _)
set_option maxHeartbeats 4000000 in
theorem c_M_marksOf_96F (l : Launch) (Mz : zMem) (hW : zMt Mz) (a0_ : Int) (ha0_a : -2147483648 ≤ a0_) (ha0_b : a0_ < 2147483648) (F_ : Nat) (K_ : Nat → Nat → Int) (hA_ : zTA F_ K_) (p0_ : zRmk F_ K_ Mz) (p1_ : 0 ≤ a0_) (p2_ : a0_ ≤ 39) : zC l m_M_marksOf 0 0 [.ref 81, .int (Int32.ofInt a0_), .ref 96] Mz (zpV [] [96] Mz (fun N => (∀ k : Nat, k < F_ → Int64.ofInt (zg N 96 k) = Int64.ofInt (zmq F_ K_ (zrw F_ Mz 95 (64 * a0_)) k)))) := by
  refine zC_of (L0 := [some (.ref 81), some (.int (Int32.ofInt a0_)), some (.ref 96), none]) md_M_marksOf (Nat.le_of_ble_eq_true rfl) rfl ?_ zQ0
  have hf : zFr [] [96] Mz Mz := zFr.rf
  have r_26 := ze_r Mz 81 26
  obtain ⟨⟨hF1_, hF27_⟩, hAr_⟩ := id hA_
  obtain ⟨hFc_, hKt_⟩ := id p0_
  refine zw_iconst (pc := 0) (v := Int32.ofInt 0) (by decide) (zdal_p dlC_M_marksOf_121 (i := 0) rfl) ?_
  refine zw_istore_n (pc := 1) (i := 3) (L2 := [some (.ref 81), some (.int (Int32.ofInt a0_)), some (.ref 96), some (.int (Int32.ofInt 0))]) rfl (by decide) rfl (zdal_p dlC_M_marksOf_121 (i := 1) rfl) ?_
  have lp_2 : ∀ (n : Nat) (u1_ : Int) (hu1_a : -2147483648 ≤ u1_) (hu1_b : u1_ < 2147483648) (N2_ : zMem) (hs3_ : zFr [] [96] Mz N2_) (i4_ : 0 ≤ u1_) (i5_ : u1_ ≤ F_) (i6_ : ∀ k : Nat, (k : Int) < u1_ → Int64.ofInt (zg N2_ 96 k) = Int64.ofInt (zmq F_ K_ (zrw F_ Mz 95 (64 * a0_)) k)), (F_ - u1_).toNat < n → zW l m_M_marksOf (zn Mz + 0, zw Mz + 0) N2_ 2 [some (.ref 81), some (.int (Int32.ofInt a0_)), some (.ref 96), some (.int (Int32.ofInt u1_))] [] (zpV [] [96] Mz (fun N => (∀ k : Nat, k < F_ → Int64.ofInt (zg N 96 k) = Int64.ofInt (zmq F_ K_ (zrw F_ Mz 95 (64 * a0_)) k)))) := by
    intro n
    induction n with
    | zero =>
      intro u1_ hu1_a hu1_b N2_ hs3_ i4_ i5_ i6_ h0
      exact absurd h0 (Nat.not_lt_zero _)
    | succ n ih_2 =>
      intro u1_ hu1_a hu1_b N2_ hs3_ i4_ i5_ i6_ hlt_2
      have hf_N2_ : zFr [] [96] Mz N2_ := hf.tr hs3_ (by decide) (by decide)
      have e26_N2_ : ze N2_ 81 26 = ze Mz 81 26 := hs3_.e (by decide)
      have c7_ : zRmk F_ K_ N2_ := zRmk.fr hs3_ p0_ (by decide) (by decide)
      have hmo_ := (show ∀ k : Nat, (k : Int) < u1_ → Int64.ofInt (zg N2_ 96 k) = Int64.ofInt (zmq F_ K_ (zrw F_ Mz 95 (64 * a0_)) k) by first | with_reducible assumption | assumption)
      refine zw_iload_n (pc := 2) (n := 3) (x := Int32.ofInt u1_) rfl (zdal_p dlC_M_marksOf_121 (i := 2) rfl) ?_
      refine zw_aload_n (pc := 3) (n := 0) (x := 81) rfl (zdal_p dlC_M_marksOf_121 (i := 3) rfl) ?_
      refine zr_getI0 hf_N2_ hW (pc := 4) (by decide) f_M_235 rfl (zdal_p dlC_M_marksOf_121 (i := 4) rfl) ?_
      refine zr_icmp_ge (pc := 7) (tgt := 32) ⟨hu1_a, hu1_b⟩ ⟨(ze_r Mz 81 26).1, (ze_r Mz 81 26).2⟩ (by decide) (zdal_p dlC_M_marksOf_121 (i := 5) rfl) (fun hc_7 => ?_) (fun hc_7 => ?_)
      · skip
        exact zr_vret (pc := 32) rfl hf_N2_ (show (∀ k : Nat, k < F_ → Int64.ofInt (zg N2_ 96 k) = Int64.ofInt (zmq F_ K_ (zrw F_ Mz 95 (64 * a0_)) k)) by exact fun k hk => hmo_ k (by (exact zo_110 hF27_ hFc_ hc_7 hk i4_))) (zdal_p dlC_M_marksOf_121 (i := 19) rfl)
      · skip
        refine zw_aload_n (pc := 10) (n := 2) (x := 96) rfl (zdal_p dlC_M_marksOf_121 (i := 6) rfl) ?_
        refine zw_iload_n (pc := 11) (n := 3) (x := Int32.ofInt u1_) rfl (zdal_p dlC_M_marksOf_121 (i := 7) rfl) ?_
        refine zw_aload_n (pc := 12) (n := 0) (x := 81) rfl (zdal_p dlC_M_marksOf_121 (i := 8) rfl) ?_
        refine zw_aload_n (pc := 13) (n := 0) (x := 81) rfl (zdal_p dlC_M_marksOf_121 (i := 9) rfl) ?_
        refine zr_getF (r := 95) (hf_N2_.w hW) (pc := 14) f_M_56 rfl (zh_95 (hf_N2_.w hW)).1 (zdal_p dlC_M_marksOf_121 (i := 10) rfl) ?_
        refine zw_bipush (pc := 17) (v := Int32.ofInt 64) (by decide) (zdal_p dlC_M_marksOf_121 (i := 11) rfl) ?_
        refine zw_iload_n (pc := 19) (n := 1) (x := Int32.ofInt a0_) rfl (zdal_p dlC_M_marksOf_121 (i := 12) rfl) ?_
        refine zr_imul (pc := 20) (zdal_p dlC_M_marksOf_121 (i := 13) rfl) ?_
        refine zw_iload_n (pc := 21) (n := 3) (x := Int32.ofInt u1_) rfl (zdal_p dlC_M_marksOf_121 (i := 14) rfl) ?_
        refine zr_callV (hf_N2_.w hW) hf_N2_.x (pc := 22) [.ref 95, .int (Int32.ofInt (64 * a0_)), .int (Int32.ofInt u1_)] [.int (Int32.ofInt u1_), .ref 96] l_M_264 (c_M_markAt_95F l N2_ (hf_N2_.w hW) (64 * a0_) (by omega) (by omega) u1_ hu1_a hu1_b F_ K_ hA_ c7_ (show 0 ≤ (64 * a0_) by first | with_reducible assumption | (exact zo_2626 p1_) | assumption) (show (64 * a0_) ≤ 2496 by first | with_reducible assumption | assumption | omega) (show 0 ≤ u1_ by first | with_reducible assumption | assumption | omega) (show u1_ < F_ by first | with_reducible assumption | (exact zo_2223 hFc_ hc_7 hu1_b i5_) | assumption)) rfl rfl rfl (by decide) (Nat.le_of_ble_eq_true rfl) (zdal_p dlC_M_marksOf_121 (i := 15) rfl) ?_
        rintro _ N8_ ⟨v9_, rfl, ⟨hv9_a, hv9_b⟩, hsN8_, hp0_N8_⟩
        obtain rfl := hsN8_.eq.symm
        replace hp0_N8_ : Int64.ofInt v9_ = Int64.ofInt (zmq F_ K_ (zrw F_ N2_ 95 (64 * a0_)) (u1_).toNat) := hp0_N8_
        show zW l m_M_marksOf (zn Mz + 0, zw Mz + 0) N2_ 25 [some (.ref 81), some (.int (Int32.ofInt a0_)), some (.ref 96), some (.int (Int32.ofInt u1_))] [.long (Int64.ofInt v9_), .int (Int32.ofInt u1_), .ref 96] _
        have hmk_ := hp0_N8_
        have h95_ : (zrw F_ N2_ 95 (64 * a0_)) = (zrw F_ Mz 95 (64 * a0_)) := zrw_c (fun k _ => hf_N2_.jg (by decide) (by decide) _)
        rw [h95_] at hmk_
        refine zr_last (pc := 25) (zh_96 (hf_N2_.w hW)).2 (by decide) (by decide) (by (exact i4_)) (by (exact zo_70 hF27_ hu1_b i5_)) (zdal_p dlC_M_marksOf_121 (i := 16) rfl) (fun N10_ hN10_ hsN10_ => ?_)
        have hf_N10_ : zFr [] [96] Mz N10_ := hf_N2_.tr hsN10_ (by decide) (by decide)
        have hb0_N10_ : zFr [] [96] Mz N10_ := hs3_.tr hsN10_ (by decide) (by decide)
        have e26_N10_ : ze N10_ 81 26 = ze N2_ 81 26 := hsN10_.e (by decide)
        have hm2_ : ∀ k : Nat, (k : Int) < u1_ + 1 → Int64.ofInt (zg N10_ 96 k) = Int64.ofInt (zmq F_ K_ (zrw F_ Mz 95 (64 * a0_)) k) := fun k hk => by by_cases g_ : (k : Int) = u1_; rw [show k = (u1_).toNat by (exact zo_128 g_ hF27_ hk hu1_b i4_ i5_), zs_getJ hN10_ ⟨by (exact hv9_a), by (exact hv9_b)⟩]; exact hmk_; rw [zs_othJ hN10_ (by (exact zo_148 i4_ g_))]; exact hmo_ k (by (exact zo_130 hk g_))
        refine zr_iinc (pc := 26) (i := 3) (a := u1_) (n := 1) (L2 := [some (.ref 81), some (.int (Int32.ofInt a0_)), some (.ref 96), some (.int (Int32.ofInt (u1_ + 1)))]) rfl (by decide) rfl (zdal_p dlC_M_marksOf_121 (i := 17) rfl) ?_
        refine zw_goto (pc := 29) (tgt := 2) (by decide) (zdal_p dlC_M_marksOf_121 (i := 18) rfl) ?_
        exact ih_2 (u1_ + 1) (by (exact zo_74 i4_)) (by (exact zo_75 hF27_ hu1_b i5_)) N10_ hb0_N10_ (show 0 ≤ (u1_ + 1) by first | with_reducible assumption | (exact zo_76 i4_) | assumption) (show (u1_ + 1) ≤ F_ by first | with_reducible assumption | (exact zo_77 hFc_ hc_7 hu1_b i5_) | assumption) (show ∀ k : Nat, (k : Int) < (u1_ + 1) → Int64.ofInt (zg N10_ 96 k) = Int64.ofInt (zmq F_ K_ (zrw F_ Mz 95 (64 * a0_)) k) by exact hm2_) (by (exact zo_78 hFc_ hc_7 hlt_2 hu1_b i5_))
  exact lp_2 _ 0 (by decide) (by decide) Mz zFr.rf (show 0 ≤ (0 : Int) by first | with_reducible assumption | (decide) | assumption) (show (0 : Int) ≤ F_ by first | with_reducible assumption | (exact zo_85) | assumption) (show ∀ k : Nat, (k : Int) < (0 : Int) → Int64.ofInt (zg Mz 96 k) = Int64.ofInt (zmq F_ K_ (zrw F_ Mz 95 (64 * a0_)) k) by exact fun k hk => absurd hk (by (exact zo_131))) (Nat.lt_succ_self _)
set_option maxHeartbeats 4000000 in
theorem c_M_marksOf_97F (l : Launch) (Mz : zMem) (hW : zMt Mz) (a0_ : Int) (ha0_a : -2147483648 ≤ a0_) (ha0_b : a0_ < 2147483648) (F_ : Nat) (K_ : Nat → Nat → Int) (hA_ : zTA F_ K_) (p0_ : zRmk F_ K_ Mz) (p1_ : 0 ≤ a0_) (p2_ : a0_ ≤ 39) : zC l m_M_marksOf 0 0 [.ref 81, .int (Int32.ofInt a0_), .ref 97] Mz (zpV [] [97] Mz (fun N => (∀ k : Nat, k < F_ → Int64.ofInt (zg N 97 k) = Int64.ofInt (zmq F_ K_ (zrw F_ Mz 95 (64 * a0_)) k)))) := by
  refine zC_of (L0 := [some (.ref 81), some (.int (Int32.ofInt a0_)), some (.ref 97), none]) md_M_marksOf (Nat.le_of_ble_eq_true rfl) rfl ?_ zQ0
  have hf : zFr [] [97] Mz Mz := zFr.rf
  have r_26 := ze_r Mz 81 26
  obtain ⟨⟨hF1_, hF27_⟩, hAr_⟩ := id hA_
  obtain ⟨hFc_, hKt_⟩ := id p0_
  refine zw_iconst (pc := 0) (v := Int32.ofInt 0) (by decide) (zdal_p dlC_M_marksOf_121 (i := 0) rfl) ?_
  refine zw_istore_n (pc := 1) (i := 3) (L2 := [some (.ref 81), some (.int (Int32.ofInt a0_)), some (.ref 97), some (.int (Int32.ofInt 0))]) rfl (by decide) rfl (zdal_p dlC_M_marksOf_121 (i := 1) rfl) ?_
  have lp_2 : ∀ (n : Nat) (u1_ : Int) (hu1_a : -2147483648 ≤ u1_) (hu1_b : u1_ < 2147483648) (N2_ : zMem) (hs3_ : zFr [] [97] Mz N2_) (i4_ : 0 ≤ u1_) (i5_ : u1_ ≤ F_) (i6_ : ∀ k : Nat, (k : Int) < u1_ → Int64.ofInt (zg N2_ 97 k) = Int64.ofInt (zmq F_ K_ (zrw F_ Mz 95 (64 * a0_)) k)), (F_ - u1_).toNat < n → zW l m_M_marksOf (zn Mz + 0, zw Mz + 0) N2_ 2 [some (.ref 81), some (.int (Int32.ofInt a0_)), some (.ref 97), some (.int (Int32.ofInt u1_))] [] (zpV [] [97] Mz (fun N => (∀ k : Nat, k < F_ → Int64.ofInt (zg N 97 k) = Int64.ofInt (zmq F_ K_ (zrw F_ Mz 95 (64 * a0_)) k)))) := by
    intro n
    induction n with
    | zero =>
      intro u1_ hu1_a hu1_b N2_ hs3_ i4_ i5_ i6_ h0
      exact absurd h0 (Nat.not_lt_zero _)
    | succ n ih_2 =>
      intro u1_ hu1_a hu1_b N2_ hs3_ i4_ i5_ i6_ hlt_2
      have hf_N2_ : zFr [] [97] Mz N2_ := hf.tr hs3_ (by decide) (by decide)
      have e26_N2_ : ze N2_ 81 26 = ze Mz 81 26 := hs3_.e (by decide)
      have c7_ : zRmk F_ K_ N2_ := zRmk.fr hs3_ p0_ (by decide) (by decide)
      have hmo_ := (show ∀ k : Nat, (k : Int) < u1_ → Int64.ofInt (zg N2_ 97 k) = Int64.ofInt (zmq F_ K_ (zrw F_ Mz 95 (64 * a0_)) k) by first | with_reducible assumption | assumption)
      refine zw_iload_n (pc := 2) (n := 3) (x := Int32.ofInt u1_) rfl (zdal_p dlC_M_marksOf_121 (i := 2) rfl) ?_
      refine zw_aload_n (pc := 3) (n := 0) (x := 81) rfl (zdal_p dlC_M_marksOf_121 (i := 3) rfl) ?_
      refine zr_getI0 hf_N2_ hW (pc := 4) (by decide) f_M_235 rfl (zdal_p dlC_M_marksOf_121 (i := 4) rfl) ?_
      refine zr_icmp_ge (pc := 7) (tgt := 32) ⟨hu1_a, hu1_b⟩ ⟨(ze_r Mz 81 26).1, (ze_r Mz 81 26).2⟩ (by decide) (zdal_p dlC_M_marksOf_121 (i := 5) rfl) (fun hc_7 => ?_) (fun hc_7 => ?_)
      · skip
        exact zr_vret (pc := 32) rfl hf_N2_ (show (∀ k : Nat, k < F_ → Int64.ofInt (zg N2_ 97 k) = Int64.ofInt (zmq F_ K_ (zrw F_ Mz 95 (64 * a0_)) k)) by exact fun k hk => hmo_ k (by (exact zo_110 hF27_ hFc_ hc_7 hk i4_))) (zdal_p dlC_M_marksOf_121 (i := 19) rfl)
      · skip
        refine zw_aload_n (pc := 10) (n := 2) (x := 97) rfl (zdal_p dlC_M_marksOf_121 (i := 6) rfl) ?_
        refine zw_iload_n (pc := 11) (n := 3) (x := Int32.ofInt u1_) rfl (zdal_p dlC_M_marksOf_121 (i := 7) rfl) ?_
        refine zw_aload_n (pc := 12) (n := 0) (x := 81) rfl (zdal_p dlC_M_marksOf_121 (i := 8) rfl) ?_
        refine zw_aload_n (pc := 13) (n := 0) (x := 81) rfl (zdal_p dlC_M_marksOf_121 (i := 9) rfl) ?_
        refine zr_getF (r := 95) (hf_N2_.w hW) (pc := 14) f_M_56 rfl (zh_95 (hf_N2_.w hW)).1 (zdal_p dlC_M_marksOf_121 (i := 10) rfl) ?_
        refine zw_bipush (pc := 17) (v := Int32.ofInt 64) (by decide) (zdal_p dlC_M_marksOf_121 (i := 11) rfl) ?_
        refine zw_iload_n (pc := 19) (n := 1) (x := Int32.ofInt a0_) rfl (zdal_p dlC_M_marksOf_121 (i := 12) rfl) ?_
        refine zr_imul (pc := 20) (zdal_p dlC_M_marksOf_121 (i := 13) rfl) ?_
        refine zw_iload_n (pc := 21) (n := 3) (x := Int32.ofInt u1_) rfl (zdal_p dlC_M_marksOf_121 (i := 14) rfl) ?_
        refine zr_callV (hf_N2_.w hW) hf_N2_.x (pc := 22) [.ref 95, .int (Int32.ofInt (64 * a0_)), .int (Int32.ofInt u1_)] [.int (Int32.ofInt u1_), .ref 97] l_M_264 (c_M_markAt_95F l N2_ (hf_N2_.w hW) (64 * a0_) (by omega) (by omega) u1_ hu1_a hu1_b F_ K_ hA_ c7_ (show 0 ≤ (64 * a0_) by first | with_reducible assumption | (exact zo_2626 p1_) | assumption) (show (64 * a0_) ≤ 2496 by first | with_reducible assumption | assumption | omega) (show 0 ≤ u1_ by first | with_reducible assumption | assumption | omega) (show u1_ < F_ by first | with_reducible assumption | (exact zo_2223 hFc_ hc_7 hu1_b i5_) | assumption)) rfl rfl rfl (by decide) (Nat.le_of_ble_eq_true rfl) (zdal_p dlC_M_marksOf_121 (i := 15) rfl) ?_
        rintro _ N8_ ⟨v9_, rfl, ⟨hv9_a, hv9_b⟩, hsN8_, hp0_N8_⟩
        obtain rfl := hsN8_.eq.symm
        replace hp0_N8_ : Int64.ofInt v9_ = Int64.ofInt (zmq F_ K_ (zrw F_ N2_ 95 (64 * a0_)) (u1_).toNat) := hp0_N8_
        show zW l m_M_marksOf (zn Mz + 0, zw Mz + 0) N2_ 25 [some (.ref 81), some (.int (Int32.ofInt a0_)), some (.ref 97), some (.int (Int32.ofInt u1_))] [.long (Int64.ofInt v9_), .int (Int32.ofInt u1_), .ref 97] _
        have hmk_ := hp0_N8_
        have h95_ : (zrw F_ N2_ 95 (64 * a0_)) = (zrw F_ Mz 95 (64 * a0_)) := zrw_c (fun k _ => hf_N2_.jg (by decide) (by decide) _)
        rw [h95_] at hmk_
        refine zr_last (pc := 25) (zh_97 (hf_N2_.w hW)).2 (by decide) (by decide) (by (exact i4_)) (by (exact zo_70 hF27_ hu1_b i5_)) (zdal_p dlC_M_marksOf_121 (i := 16) rfl) (fun N10_ hN10_ hsN10_ => ?_)
        have hf_N10_ : zFr [] [97] Mz N10_ := hf_N2_.tr hsN10_ (by decide) (by decide)
        have hb0_N10_ : zFr [] [97] Mz N10_ := hs3_.tr hsN10_ (by decide) (by decide)
        have e26_N10_ : ze N10_ 81 26 = ze N2_ 81 26 := hsN10_.e (by decide)
        have hm2_ : ∀ k : Nat, (k : Int) < u1_ + 1 → Int64.ofInt (zg N10_ 97 k) = Int64.ofInt (zmq F_ K_ (zrw F_ Mz 95 (64 * a0_)) k) := fun k hk => by by_cases g_ : (k : Int) = u1_; rw [show k = (u1_).toNat by (exact zo_128 g_ hF27_ hk hu1_b i4_ i5_), zs_getJ hN10_ ⟨by (exact hv9_a), by (exact hv9_b)⟩]; exact hmk_; rw [zs_othJ hN10_ (by (exact zo_148 i4_ g_))]; exact hmo_ k (by (exact zo_130 hk g_))
        refine zr_iinc (pc := 26) (i := 3) (a := u1_) (n := 1) (L2 := [some (.ref 81), some (.int (Int32.ofInt a0_)), some (.ref 97), some (.int (Int32.ofInt (u1_ + 1)))]) rfl (by decide) rfl (zdal_p dlC_M_marksOf_121 (i := 17) rfl) ?_
        refine zw_goto (pc := 29) (tgt := 2) (by decide) (zdal_p dlC_M_marksOf_121 (i := 18) rfl) ?_
        exact ih_2 (u1_ + 1) (by (exact zo_74 i4_)) (by (exact zo_75 hF27_ hu1_b i5_)) N10_ hb0_N10_ (show 0 ≤ (u1_ + 1) by first | with_reducible assumption | (exact zo_76 i4_) | assumption) (show (u1_ + 1) ≤ F_ by first | with_reducible assumption | (exact zo_77 hFc_ hc_7 hu1_b i5_) | assumption) (show ∀ k : Nat, (k : Int) < (u1_ + 1) → Int64.ofInt (zg N10_ 97 k) = Int64.ofInt (zmq F_ K_ (zrw F_ Mz 95 (64 * a0_)) k) by exact hm2_) (by (exact zo_78 hFc_ hc_7 hlt_2 hu1_b i5_))
  exact lp_2 _ 0 (by decide) (by decide) Mz zFr.rf (show 0 ≤ (0 : Int) by first | with_reducible assumption | (decide) | assumption) (show (0 : Int) ≤ F_ by first | with_reducible assumption | (exact zo_85) | assumption) (show ∀ k : Nat, (k : Int) < (0 : Int) → Int64.ofInt (zg Mz 97 k) = Int64.ofInt (zmq F_ K_ (zrw F_ Mz 95 (64 * a0_)) k) by exact fun k hk => absurd hk (by (exact zo_131))) (Nat.lt_succ_self _)
def zr96 (M : zMem) : Nat → Int := fun k => zg M 96 k
theorem zr96_f {S C : List Nat} {M N : zMem} (h : zFr S C M N) (hc : 96 ∉ C) : zr96 N = zr96 M := funext fun k => h.jg (by decide) hc k
def zr95 (M : zMem) : Nat → Int := fun k => zg M 95 k
theorem zr95_f {S C : List Nat} {M N : zMem} (h : zFr S C M N) (hc : 95 ∉ C) : zr95 N = zr95 M := funext fun k => h.jg (by decide) hc k
def zr97 (M : zMem) : Nat → Int := fun k => zg M 97 k
theorem zr97_f {S C : List Nat} {M N : zMem} (h : zFr S C M N) (hc : 97 ∉ C) : zr97 N = zr97 M := funext fun k => h.jg (by decide) hc k
def zFtR (F : Nat) (K : Nat → Nat → Int) (M : zMem) : Prop := ze M 81 39 = 0 → ∀ t : Int, 0 ≤ t → t < ze M 81 38 → zfit F K (zrw F M 95 (64 * t))
section ZR3
variable {F : Nat} {K : Nat → Nat → Int} {M N N1 N2 N3 N4 N5 N6 : zMem} {v w x : Nat → Int} {e : Int}
theorem zmq_x {u : Nat → Int} {y : Int} {k : Nat} (hf : zfit F K u) (hk : k < F) (hy : zn64 y) (h : Int64.ofInt y = Int64.ofInt (zmq F K u k)) : y = zmq F K u k := by
  have h1 := hf k hk
  unfold zLim at h1
  exact z64q hy ⟨by omega, by omega⟩ h
theorem zTw (hA : zTA F K) (e0 : 0 ≤ e) (hf : ze M 81 39 = 0 → zfit F K v ∧ zfit F K w) (hm1 : ∀ k : Nat, k < F → Int64.ofInt (zg N2 96 k) = Int64.ofInt (zmq F K v k)) (hm2 : ∀ k : Nat, k < F → Int64.ofInt (zg N2 97 k) = Int64.ofInt (zmq F K w k)) (h2 : ze N2 81 39 = ze M 81 39) (hmu : zMuI F N2 N3 F) (h496 : ∀ k : Nat, zg N4 96 k = zg N3 96 k) (h495 : ∀ k : Nat, zg N4 95 k = zg M 95 k) (h439 : ze N4 81 39 = ze N3 81 39) (hnum : zNumR F K N4 N5 e) (h539 : ze N5 81 39 = ze N4 81 39) (hlk : zLkd F K e N5 N6) : zAcc F e (zprd F K v w) (zmok F K v w ∧ zfit F K (zprd F K v w)) M N6 := by
  obtain ⟨m1, m2, m3⟩ := hmu
  have hp := zprd_s hA v w
  have hlow : ∀ y : Nat, (y : Int) < e → zg N6 95 y = zg M 95 y := fun y hy => by
    have a1 : zg N6 95 y = zg N5 95 y := by
      rcases hlk with ⟨k1, -, -⟩ | ⟨k1, -, -⟩
      · exact k1 y
      · exact k1 y (by omega)
    rw [a1, hnum.1 y (by omega), h495]
  refine ⟨?_, hlow, fun hM => ?_⟩
  · rcases hlk with ⟨-, k2, -⟩ | ⟨-, k2, -⟩ <;> (clear m3; omega)
  · obtain ⟨fv, fw⟩ := hf hM
    have hx1 : ∀ k : Nat, k < F → zg N2 96 k = zmq F K v k := fun k hk => zmq_x fv hk (zg_r _ _ _) (hm1 k hk)
    have hx2 : ∀ k : Nat, k < F → zg N2 97 k = zmq F K w k := fun k hk => zmq_x fw hk (zg_r _ _ _) (hm2 k hk)
    rcases m3 (by omega) with ⟨a1, a2, a3⟩ | ⟨⟨k, a1, a2⟩, a3⟩
    · have hok : zmok F K v w := fun j hj => by
        have := a1 j (by omega)
        rw [hx1 j hj, hx2 j hj] at this
        exact this
      have hsv : zsvR F K N4 (zprd F K v w) := ⟨fun j hj => by rw [h496, a3 j (by omega), hx1 j hj, hx2 j hj, hp.2 j hj], hA.2.2.2.2.2.1 _ (fun j hj => by rw [hp.2 j hj]; exact hok j hj)⟩
      have h5 : zrw F N5 95 e = zprd F K v w := zrw_v (hnum.2 _ hsv) hp.1
      have hbd := zprd_bd hA hok
      rcases hlk with ⟨k1, k2, k3⟩ | ⟨k1, k2, k3⟩
      · rw [h5] at k3
        refine Or.inl ⟨⟨hok, k3 hbd⟩, by omega, ?_⟩
        rw [← h5]
        exact zrw_c (fun k _ => k1 _)
      · rw [h5] at k3
        exact Or.inr ⟨fun q => k3 hbd q.2, k2⟩
    · refine Or.inr ⟨fun q => a2 ?_, ?_⟩
      · rw [hx1 k (by omega), hx2 k (by omega)]
        exact q.1 k (by omega)
      · rcases hlk with ⟨-, k2, -⟩ | ⟨-, k2, -⟩ <;> omega
theorem zTad {s : Int} (hs : s = 1 ∨ s = -1) (hf : ze M 81 39 = 0 → zfit F K v ∧ zfit F K w) (h : ∀ k : Nat, k < F → Int64.ofInt (zg N 95 (e.toNat + k)) = Int64.ofInt (v k + s * w k)) (hv : ∀ k, F ≤ k → v k = 0) (hw : ∀ k, F ≤ k → w k = 0) : ze M 81 39 = 0 → zrw F N 95 e = (fun k => v k + s * w k) ∧ zbd F K (fun k => v k + s * w k) := fun hM => by
  obtain ⟨fv, fw⟩ := hf hM
  refine ⟨zrw_v (fun k hk => ?_) (fun k hk => by show v k + s * w k = 0; rw [hv k hk, hw k hk, Int.mul_zero]; rfl), zadd_bd hs fv fw⟩
  have h1 := (fv k hk).1
  have h2 := (fw k hk).1
  unfold zLim at h1 h2
  have hsw : s * w k = w k ∨ s * w k = -w k := by
    rcases hs with rfl | rfl
    · exact Or.inl (Int.one_mul _)
    · exact Or.inr (Int.neg_one_mul _)
  exact z64q (zg_r _ _ _) ⟨by omega, by omega⟩ (h k hk)
theorem zTng (hf : zfit F K v) (h : ∀ k : Nat, k < F → Int64.ofInt (zg N 95 (e.toNat + k)) = Int64.ofInt (-(v k))) (hv : ∀ k, F ≤ k → v k = 0) : zrw F N 95 e = fun k => -(v k) :=
  zrw_v (fun k hk => by
    have h1 := (hf k hk).1
    unfold zLim at h1
    exact z64q (zg_r _ _ _) ⟨by omega, by omega⟩ (h k hk)) (fun k hk => by show -(v k) = 0; rw [hv k hk]; rfl)
def zPwR (F : Nat) (K : Nat → Nat → Int) (x : Nat → Int) (e : Int) (M N : zMem) (k : Int) : Prop := (ze N 81 39 = ze M 81 39 ∨ ze N 81 39 = 1) ∧ (∀ y : Nat, (y : Int) < e → zg N 95 y = zg M 95 y) ∧ (ze M 81 39 = 0 → ((∀ j : Nat, j < F → zg N 97 j = zmq F K x j) ∧ ((∃ u, zpw F K x k.toNat = some u ∧ ze N 81 39 = 0 ∧ zfit F K u ∧ (∀ j, F ≤ j → u j = 0) ∧ (∀ j : Nat, j < F → zg N 96 j = zmq F K u j) ∧ (1 ≤ k → zrw F N 95 e = u)) ∨ (zpw F K x k.toNat = none ∧ ze N 81 39 = 1))))
theorem zPwR_0 (hA : zTA F K) (h39 : ze N 81 39 = ze M 81 39) (h95 : ∀ y : Nat, zg N 95 y = zg M 95 y) (hf : ze M 81 39 = 0 → zfit F K x) (h97 : ∀ j : Nat, j < F → Int64.ofInt (zg N 97 j) = Int64.ofInt (zmq F K x j)) (h96 : ∀ j : Nat, j < F → zg N 96 j = 1) : zPwR F K x e M N 0 := by
  have hF := hA.1
  refine ⟨Or.inl h39, fun y _ => h95 y, fun hM => ⟨fun j hj => zmq_x (hf hM) hj (zg_r _ _ _) (h97 j hj), Or.inl ⟨zone ((F : Int) - 1) 1, rfl, by omega, zone_fit hA (by omega) (by omega) (by omega) (by omega), fun j hj => ?_, fun j hj => ?_, fun h => absurd h (by omega)⟩⟩⟩
  · unfold zone
    rw [if_neg (by omega)]
  · rw [h96 j hj, zone_mq (by omega) (by omega), Int.one_mul, show ((F : Int) - 1).toNat = F - 1 by omega]
    exact (hA.2.2.2.2.2.2 j hj).symm
theorem zPwR_b {k : Int} (h : zPwR F K x e M N k) (hf : ze M 81 39 = 0 → zfit F K x) (hN : ze N 81 39 = 0) (h1 : ze N 81 39 = ze M 81 39 → ze M 81 39 = 0) : ∀ j : Nat, j < F → zIn (zg N 96 j) ∧ zIn (zg N 97 j) := by
  obtain ⟨a1, a2, a3⟩ := h
  have hM : ze M 81 39 = 0 := by omega
  obtain ⟨b1, b2⟩ := a3 hM
  rcases b2 with ⟨u, c1, c2, c3, c4, c5, c6⟩ | ⟨c1, c2⟩
  · intro j hj
    rw [b1 j hj, c5 j hj]
    exact ⟨(c3 j hj).2, (hf hM j hj).2⟩
  · omega
theorem zPwR_s (hA : zTA F K) {k : Int} (k0 : 0 ≤ k) (e0 : 0 ≤ e) (hf : ze M 81 39 = 0 → zfit F K x) (h : zPwR F K x e M N k) (hmu : zMuI F N N1 F) (h197 : ∀ j : Nat, zg N1 97 j = zg N 97 j) (h195 : ∀ j : Nat, zg N1 95 j = zg N 95 j) (hnum : zNumR F K N1 N2 e) (h239 : ze N2 81 39 = ze N1 81 39) (h296 : ∀ j : Nat, zg N2 96 j = zg N1 96 j) (h297 : ∀ j : Nat, zg N2 97 j = zg N1 97 j) (hlk : zLkd F K e N2 N3) (h396 : ∀ j : Nat, zg N3 96 j = zg N2 96 j) (h397 : ∀ j : Nat, zg N3 97 j = zg N2 97 j) : zPwR F K x e M N3 (k + 1) := by
  obtain ⟨a1, a2, a3⟩ := h
  obtain ⟨m1, m2, m3⟩ := hmu
  have hz : zpw F K x (k + 1).toNat = (match zpw F K x k.toNat with | none => none | some v => zif (zmok F K v x ∧ zfit F K (zprd F K v x)) (some (zprd F K v x)) none) := by
    rw [show (k + 1).toNat = k.toNat + 1 by omega]
    rfl
  refine ⟨?_, fun y hy => ?_, fun hM => ?_⟩
  · rcases hlk with ⟨-, k2, -⟩ | ⟨-, k2, -⟩ <;> (clear m3; omega)
  · have b1 : zg N3 95 y = zg N2 95 y := by
      rcases hlk with ⟨k1, -, -⟩ | ⟨k1, -, -⟩
      · exact k1 y
      · exact k1 y (by omega)
    rw [b1, hnum.1 y (by omega), h195, a2 y hy]
  · obtain ⟨b1, b2⟩ := a3 hM
    have hx := hf hM
    refine ⟨fun j hj => by rw [h397, h297, h197, b1 j hj], ?_⟩
    rcases b2 with ⟨u, c1, c2, c3, c4, c5, c6⟩ | ⟨c1, c2⟩
    · rw [hz, c1]
      have hp := zprd_s hA u x
      rcases m3 c2 with ⟨d1, d2, d3⟩ | ⟨⟨q, d1, d2⟩, d3⟩
      · have hok : zmok F K u x := fun j hj => by
          have := d1 j (by omega)
          rw [c5 j hj, b1 j hj] at this
          exact this
        have h96 : ∀ j : Nat, j < F → zg N1 96 j = zmq F K (zprd F K u x) j := fun j hj => by rw [d3 j (by omega), c5 j hj, b1 j hj, hp.2 j hj]
        have hsv : zsvR F K N1 (zprd F K u x) := ⟨h96, hA.2.2.2.2.2.1 _ (fun j hj => by rw [hp.2 j hj]; exact hok j hj)⟩
        have h5 : zrw F N2 95 e = zprd F K u x := zrw_v (hnum.2 _ hsv) hp.1
        have hbd := zprd_bd hA hok
        rcases hlk with ⟨k1, k2, k3⟩ | ⟨k1, k2, k3⟩
        · rw [h5] at k3
          refine Or.inl ⟨zprd F K u x, zif_t ⟨hok, k3 hbd⟩, by omega, k3 hbd, hp.1, fun j hj => by rw [h396, h296, h96 j hj], fun _ => ?_⟩
          rw [← h5]
          exact zrw_c (fun k _ => k1 _)
        · rw [h5] at k3
          exact Or.inr ⟨zif_f (fun q => k3 hbd q.2), k2⟩
      · refine Or.inr ⟨zif_f (fun z => d2 ?_), ?_⟩
        · rw [c5 q (by omega), b1 q (by omega)]
          exact z.1 q (by omega)
        · rcases hlk with ⟨-, k2, -⟩ | ⟨-, k2, -⟩ <;> omega
    · rw [hz, c1]
      refine Or.inr ⟨rfl, ?_⟩
      rcases hlk with ⟨-, k2, -⟩ | ⟨-, k2, -⟩ <;> (clear m3; omega)
def zPwE (F : Nat) (K : Nat → Nat → Int) (x : Nat → Int) (e : Int) (M N : zMem) (k : Int) : Prop := (ze N 81 39 = ze M 81 39 ∨ ze N 81 39 = 1) ∧ (∀ y : Nat, (y : Int) < e → zg N 95 y = zg M 95 y) ∧ (ze M 81 39 = 0 → ((∃ u, zpw F K x k.toNat = some u ∧ ze N 81 39 = 0 ∧ zfit F K u ∧ zrw F N 95 e = u) ∨ (zpw F K x k.toNat = none ∧ ze N 81 39 = 1)))
theorem zPwE_1 {k : Int} (h : zPwR F K x e M N k) (hk : 1 ≤ k) : zPwE F K x e M N k := by
  obtain ⟨a1, a2, a3⟩ := h
  refine ⟨a1, a2, fun hM => ?_⟩
  rcases (a3 hM).2 with ⟨u, c1, c2, c3, c4, c5, c6⟩ | c
  · exact Or.inl ⟨u, c1, c2, c3, c6 hk⟩
  · exact Or.inr c
theorem zPwE_0 (hA : zTA F K) (e0 : 0 ≤ e) (h : zPwR F K x e M N 0) (hnum : zNumR F K N N1 e) (h39 : ze N1 81 39 = ze N 81 39) : zPwE F K x e M N1 0 := by
  obtain ⟨a1, a2, a3⟩ := h
  refine ⟨by omega, fun y hy => by rw [hnum.1 y (by omega)]; exact a2 y hy, fun hM => ?_⟩
  rcases (a3 hM).2 with ⟨u, c1, c2, c3, c4, c5, c6⟩ | ⟨c1, c2⟩
  · have hsv : zsvR F K N u := ⟨c5, hA.2.2.2.2.2.1 _ (fun j hj => (c3 j hj).2)⟩
    exact Or.inl ⟨u, c1, by omega, c3, zrw_v (hnum.2 _ hsv) c4⟩
  · exact Or.inr ⟨c1, by omega⟩
end ZR3
