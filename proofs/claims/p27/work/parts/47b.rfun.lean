set_option maxHeartbeats 4000000 in
theorem c_M_isSignF (l : Launch) (Mz : zMem) (hW : zMt Mz) (a0_ : Int) (ha0_a : -2147483648 ≤ a0_) (ha0_b : a0_ < 2147483648) : zC l m_M_isSign 0 0 [.int (Int32.ofInt a0_)] Mz (zpI [] [] Mz (fun v N => (((v = 1 ∧ zpS a0_ = true) ∨ (v = 0 ∧ zpS a0_ = false))))) := by
  refine zC_of (L0 := [some (.int (Int32.ofInt a0_))]) md_M_isSign (Nat.le_of_ble_eq_true rfl) rfl ?_ zQ0
  have hf : zFr [] [] Mz Mz := zFr.rf
  refine zw_iload_n (pc := 0) (n := 0) (x := Int32.ofInt a0_) rfl (zdal_p dlC_M_isSign_69 (i := 0) rfl) ?_
  refine zw_bipush (pc := 1) (v := Int32.ofInt 61) (by decide) (zdal_p dlC_M_isSign_69 (i := 1) rfl) ?_
  refine zr_icmp_eq (pc := 3) (tgt := 48) ⟨ha0_a, ha0_b⟩ ⟨(by decide), (by decide)⟩ (by decide) (zdal_p dlC_M_isSign_69 (i := 2) rfl) (fun hc_3 => ?_) (fun hc_3 => ?_)
  · skip
    refine zw_iconst (pc := 48) (v := Int32.ofInt 1) (by decide) d_M_isSign_48 ?_
    refine zw_goto (pc := 49) (tgt := 53) (by decide) d_M_isSign_49 ?_
    exact zr_iret (pc := 53) (ty := .boolean) rfl (z_narB (by (decide))) ⟨by (decide), by (decide)⟩ hf (show ((1 = 1 ∧ zpS a0_ = true) ∨ (1 = 0 ∧ zpS a0_ = false)) from Or.inl (⟨(show 1 = 1 by first | rfl | exact zpS_t.mpr (by omega)), (show zpS a0_ = true by first | rfl | exact zpS_t.mpr (by omega))⟩)) d_M_isSign_53
  · skip
    refine zw_iload_n (pc := 6) (n := 0) (x := Int32.ofInt a0_) rfl (zdal_p dlC_M_isSign_69 (i := 3) rfl) ?_
    refine zw_bipush (pc := 7) (v := Int32.ofInt 43) (by decide) (zdal_p dlC_M_isSign_69 (i := 4) rfl) ?_
    refine zr_icmp_eq (pc := 9) (tgt := 48) ⟨ha0_a, ha0_b⟩ ⟨(by decide), (by decide)⟩ (by decide) (zdal_p dlC_M_isSign_69 (i := 5) rfl) (fun hc_9 => ?_) (fun hc_9 => ?_)
    · skip
      refine zw_iconst (pc := 48) (v := Int32.ofInt 1) (by decide) d_M_isSign_48 ?_
      refine zw_goto (pc := 49) (tgt := 53) (by decide) d_M_isSign_49 ?_
      exact zr_iret (pc := 53) (ty := .boolean) rfl (z_narB (by (decide))) ⟨by (decide), by (decide)⟩ hf (show ((1 = 1 ∧ zpS a0_ = true) ∨ (1 = 0 ∧ zpS a0_ = false)) from Or.inl (⟨(show 1 = 1 by first | rfl | exact zpS_t.mpr (by omega)), (show zpS a0_ = true by first | rfl | exact zpS_t.mpr (by omega))⟩)) d_M_isSign_53
    · skip
      refine zw_iload_n (pc := 12) (n := 0) (x := Int32.ofInt a0_) rfl (zdal_p dlC_M_isSign_69 (i := 6) rfl) ?_
      refine zw_bipush (pc := 13) (v := Int32.ofInt 42) (by decide) (zdal_p dlC_M_isSign_69 (i := 7) rfl) ?_
      refine zr_icmp_eq (pc := 15) (tgt := 48) ⟨ha0_a, ha0_b⟩ ⟨(by decide), (by decide)⟩ (by decide) (zdal_p dlC_M_isSign_69 (i := 8) rfl) (fun hc_15 => ?_) (fun hc_15 => ?_)
      · skip
        refine zw_iconst (pc := 48) (v := Int32.ofInt 1) (by decide) d_M_isSign_48 ?_
        refine zw_goto (pc := 49) (tgt := 53) (by decide) d_M_isSign_49 ?_
        exact zr_iret (pc := 53) (ty := .boolean) rfl (z_narB (by (decide))) ⟨by (decide), by (decide)⟩ hf (show ((1 = 1 ∧ zpS a0_ = true) ∨ (1 = 0 ∧ zpS a0_ = false)) from Or.inl (⟨(show 1 = 1 by first | rfl | exact zpS_t.mpr (by omega)), (show zpS a0_ = true by first | rfl | exact zpS_t.mpr (by omega))⟩)) d_M_isSign_53
      · skip
        refine zw_iload_n (pc := 18) (n := 0) (x := Int32.ofInt a0_) rfl (zdal_p dlC_M_isSign_69 (i := 9) rfl) ?_
        refine zw_bipush (pc := 19) (v := Int32.ofInt 45) (by decide) (zdal_p dlC_M_isSign_69 (i := 10) rfl) ?_
        refine zr_icmp_eq (pc := 21) (tgt := 48) ⟨ha0_a, ha0_b⟩ ⟨(by decide), (by decide)⟩ (by decide) (zdal_p dlC_M_isSign_69 (i := 11) rfl) (fun hc_21 => ?_) (fun hc_21 => ?_)
        · skip
          refine zw_iconst (pc := 48) (v := Int32.ofInt 1) (by decide) d_M_isSign_48 ?_
          refine zw_goto (pc := 49) (tgt := 53) (by decide) d_M_isSign_49 ?_
          exact zr_iret (pc := 53) (ty := .boolean) rfl (z_narB (by (decide))) ⟨by (decide), by (decide)⟩ hf (show ((1 = 1 ∧ zpS a0_ = true) ∨ (1 = 0 ∧ zpS a0_ = false)) from Or.inl (⟨(show 1 = 1 by first | rfl | exact zpS_t.mpr (by omega)), (show zpS a0_ = true by first | rfl | exact zpS_t.mpr (by omega))⟩)) d_M_isSign_53
        · skip
          refine zw_iload_n (pc := 24) (n := 0) (x := Int32.ofInt a0_) rfl (zdal_p dlC_M_isSign_69 (i := 12) rfl) ?_
          refine zw_bipush (pc := 25) (v := Int32.ofInt 94) (by decide) (zdal_p dlC_M_isSign_69 (i := 13) rfl) ?_
          refine zr_icmp_eq (pc := 27) (tgt := 48) ⟨ha0_a, ha0_b⟩ ⟨(by decide), (by decide)⟩ (by decide) (zdal_p dlC_M_isSign_69 (i := 14) rfl) (fun hc_27 => ?_) (fun hc_27 => ?_)
          · skip
            refine zw_iconst (pc := 48) (v := Int32.ofInt 1) (by decide) d_M_isSign_48 ?_
            refine zw_goto (pc := 49) (tgt := 53) (by decide) d_M_isSign_49 ?_
            exact zr_iret (pc := 53) (ty := .boolean) rfl (z_narB (by (decide))) ⟨by (decide), by (decide)⟩ hf (show ((1 = 1 ∧ zpS a0_ = true) ∨ (1 = 0 ∧ zpS a0_ = false)) from Or.inl (⟨(show 1 = 1 by first | rfl | exact zpS_t.mpr (by omega)), (show zpS a0_ = true by first | rfl | exact zpS_t.mpr (by omega))⟩)) d_M_isSign_53
          · skip
            refine zw_iload_n (pc := 30) (n := 0) (x := Int32.ofInt a0_) rfl (zdal_p dlC_M_isSign_69 (i := 15) rfl) ?_
            refine zw_bipush (pc := 31) (v := Int32.ofInt 40) (by decide) (zdal_p dlC_M_isSign_69 (i := 16) rfl) ?_
            refine zr_icmp_eq (pc := 33) (tgt := 48) ⟨ha0_a, ha0_b⟩ ⟨(by decide), (by decide)⟩ (by decide) (zdal_p dlC_M_isSign_69 (i := 17) rfl) (fun hc_33 => ?_) (fun hc_33 => ?_)
            · skip
              refine zw_iconst (pc := 48) (v := Int32.ofInt 1) (by decide) d_M_isSign_48 ?_
              refine zw_goto (pc := 49) (tgt := 53) (by decide) d_M_isSign_49 ?_
              exact zr_iret (pc := 53) (ty := .boolean) rfl (z_narB (by (decide))) ⟨by (decide), by (decide)⟩ hf (show ((1 = 1 ∧ zpS a0_ = true) ∨ (1 = 0 ∧ zpS a0_ = false)) from Or.inl (⟨(show 1 = 1 by first | rfl | exact zpS_t.mpr (by omega)), (show zpS a0_ = true by first | rfl | exact zpS_t.mpr (by omega))⟩)) d_M_isSign_53
            · skip
              refine zw_iload_n (pc := 36) (n := 0) (x := Int32.ofInt a0_) rfl (zdal_p dlC_M_isSign_69 (i := 18) rfl) ?_
              refine zw_bipush (pc := 37) (v := Int32.ofInt 41) (by decide) (zdal_p dlC_M_isSign_69 (i := 19) rfl) ?_
              refine zr_icmp_eq (pc := 39) (tgt := 48) ⟨ha0_a, ha0_b⟩ ⟨(by decide), (by decide)⟩ (by decide) (zdal_p dlC_M_isSign_69 (i := 20) rfl) (fun hc_39 => ?_) (fun hc_39 => ?_)
              · skip
                refine zw_iconst (pc := 48) (v := Int32.ofInt 1) (by decide) d_M_isSign_48 ?_
                refine zw_goto (pc := 49) (tgt := 53) (by decide) d_M_isSign_49 ?_
                exact zr_iret (pc := 53) (ty := .boolean) rfl (z_narB (by (decide))) ⟨by (decide), by (decide)⟩ hf (show ((1 = 1 ∧ zpS a0_ = true) ∨ (1 = 0 ∧ zpS a0_ = false)) from Or.inl (⟨(show 1 = 1 by first | rfl | exact zpS_t.mpr (by omega)), (show zpS a0_ = true by first | rfl | exact zpS_t.mpr (by omega))⟩)) d_M_isSign_53
              · skip
                refine zw_iload_n (pc := 42) (n := 0) (x := Int32.ofInt a0_) rfl (zdal_p dlC_M_isSign_69 (i := 21) rfl) ?_
                refine zw_bipush (pc := 43) (v := Int32.ofInt 59) (by decide) (zdal_p dlC_M_isSign_69 (i := 22) rfl) ?_
                refine zr_icmp_ne (pc := 45) (tgt := 52) ⟨ha0_a, ha0_b⟩ ⟨(by decide), (by decide)⟩ (by decide) (zdal_p dlC_M_isSign_69 (i := 23) rfl) (fun hc_45 => ?_) (fun hc_45 => ?_)
                · skip
                  refine zw_iconst (pc := 52) (v := Int32.ofInt 0) (by decide) (zdal_p dlC_M_isSign_70 (i := 2) rfl) ?_
                  exact zr_iret (pc := 53) (ty := .boolean) rfl (z_narB (by (decide))) ⟨by (decide), by (decide)⟩ hf (show ((0 = 1 ∧ zpS a0_ = true) ∨ (0 = 0 ∧ zpS a0_ = false)) from Or.inr (⟨(show 0 = 0 by first | rfl | exact Bool.eq_false_iff.mpr (fun h => by have := zpS_t.mp h; omega)), (show zpS a0_ = false by first | rfl | exact Bool.eq_false_iff.mpr (fun h => by have := zpS_t.mp h; omega))⟩)) d_M_isSign_53
                · skip
                  refine zw_iconst (pc := 48) (v := Int32.ofInt 1) (by decide) d_M_isSign_48 ?_
                  refine zw_goto (pc := 49) (tgt := 53) (by decide) d_M_isSign_49 ?_
                  exact zr_iret (pc := 53) (ty := .boolean) rfl (z_narB (by (decide))) ⟨by (decide), by (decide)⟩ hf (show ((1 = 1 ∧ zpS a0_ = true) ∨ (1 = 0 ∧ zpS a0_ = false)) from Or.inl (⟨(show 1 = 1 by first | rfl | exact zpS_t.mpr (by omega)), (show zpS a0_ = true by first | rfl | exact zpS_t.mpr (by omega))⟩)) d_M_isSign_53
set_option maxHeartbeats 4000000 in
theorem c_M_goOnF (l : Launch) (Mz : zMem) (hW : zMt Mz) (b_ : Nat → Int) (n_ : Nat) (p0_ : zRb b_ n_ Mz) (p1_ : 0 ≤ ze Mz 81 3) (p2_ : ze Mz 81 3 ≤ n_) : zC l m_M_goOn 0 0 [.ref 81] Mz (zpV [3, 4, 5, 6, 11] [] Mz (fun N => ze N 81 4 = (zru zpB b_ n_ (ze Mz 81 3).toNat : Nat) ∧ zRt b_ n_ N)) := by
  refine zC_of (L0 := [some (.ref 81), none, none]) md_M_goOn (Nat.le_of_ble_eq_true rfl) rfl ?_ zQ0
  have hf : zFr [3, 4, 5, 6, 11] [] Mz Mz := zFr.rf
  have r_2 := ze_r Mz 81 2
  have r_3 := ze_r Mz 81 3
  have r_4 := ze_r Mz 81 4
  have r_5 := ze_r Mz 81 5
  have r_6 := ze_r Mz 81 6
  obtain ⟨hn_, hn7_, hB_, hb_⟩ := id p0_
  have lp_0 : ∀ (n : Nat) (N1_ : zMem) (hs2_ : zFr [3] [] Mz N1_) (i3_ : 0 ≤ ze N1_ 81 3) (i4_ : ze N1_ 81 3 ≤ n_) (i5_ : zru zpB b_ n_ (ze N1_ 81 3).toNat = zru zpB b_ n_ (ze Mz 81 3).toNat), (n_ - ze N1_ 81 3).toNat < n → zW l m_M_goOn (zn Mz + 0, zw Mz + 0) N1_ 0 [some (.ref 81), none, none] [] (zpV [3, 4, 5, 6, 11] [] Mz (fun N => ze N 81 4 = (zru zpB b_ n_ (ze Mz 81 3).toNat : Nat) ∧ zRt b_ n_ N)) := by
    intro n
    induction n with
    | zero =>
      intro N1_ hs2_ i3_ i4_ i5_ h0
      exact absurd h0 (Nat.not_lt_zero _)
    | succ n ih_0 =>
      intro N1_ hs2_ i3_ i4_ i5_ hlt_0
      have hf_N1_ : zFr [3, 4, 5, 6, 11] [] Mz N1_ := hf.tr hs2_ (by decide) (by decide)
      have e2_N1_ : ze N1_ 81 2 = ze Mz 81 2 := hs2_.e (by decide)
      have r3_N1_ := ze_r N1_ 81 3
      have e4_N1_ : ze N1_ 81 4 = ze Mz 81 4 := hs2_.e (by decide)
      have e5_N1_ : ze N1_ 81 5 = ze Mz 81 5 := hs2_.e (by decide)
      have e6_N1_ : ze N1_ 81 6 = ze Mz 81 6 := hs2_.e (by decide)
      have c6_ : zRb b_ n_ N1_ := zRb.fr hs2_ p0_ (by decide) (by decide)
      have hh_ := c6_.h (k := 0) (by (exact zo_158 i3_))
      refine zw_aload_n (pc := 0) (n := 0) (x := 81) rfl (zdal_p dlC_M_goOn_60 (i := 0) rfl) ?_
      refine zw_iconst (pc := 1) (v := Int32.ofInt 0) (by decide) (zdal_p dlC_M_goOn_60 (i := 1) rfl) ?_
      refine zr_callV (hf_N1_.w hW) hf_N1_.x (pc := 2) [.int (Int32.ofInt 0)] [] l_M_141 (c_M_here l N1_ (hf_N1_.w hW) 0 (by decide) (by decide) (show 0 ≤ ze N1_ 81 3 + 0 by first | assumption | (exact zo_158 i3_)) (show ze N1_ 81 3 ≤ 700 by first | assumption | (exact zo_159 hn7_ i4_ r3_N1_.2)) (show 0 ≤ 1000 by first | assumption | (decide)) (show ze N1_ 81 2 ≤ 700 by first | assumption | (exact zo_160 e2_N1_ hn7_ hn_ r_2.2))) rfl rfl rfl (by decide) (Nat.le_of_ble_eq_true rfl) (zdal_p dlC_M_goOn_60 (i := 2) rfl) ?_
      rintro _ N7_ ⟨v8_, rfl, ⟨hv8_a, hv8_b⟩, hsN7_, ⟨hp0_N7_, hp1_N7_⟩⟩
      obtain rfl := hsN7_.eq.symm
      show zW l m_M_goOn (zn Mz + 0, zw Mz + 0) N1_ 5 [some (.ref 81), none, none] [.int (Int32.ofInt v8_)] _
      refine zw_bipush (pc := 5) (v := Int32.ofInt 32) (by decide) (zdal_p dlC_M_goOn_60 (i := 3) rfl) ?_
      refine zr_icmp_eq (pc := 7) (tgt := 20) ⟨hv8_a, hv8_b⟩ ⟨(by decide), (by decide)⟩ (by decide) (zdal_p dlC_M_goOn_60 (i := 4) rfl) (fun hc_7 => ?_) (fun hc_7 => ?_)
      · skip
        have hbl_ : zhr N1_ 0 = 32 ∨ zhr N1_ 0 = 10 := by (exact zo_161 hc_7 hp1_N7_)
        refine zw_aload_n (pc := 20) (n := 0) (x := 81) rfl (zdal_p dlC_M_goOn_60 (i := 10) rfl) ?_
        refine zw_dup (pc := 21) rfl (zdal_p dlC_M_goOn_60 (i := 11) rfl) ?_
        refine zr_getI (hf_N1_.w hW) (pc := 22) f_M_135 rfl (zdal_p dlC_M_goOn_60 (i := 12) rfl) ?_
        refine zw_iconst (pc := 25) (v := Int32.ofInt 1) (by decide) (zdal_p dlC_M_goOn_60 (i := 13) rfl) ?_
        refine zr_iadd (pc := 26) (zdal_p dlC_M_goOn_60 (i := 14) rfl) ?_
        refine zr_putI (hf_N1_.w hW) (pc := 27) f_M_135 rfl rfl ⟨by (exact zo_74 i3_), by (exact zo_162 hn7_ i4_ r3_N1_.2)⟩ rfl rfl (zdal_p dlC_M_goOn_60 (i := 15) rfl) (fun N9_ hsN9_ hvN9_ => ?_)
        have hf_N9_ : zFr [3, 4, 5, 6, 11] [] Mz N9_ := hf_N1_.tr hsN9_ (by decide) (by decide)
        have hb0_N9_ : zFr [3] [] Mz N9_ := hs2_.tr hsN9_ (by decide) (by decide)
        have e2_N9_ : ze N9_ 81 2 = ze N1_ 81 2 := hsN9_.e (by decide)
        have r3_N9_ := ze_r N9_ 81 3
        have e4_N9_ : ze N9_ 81 4 = ze N1_ 81 4 := hsN9_.e (by decide)
        have e5_N9_ : ze N9_ 81 5 = ze N1_ 81 5 := hsN9_.e (by decide)
        have e6_N9_ : ze N9_ 81 6 = ze N1_ 81 6 := hsN9_.e (by decide)
        have c10_ : zRb b_ n_ N9_ := zRb.fr hsN9_ c6_ (by decide) (by decide)
        refine zw_goto (pc := 30) (tgt := 0) (by decide) (zdal_p dlC_M_goOn_60 (i := 16) rfl) ?_
        exact ih_0 N9_ hb0_N9_ (show 0 ≤ ze N9_ 81 3 by first | assumption | (exact zo_163 hvN9_ i3_ r3_N9_.1)) (show ze N9_ 81 3 ≤ n_ by first | assumption | omega) (show zru zpB b_ n_ (ze N9_ 81 3).toNat = zru zpB b_ n_ (ze Mz 81 3).toNat by rw [show ze N9_ 81 3 = ze N1_ 81 3 + 1 by (exact hvN9_)]; rcases hh_ with ⟨q1_, q2_, q3_, q4_⟩ | ⟨q1_, q2_⟩; exact zru_step (P := zpB) (v := zhr N1_ 0) (by (exact i3_)) (by (exact zo_164 q1_ r3_N1_.2)) (by rw [q2_, Int.add_zero]) (zpB_t.mpr hbl_) (by assumption); exfalso; (exact zo_165 hc_7 hp1_N7_ q2_)) (by omega)
      · skip
        refine zw_aload_n (pc := 10) (n := 0) (x := 81) rfl (zdal_p dlC_M_goOn_60 (i := 5) rfl) ?_
        refine zw_iconst (pc := 11) (v := Int32.ofInt 0) (by decide) (zdal_p dlC_M_goOn_60 (i := 6) rfl) ?_
        refine zr_callV (hf_N1_.w hW) hf_N1_.x (pc := 12) [.int (Int32.ofInt 0)] [] l_M_141 (c_M_here l N1_ (hf_N1_.w hW) 0 (by decide) (by decide) (show 0 ≤ ze N1_ 81 3 + 0 by first | assumption | (exact zo_158 i3_)) (show ze N1_ 81 3 ≤ 700 by first | assumption | (exact zo_159 hn7_ i4_ r3_N1_.2)) (show 0 ≤ 1000 by first | assumption | (decide)) (show ze N1_ 81 2 ≤ 700 by first | assumption | (exact zo_160 e2_N1_ hn7_ hn_ r_2.2))) rfl rfl rfl (by decide) (Nat.le_of_ble_eq_true rfl) (zdal_p dlC_M_goOn_60 (i := 7) rfl) ?_
        rintro _ N11_ ⟨v12_, rfl, ⟨hv12_a, hv12_b⟩, hsN11_, ⟨hp0_N11_, hp1_N11_⟩⟩
        obtain rfl := hsN11_.eq.symm
        show zW l m_M_goOn (zn Mz + 0, zw Mz + 0) N1_ 15 [some (.ref 81), none, none] [.int (Int32.ofInt v12_)] _
        refine zw_bipush (pc := 15) (v := Int32.ofInt 10) (by decide) (zdal_p dlC_M_goOn_60 (i := 8) rfl) ?_
        refine zr_icmp_ne (pc := 17) (tgt := 33) ⟨hv12_a, hv12_b⟩ ⟨(by decide), (by decide)⟩ (by decide) (zdal_p dlC_M_goOn_60 (i := 9) rfl) (fun hc_17 => ?_) (fun hc_17 => ?_)
        · skip
          have hst_ : ze N1_ 81 3 = (zru zpB b_ n_ (ze Mz 81 3).toNat : Nat) := by rcases hh_ with ⟨q1_, q2_, q3_, q4_⟩ | ⟨q1_, q2_⟩; exact zru_stop (P := zpB) (b := b_) (n := n_) (v := zhr N1_ 0) (by (exact i3_)) (Or.inr ⟨by rw [q2_, Int.add_zero], Bool.eq_false_iff.mpr (fun h_ => by have := zpB_t.mp h_; omega)⟩) (by assumption); exact zru_stop (P := zpB) (b := b_) (n := n_) (v := 0) (by (exact i3_)) (Or.inl (by (exact zo_166 q1_))) (by assumption)
          obtain ⟨s_, hs_⟩ : ∃ s : Nat, (s : Int) = ze N1_ 81 3 := ⟨(ze N1_ 81 3).toNat, by (exact zo_167 i3_)⟩
          refine zw_aload_n (pc := 33) (n := 0) (x := 81) rfl (zdal_p dlC_M_goOn_60 (i := 17) rfl) ?_
          refine zw_aload_n (pc := 34) (n := 0) (x := 81) rfl (zdal_p dlC_M_goOn_60 (i := 18) rfl) ?_
          refine zr_getI (hf_N1_.w hW) (pc := 35) f_M_135 rfl (zdal_p dlC_M_goOn_60 (i := 19) rfl) ?_
          refine zr_putI (hf_N1_.w hW) (pc := 38) f_M_145 rfl rfl ⟨by (exact zo_168 i3_), by (exact zo_169 hn7_ i4_ r3_N1_.2)⟩ rfl rfl (zdal_p dlC_M_goOn_60 (i := 20) rfl) (fun N13_ hsN13_ hvN13_ => ?_)
          have hf_N13_ : zFr [3, 4, 5, 6, 11] [] Mz N13_ := hf_N1_.tr hsN13_ (by decide) (by decide)
          have e2_N13_ : ze N13_ 81 2 = ze N1_ 81 2 := hsN13_.e (by decide)
          have e3_N13_ : ze N13_ 81 3 = ze N1_ 81 3 := hsN13_.e (by decide)
          have r4_N13_ := ze_r N13_ 81 4
          have e5_N13_ : ze N13_ 81 5 = ze N1_ 81 5 := hsN13_.e (by decide)
          have e6_N13_ : ze N13_ 81 6 = ze N1_ 81 6 := hsN13_.e (by decide)
          have c14_ : zRb b_ n_ N13_ := zRb.fr hsN13_ c6_ (by decide) (by decide)
          refine zw_aload_n (pc := 41) (n := 0) (x := 81) rfl (zdal_p dlC_M_goOn_60 (i := 21) rfl) ?_
          refine zw_lconst (pc := 42) (v := Int64.ofInt 0) (by decide) (zdal_p dlC_M_goOn_60 (i := 22) rfl) ?_
          refine zr_putJ (hf_N13_.w hW) (pc := 43) f_M_148 rfl rfl rfl rfl (zdal_p dlC_M_goOn_60 (i := 23) rfl) (fun N15_ hsN15_ hvN15_ => ?_)
          have hf_N15_ : zFr [3, 4, 5, 6, 11] [] Mz N15_ := hf_N13_.tr hsN15_ (by decide) (by decide)
          have e2_N15_ : ze N15_ 81 2 = ze N13_ 81 2 := hsN15_.e (by decide)
          have e3_N15_ : ze N15_ 81 3 = ze N13_ 81 3 := hsN15_.e (by decide)
          have e4_N15_ : ze N15_ 81 4 = ze N13_ 81 4 := hsN15_.e (by decide)
          have e5_N15_ : ze N15_ 81 5 = ze N13_ 81 5 := hsN15_.e (by decide)
          have e6_N15_ : ze N15_ 81 6 = ze N13_ 81 6 := hsN15_.e (by decide)
          have c16_ : zRb b_ n_ N15_ := zRb.fr hsN15_ c14_ (by decide) (by decide)
          have hv00_ : zg N15_ 81 11 = 0 := hvN15_ ⟨by (decide), by (decide)⟩
          refine zw_aload_n (pc := 46) (n := 0) (x := 81) rfl (zdal_p dlC_M_goOn_61 (i := 0) rfl) ?_
          refine zw_iconst (pc := 47) (v := Int32.ofInt 0) (by decide) (zdal_p dlC_M_goOn_61 (i := 1) rfl) ?_
          refine zr_putI (hf_N15_.w hW) (pc := 48) f_M_152 rfl rfl ⟨by (decide), by (decide)⟩ rfl rfl (zdal_p dlC_M_goOn_61 (i := 2) rfl) (fun N17_ hsN17_ hvN17_ => ?_)
          have hf_N17_ : zFr [3, 4, 5, 6, 11] [] Mz N17_ := hf_N15_.tr hsN17_ (by decide) (by decide)
          have e2_N17_ : ze N17_ 81 2 = ze N15_ 81 2 := hsN17_.e (by decide)
          have e3_N17_ : ze N17_ 81 3 = ze N15_ 81 3 := hsN17_.e (by decide)
          have e4_N17_ : ze N17_ 81 4 = ze N15_ 81 4 := hsN17_.e (by decide)
          have e5_N17_ : ze N17_ 81 5 = ze N15_ 81 5 := hsN17_.e (by decide)
          have r6_N17_ := ze_r N17_ 81 6
          have c18_ : zRb b_ n_ N17_ := zRb.fr hsN17_ c16_ (by decide) (by decide)
          have hv0_ : zg N17_ 81 11 = zw8 b_ s_ (0 : Int).toNat := (hsN17_.g (by decide)).trans hv00_
          refine zw_aload_n (pc := 51) (n := 0) (x := 81) rfl (zdal_p dlC_M_goOn_61 (i := 3) rfl) ?_
          refine zw_iconst (pc := 52) (v := Int32.ofInt 0) (by decide) (zdal_p dlC_M_goOn_61 (i := 4) rfl) ?_
          have hc_ := c18_.h (k := 0) (by (exact zo_170 e3_N13_ e3_N15_ e3_N17_ i3_))
          refine zr_callV (hf_N17_.w hW) hf_N17_.x (pc := 53) [.int (Int32.ofInt 0)] [] l_M_141 (c_M_here l N17_ (hf_N17_.w hW) 0 (by decide) (by decide) (show 0 ≤ ze N17_ 81 3 + 0 by first | assumption | (exact zo_170 e3_N13_ e3_N15_ e3_N17_ i3_)) (show ze N17_ 81 3 ≤ 700 by first | assumption | (exact zo_171 e3_N13_ e3_N15_ e3_N17_ hn7_ i4_ r3_N1_.2)) (show 0 ≤ 1000 by first | assumption | (decide)) (show ze N17_ 81 2 ≤ 700 by first | assumption | (exact zo_172 e2_N13_ e2_N15_ e2_N17_ e2_N1_ hn7_ hn_ r_2.2))) rfl rfl rfl (by decide) (Nat.le_of_ble_eq_true rfl) (zdal_p dlC_M_goOn_61 (i := 5) rfl) ?_
          rintro _ N19_ ⟨v20_, rfl, ⟨hv20_a, hv20_b⟩, hsN19_, ⟨hp0_N19_, hp1_N19_⟩⟩
          obtain rfl := hsN19_.eq.symm
          show zW l m_M_goOn (zn Mz + 0, zw Mz + 0) N17_ 56 [some (.ref 81), none, none] [.int (Int32.ofInt v20_)] _
          refine zw_istore_n (pc := 56) (i := 1) (L2 := [some (.ref 81), some (.int (Int32.ofInt v20_)), none]) rfl (by decide) rfl (zdal_p dlC_M_goOn_61 (i := 6) rfl) ?_
          refine zw_iconst (pc := 57) (v := Int32.ofInt 0) (by decide) (zdal_p dlC_M_goOn_61 (i := 7) rfl) ?_
          refine zw_istore_n (pc := 58) (i := 2) (L2 := [some (.ref 81), some (.int (Int32.ofInt v20_)), some (.int (Int32.ofInt 0))]) rfl (by decide) rfl (zdal_p dlC_M_goOn_61 (i := 8) rfl) ?_
          refine zw_iload_n (pc := 59) (n := 1) (x := Int32.ofInt v20_) rfl (zdal_p dlC_M_goOn_61 (i := 9) rfl) ?_
          refine zr_if_ge (pc := 60) (tgt := 69) ⟨hv20_a, hv20_b⟩ (by decide) (zdal_p dlC_M_goOn_61 (i := 10) rfl) (fun hc_60 => ?_) (fun hc_60 => ?_)
          · skip
            have hcb_ : v20_ = b_ s_ := by rcases hc_ with ⟨q1_, q2_, q3_, q4_⟩ | ⟨q1_, q2_⟩; rw [show v20_ = zhr N17_ 0 by (exact hp1_N19_), q2_, show (ze N17_ 81 3 + 0).toNat = s_ by (exact zo_173 e3_N13_ e3_N15_ e3_N17_ hn7_ hs_ i3_ i4_ q1_ r3_N1_.2)]; exfalso; (exact zo_174 hc_60 hp1_N19_ q2_)
            have hsn_ : s_ < n_ := by rcases hc_ with ⟨q1_, q2_, q3_, q4_⟩ | ⟨q1_, q2_⟩; (exact zo_175 e3_N13_ e3_N15_ e3_N17_ hs_ i4_ q1_ r3_N1_.2); exfalso; (exact zo_174 hc_60 hp1_N19_ q2_)
            refine zw_iload_n (pc := 69) (n := 1) (x := Int32.ofInt v20_) rfl (zdal_p dlC_M_goOn_61 (i := 15) rfl) ?_
            refine zr_callS hf_N17_.x (pc := 70) [.int (Int32.ofInt v20_)] [] l_M_158 (c_M_isLetter l N17_ (hf_N17_.w hW) v20_ hv20_a hv20_b) rfl rfl (by decide) (Nat.le_of_ble_eq_true rfl) (zdal_p dlC_M_goOn_61 (i := 16) rfl) ?_
            rintro _ N21_ ⟨v22_, rfl, ⟨hv22_a, hv22_b⟩, hsN21_, hp0_N21_⟩
            obtain rfl := hsN21_.eq.symm
            replace hp0_N21_ : ((v22_ = 1 ∧ 97 ≤ v20_ ∧ v20_ ≤ 122) ∨ (v22_ = 0 ∧ (v20_ < 97 ∨ 122 < v20_))) := hp0_N21_
            rcases hp0_N21_ with ⟨rfl, ha70_0_hp0_N21_, ha70_1_hp0_N21_⟩ | ⟨rfl, ha70_0_hp0_N21_⟩
            · skip
              have hlt_ : zpL (b_ s_) = true := by rw [← hcb_]; exact zpL_t.mpr (by (exact zo_176 ha70_0_hp0_N21_ ha70_1_hp0_N21_))
              show zW l m_M_goOn (zn Mz + 0, zw Mz + 0) N17_ 73 [some (.ref 81), some (.int (Int32.ofInt v20_)), some (.int (Int32.ofInt 0))] [.int (Int32.ofInt 1)] _
              refine zr_if_eq (pc := 73) (tgt := 135) ⟨(by decide), (by decide)⟩ (by decide) (zdal_p dlC_M_goOn_61 (i := 17) rfl) (fun hc_73 => ?_) (fun hc_73 => ?_)
              · skip
                exact absurd hc_73 (by decide)
              · skip
                have lp_76 : ∀ (n : Nat) (u23_ : Int) (hu23_a : -2147483648 ≤ u23_) (hu23_b : u23_ < 2147483648) (N24_ : zMem) (hs25_ : zFr [11] [] N17_ N24_) (i26_ : 0 ≤ u23_) (i27_ : s_ + u23_ ≤ n_) (i28_ : zru zpL b_ n_ (s_ + u23_).toNat = zru zpL b_ n_ s_) (i29_ : ∀ j : Nat, s_ ≤ j → j < (s_ + u23_).toNat → zpL (b_ j) = true) (i30_ : (u23_ ≤ 6 → zg N24_ 81 11 = zw8 b_ s_ (u23_).toNat)), (n_ - s_ - u23_).toNat < n → zW l m_M_goOn (zn Mz + 0, zw Mz + 0) N24_ 76 [some (.ref 81), some (.int (Int32.ofInt v20_)), some (.int (Int32.ofInt u23_))] [] (zpV [3, 4, 5, 6, 11] [] Mz (fun N => ze N 81 4 = (zru zpB b_ n_ (ze Mz 81 3).toNat : Nat) ∧ zRt b_ n_ N)) := by
                  intro n
                  induction n with
                  | zero =>
                    intro u23_ hu23_a hu23_b N24_ hs25_ i26_ i27_ i28_ i29_ i30_ h0
                    exact absurd h0 (Nat.not_lt_zero _)
                  | succ n ih_76 =>
                    intro u23_ hu23_a hu23_b N24_ hs25_ i26_ i27_ i28_ i29_ i30_ hlt_76
                    have hf_N24_ : zFr [3, 4, 5, 6, 11] [] Mz N24_ := hf_N17_.tr hs25_ (by decide) (by decide)
                    have e2_N24_ : ze N24_ 81 2 = ze N17_ 81 2 := hs25_.e (by decide)
                    have e3_N24_ : ze N24_ 81 3 = ze N17_ 81 3 := hs25_.e (by decide)
                    have e4_N24_ : ze N24_ 81 4 = ze N17_ 81 4 := hs25_.e (by decide)
                    have e5_N24_ : ze N24_ 81 5 = ze N17_ 81 5 := hs25_.e (by decide)
                    have e6_N24_ : ze N24_ 81 6 = ze N17_ 81 6 := hs25_.e (by decide)
                    have c31_ : zRb b_ n_ N24_ := zRb.fr hs25_ c18_ (by decide) (by decide)
                    have hk_ := c31_.h (k := u23_) (by (exact zo_177 e3_N13_ e3_N15_ e3_N17_ e3_N24_ i26_ i3_))
                    have hru_ := (show zru zpL b_ n_ (s_ + u23_).toNat = zru zpL b_ n_ s_ by assumption)
                    have hal_ := (show ∀ j : Nat, s_ ≤ j → j < (s_ + u23_).toNat → zpL (b_ j) = true by assumption)
                    have hwi_ := (show (u23_ ≤ 6 → zg N24_ 81 11 = zw8 b_ s_ (u23_).toNat) by assumption)
                    refine zw_aload_n (pc := 76) (n := 0) (x := 81) rfl (zdal_p dlC_M_goOn_61 (i := 18) rfl) ?_
                    refine zw_iload_n (pc := 77) (n := 2) (x := Int32.ofInt u23_) rfl (zdal_p dlC_M_goOn_61 (i := 19) rfl) ?_
                    refine zr_callV (hf_N24_.w hW) hf_N24_.x (pc := 78) [.int (Int32.ofInt u23_)] [] l_M_141 (c_M_here l N24_ (hf_N24_.w hW) u23_ hu23_a hu23_b (show 0 ≤ ze N24_ 81 3 + u23_ by first | assumption | (exact zo_177 e3_N13_ e3_N15_ e3_N17_ e3_N24_ i26_ i3_)) (show ze N24_ 81 3 ≤ 700 by first | assumption | (exact zo_178 e3_N13_ e3_N15_ e3_N17_ e3_N24_ hn7_ i4_ r3_N1_.2)) (show u23_ ≤ 1000 by first | assumption | (exact zo_179 hn7_ i27_)) (show ze N24_ 81 2 ≤ 700 by first | assumption | (exact zo_180 e2_N13_ e2_N15_ e2_N17_ e2_N1_ e2_N24_ hn7_ hn_ r_2.2))) rfl rfl rfl (by decide) (Nat.le_of_ble_eq_true rfl) (zdal_p dlC_M_goOn_61 (i := 20) rfl) ?_
                    rintro _ N32_ ⟨v33_, rfl, ⟨hv33_a, hv33_b⟩, hsN32_, ⟨hp0_N32_, hp1_N32_⟩⟩
                    obtain rfl := hsN32_.eq.symm
                    show zW l m_M_goOn (zn Mz + 0, zw Mz + 0) N24_ 81 [some (.ref 81), some (.int (Int32.ofInt v20_)), some (.int (Int32.ofInt u23_))] [.int (Int32.ofInt v33_)] _
                    refine zr_callS hf_N24_.x (pc := 81) [.int (Int32.ofInt v33_)] [] l_M_158 (c_M_isLetter l N24_ (hf_N24_.w hW) v33_ hv33_a hv33_b) rfl rfl (by decide) (Nat.le_of_ble_eq_true rfl) (zdal_p dlC_M_goOn_61 (i := 21) rfl) ?_
                    rintro _ N34_ ⟨v35_, rfl, ⟨hv35_a, hv35_b⟩, hsN34_, hp0_N34_⟩
                    obtain rfl := hsN34_.eq.symm
                    replace hp0_N34_ : ((v35_ = 1 ∧ 97 ≤ v33_ ∧ v33_ ≤ 122) ∨ (v35_ = 0 ∧ (v33_ < 97 ∨ 122 < v33_))) := hp0_N34_
                    rcases hp0_N34_ with ⟨rfl, ha81_0_hp0_N34_, ha81_1_hp0_N34_⟩ | ⟨rfl, ha81_0_hp0_N34_⟩
                    · skip
                      have hkl_ : zpL (zhr N24_ u23_) = true := zpL_t.mpr (by (exact zo_181 ha81_0_hp0_N34_ ha81_1_hp0_N34_ hp1_N32_))
                      have hkn_ : ze N24_ 81 3 + u23_ < n_ ∧ zhr N24_ u23_ = b_ (s_ + u23_).toNat := by rcases hk_ with ⟨q1_, q2_, q3_, q4_⟩ | ⟨q1_, q2_⟩; exact ⟨q1_, by rw [q2_, show ze N24_ 81 3 = s_ by (exact zo_182 e3_N13_ e3_N15_ e3_N17_ e3_N24_ hn7_ hs_ i26_ q1_)]⟩; exfalso; (exact zo_183 ha81_0_hp0_N34_ hp1_N32_ q2_)
                      have hr1_ := zru_st2 (P := zpL) (by (exact i26_)) (by (exact zo_184 e3_N13_ e3_N15_ e3_N17_ e3_N24_ hkn_.1 hs_ i27_)) hkn_.2 hkl_ hru_
                      have hr2_ := zall_1 (P := zpL) (by (exact i26_)) hal_ hkn_.2 hkl_
                      show zW l m_M_goOn (zn Mz + 0, zw Mz + 0) N24_ 84 [some (.ref 81), some (.int (Int32.ofInt v20_)), some (.int (Int32.ofInt u23_))] [.int (Int32.ofInt 1)] _
                      refine zr_if_eq (pc := 84) (tgt := 117) ⟨(by decide), (by decide)⟩ (by decide) (zdal_p dlC_M_goOn_61 (i := 22) rfl) (fun hc_84 => ?_) (fun hc_84 => ?_)
                      · skip
                        exact absurd hc_84 (by decide)
                      · skip
                        refine zw_iload_n (pc := 87) (n := 2) (x := Int32.ofInt u23_) rfl (zdal_p dlC_M_goOn_61 (i := 23) rfl) ?_
                        refine zw_bipush (pc := 88) (v := Int32.ofInt 6) (by decide) (zdal_p dlC_M_goOn_62 (i := 0) rfl) ?_
                        refine zr_icmp_ge (pc := 90) (tgt := 111) ⟨hu23_a, hu23_b⟩ ⟨(by decide), (by decide)⟩ (by decide) (zdal_p dlC_M_goOn_62 (i := 1) rfl) (fun hc_90 => ?_) (fun hc_90 => ?_)
                        · skip
                          refine zr_iinc (pc := 111) (i := 2) (a := u23_) (n := 1) (L2 := [some (.ref 81), some (.int (Int32.ofInt v20_)), some (.int (Int32.ofInt (u23_ + 1)))]) rfl (by decide) rfl (zdal_p dlC_M_goOn_62 (i := 13) rfl) ?_
                          refine zw_goto (pc := 114) (tgt := 76) (by decide) (zdal_p dlC_M_goOn_62 (i := 14) rfl) ?_
                          exact ih_76 (u23_ + 1) (by (exact zo_185 hc_90)) (by (exact zo_186 hn7_ i27_)) N24_ hs25_ (show 0 ≤ (u23_ + 1) by first | assumption | (exact zo_187 hc_90)) (show s_ + (u23_ + 1) ≤ n_ by first | assumption | (exact zo_188 e3_N13_ e3_N15_ e3_N17_ e3_N24_ hkn_.1 hs_ i27_)) (show zru zpL b_ n_ (s_ + (u23_ + 1)).toNat = zru zpL b_ n_ s_ by exact hr1_) (show ∀ j : Nat, s_ ≤ j → j < (s_ + (u23_ + 1)).toNat → zpL (b_ j) = true by exact hr2_) (show ((u23_ + 1) ≤ 6 → zg N24_ 81 11 = zw8 b_ s_ ((u23_ + 1)).toNat) by first | exact hwp_ | exact fun q_ => absurd q_ (by (exact zo_189 hc_90))) (by (exact zo_190 e3_N13_ e3_N15_ e3_N17_ e3_N24_ hkn_.1 hlt_76 hs_ i27_))
                        · skip
                          refine zw_aload_n (pc := 93) (n := 0) (x := 81) rfl (zdal_p dlC_M_goOn_62 (i := 2) rfl) ?_
                          refine zw_aload_n (pc := 94) (n := 0) (x := 81) rfl (zdal_p dlC_M_goOn_62 (i := 3) rfl) ?_
                          refine zr_getJ (hf_N24_.w hW) (pc := 95) f_M_148 rfl (zdal_p dlC_M_goOn_62 (i := 4) rfl) ?_
                          have hr36_ := zg_r N24_ 81 11
                          refine zw_bipush (pc := 98) (v := Int32.ofInt 8) (by decide) (zdal_p dlC_M_goOn_62 (i := 5) rfl) ?_
                          refine zr_lshl (pc := 100) (zdal_p dlC_M_goOn_62 (i := 6) rfl) ?_
                          have hr37_ := zlshl_r (zg N24_ 81 11) 8
                          refine zw_aload_n (pc := 101) (n := 0) (x := 81) rfl (zdal_p dlC_M_goOn_62 (i := 7) rfl) ?_
                          refine zw_iload_n (pc := 102) (n := 2) (x := Int32.ofInt u23_) rfl (zdal_p dlC_M_goOn_62 (i := 8) rfl) ?_
                          refine zr_callV (hf_N24_.w hW) hf_N24_.x (pc := 103) [.int (Int32.ofInt u23_)] [.long (Int64.ofInt (zlshl (zg N24_ 81 11) 8)), .ref 81] l_M_141 (c_M_here l N24_ (hf_N24_.w hW) u23_ hu23_a hu23_b (show 0 ≤ ze N24_ 81 3 + u23_ by first | assumption | (exact zo_177 e3_N13_ e3_N15_ e3_N17_ e3_N24_ i26_ i3_)) (show ze N24_ 81 3 ≤ 700 by first | assumption | (exact zo_191 hkn_.1 hn7_ i26_)) (show u23_ ≤ 1000 by first | assumption | (exact zo_192 hc_90)) (show ze N24_ 81 2 ≤ 700 by first | assumption | (exact zo_180 e2_N13_ e2_N15_ e2_N17_ e2_N1_ e2_N24_ hn7_ hn_ r_2.2))) rfl rfl rfl (by decide) (Nat.le_of_ble_eq_true rfl) (zdal_p dlC_M_goOn_62 (i := 9) rfl) ?_
                          rintro _ N38_ ⟨v39_, rfl, ⟨hv39_a, hv39_b⟩, hsN38_, ⟨hp0_N38_, hp1_N38_⟩⟩
                          obtain rfl := hsN38_.eq.symm
                          show zW l m_M_goOn (zn Mz + 0, zw Mz + 0) N24_ 106 [some (.ref 81), some (.int (Int32.ofInt v20_)), some (.int (Int32.ofInt u23_))] [.int (Int32.ofInt v39_), .long (Int64.ofInt (zlshl (zg N24_ 81 11) 8)), .ref 81] _
                          have hc3_ : v39_ = b_ (s_ + u23_).toNat := by rw [← hkn_.2]; (exact hp1_N38_)
                          refine zr_i2l (pc := 106) ⟨hv39_a, hv39_b⟩ (zdal_p dlC_M_goOn_62 (i := 10) rfl) ?_
                          refine zr_lor (pc := 107) (zdal_p dlC_M_goOn_62 (i := 11) rfl) ?_
                          have hr40_ := zlor_r (zlshl (zg N24_ 81 11) 8) v39_
                          refine zr_putJ (hf_N24_.w hW) (pc := 108) f_M_148 rfl rfl rfl rfl (zdal_p dlC_M_goOn_62 (i := 12) rfl) (fun N41_ hsN41_ hvN41_ => ?_)
                          have hf_N41_ : zFr [3, 4, 5, 6, 11] [] Mz N41_ := hf_N24_.tr hsN41_ (by decide) (by decide)
                          have hb0_N41_ : zFr [11] [] N17_ N41_ := hs25_.tr hsN41_ (by decide) (by decide)
                          have e2_N41_ : ze N41_ 81 2 = ze N24_ 81 2 := hsN41_.e (by decide)
                          have e3_N41_ : ze N41_ 81 3 = ze N24_ 81 3 := hsN41_.e (by decide)
                          have e4_N41_ : ze N41_ 81 4 = ze N24_ 81 4 := hsN41_.e (by decide)
                          have e5_N41_ : ze N41_ 81 5 = ze N24_ 81 5 := hsN41_.e (by decide)
                          have e6_N41_ : ze N41_ 81 6 = ze N24_ 81 6 := hsN41_.e (by decide)
                          have c42_ : zRb b_ n_ N41_ := zRb.fr hsN41_ c31_ (by decide) (by decide)
                          have hwp_ : u23_ + 1 ≤ 6 → zg N41_ 81 11 = zw8 b_ s_ (u23_ + 1).toNat := zw8_step (n := n_) (by (exact i26_)) (by (exact hc_90)) (by (exact zo_184 e3_N13_ e3_N15_ e3_N17_ e3_N24_ hkn_.1 hs_ i27_)) hal_ hwi_ hc3_ (by rw [hc3_, ← hkn_.2]; exact hkl_) (hvN41_ ⟨by (exact zo_79 hr40_.1), by (exact zo_80 hr40_.2)⟩)
                          refine zr_iinc (pc := 111) (i := 2) (a := u23_) (n := 1) (L2 := [some (.ref 81), some (.int (Int32.ofInt v20_)), some (.int (Int32.ofInt (u23_ + 1)))]) rfl (by decide) rfl (zdal_p dlC_M_goOn_62 (i := 13) rfl) ?_
                          refine zw_goto (pc := 114) (tgt := 76) (by decide) (zdal_p dlC_M_goOn_62 (i := 14) rfl) ?_
                          exact ih_76 (u23_ + 1) (by (exact zo_74 i26_)) (by (exact zo_193 hc_90)) N41_ hb0_N41_ (show 0 ≤ (u23_ + 1) by first | assumption | (exact zo_76 i26_)) (show s_ + (u23_ + 1) ≤ n_ by first | assumption | (exact zo_188 e3_N13_ e3_N15_ e3_N17_ e3_N24_ hkn_.1 hs_ i27_)) (show zru zpL b_ n_ (s_ + (u23_ + 1)).toNat = zru zpL b_ n_ s_ by exact hr1_) (show ∀ j : Nat, s_ ≤ j → j < (s_ + (u23_ + 1)).toNat → zpL (b_ j) = true by exact hr2_) (show ((u23_ + 1) ≤ 6 → zg N41_ 81 11 = zw8 b_ s_ ((u23_ + 1)).toNat) by first | exact hwp_ | exact fun q_ => absurd q_ (by omega)) (by (exact zo_190 e3_N13_ e3_N15_ e3_N17_ e3_N24_ hkn_.1 hlt_76 hs_ i27_))
                    · skip
                      show zW l m_M_goOn (zn Mz + 0, zw Mz + 0) N24_ 84 [some (.ref 81), some (.int (Int32.ofInt v20_)), some (.int (Int32.ofInt u23_))] [.int (Int32.ofInt 0)] _
                      refine zr_if_eq (pc := 84) (tgt := 117) ⟨(by decide), (by decide)⟩ (by decide) (zdal_p dlC_M_goOn_61 (i := 22) rfl) (fun hc_84 => ?_) (fun hc_84 => ?_)
                      · skip
                        have hend_ : u23_ = (zru zpL b_ n_ s_ : Nat) - s_ := by have hz_ := zru_sp2 (P := zpL) (b := b_) (n := n_) (s := s_) (k := u23_) (c := zhr N24_ u23_) (by (exact i26_)) (by rcases hk_ with ⟨q1_, q2_, q3_, q4_⟩ | ⟨q1_, q2_⟩; exact Or.inl ⟨by (exact zo_194 e3_N13_ e3_N15_ e3_N17_ e3_N24_ hs_ i27_ q1_), by rw [q2_, show ze N24_ 81 3 = s_ by (exact zo_182 e3_N13_ e3_N15_ e3_N17_ e3_N24_ hn7_ hs_ i26_ q1_)], Bool.eq_false_iff.mpr (fun h_ => by have := zpL_t.mp h_; (exact zo_195 hp1_N32_ hv33_a hv33_b this.1 this.2 ha81_0_hp0_N34_))⟩; exact Or.inr (by (exact zo_196 e3_N13_ e3_N15_ e3_N17_ e3_N24_ hn7_ hs_ i26_ q1_))) hru_; (exact zo_197 hn7_ hz_ i27_)
                        refine zw_aload_n (pc := 117) (n := 0) (x := 81) rfl (zdal_p dlC_M_goOn_62 (i := 15) rfl) ?_
                        refine zw_iload_n (pc := 118) (n := 2) (x := Int32.ofInt u23_) rfl (zdal_p dlC_M_goOn_62 (i := 16) rfl) ?_
                        refine zw_bipush (pc := 119) (v := Int32.ofInt 6) (by decide) (zdal_p dlC_M_goOn_62 (i := 17) rfl) ?_
                        refine zr_icmp_le (pc := 121) (tgt := 128) ⟨hu23_a, hu23_b⟩ ⟨(by decide), (by decide)⟩ (by decide) (zdal_p dlC_M_goOn_62 (i := 18) rfl) (fun hc_121 => ?_) (fun hc_121 => ?_)
                        · skip
                          refine zw_iconst (pc := 128) (v := Int32.ofInt 1) (by decide) (zdal_p dlC_M_goOn_62 (i := 21) rfl) ?_
                          refine zr_putI (hf_N24_.w hW) (pc := 129) f_M_155 rfl rfl ⟨by (exact hv22_a), by (exact hv22_b)⟩ rfl rfl (zdal_p dlC_M_goOn_62 (i := 22) rfl) (fun N43_ hsN43_ hvN43_ => ?_)
                          have hf_N43_ : zFr [3, 4, 5, 6, 11] [] Mz N43_ := hf_N24_.tr hsN43_ (by decide) (by decide)
                          have e2_N43_ : ze N43_ 81 2 = ze N24_ 81 2 := hsN43_.e (by decide)
                          have e3_N43_ : ze N43_ 81 3 = ze N24_ 81 3 := hsN43_.e (by decide)
                          have e4_N43_ : ze N43_ 81 4 = ze N24_ 81 4 := hsN43_.e (by decide)
                          have r5_N43_ := ze_r N43_ 81 5
                          have e6_N43_ : ze N43_ 81 6 = ze N24_ 81 6 := hsN43_.e (by decide)
                          have c44_ : zRb b_ n_ N43_ := zRb.fr hsN43_ c31_ (by decide) (by decide)
                          have hwf_ : zg N43_ 81 11 = zg N24_ 81 11 := hsN43_.g (by decide)
                          refine zw_goto (pc := 132) (tgt := 235) (by decide) (zdal_p dlC_M_goOn_62 (i := 23) rfl) ?_
                          refine zw_aload_n (pc := 235) (n := 0) (x := 81) rfl d_M_goOn_235 ?_
                          refine zw_dup (pc := 236) rfl d_M_goOn_236 ?_
                          refine zr_getI (hf_N43_.w hW) (pc := 237) f_M_135 rfl d_M_goOn_237 ?_
                          refine zw_iload_n (pc := 240) (n := 2) (x := Int32.ofInt u23_) rfl d_M_goOn_240 ?_
                          refine zr_iadd (pc := 241) d_M_goOn_241 ?_
                          refine zr_putI (hf_N43_.w hW) (pc := 242) f_M_135 rfl rfl ⟨by (exact zo_198 e3_N13_ e3_N15_ e3_N17_ e3_N24_ e3_N43_ i26_ i3_), by (exact zo_199 e3_N13_ e3_N15_ e3_N17_ e3_N24_ e3_N43_ hc_121 hn7_ i4_ r3_N1_.2)⟩ rfl rfl d_M_goOn_242 (fun N45_ hsN45_ hvN45_ => ?_)
                          have hf_N45_ : zFr [3, 4, 5, 6, 11] [] Mz N45_ := hf_N43_.tr hsN45_ (by decide) (by decide)
                          have e2_N45_ : ze N45_ 81 2 = ze N43_ 81 2 := hsN45_.e (by decide)
                          have r3_N45_ := ze_r N45_ 81 3
                          have e4_N45_ : ze N45_ 81 4 = ze N43_ 81 4 := hsN45_.e (by decide)
                          have e5_N45_ : ze N45_ 81 5 = ze N43_ 81 5 := hsN45_.e (by decide)
                          have e6_N45_ : ze N45_ 81 6 = ze N43_ 81 6 := hsN45_.e (by decide)
                          have c46_ : zRb b_ n_ N45_ := zRb.fr hsN45_ c44_ (by decide) (by decide)
                          have hge_ := zru_ge (P := zpL) (b := b_) (n := n_) (p := s_)
                          have hge2_ := zru_ge (P := zpD) (b := b_) (n := n_) (p := s_)
                          have hfin_ : zRt b_ n_ N45_ := by first | exact zRt_L (s := s_) (by (exact zo_200 e4_N15_ e4_N17_ e4_N24_ e4_N43_ e4_N45_ hn7_ hs_ hvN13_ i4_ r3_N1_.2)) hsn_ hlt_ (by (exact zo_201 e3_N13_ e3_N15_ e3_N17_ e3_N24_ e3_N43_ hc_121 hend_ hn7_ hs_ hvN45_ i27_ i4_ r3_N1_.2 r3_N45_.1)) (fun q_ => by have w_ := hwi_ (by (exact hc_121)); rw [show (u23_).toNat = zru zpL b_ n_ s_ - s_ by (exact zo_202 hc_121 hend_ hge_ hn7_ i26_ i27_ q_)] at w_; rw [← w_]; first | exact (hsN45_.g (by decide)).trans hwf_) (by (exact zo_203 e5_N45_ hc_121 hend_ hge_ hvN43_)) | exact zRt_D (s := s_) (by omega) hsn_ hnl_ hdt_ (by omega) (fun q_ => by have w_ := hwi_ (by omega); rw [show (u23_).toNat = zru zpD b_ n_ s_ - s_ by omega] at w_; omega) (by first | exact Or.inr ⟨fun q_ => by have := q_.1; omega, by omega⟩ | exact Or.inr ⟨fun q_ => q_.2 ⟨hlb_.2, hlb_.1⟩, by omega⟩ | exact Or.inl ⟨⟨by omega, hlc_⟩, by omega⟩) | exact zRt_S (s := s_) (by omega) hsn_ hnl_ hnd_ (by omega) (by omega) (by first | exact Or.inl ⟨hsg_, by omega⟩ | exact Or.inr ⟨hsg_, by omega⟩)
                          exact zr_vret (pc := 245) rfl hf_N45_ ⟨(show ze N45_ 81 4 = (zru zpB b_ n_ (ze Mz 81 3).toNat : Nat) by (exact zo_204 e4_N15_ e4_N17_ e4_N24_ e4_N43_ e4_N45_ hn7_ hst_ hvN13_ i4_ r3_N1_.2)), hfin_⟩ d_M_goOn_245
                        · skip
                          refine zw_iconst (pc := 124) (v := Int32.ofInt 4) (by decide) (zdal_p dlC_M_goOn_62 (i := 19) rfl) ?_
                          refine zw_goto (pc := 125) (tgt := 129) (by decide) (zdal_p dlC_M_goOn_62 (i := 20) rfl) ?_
                          refine zr_putI (hf_N24_.w hW) (pc := 129) f_M_155 rfl rfl ⟨by (decide), by (decide)⟩ rfl rfl (zdal_p dlC_M_goOn_62 (i := 22) rfl) (fun N47_ hsN47_ hvN47_ => ?_)
                          have hf_N47_ : zFr [3, 4, 5, 6, 11] [] Mz N47_ := hf_N24_.tr hsN47_ (by decide) (by decide)
                          have e2_N47_ : ze N47_ 81 2 = ze N24_ 81 2 := hsN47_.e (by decide)
                          have e3_N47_ : ze N47_ 81 3 = ze N24_ 81 3 := hsN47_.e (by decide)
                          have e4_N47_ : ze N47_ 81 4 = ze N24_ 81 4 := hsN47_.e (by decide)
                          have r5_N47_ := ze_r N47_ 81 5
                          have e6_N47_ : ze N47_ 81 6 = ze N24_ 81 6 := hsN47_.e (by decide)
                          have c48_ : zRb b_ n_ N47_ := zRb.fr hsN47_ c31_ (by decide) (by decide)
                          have hwf_ : zg N47_ 81 11 = zg N24_ 81 11 := hsN47_.g (by decide)
                          refine zw_goto (pc := 132) (tgt := 235) (by decide) (zdal_p dlC_M_goOn_62 (i := 23) rfl) ?_
                          refine zw_aload_n (pc := 235) (n := 0) (x := 81) rfl d_M_goOn_235 ?_
                          refine zw_dup (pc := 236) rfl d_M_goOn_236 ?_
                          refine zr_getI (hf_N47_.w hW) (pc := 237) f_M_135 rfl d_M_goOn_237 ?_
                          refine zw_iload_n (pc := 240) (n := 2) (x := Int32.ofInt u23_) rfl d_M_goOn_240 ?_
                          refine zr_iadd (pc := 241) d_M_goOn_241 ?_
                          refine zr_putI (hf_N47_.w hW) (pc := 242) f_M_135 rfl rfl ⟨by (exact zo_205 e3_N13_ e3_N15_ e3_N17_ e3_N24_ e3_N47_ hc_121 i3_), by (exact zo_206 e3_N13_ e3_N15_ e3_N17_ e3_N24_ e3_N47_ hn7_ i27_ i4_ r3_N1_.2)⟩ rfl rfl d_M_goOn_242 (fun N49_ hsN49_ hvN49_ => ?_)
                          have hf_N49_ : zFr [3, 4, 5, 6, 11] [] Mz N49_ := hf_N47_.tr hsN49_ (by decide) (by decide)
                          have e2_N49_ : ze N49_ 81 2 = ze N47_ 81 2 := hsN49_.e (by decide)
                          have r3_N49_ := ze_r N49_ 81 3
                          have e4_N49_ : ze N49_ 81 4 = ze N47_ 81 4 := hsN49_.e (by decide)
                          have e5_N49_ : ze N49_ 81 5 = ze N47_ 81 5 := hsN49_.e (by decide)
                          have e6_N49_ : ze N49_ 81 6 = ze N47_ 81 6 := hsN49_.e (by decide)
                          have c50_ : zRb b_ n_ N49_ := zRb.fr hsN49_ c48_ (by decide) (by decide)
                          have hge_ := zru_ge (P := zpL) (b := b_) (n := n_) (p := s_)
                          have hge2_ := zru_ge (P := zpD) (b := b_) (n := n_) (p := s_)
                          have hfin_ : zRt b_ n_ N49_ := by first | exact zRt_L (s := s_) (by (exact zo_200 e4_N15_ e4_N17_ e4_N24_ e4_N47_ e4_N49_ hn7_ hs_ hvN13_ i4_ r3_N1_.2)) hsn_ hlt_ (by (exact zo_207 e3_N13_ e3_N15_ e3_N17_ e3_N24_ e3_N47_ hend_ hn7_ hs_ hvN49_ i27_ r3_N49_.1)) (fun q_ => by have w_ := hwi_ (by (exact zo_208 hend_ hn7_ i27_ q_)); rw [show (u23_).toNat = zru zpL b_ n_ s_ - s_ by (exact zo_209 hc_121 hend_ hge_ hn7_ i27_ q_)] at w_; rw [← w_]; first | exact (hsN49_.g (by decide)).trans hwf_) (by (exact zo_210 e5_N49_ hc_121 hend_ hge_ hvN47_)) | exact zRt_D (s := s_) (by omega) hsn_ hnl_ hdt_ (by omega) (fun q_ => by have w_ := hwi_ (by omega); rw [show (u23_).toNat = zru zpD b_ n_ s_ - s_ by omega] at w_; omega) (by first | exact Or.inr ⟨fun q_ => by have := q_.1; omega, by omega⟩ | exact Or.inr ⟨fun q_ => q_.2 ⟨hlb_.2, hlb_.1⟩, by omega⟩ | exact Or.inl ⟨⟨by omega, hlc_⟩, by omega⟩) | exact zRt_S (s := s_) (by omega) hsn_ hnl_ hnd_ (by omega) (by omega) (by first | exact Or.inl ⟨hsg_, by omega⟩ | exact Or.inr ⟨hsg_, by omega⟩)
                          exact zr_vret (pc := 245) rfl hf_N49_ ⟨(show ze N49_ 81 4 = (zru zpB b_ n_ (ze Mz 81 3).toNat : Nat) by (exact zo_204 e4_N15_ e4_N17_ e4_N24_ e4_N47_ e4_N49_ hn7_ hst_ hvN13_ i4_ r3_N1_.2)), hfin_⟩ d_M_goOn_245
                      · skip
                        exact absurd hc_84 (by decide)
                exact lp_76 _ 0 (by decide) (by decide) N17_ zFr.rf (show 0 ≤ (0 : Int) by first | assumption | (decide)) (show s_ + (0 : Int) ≤ n_ by (exact zo_211 hsn_)) (show zru zpL b_ n_ (s_ + (0 : Int)).toNat = zru zpL b_ n_ s_ by rw [show (s_ + (0 : Int)).toNat = s_ by (exact zo_212)]) (show ∀ j : Nat, s_ ≤ j → j < (s_ + (0 : Int)).toNat → zpL (b_ j) = true by intro j h1 h2; omega) (show ((0 : Int) ≤ 6 → zg N17_ 81 11 = zw8 b_ s_ ((0 : Int)).toNat) by intro _; exact hv0_) (Nat.lt_succ_self _)
            · skip
              show zW l m_M_goOn (zn Mz + 0, zw Mz + 0) N17_ 73 [some (.ref 81), some (.int (Int32.ofInt v20_)), some (.int (Int32.ofInt 0))] [.int (Int32.ofInt 0)] _
              refine zr_if_eq (pc := 73) (tgt := 135) ⟨(by decide), (by decide)⟩ (by decide) (zdal_p dlC_M_goOn_61 (i := 17) rfl) (fun hc_73 => ?_) (fun hc_73 => ?_)
              · skip
                have hnl_ : zpL (b_ s_) = false := by rw [← hcb_]; exact Bool.eq_false_iff.mpr (fun h_ => by have := zpL_t.mp h_; (exact zo_213 this.1 this.2 ha70_0_hp0_N21_))
                refine zw_iload_n (pc := 135) (n := 1) (x := Int32.ofInt v20_) rfl (zdal_p dlC_M_goOn_63 (i := 0) rfl) ?_
                refine zr_callS hf_N17_.x (pc := 136) [.int (Int32.ofInt v20_)] [] l_M_162 (c_M_isDigit l N17_ (hf_N17_.w hW) v20_ hv20_a hv20_b) rfl rfl (by decide) (Nat.le_of_ble_eq_true rfl) (zdal_p dlC_M_goOn_63 (i := 1) rfl) ?_
                rintro _ N51_ ⟨v52_, rfl, ⟨hv52_a, hv52_b⟩, hsN51_, hp0_N51_⟩
                obtain rfl := hsN51_.eq.symm
                replace hp0_N51_ : ((v52_ = 1 ∧ 48 ≤ v20_ ∧ v20_ ≤ 57) ∨ (v52_ = 0 ∧ (v20_ < 48 ∨ 57 < v20_))) := hp0_N51_
                rcases hp0_N51_ with ⟨rfl, ha136_0_hp0_N51_, ha136_1_hp0_N51_⟩ | ⟨rfl, ha136_0_hp0_N51_⟩
                · skip
                  have hdt_ : zpD (b_ s_) = true := by rw [← hcb_]; exact zpD_t.mpr (by (exact zo_214 ha136_0_hp0_N51_ ha136_1_hp0_N51_))
                  show zW l m_M_goOn (zn Mz + 0, zw Mz + 0) N17_ 139 [some (.ref 81), some (.int (Int32.ofInt v20_)), some (.int (Int32.ofInt 0))] [.int (Int32.ofInt 1)] _
                  refine zr_if_eq (pc := 139) (tgt := 212) ⟨(by decide), (by decide)⟩ (by decide) (zdal_p dlC_M_goOn_63 (i := 2) rfl) (fun hc_139 => ?_) (fun hc_139 => ?_)
                  · skip
                    exact absurd hc_139 (by decide)
                  · skip
                    have lp_142 : ∀ (n : Nat) (u53_ : Int) (hu53_a : -2147483648 ≤ u53_) (hu53_b : u53_ < 2147483648) (N54_ : zMem) (hs55_ : zFr [6] [] N17_ N54_) (i56_ : 0 ≤ u53_) (i57_ : s_ + u53_ ≤ n_) (i58_ : zru zpD b_ n_ (s_ + u53_).toNat = zru zpD b_ n_ s_) (i59_ : ∀ j : Nat, s_ ≤ j → j < (s_ + u53_).toNat → zpD (b_ j) = true) (i60_ : (u53_ ≤ 3 → ze N54_ 81 6 = zvl b_ s_ (u53_).toNat)), (n_ - s_ - u53_).toNat < n → zW l m_M_goOn (zn Mz + 0, zw Mz + 0) N54_ 142 [some (.ref 81), some (.int (Int32.ofInt v20_)), some (.int (Int32.ofInt u53_))] [] (zpV [3, 4, 5, 6, 11] [] Mz (fun N => ze N 81 4 = (zru zpB b_ n_ (ze Mz 81 3).toNat : Nat) ∧ zRt b_ n_ N)) := by
                      intro n
                      induction n with
                      | zero =>
                        intro u53_ hu53_a hu53_b N54_ hs55_ i56_ i57_ i58_ i59_ i60_ h0
                        exact absurd h0 (Nat.not_lt_zero _)
                      | succ n ih_142 =>
                        intro u53_ hu53_a hu53_b N54_ hs55_ i56_ i57_ i58_ i59_ i60_ hlt_142
                        have hf_N54_ : zFr [3, 4, 5, 6, 11] [] Mz N54_ := hf_N17_.tr hs55_ (by decide) (by decide)
                        have e2_N54_ : ze N54_ 81 2 = ze N17_ 81 2 := hs55_.e (by decide)
                        have e3_N54_ : ze N54_ 81 3 = ze N17_ 81 3 := hs55_.e (by decide)
                        have e4_N54_ : ze N54_ 81 4 = ze N17_ 81 4 := hs55_.e (by decide)
                        have e5_N54_ : ze N54_ 81 5 = ze N17_ 81 5 := hs55_.e (by decide)
                        have r6_N54_ := ze_r N54_ 81 6
                        have c61_ : zRb b_ n_ N54_ := zRb.fr hs55_ c18_ (by decide) (by decide)
                        have hk_ := c61_.h (k := u53_) (by (exact zo_215 e3_N13_ e3_N15_ e3_N17_ e3_N54_ i3_ i56_))
                        have hru_ := (show zru zpD b_ n_ (s_ + u53_).toNat = zru zpD b_ n_ s_ by assumption)
                        have hal_ := (show ∀ j : Nat, s_ ≤ j → j < (s_ + u53_).toNat → zpD (b_ j) = true by assumption)
                        have hwi_ := (show (u53_ ≤ 3 → ze N54_ 81 6 = zvl b_ s_ (u53_).toNat) by assumption)
                        refine zw_aload_n (pc := 142) (n := 0) (x := 81) rfl (zdal_p dlC_M_goOn_63 (i := 3) rfl) ?_
                        refine zw_iload_n (pc := 143) (n := 2) (x := Int32.ofInt u53_) rfl (zdal_p dlC_M_goOn_63 (i := 4) rfl) ?_
                        refine zr_callV (hf_N54_.w hW) hf_N54_.x (pc := 144) [.int (Int32.ofInt u53_)] [] l_M_141 (c_M_here l N54_ (hf_N54_.w hW) u53_ hu53_a hu53_b (show 0 ≤ ze N54_ 81 3 + u53_ by first | assumption | (exact zo_215 e3_N13_ e3_N15_ e3_N17_ e3_N54_ i3_ i56_)) (show ze N54_ 81 3 ≤ 700 by first | assumption | (exact zo_178 e3_N13_ e3_N15_ e3_N17_ e3_N54_ hn7_ i4_ r3_N1_.2)) (show u53_ ≤ 1000 by first | assumption | (exact zo_179 hn7_ i57_)) (show ze N54_ 81 2 ≤ 700 by first | assumption | (exact zo_180 e2_N13_ e2_N15_ e2_N17_ e2_N1_ e2_N54_ hn7_ hn_ r_2.2))) rfl rfl rfl (by decide) (Nat.le_of_ble_eq_true rfl) (zdal_p dlC_M_goOn_63 (i := 5) rfl) ?_
                        rintro _ N62_ ⟨v63_, rfl, ⟨hv63_a, hv63_b⟩, hsN62_, ⟨hp0_N62_, hp1_N62_⟩⟩
                        obtain rfl := hsN62_.eq.symm
                        show zW l m_M_goOn (zn Mz + 0, zw Mz + 0) N54_ 147 [some (.ref 81), some (.int (Int32.ofInt v20_)), some (.int (Int32.ofInt u53_))] [.int (Int32.ofInt v63_)] _
                        refine zr_callS hf_N54_.x (pc := 147) [.int (Int32.ofInt v63_)] [] l_M_162 (c_M_isDigit l N54_ (hf_N54_.w hW) v63_ hv63_a hv63_b) rfl rfl (by decide) (Nat.le_of_ble_eq_true rfl) (zdal_p dlC_M_goOn_63 (i := 6) rfl) ?_
                        rintro _ N64_ ⟨v65_, rfl, ⟨hv65_a, hv65_b⟩, hsN64_, hp0_N64_⟩
                        obtain rfl := hsN64_.eq.symm
                        replace hp0_N64_ : ((v65_ = 1 ∧ 48 ≤ v63_ ∧ v63_ ≤ 57) ∨ (v65_ = 0 ∧ (v63_ < 48 ∨ 57 < v63_))) := hp0_N64_
                        rcases hp0_N64_ with ⟨rfl, ha147_0_hp0_N64_, ha147_1_hp0_N64_⟩ | ⟨rfl, ha147_0_hp0_N64_⟩
                        · skip
                          have hkl_ : zpD (zhr N54_ u53_) = true := zpD_t.mpr (by (exact zo_216 ha147_0_hp0_N64_ ha147_1_hp0_N64_ hp1_N62_))
                          have hkn_ : ze N54_ 81 3 + u53_ < n_ ∧ zhr N54_ u53_ = b_ (s_ + u53_).toNat := by rcases hk_ with ⟨q1_, q2_, q3_, q4_⟩ | ⟨q1_, q2_⟩; exact ⟨q1_, by rw [q2_, show ze N54_ 81 3 = s_ by (exact zo_182 e3_N13_ e3_N15_ e3_N17_ e3_N54_ hn7_ hs_ i56_ q1_)]⟩; exfalso; (exact zo_217 ha147_0_hp0_N64_ hp1_N62_ q2_)
                          have hr1_ := zru_st2 (P := zpD) (by (exact i56_)) (by (exact zo_184 e3_N13_ e3_N15_ e3_N17_ e3_N54_ hkn_.1 hs_ i57_)) hkn_.2 hkl_ hru_
                          have hr2_ := zall_1 (P := zpD) (by (exact i56_)) hal_ hkn_.2 hkl_
                          show zW l m_M_goOn (zn Mz + 0, zw Mz + 0) N54_ 150 [some (.ref 81), some (.int (Int32.ofInt v20_)), some (.int (Int32.ofInt u53_))] [.int (Int32.ofInt 1)] _
                          refine zr_if_eq (pc := 150) (tgt := 184) ⟨(by decide), (by decide)⟩ (by decide) (zdal_p dlC_M_goOn_63 (i := 7) rfl) (fun hc_150 => ?_) (fun hc_150 => ?_)
                          · skip
                            exact absurd hc_150 (by decide)
                          · skip
                            refine zw_iload_n (pc := 153) (n := 2) (x := Int32.ofInt u53_) rfl (zdal_p dlC_M_goOn_63 (i := 8) rfl) ?_
                            refine zw_iconst (pc := 154) (v := Int32.ofInt 3) (by decide) (zdal_p dlC_M_goOn_63 (i := 9) rfl) ?_
                            refine zr_icmp_ge (pc := 155) (tgt := 178) ⟨hu53_a, hu53_b⟩ ⟨(by decide), (by decide)⟩ (by decide) (zdal_p dlC_M_goOn_63 (i := 10) rfl) (fun hc_155 => ?_) (fun hc_155 => ?_)
                            · skip
                              refine zr_iinc (pc := 178) (i := 2) (a := u53_) (n := 1) (L2 := [some (.ref 81), some (.int (Int32.ofInt v20_)), some (.int (Int32.ofInt (u53_ + 1)))]) rfl (by decide) rfl (zdal_p dlC_M_goOn_63 (i := 23) rfl) ?_
                              refine zw_goto (pc := 181) (tgt := 142) (by decide) (zdal_p dlC_M_goOn_64 (i := 0) rfl) ?_
                              exact ih_142 (u53_ + 1) (by (exact zo_218 hc_155)) (by (exact zo_186 hn7_ i57_)) N54_ hs55_ (show 0 ≤ (u53_ + 1) by first | assumption | (exact zo_219 hc_155)) (show s_ + (u53_ + 1) ≤ n_ by first | assumption | (exact zo_188 e3_N13_ e3_N15_ e3_N17_ e3_N54_ hkn_.1 hs_ i57_)) (show zru zpD b_ n_ (s_ + (u53_ + 1)).toNat = zru zpD b_ n_ s_ by exact hr1_) (show ∀ j : Nat, s_ ≤ j → j < (s_ + (u53_ + 1)).toNat → zpD (b_ j) = true by exact hr2_) (show ((u53_ + 1) ≤ 3 → ze N54_ 81 6 = zvl b_ s_ ((u53_ + 1)).toNat) by first | exact hvp_ | exact fun q_ => absurd q_ (by (exact zo_220 hc_155))) (by (exact zo_190 e3_N13_ e3_N15_ e3_N17_ e3_N54_ hkn_.1 hlt_142 hs_ i57_))
                            · skip
                              refine zw_aload_n (pc := 158) (n := 0) (x := 81) rfl (zdal_p dlC_M_goOn_63 (i := 11) rfl) ?_
                              refine zw_bipush (pc := 159) (v := Int32.ofInt 10) (by decide) (zdal_p dlC_M_goOn_63 (i := 12) rfl) ?_
                              refine zw_aload_n (pc := 161) (n := 0) (x := 81) rfl (zdal_p dlC_M_goOn_63 (i := 13) rfl) ?_
                              refine zr_getI (hf_N54_.w hW) (pc := 162) f_M_152 rfl (zdal_p dlC_M_goOn_63 (i := 14) rfl) ?_
                              refine zr_imul (pc := 165) (zdal_p dlC_M_goOn_63 (i := 15) rfl) ?_
                              refine zw_aload_n (pc := 166) (n := 0) (x := 81) rfl (zdal_p dlC_M_goOn_63 (i := 16) rfl) ?_
                              refine zw_iload_n (pc := 167) (n := 2) (x := Int32.ofInt u53_) rfl (zdal_p dlC_M_goOn_63 (i := 17) rfl) ?_
                              refine zr_callV (hf_N54_.w hW) hf_N54_.x (pc := 168) [.int (Int32.ofInt u53_)] [.int (Int32.ofInt (10 * (ze N54_ 81 6))), .ref 81] l_M_141 (c_M_here l N54_ (hf_N54_.w hW) u53_ hu53_a hu53_b (show 0 ≤ ze N54_ 81 3 + u53_ by first | assumption | (exact zo_215 e3_N13_ e3_N15_ e3_N17_ e3_N54_ i3_ i56_)) (show ze N54_ 81 3 ≤ 700 by first | assumption | (exact zo_191 hkn_.1 hn7_ i56_)) (show u53_ ≤ 1000 by first | assumption | (exact zo_221 hc_155)) (show ze N54_ 81 2 ≤ 700 by first | assumption | (exact zo_180 e2_N13_ e2_N15_ e2_N17_ e2_N1_ e2_N54_ hn7_ hn_ r_2.2))) rfl rfl rfl (by decide) (Nat.le_of_ble_eq_true rfl) (zdal_p dlC_M_goOn_63 (i := 18) rfl) ?_
                              rintro _ N66_ ⟨v67_, rfl, ⟨hv67_a, hv67_b⟩, hsN66_, ⟨hp0_N66_, hp1_N66_⟩⟩
                              obtain rfl := hsN66_.eq.symm
                              show zW l m_M_goOn (zn Mz + 0, zw Mz + 0) N54_ 171 [some (.ref 81), some (.int (Int32.ofInt v20_)), some (.int (Int32.ofInt u53_))] [.int (Int32.ofInt v67_), .int (Int32.ofInt (10 * (ze N54_ 81 6))), .ref 81] _
                              have hc3_ : v67_ = b_ (s_ + u53_).toNat := by rw [← hkn_.2]; (exact hp1_N66_)
                              have hd99_ := zvl_d3 (by (exact i56_)) (by (exact hc_155)) hal_ hwi_
                              have hcd_ := zpD_t.mp hkl_
                              refine zr_iadd (pc := 171) (zdal_p dlC_M_goOn_63 (i := 19) rfl) ?_
                              refine zw_bipush (pc := 172) (v := Int32.ofInt 48) (by decide) (zdal_p dlC_M_goOn_63 (i := 20) rfl) ?_
                              refine zr_isub (pc := 174) (zdal_p dlC_M_goOn_63 (i := 21) rfl) ?_
                              refine zr_putI (hf_N54_.w hW) (pc := 175) f_M_152 rfl rfl ⟨by (exact zo_222 hcd_.1 hd99_.1 hp1_N66_ hv67_a), by (exact zo_223 hcd_.2 hd99_.2 hp1_N66_ hv67_b)⟩ rfl rfl (zdal_p dlC_M_goOn_63 (i := 22) rfl) (fun N68_ hsN68_ hvN68_ => ?_)
                              have hf_N68_ : zFr [3, 4, 5, 6, 11] [] Mz N68_ := hf_N54_.tr hsN68_ (by decide) (by decide)
                              have hb0_N68_ : zFr [6] [] N17_ N68_ := hs55_.tr hsN68_ (by decide) (by decide)
                              have e2_N68_ : ze N68_ 81 2 = ze N54_ 81 2 := hsN68_.e (by decide)
                              have e3_N68_ : ze N68_ 81 3 = ze N54_ 81 3 := hsN68_.e (by decide)
                              have e4_N68_ : ze N68_ 81 4 = ze N54_ 81 4 := hsN68_.e (by decide)
                              have e5_N68_ : ze N68_ 81 5 = ze N54_ 81 5 := hsN68_.e (by decide)
                              have r6_N68_ := ze_r N68_ 81 6
                              have c69_ : zRb b_ n_ N68_ := zRb.fr hsN68_ c61_ (by decide) (by decide)
                              have hvp_ : u53_ + 1 ≤ 3 → ze N68_ 81 6 = zvl b_ s_ (u53_ + 1).toNat := zvl_st3 hB_ (by (exact i56_)) (by (exact hc_155)) hwi_ hc3_ hvN68_
                              refine zr_iinc (pc := 178) (i := 2) (a := u53_) (n := 1) (L2 := [some (.ref 81), some (.int (Int32.ofInt v20_)), some (.int (Int32.ofInt (u53_ + 1)))]) rfl (by decide) rfl (zdal_p dlC_M_goOn_63 (i := 23) rfl) ?_
                              refine zw_goto (pc := 181) (tgt := 142) (by decide) (zdal_p dlC_M_goOn_64 (i := 0) rfl) ?_
                              exact ih_142 (u53_ + 1) (by (exact zo_74 i56_)) (by (exact zo_224 hc_155)) N68_ hb0_N68_ (show 0 ≤ (u53_ + 1) by first | assumption | (exact zo_76 i56_)) (show s_ + (u53_ + 1) ≤ n_ by first | assumption | (exact zo_188 e3_N13_ e3_N15_ e3_N17_ e3_N54_ hkn_.1 hs_ i57_)) (show zru zpD b_ n_ (s_ + (u53_ + 1)).toNat = zru zpD b_ n_ s_ by exact hr1_) (show ∀ j : Nat, s_ ≤ j → j < (s_ + (u53_ + 1)).toNat → zpD (b_ j) = true by exact hr2_) (show ((u53_ + 1) ≤ 3 → ze N68_ 81 6 = zvl b_ s_ ((u53_ + 1)).toNat) by first | exact hvp_ | exact fun q_ => absurd q_ (by omega)) (by (exact zo_190 e3_N13_ e3_N15_ e3_N17_ e3_N54_ hkn_.1 hlt_142 hs_ i57_))
                        · skip
                          show zW l m_M_goOn (zn Mz + 0, zw Mz + 0) N54_ 150 [some (.ref 81), some (.int (Int32.ofInt v20_)), some (.int (Int32.ofInt u53_))] [.int (Int32.ofInt 0)] _
                          refine zr_if_eq (pc := 150) (tgt := 184) ⟨(by decide), (by decide)⟩ (by decide) (zdal_p dlC_M_goOn_63 (i := 7) rfl) (fun hc_150 => ?_) (fun hc_150 => ?_)
                          · skip
                            have hend_ : u53_ = (zru zpD b_ n_ s_ : Nat) - s_ := by have hz_ := zru_sp2 (P := zpD) (b := b_) (n := n_) (s := s_) (k := u53_) (c := zhr N54_ u53_) (by (exact i56_)) (by rcases hk_ with ⟨q1_, q2_, q3_, q4_⟩ | ⟨q1_, q2_⟩; exact Or.inl ⟨by (exact zo_194 e3_N13_ e3_N15_ e3_N17_ e3_N54_ hs_ i57_ q1_), by rw [q2_, show ze N54_ 81 3 = s_ by (exact zo_182 e3_N13_ e3_N15_ e3_N17_ e3_N54_ hn7_ hs_ i56_ q1_)], Bool.eq_false_iff.mpr (fun h_ => by have := zpD_t.mp h_; (exact zo_225 hp1_N62_ hv63_a hv63_b this.1 this.2 ha147_0_hp0_N64_))⟩; exact Or.inr (by (exact zo_196 e3_N13_ e3_N15_ e3_N17_ e3_N54_ hn7_ hs_ i56_ q1_))) hru_; (exact zo_197 hn7_ hz_ i57_)
                            refine zw_aload_n (pc := 184) (n := 0) (x := 81) rfl (zdal_p dlC_M_goOn_64 (i := 1) rfl) ?_
                            refine zw_iload_n (pc := 185) (n := 2) (x := Int32.ofInt u53_) rfl (zdal_p dlC_M_goOn_64 (i := 2) rfl) ?_
                            refine zw_iconst (pc := 186) (v := Int32.ofInt 3) (by decide) (zdal_p dlC_M_goOn_64 (i := 3) rfl) ?_
                            refine zr_icmp_gt (pc := 187) (tgt := 201) ⟨hu53_a, hu53_b⟩ ⟨(by decide), (by decide)⟩ (by decide) (zdal_p dlC_M_goOn_64 (i := 4) rfl) (fun hc_187 => ?_) (fun hc_187 => ?_)
                            · skip
                              refine zw_iconst (pc := 201) (v := Int32.ofInt 4) (by decide) (zdal_p dlC_M_goOn_64 (i := 10) rfl) ?_
                              refine zw_goto (pc := 202) (tgt := 206) (by decide) (zdal_p dlC_M_goOn_64 (i := 11) rfl) ?_
                              refine zr_putI (hf_N54_.w hW) (pc := 206) f_M_155 rfl rfl ⟨by (decide), by (decide)⟩ rfl rfl (zdal_p dlC_M_goOn_64 (i := 13) rfl) (fun N70_ hsN70_ hvN70_ => ?_)
                              have hf_N70_ : zFr [3, 4, 5, 6, 11] [] Mz N70_ := hf_N54_.tr hsN70_ (by decide) (by decide)
                              have e2_N70_ : ze N70_ 81 2 = ze N54_ 81 2 := hsN70_.e (by decide)
                              have e3_N70_ : ze N70_ 81 3 = ze N54_ 81 3 := hsN70_.e (by decide)
                              have e4_N70_ : ze N70_ 81 4 = ze N54_ 81 4 := hsN70_.e (by decide)
                              have r5_N70_ := ze_r N70_ 81 5
                              have e6_N70_ : ze N70_ 81 6 = ze N54_ 81 6 := hsN70_.e (by decide)
                              have c71_ : zRb b_ n_ N70_ := zRb.fr hsN70_ c61_ (by decide) (by decide)
                              refine zw_goto (pc := 209) (tgt := 235) (by decide) (zdal_p dlC_M_goOn_64 (i := 14) rfl) ?_
                              refine zw_aload_n (pc := 235) (n := 0) (x := 81) rfl d_M_goOn_235 ?_
                              refine zw_dup (pc := 236) rfl d_M_goOn_236 ?_
                              refine zr_getI (hf_N70_.w hW) (pc := 237) f_M_135 rfl d_M_goOn_237 ?_
                              refine zw_iload_n (pc := 240) (n := 2) (x := Int32.ofInt u53_) rfl d_M_goOn_240 ?_
                              refine zr_iadd (pc := 241) d_M_goOn_241 ?_
                              refine zr_putI (hf_N70_.w hW) (pc := 242) f_M_135 rfl rfl ⟨by (exact zo_226 e3_N13_ e3_N15_ e3_N17_ e3_N54_ e3_N70_ hc_187 i3_), by (exact zo_227 e3_N13_ e3_N15_ e3_N17_ e3_N54_ e3_N70_ hn7_ i4_ i57_ r3_N1_.2)⟩ rfl rfl d_M_goOn_242 (fun N72_ hsN72_ hvN72_ => ?_)
                              have hf_N72_ : zFr [3, 4, 5, 6, 11] [] Mz N72_ := hf_N70_.tr hsN72_ (by decide) (by decide)
                              have e2_N72_ : ze N72_ 81 2 = ze N70_ 81 2 := hsN72_.e (by decide)
                              have r3_N72_ := ze_r N72_ 81 3
                              have e4_N72_ : ze N72_ 81 4 = ze N70_ 81 4 := hsN72_.e (by decide)
                              have e5_N72_ : ze N72_ 81 5 = ze N70_ 81 5 := hsN72_.e (by decide)
                              have e6_N72_ : ze N72_ 81 6 = ze N70_ 81 6 := hsN72_.e (by decide)
                              have c73_ : zRb b_ n_ N72_ := zRb.fr hsN72_ c71_ (by decide) (by decide)
                              have hge_ := zru_ge (P := zpL) (b := b_) (n := n_) (p := s_)
                              have hge2_ := zru_ge (P := zpD) (b := b_) (n := n_) (p := s_)
                              have hfin_ : zRt b_ n_ N72_ := by first | exact zRt_L (s := s_) (by omega) hsn_ hlt_ (by omega) (fun q_ => by have w_ := hwi_ (by omega); rw [show (u53_).toNat = zru zpL b_ n_ s_ - s_ by omega] at w_; rw [← w_]; first | exact (hsN72_.g (by decide)).trans hwf_) (by omega) | exact zRt_D (s := s_) (by (exact zo_200 e4_N15_ e4_N17_ e4_N54_ e4_N70_ e4_N72_ hn7_ hs_ hvN13_ i4_ r3_N1_.2)) hsn_ hnl_ hdt_ (by (exact zo_207 e3_N13_ e3_N15_ e3_N17_ e3_N54_ e3_N70_ hend_ hn7_ hs_ hvN72_ i57_ r3_N72_.1)) (fun q_ => by have w_ := hwi_ (by (exact zo_228 hend_ hn7_ i57_ q_)); rw [show (u53_).toNat = zru zpD b_ n_ s_ - s_ by (exact zo_229 hc_187 hend_ hge2_ hn7_ i57_ q_)] at w_; (exact zo_230 e6_N70_ e6_N72_ w_)) (by first | exact Or.inr ⟨fun q_ => by have := q_.1; (exact zo_231 hc_187 hend_ this), by (exact zo_232 e5_N72_ hvN70_)⟩ | exact Or.inr ⟨fun q_ => q_.2 ⟨hlb_.2, hlb_.1⟩, by omega⟩ | exact Or.inl ⟨⟨by omega, hlc_⟩, by omega⟩) | exact zRt_S (s := s_) (by omega) hsn_ hnl_ hnd_ (by omega) (by omega) (by first | exact Or.inl ⟨hsg_, by omega⟩ | exact Or.inr ⟨hsg_, by omega⟩)
                              exact zr_vret (pc := 245) rfl hf_N72_ ⟨(show ze N72_ 81 4 = (zru zpB b_ n_ (ze Mz 81 3).toNat : Nat) by (exact zo_204 e4_N15_ e4_N17_ e4_N54_ e4_N70_ e4_N72_ hn7_ hst_ hvN13_ i4_ r3_N1_.2)), hfin_⟩ d_M_goOn_245
                            · skip
                              refine zw_aload_n (pc := 190) (n := 0) (x := 81) rfl (zdal_p dlC_M_goOn_64 (i := 5) rfl) ?_
                              refine zw_iload_n (pc := 191) (n := 2) (x := Int32.ofInt u53_) rfl (zdal_p dlC_M_goOn_64 (i := 6) rfl) ?_
                              refine zr_callV (hf_N54_.w hW) hf_N54_.x (pc := 192) [.int (Int32.ofInt u53_)] [.ref 81] l_M_141 (c_M_here l N54_ (hf_N54_.w hW) u53_ hu53_a hu53_b (show 0 ≤ ze N54_ 81 3 + u53_ by first | assumption | (exact zo_215 e3_N13_ e3_N15_ e3_N17_ e3_N54_ i3_ i56_)) (show ze N54_ 81 3 ≤ 700 by first | assumption | (exact zo_178 e3_N13_ e3_N15_ e3_N17_ e3_N54_ hn7_ i4_ r3_N1_.2)) (show u53_ ≤ 1000 by first | assumption | (exact zo_233 hc_187)) (show ze N54_ 81 2 ≤ 700 by first | assumption | (exact zo_180 e2_N13_ e2_N15_ e2_N17_ e2_N1_ e2_N54_ hn7_ hn_ r_2.2))) rfl rfl rfl (by decide) (Nat.le_of_ble_eq_true rfl) (zdal_p dlC_M_goOn_64 (i := 7) rfl) ?_
                              rintro _ N74_ ⟨v75_, rfl, ⟨hv75_a, hv75_b⟩, hsN74_, ⟨hp0_N74_, hp1_N74_⟩⟩
                              obtain rfl := hsN74_.eq.symm
                              show zW l m_M_goOn (zn Mz + 0, zw Mz + 0) N54_ 195 [some (.ref 81), some (.int (Int32.ofInt v20_)), some (.int (Int32.ofInt u53_))] [.int (Int32.ofInt v75_), .ref 81] _
                              refine zr_callS hf_N54_.x (pc := 195) [.int (Int32.ofInt v75_)] [.ref 81] l_M_158 (c_M_isLetter l N54_ (hf_N54_.w hW) v75_ hv75_a hv75_b) rfl rfl (by decide) (Nat.le_of_ble_eq_true rfl) (zdal_p dlC_M_goOn_64 (i := 8) rfl) ?_
                              rintro _ N76_ ⟨v77_, rfl, ⟨hv77_a, hv77_b⟩, hsN76_, hp0_N76_⟩
                              obtain rfl := hsN76_.eq.symm
                              replace hp0_N76_ : ((v77_ = 1 ∧ 97 ≤ v75_ ∧ v75_ ≤ 122) ∨ (v77_ = 0 ∧ (v75_ < 97 ∨ 122 < v75_))) := hp0_N76_
                              rcases hp0_N76_ with ⟨rfl, ha195_0_hp0_N76_, ha195_1_hp0_N76_⟩ | ⟨rfl, ha195_0_hp0_N76_⟩
                              · skip
                                have hlb_ : zpL (b_ (zru zpD b_ n_ s_)) = true ∧ zru zpD b_ n_ s_ < n_ := by rcases hk_ with ⟨q1_, q2_, q3_, q4_⟩ | ⟨q1_, q2_⟩; exact ⟨by rw [show zru zpD b_ n_ s_ = (ze N54_ 81 3 + u53_).toNat by (exact zo_234 e3_N13_ e3_N15_ e3_N17_ e3_N54_ hend_ hn7_ hs_ i3_ i56_ i57_ q1_), ← q2_]; exact zpL_t.mpr (by (exact zo_235 ha195_0_hp0_N76_ ha195_1_hp0_N76_ hp1_N74_ q3_ q4_)), by (exact zo_236 e3_N13_ e3_N15_ e3_N17_ e3_N54_ hend_ hs_ i57_ q1_)⟩; exfalso; (exact zo_183 ha195_0_hp0_N76_ hp1_N74_ q2_)
                                show zW l m_M_goOn (zn Mz + 0, zw Mz + 0) N54_ 198 [some (.ref 81), some (.int (Int32.ofInt v20_)), some (.int (Int32.ofInt u53_))] [.int (Int32.ofInt 1), .ref 81] _
                                refine zr_if_eq (pc := 198) (tgt := 205) ⟨(by decide), (by decide)⟩ (by decide) (zdal_p dlC_M_goOn_64 (i := 9) rfl) (fun hc_198 => ?_) (fun hc_198 => ?_)
                                · skip
                                  exact absurd hc_198 (by decide)
                                · skip
                                  refine zw_iconst (pc := 201) (v := Int32.ofInt 4) (by decide) (zdal_p dlC_M_goOn_64 (i := 10) rfl) ?_
                                  refine zw_goto (pc := 202) (tgt := 206) (by decide) (zdal_p dlC_M_goOn_64 (i := 11) rfl) ?_
                                  refine zr_putI (hf_N54_.w hW) (pc := 206) f_M_155 rfl rfl ⟨by (decide), by (decide)⟩ rfl rfl (zdal_p dlC_M_goOn_64 (i := 13) rfl) (fun N78_ hsN78_ hvN78_ => ?_)
                                  have hf_N78_ : zFr [3, 4, 5, 6, 11] [] Mz N78_ := hf_N54_.tr hsN78_ (by decide) (by decide)
                                  have e2_N78_ : ze N78_ 81 2 = ze N54_ 81 2 := hsN78_.e (by decide)
                                  have e3_N78_ : ze N78_ 81 3 = ze N54_ 81 3 := hsN78_.e (by decide)
                                  have e4_N78_ : ze N78_ 81 4 = ze N54_ 81 4 := hsN78_.e (by decide)
                                  have r5_N78_ := ze_r N78_ 81 5
                                  have e6_N78_ : ze N78_ 81 6 = ze N54_ 81 6 := hsN78_.e (by decide)
                                  have c79_ : zRb b_ n_ N78_ := zRb.fr hsN78_ c61_ (by decide) (by decide)
                                  refine zw_goto (pc := 209) (tgt := 235) (by decide) (zdal_p dlC_M_goOn_64 (i := 14) rfl) ?_
                                  refine zw_aload_n (pc := 235) (n := 0) (x := 81) rfl d_M_goOn_235 ?_
                                  refine zw_dup (pc := 236) rfl d_M_goOn_236 ?_
                                  refine zr_getI (hf_N78_.w hW) (pc := 237) f_M_135 rfl d_M_goOn_237 ?_
                                  refine zw_iload_n (pc := 240) (n := 2) (x := Int32.ofInt u53_) rfl d_M_goOn_240 ?_
                                  refine zr_iadd (pc := 241) d_M_goOn_241 ?_
                                  refine zr_putI (hf_N78_.w hW) (pc := 242) f_M_135 rfl rfl ⟨by (exact zo_237 e3_N13_ e3_N15_ e3_N17_ e3_N54_ e3_N78_ i3_ i56_), by (exact zo_238 e3_N13_ e3_N15_ e3_N17_ e3_N54_ e3_N78_ hc_187 hn7_ i4_ r3_N1_.2)⟩ rfl rfl d_M_goOn_242 (fun N80_ hsN80_ hvN80_ => ?_)
                                  have hf_N80_ : zFr [3, 4, 5, 6, 11] [] Mz N80_ := hf_N78_.tr hsN80_ (by decide) (by decide)
                                  have e2_N80_ : ze N80_ 81 2 = ze N78_ 81 2 := hsN80_.e (by decide)
                                  have r3_N80_ := ze_r N80_ 81 3
                                  have e4_N80_ : ze N80_ 81 4 = ze N78_ 81 4 := hsN80_.e (by decide)
                                  have e5_N80_ : ze N80_ 81 5 = ze N78_ 81 5 := hsN80_.e (by decide)
                                  have e6_N80_ : ze N80_ 81 6 = ze N78_ 81 6 := hsN80_.e (by decide)
                                  have c81_ : zRb b_ n_ N80_ := zRb.fr hsN80_ c79_ (by decide) (by decide)
                                  have hge_ := zru_ge (P := zpL) (b := b_) (n := n_) (p := s_)
                                  have hge2_ := zru_ge (P := zpD) (b := b_) (n := n_) (p := s_)
                                  have hfin_ : zRt b_ n_ N80_ := by first | exact zRt_L (s := s_) (by omega) hsn_ hlt_ (by omega) (fun q_ => by have w_ := hwi_ (by omega); rw [show (u53_).toNat = zru zpL b_ n_ s_ - s_ by omega] at w_; rw [← w_]; first | exact (hsN80_.g (by decide)).trans hwf_) (by omega) | exact zRt_D (s := s_) (by (exact zo_200 e4_N15_ e4_N17_ e4_N54_ e4_N78_ e4_N80_ hn7_ hs_ hvN13_ i4_ r3_N1_.2)) hsn_ hnl_ hdt_ (by (exact zo_239 e3_N13_ e3_N15_ e3_N17_ e3_N54_ e3_N78_ hc_187 hend_ hlb_.2 hn7_ hs_ hvN80_ i4_ r3_N1_.2 r3_N80_.1)) (fun q_ => by have w_ := hwi_ (by (exact hc_187)); rw [show (u53_).toNat = zru zpD b_ n_ s_ - s_ by (exact zo_240 hc_187 hend_ hge2_ hn7_ i56_ i57_ q_)] at w_; (exact zo_230 e6_N78_ e6_N80_ w_)) (by first | exact Or.inr ⟨fun q_ => by have := q_.1; omega, by omega⟩ | exact Or.inr ⟨fun q_ => q_.2 ⟨hlb_.2, hlb_.1⟩, by (exact zo_232 e5_N80_ hvN78_)⟩ | exact Or.inl ⟨⟨by omega, hlc_⟩, by omega⟩) | exact zRt_S (s := s_) (by omega) hsn_ hnl_ hnd_ (by omega) (by omega) (by first | exact Or.inl ⟨hsg_, by omega⟩ | exact Or.inr ⟨hsg_, by omega⟩)
                                  exact zr_vret (pc := 245) rfl hf_N80_ ⟨(show ze N80_ 81 4 = (zru zpB b_ n_ (ze Mz 81 3).toNat : Nat) by (exact zo_204 e4_N15_ e4_N17_ e4_N54_ e4_N78_ e4_N80_ hn7_ hst_ hvN13_ i4_ r3_N1_.2)), hfin_⟩ d_M_goOn_245
                              · skip
                                have hlc_ : ¬ (zru zpD b_ n_ s_ < n_ ∧ zpL (b_ (zru zpD b_ n_ s_)) = true) := by rintro ⟨z1_, z2_⟩; rcases hk_ with ⟨q1_, q2_, q3_, q4_⟩ | ⟨q1_, q2_⟩; rw [show zru zpD b_ n_ s_ = (ze N54_ 81 3 + u53_).toNat by (exact zo_241 e3_N13_ e3_N15_ e3_N17_ e3_N54_ hend_ hn7_ hs_ i3_ i56_ q1_ z1_), ← q2_] at z2_; have z3_ := zpL_t.mp z2_; (exact zo_195 hp1_N74_ hv75_a hv75_b z3_.1 z3_.2 ha195_0_hp0_N76_); (exact zo_242 e3_N13_ e3_N15_ e3_N17_ e3_N54_ hend_ hs_ q1_ z1_)
                                show zW l m_M_goOn (zn Mz + 0, zw Mz + 0) N54_ 198 [some (.ref 81), some (.int (Int32.ofInt v20_)), some (.int (Int32.ofInt u53_))] [.int (Int32.ofInt 0), .ref 81] _
                                refine zr_if_eq (pc := 198) (tgt := 205) ⟨(by decide), (by decide)⟩ (by decide) (zdal_p dlC_M_goOn_64 (i := 9) rfl) (fun hc_198 => ?_) (fun hc_198 => ?_)
                                · skip
                                  refine zw_iconst (pc := 205) (v := Int32.ofInt 2) (by decide) (zdal_p dlC_M_goOn_64 (i := 12) rfl) ?_
                                  refine zr_putI (hf_N54_.w hW) (pc := 206) f_M_155 rfl rfl ⟨by (decide), by (decide)⟩ rfl rfl (zdal_p dlC_M_goOn_64 (i := 13) rfl) (fun N82_ hsN82_ hvN82_ => ?_)
                                  have hf_N82_ : zFr [3, 4, 5, 6, 11] [] Mz N82_ := hf_N54_.tr hsN82_ (by decide) (by decide)
                                  have e2_N82_ : ze N82_ 81 2 = ze N54_ 81 2 := hsN82_.e (by decide)
                                  have e3_N82_ : ze N82_ 81 3 = ze N54_ 81 3 := hsN82_.e (by decide)
                                  have e4_N82_ : ze N82_ 81 4 = ze N54_ 81 4 := hsN82_.e (by decide)
                                  have r5_N82_ := ze_r N82_ 81 5
                                  have e6_N82_ : ze N82_ 81 6 = ze N54_ 81 6 := hsN82_.e (by decide)
                                  have c83_ : zRb b_ n_ N82_ := zRb.fr hsN82_ c61_ (by decide) (by decide)
                                  refine zw_goto (pc := 209) (tgt := 235) (by decide) (zdal_p dlC_M_goOn_64 (i := 14) rfl) ?_
                                  refine zw_aload_n (pc := 235) (n := 0) (x := 81) rfl d_M_goOn_235 ?_
                                  refine zw_dup (pc := 236) rfl d_M_goOn_236 ?_
                                  refine zr_getI (hf_N82_.w hW) (pc := 237) f_M_135 rfl d_M_goOn_237 ?_
                                  refine zw_iload_n (pc := 240) (n := 2) (x := Int32.ofInt u53_) rfl d_M_goOn_240 ?_
                                  refine zr_iadd (pc := 241) d_M_goOn_241 ?_
                                  refine zr_putI (hf_N82_.w hW) (pc := 242) f_M_135 rfl rfl ⟨by (exact zo_237 e3_N13_ e3_N15_ e3_N17_ e3_N54_ e3_N82_ i3_ i56_), by (exact zo_238 e3_N13_ e3_N15_ e3_N17_ e3_N54_ e3_N82_ hc_187 hn7_ i4_ r3_N1_.2)⟩ rfl rfl d_M_goOn_242 (fun N84_ hsN84_ hvN84_ => ?_)
                                  have hf_N84_ : zFr [3, 4, 5, 6, 11] [] Mz N84_ := hf_N82_.tr hsN84_ (by decide) (by decide)
                                  have e2_N84_ : ze N84_ 81 2 = ze N82_ 81 2 := hsN84_.e (by decide)
                                  have r3_N84_ := ze_r N84_ 81 3
                                  have e4_N84_ : ze N84_ 81 4 = ze N82_ 81 4 := hsN84_.e (by decide)
                                  have e5_N84_ : ze N84_ 81 5 = ze N82_ 81 5 := hsN84_.e (by decide)
                                  have e6_N84_ : ze N84_ 81 6 = ze N82_ 81 6 := hsN84_.e (by decide)
                                  have c85_ : zRb b_ n_ N84_ := zRb.fr hsN84_ c83_ (by decide) (by decide)
                                  have hge_ := zru_ge (P := zpL) (b := b_) (n := n_) (p := s_)
                                  have hge2_ := zru_ge (P := zpD) (b := b_) (n := n_) (p := s_)
                                  have hfin_ : zRt b_ n_ N84_ := by first | exact zRt_L (s := s_) (by omega) hsn_ hlt_ (by omega) (fun q_ => by have w_ := hwi_ (by omega); rw [show (u53_).toNat = zru zpL b_ n_ s_ - s_ by omega] at w_; rw [← w_]; first | exact (hsN84_.g (by decide)).trans hwf_) (by omega) | exact zRt_D (s := s_) (by (exact zo_200 e4_N15_ e4_N17_ e4_N54_ e4_N82_ e4_N84_ hn7_ hs_ hvN13_ i4_ r3_N1_.2)) hsn_ hnl_ hdt_ (by (exact zo_243 e3_N13_ e3_N15_ e3_N17_ e3_N54_ e3_N82_ hc_187 hend_ hn7_ hs_ hvN84_ i4_ i57_ r3_N1_.2 r3_N84_.1)) (fun q_ => by have w_ := hwi_ (by (exact hc_187)); rw [show (u53_).toNat = zru zpD b_ n_ s_ - s_ by (exact zo_240 hc_187 hend_ hge2_ hn7_ i56_ i57_ q_)] at w_; (exact zo_230 e6_N82_ e6_N84_ w_)) (by first | exact Or.inr ⟨fun q_ => by have := q_.1; omega, by omega⟩ | exact Or.inr ⟨fun q_ => q_.2 ⟨hlb_.2, hlb_.1⟩, by omega⟩ | exact Or.inl ⟨⟨by (exact zo_244 hc_187 hend_), hlc_⟩, by (exact zo_245 e5_N84_ hvN82_)⟩) | exact zRt_S (s := s_) (by omega) hsn_ hnl_ hnd_ (by omega) (by omega) (by first | exact Or.inl ⟨hsg_, by omega⟩ | exact Or.inr ⟨hsg_, by omega⟩)
                                  exact zr_vret (pc := 245) rfl hf_N84_ ⟨(show ze N84_ 81 4 = (zru zpB b_ n_ (ze Mz 81 3).toNat : Nat) by (exact zo_204 e4_N15_ e4_N17_ e4_N54_ e4_N82_ e4_N84_ hn7_ hst_ hvN13_ i4_ r3_N1_.2)), hfin_⟩ d_M_goOn_245
                                · skip
                                  exact absurd hc_198 (by decide)
                          · skip
                            exact absurd hc_150 (by decide)
                    exact lp_142 _ 0 (by decide) (by decide) N17_ zFr.rf (show 0 ≤ (0 : Int) by first | assumption | (decide)) (show s_ + (0 : Int) ≤ n_ by (exact zo_211 hsn_)) (show zru zpD b_ n_ (s_ + (0 : Int)).toNat = zru zpD b_ n_ s_ by rw [show (s_ + (0 : Int)).toNat = s_ by (exact zo_212)]) (show ∀ j : Nat, s_ ≤ j → j < (s_ + (0 : Int)).toNat → zpD (b_ j) = true by intro j h1 h2; omega) (show ((0 : Int) ≤ 3 → ze N17_ 81 6 = zvl b_ s_ ((0 : Int)).toNat) by intro _; show _ = (0 : Int); (exact hvN17_)) (Nat.lt_succ_self _)
                · skip
                  show zW l m_M_goOn (zn Mz + 0, zw Mz + 0) N17_ 139 [some (.ref 81), some (.int (Int32.ofInt v20_)), some (.int (Int32.ofInt 0))] [.int (Int32.ofInt 0)] _
                  refine zr_if_eq (pc := 139) (tgt := 212) ⟨(by decide), (by decide)⟩ (by decide) (zdal_p dlC_M_goOn_63 (i := 2) rfl) (fun hc_139 => ?_) (fun hc_139 => ?_)
                  · skip
                    have hnd_ : zpD (b_ s_) = false := by rw [← hcb_]; exact Bool.eq_false_iff.mpr (fun h_ => by have := zpD_t.mp h_; (exact zo_246 this.1 this.2 ha136_0_hp0_N51_))
                    refine zw_aload_n (pc := 212) (n := 0) (x := 81) rfl (zdal_p dlC_M_goOn_64 (i := 15) rfl) ?_
                    refine zw_iload_n (pc := 213) (n := 1) (x := Int32.ofInt v20_) rfl (zdal_p dlC_M_goOn_64 (i := 16) rfl) ?_
                    refine zr_callS hf_N17_.x (pc := 214) [.int (Int32.ofInt v20_)] [.ref 81] l_M_165 (c_M_isSignF l N17_ (hf_N17_.w hW) v20_ hv20_a hv20_b) rfl rfl (by decide) (Nat.le_of_ble_eq_true rfl) (zdal_p dlC_M_goOn_64 (i := 17) rfl) ?_
                    rintro _ N86_ ⟨v87_, rfl, ⟨hv87_a, hv87_b⟩, hsN86_, hp0_N86_⟩
                    obtain rfl := hsN86_.eq.symm
                    replace hp0_N86_ : ((v87_ = 1 ∧ zpS v20_ = true) ∨ (v87_ = 0 ∧ zpS v20_ = false)) := hp0_N86_
                    rcases hp0_N86_ with ⟨rfl, ha214_0_hp0_N86_⟩ | ⟨rfl, ha214_0_hp0_N86_⟩
                    · skip
                      have hsg_ : zpS (b_ s_) = true := by rw [← hcb_]; exact ha214_0_hp0_N86_
                      show zW l m_M_goOn (zn Mz + 0, zw Mz + 0) N17_ 217 [some (.ref 81), some (.int (Int32.ofInt v20_)), some (.int (Int32.ofInt 0))] [.int (Int32.ofInt 1), .ref 81] _
                      refine zr_if_eq (pc := 217) (tgt := 224) ⟨(by decide), (by decide)⟩ (by decide) (zdal_p dlC_M_goOn_64 (i := 18) rfl) (fun hc_217 => ?_) (fun hc_217 => ?_)
                      · skip
                        exact absurd hc_217 (by decide)
                      · skip
                        refine zw_iconst (pc := 220) (v := Int32.ofInt 3) (by decide) (zdal_p dlC_M_goOn_64 (i := 19) rfl) ?_
                        refine zw_goto (pc := 221) (tgt := 225) (by decide) (zdal_p dlC_M_goOn_64 (i := 20) rfl) ?_
                        refine zr_putI (hf_N17_.w hW) (pc := 225) f_M_155 rfl rfl ⟨by (decide), by (decide)⟩ rfl rfl (zdal_p dlC_M_goOn_64 (i := 22) rfl) (fun N88_ hsN88_ hvN88_ => ?_)
                        have hf_N88_ : zFr [3, 4, 5, 6, 11] [] Mz N88_ := hf_N17_.tr hsN88_ (by decide) (by decide)
                        have e2_N88_ : ze N88_ 81 2 = ze N17_ 81 2 := hsN88_.e (by decide)
                        have e3_N88_ : ze N88_ 81 3 = ze N17_ 81 3 := hsN88_.e (by decide)
                        have e4_N88_ : ze N88_ 81 4 = ze N17_ 81 4 := hsN88_.e (by decide)
                        have r5_N88_ := ze_r N88_ 81 5
                        have e6_N88_ : ze N88_ 81 6 = ze N17_ 81 6 := hsN88_.e (by decide)
                        have c89_ : zRb b_ n_ N88_ := zRb.fr hsN88_ c18_ (by decide) (by decide)
                        refine zw_aload_n (pc := 228) (n := 0) (x := 81) rfl (zdal_p dlC_M_goOn_64 (i := 23) rfl) ?_
                        refine zw_iload_n (pc := 229) (n := 1) (x := Int32.ofInt v20_) rfl (zdal_p dlC_M_goOn_65 (i := 0) rfl) ?_
                        refine zr_putI (hf_N88_.w hW) (pc := 230) f_M_152 rfl rfl ⟨by (exact hv20_a), by (exact hv20_b)⟩ rfl rfl (zdal_p dlC_M_goOn_65 (i := 1) rfl) (fun N90_ hsN90_ hvN90_ => ?_)
                        have hf_N90_ : zFr [3, 4, 5, 6, 11] [] Mz N90_ := hf_N88_.tr hsN90_ (by decide) (by decide)
                        have e2_N90_ : ze N90_ 81 2 = ze N88_ 81 2 := hsN90_.e (by decide)
                        have e3_N90_ : ze N90_ 81 3 = ze N88_ 81 3 := hsN90_.e (by decide)
                        have e4_N90_ : ze N90_ 81 4 = ze N88_ 81 4 := hsN90_.e (by decide)
                        have e5_N90_ : ze N90_ 81 5 = ze N88_ 81 5 := hsN90_.e (by decide)
                        have r6_N90_ := ze_r N90_ 81 6
                        have c91_ : zRb b_ n_ N90_ := zRb.fr hsN90_ c89_ (by decide) (by decide)
                        refine zw_iconst (pc := 233) (v := Int32.ofInt 1) (by decide) (zdal_p dlC_M_goOn_65 (i := 2) rfl) ?_
                        refine zw_istore_n (pc := 234) (i := 2) (L2 := [some (.ref 81), some (.int (Int32.ofInt v20_)), some (.int (Int32.ofInt 1))]) rfl (by decide) rfl (zdal_p dlC_M_goOn_65 (i := 3) rfl) ?_
                        refine zw_aload_n (pc := 235) (n := 0) (x := 81) rfl d_M_goOn_235 ?_
                        refine zw_dup (pc := 236) rfl d_M_goOn_236 ?_
                        refine zr_getI (hf_N90_.w hW) (pc := 237) f_M_135 rfl d_M_goOn_237 ?_
                        refine zw_iload_n (pc := 240) (n := 2) (x := Int32.ofInt 1) rfl d_M_goOn_240 ?_
                        refine zr_iadd (pc := 241) d_M_goOn_241 ?_
                        refine zr_putI (hf_N90_.w hW) (pc := 242) f_M_135 rfl rfl ⟨by (exact zo_247 e3_N13_ e3_N15_ e3_N17_ e3_N88_ e3_N90_ i3_), by (exact zo_248 e3_N13_ e3_N15_ e3_N17_ e3_N88_ e3_N90_ hn7_ i4_ r3_N1_.2)⟩ rfl rfl d_M_goOn_242 (fun N92_ hsN92_ hvN92_ => ?_)
                        have hf_N92_ : zFr [3, 4, 5, 6, 11] [] Mz N92_ := hf_N90_.tr hsN92_ (by decide) (by decide)
                        have e2_N92_ : ze N92_ 81 2 = ze N90_ 81 2 := hsN92_.e (by decide)
                        have r3_N92_ := ze_r N92_ 81 3
                        have e4_N92_ : ze N92_ 81 4 = ze N90_ 81 4 := hsN92_.e (by decide)
                        have e5_N92_ : ze N92_ 81 5 = ze N90_ 81 5 := hsN92_.e (by decide)
                        have e6_N92_ : ze N92_ 81 6 = ze N90_ 81 6 := hsN92_.e (by decide)
                        have c93_ : zRb b_ n_ N92_ := zRb.fr hsN92_ c91_ (by decide) (by decide)
                        have hge_ := zru_ge (P := zpL) (b := b_) (n := n_) (p := s_)
                        have hge2_ := zru_ge (P := zpD) (b := b_) (n := n_) (p := s_)
                        have hfin_ : zRt b_ n_ N92_ := by first | exact zRt_L (s := s_) (by omega) hsn_ hlt_ (by omega) (fun q_ => by have w_ := hwi_ (by omega); rw [show ((1 : Int)).toNat = zru zpL b_ n_ s_ - s_ by omega] at w_; rw [← w_]; first | exact (hsN92_.g (by decide)).trans hwf_) (by omega) | exact zRt_D (s := s_) (by omega) hsn_ hnl_ hdt_ (by omega) (fun q_ => by have w_ := hwi_ (by omega); rw [show ((1 : Int)).toNat = zru zpD b_ n_ s_ - s_ by omega] at w_; omega) (by first | exact Or.inr ⟨fun q_ => by have := q_.1; omega, by omega⟩ | exact Or.inr ⟨fun q_ => q_.2 ⟨hlb_.2, hlb_.1⟩, by omega⟩ | exact Or.inl ⟨⟨by omega, hlc_⟩, by omega⟩) | exact zRt_S (s := s_) (by (exact zo_200 e4_N15_ e4_N17_ e4_N88_ e4_N90_ e4_N92_ hn7_ hs_ hvN13_ i4_ r3_N1_.2)) hsn_ hnl_ hnd_ (by (exact zo_249 e3_N13_ e3_N15_ e3_N17_ e3_N88_ e3_N90_ hn7_ hs_ hsn_ hvN92_ i4_ r3_N1_.2 r3_N92_.1)) (by (exact zo_250 e6_N92_ hcb_ hvN90_)) (by first | exact Or.inl ⟨hsg_, by (exact zo_251 e5_N90_ e5_N92_ hvN88_)⟩ | exact Or.inr ⟨hsg_, by omega⟩)
                        exact zr_vret (pc := 245) rfl hf_N92_ ⟨(show ze N92_ 81 4 = (zru zpB b_ n_ (ze Mz 81 3).toNat : Nat) by (exact zo_204 e4_N15_ e4_N17_ e4_N88_ e4_N90_ e4_N92_ hn7_ hst_ hvN13_ i4_ r3_N1_.2)), hfin_⟩ d_M_goOn_245
                    · skip
                      have hsg_ : zpS (b_ s_) = false := by rw [← hcb_]; exact ha214_0_hp0_N86_
                      show zW l m_M_goOn (zn Mz + 0, zw Mz + 0) N17_ 217 [some (.ref 81), some (.int (Int32.ofInt v20_)), some (.int (Int32.ofInt 0))] [.int (Int32.ofInt 0), .ref 81] _
                      refine zr_if_eq (pc := 217) (tgt := 224) ⟨(by decide), (by decide)⟩ (by decide) (zdal_p dlC_M_goOn_64 (i := 18) rfl) (fun hc_217 => ?_) (fun hc_217 => ?_)
                      · skip
                        refine zw_iconst (pc := 224) (v := Int32.ofInt 4) (by decide) (zdal_p dlC_M_goOn_64 (i := 21) rfl) ?_
                        refine zr_putI (hf_N17_.w hW) (pc := 225) f_M_155 rfl rfl ⟨by (decide), by (decide)⟩ rfl rfl (zdal_p dlC_M_goOn_64 (i := 22) rfl) (fun N94_ hsN94_ hvN94_ => ?_)
                        have hf_N94_ : zFr [3, 4, 5, 6, 11] [] Mz N94_ := hf_N17_.tr hsN94_ (by decide) (by decide)
                        have e2_N94_ : ze N94_ 81 2 = ze N17_ 81 2 := hsN94_.e (by decide)
                        have e3_N94_ : ze N94_ 81 3 = ze N17_ 81 3 := hsN94_.e (by decide)
                        have e4_N94_ : ze N94_ 81 4 = ze N17_ 81 4 := hsN94_.e (by decide)
                        have r5_N94_ := ze_r N94_ 81 5
                        have e6_N94_ : ze N94_ 81 6 = ze N17_ 81 6 := hsN94_.e (by decide)
                        have c95_ : zRb b_ n_ N94_ := zRb.fr hsN94_ c18_ (by decide) (by decide)
                        refine zw_aload_n (pc := 228) (n := 0) (x := 81) rfl (zdal_p dlC_M_goOn_64 (i := 23) rfl) ?_
                        refine zw_iload_n (pc := 229) (n := 1) (x := Int32.ofInt v20_) rfl (zdal_p dlC_M_goOn_65 (i := 0) rfl) ?_
                        refine zr_putI (hf_N94_.w hW) (pc := 230) f_M_152 rfl rfl ⟨by (exact hv20_a), by (exact hv20_b)⟩ rfl rfl (zdal_p dlC_M_goOn_65 (i := 1) rfl) (fun N96_ hsN96_ hvN96_ => ?_)
                        have hf_N96_ : zFr [3, 4, 5, 6, 11] [] Mz N96_ := hf_N94_.tr hsN96_ (by decide) (by decide)
                        have e2_N96_ : ze N96_ 81 2 = ze N94_ 81 2 := hsN96_.e (by decide)
                        have e3_N96_ : ze N96_ 81 3 = ze N94_ 81 3 := hsN96_.e (by decide)
                        have e4_N96_ : ze N96_ 81 4 = ze N94_ 81 4 := hsN96_.e (by decide)
                        have e5_N96_ : ze N96_ 81 5 = ze N94_ 81 5 := hsN96_.e (by decide)
                        have r6_N96_ := ze_r N96_ 81 6
                        have c97_ : zRb b_ n_ N96_ := zRb.fr hsN96_ c95_ (by decide) (by decide)
                        refine zw_iconst (pc := 233) (v := Int32.ofInt 1) (by decide) (zdal_p dlC_M_goOn_65 (i := 2) rfl) ?_
                        refine zw_istore_n (pc := 234) (i := 2) (L2 := [some (.ref 81), some (.int (Int32.ofInt v20_)), some (.int (Int32.ofInt 1))]) rfl (by decide) rfl (zdal_p dlC_M_goOn_65 (i := 3) rfl) ?_
                        refine zw_aload_n (pc := 235) (n := 0) (x := 81) rfl d_M_goOn_235 ?_
                        refine zw_dup (pc := 236) rfl d_M_goOn_236 ?_
                        refine zr_getI (hf_N96_.w hW) (pc := 237) f_M_135 rfl d_M_goOn_237 ?_
                        refine zw_iload_n (pc := 240) (n := 2) (x := Int32.ofInt 1) rfl d_M_goOn_240 ?_
                        refine zr_iadd (pc := 241) d_M_goOn_241 ?_
                        refine zr_putI (hf_N96_.w hW) (pc := 242) f_M_135 rfl rfl ⟨by (exact zo_247 e3_N13_ e3_N15_ e3_N17_ e3_N94_ e3_N96_ i3_), by (exact zo_248 e3_N13_ e3_N15_ e3_N17_ e3_N94_ e3_N96_ hn7_ i4_ r3_N1_.2)⟩ rfl rfl d_M_goOn_242 (fun N98_ hsN98_ hvN98_ => ?_)
                        have hf_N98_ : zFr [3, 4, 5, 6, 11] [] Mz N98_ := hf_N96_.tr hsN98_ (by decide) (by decide)
                        have e2_N98_ : ze N98_ 81 2 = ze N96_ 81 2 := hsN98_.e (by decide)
                        have r3_N98_ := ze_r N98_ 81 3
                        have e4_N98_ : ze N98_ 81 4 = ze N96_ 81 4 := hsN98_.e (by decide)
                        have e5_N98_ : ze N98_ 81 5 = ze N96_ 81 5 := hsN98_.e (by decide)
                        have e6_N98_ : ze N98_ 81 6 = ze N96_ 81 6 := hsN98_.e (by decide)
                        have c99_ : zRb b_ n_ N98_ := zRb.fr hsN98_ c97_ (by decide) (by decide)
                        have hge_ := zru_ge (P := zpL) (b := b_) (n := n_) (p := s_)
                        have hge2_ := zru_ge (P := zpD) (b := b_) (n := n_) (p := s_)
                        have hfin_ : zRt b_ n_ N98_ := by first | exact zRt_L (s := s_) (by omega) hsn_ hlt_ (by omega) (fun q_ => by have w_ := hwi_ (by omega); rw [show ((1 : Int)).toNat = zru zpL b_ n_ s_ - s_ by omega] at w_; rw [← w_]; first | exact (hsN98_.g (by decide)).trans hwf_) (by omega) | exact zRt_D (s := s_) (by omega) hsn_ hnl_ hdt_ (by omega) (fun q_ => by have w_ := hwi_ (by omega); rw [show ((1 : Int)).toNat = zru zpD b_ n_ s_ - s_ by omega] at w_; omega) (by first | exact Or.inr ⟨fun q_ => by have := q_.1; omega, by omega⟩ | exact Or.inr ⟨fun q_ => q_.2 ⟨hlb_.2, hlb_.1⟩, by omega⟩ | exact Or.inl ⟨⟨by omega, hlc_⟩, by omega⟩) | exact zRt_S (s := s_) (by (exact zo_200 e4_N15_ e4_N17_ e4_N94_ e4_N96_ e4_N98_ hn7_ hs_ hvN13_ i4_ r3_N1_.2)) hsn_ hnl_ hnd_ (by (exact zo_249 e3_N13_ e3_N15_ e3_N17_ e3_N94_ e3_N96_ hn7_ hs_ hsn_ hvN98_ i4_ r3_N1_.2 r3_N98_.1)) (by (exact zo_250 e6_N98_ hcb_ hvN96_)) (by first | exact Or.inl ⟨hsg_, by omega⟩ | exact Or.inr ⟨hsg_, by (exact zo_252 e5_N96_ e5_N98_ hvN94_)⟩)
                        exact zr_vret (pc := 245) rfl hf_N98_ ⟨(show ze N98_ 81 4 = (zru zpB b_ n_ (ze Mz 81 3).toNat : Nat) by (exact zo_204 e4_N15_ e4_N17_ e4_N94_ e4_N96_ e4_N98_ hn7_ hst_ hvN13_ i4_ r3_N1_.2)), hfin_⟩ d_M_goOn_245
                      · skip
                        exact absurd hc_217 (by decide)
                  · skip
                    exact absurd hc_139 (by decide)
              · skip
                exact absurd hc_73 (by decide)
          · skip
            refine zw_aload_n (pc := 63) (n := 0) (x := 81) rfl (zdal_p dlC_M_goOn_61 (i := 11) rfl) ?_
            refine zw_iconst (pc := 64) (v := Int32.ofInt 0) (by decide) (zdal_p dlC_M_goOn_61 (i := 12) rfl) ?_
            refine zr_putI (hf_N17_.w hW) (pc := 65) f_M_155 rfl rfl ⟨by (decide), by (decide)⟩ rfl rfl (zdal_p dlC_M_goOn_61 (i := 13) rfl) (fun N100_ hsN100_ hvN100_ => ?_)
            have hf_N100_ : zFr [3, 4, 5, 6, 11] [] Mz N100_ := hf_N17_.tr hsN100_ (by decide) (by decide)
            have e2_N100_ : ze N100_ 81 2 = ze N17_ 81 2 := hsN100_.e (by decide)
            have e3_N100_ : ze N100_ 81 3 = ze N17_ 81 3 := hsN100_.e (by decide)
            have e4_N100_ : ze N100_ 81 4 = ze N17_ 81 4 := hsN100_.e (by decide)
            have r5_N100_ := ze_r N100_ 81 5
            have e6_N100_ : ze N100_ 81 6 = ze N17_ 81 6 := hsN100_.e (by decide)
            have c101_ : zRb b_ n_ N100_ := zRb.fr hsN100_ c18_ (by decide) (by decide)
            have hfin_ : zRt b_ n_ N100_ := zRt_0 (s := s_) (by (exact zo_253 e4_N100_ e4_N15_ e4_N17_ hn7_ hs_ hvN13_ i4_ r3_N1_.2)) (by rcases hc_ with ⟨q1_, q2_, q3_, q4_⟩ | ⟨q1_, q2_⟩; exfalso; (exact zo_254 hc_60 hp1_N19_ q3_); (exact zo_255 e3_N13_ e3_N15_ e3_N17_ hn7_ hs_ i4_ q1_ r3_N1_.2)) (by (exact zo_256 e3_N100_ e3_N13_ e3_N15_ e3_N17_ hn7_ hs_ i4_ r3_N1_.2)) (by (exact hvN100_))
            exact zr_vret (pc := 68) rfl hf_N100_ ⟨(show ze N100_ 81 4 = (zru zpB b_ n_ (ze Mz 81 3).toNat : Nat) by (exact zo_257 e4_N100_ e4_N15_ e4_N17_ hn7_ hst_ hvN13_ i4_ r3_N1_.2)), hfin_⟩ (zdal_p dlC_M_goOn_61 (i := 14) rfl)
        · skip
          have hbl_ : zhr N1_ 0 = 32 ∨ zhr N1_ 0 = 10 := by (exact zo_258 hc_17 hp1_N11_)
          refine zw_aload_n (pc := 20) (n := 0) (x := 81) rfl (zdal_p dlC_M_goOn_60 (i := 10) rfl) ?_
          refine zw_dup (pc := 21) rfl (zdal_p dlC_M_goOn_60 (i := 11) rfl) ?_
          refine zr_getI (hf_N1_.w hW) (pc := 22) f_M_135 rfl (zdal_p dlC_M_goOn_60 (i := 12) rfl) ?_
          refine zw_iconst (pc := 25) (v := Int32.ofInt 1) (by decide) (zdal_p dlC_M_goOn_60 (i := 13) rfl) ?_
          refine zr_iadd (pc := 26) (zdal_p dlC_M_goOn_60 (i := 14) rfl) ?_
          refine zr_putI (hf_N1_.w hW) (pc := 27) f_M_135 rfl rfl ⟨by (exact zo_74 i3_), by (exact zo_162 hn7_ i4_ r3_N1_.2)⟩ rfl rfl (zdal_p dlC_M_goOn_60 (i := 15) rfl) (fun N102_ hsN102_ hvN102_ => ?_)
          have hf_N102_ : zFr [3, 4, 5, 6, 11] [] Mz N102_ := hf_N1_.tr hsN102_ (by decide) (by decide)
          have hb0_N102_ : zFr [3] [] Mz N102_ := hs2_.tr hsN102_ (by decide) (by decide)
          have e2_N102_ : ze N102_ 81 2 = ze N1_ 81 2 := hsN102_.e (by decide)
          have r3_N102_ := ze_r N102_ 81 3
          have e4_N102_ : ze N102_ 81 4 = ze N1_ 81 4 := hsN102_.e (by decide)
          have e5_N102_ : ze N102_ 81 5 = ze N1_ 81 5 := hsN102_.e (by decide)
          have e6_N102_ : ze N102_ 81 6 = ze N1_ 81 6 := hsN102_.e (by decide)
          have c103_ : zRb b_ n_ N102_ := zRb.fr hsN102_ c6_ (by decide) (by decide)
          refine zw_goto (pc := 30) (tgt := 0) (by decide) (zdal_p dlC_M_goOn_60 (i := 16) rfl) ?_
          exact ih_0 N102_ hb0_N102_ (show 0 ≤ ze N102_ 81 3 by first | assumption | (exact zo_163 hvN102_ i3_ r3_N102_.1)) (show ze N102_ 81 3 ≤ n_ by first | assumption | omega) (show zru zpB b_ n_ (ze N102_ 81 3).toNat = zru zpB b_ n_ (ze Mz 81 3).toNat by rw [show ze N102_ 81 3 = ze N1_ 81 3 + 1 by (exact hvN102_)]; rcases hh_ with ⟨q1_, q2_, q3_, q4_⟩ | ⟨q1_, q2_⟩; exact zru_step (P := zpB) (v := zhr N1_ 0) (by (exact i3_)) (by (exact zo_164 q1_ r3_N1_.2)) (by rw [q2_, Int.add_zero]) (zpB_t.mpr hbl_) (by assumption); exfalso; (exact zo_259 hc_17 hp1_N11_ q2_)) (by omega)
  exact lp_0 _ Mz zFr.rf (show 0 ≤ ze Mz 81 3 by first | assumption | omega) (show ze Mz 81 3 ≤ n_ by first | assumption | omega) (show zru zpB b_ n_ (ze Mz 81 3).toNat = zru zpB b_ n_ (ze Mz 81 3).toNat by rfl) (Nat.lt_succ_self _)
set_option maxHeartbeats 4000000 in
theorem c_M_isWordF (l : Launch) (Mz : zMem) (hW : zMt Mz) (a0_ : Int) (ha0_a : -9223372036854775808 ≤ a0_) (ha0_b : a0_ < 9223372036854775808) (b_ : Nat → Int) (n_ : Nat) (p0_ : zRt b_ n_ Mz) : zC l m_M_isWord 0 0 [.ref 81, .long (Int64.ofInt a0_)] Mz (zpI [] [] Mz (fun v N => (((v = 1 ∧ ze Mz 81 7 = 0 ∧ zkd b_ n_ (ze Mz 81 4).toNat = 1 ∧ zke8 b_ n_ (ze Mz 81 4).toNat = a0_) ∨ (v = 0 ∧ (ze Mz 81 7 = 0 → ¬ (zkd b_ n_ (ze Mz 81 4).toNat = 1 ∧ zke8 b_ n_ (ze Mz 81 4).toNat = a0_))))))) := by
  refine zC_of (L0 := [some (.ref 81), some (.long (Int64.ofInt a0_)), none]) md_M_isWord (Nat.le_of_ble_eq_true rfl) rfl ?_ zQ0
  have hf : zFr [] [] Mz Mz := zFr.rf
  have r_4 := ze_r Mz 81 4
  have r_5 := ze_r Mz 81 5
  have r_7 := ze_r Mz 81 7
  obtain ⟨t1_, t2_, t3_, t4_, t5_, t6_⟩ := id p0_
  refine zw_aload_n (pc := 0) (n := 0) (x := 81) rfl (zdal_p dlC_M_isWord_74 (i := 0) rfl) ?_
  refine zr_getI0 hf hW (pc := 1) (by decide) f_M_172 rfl (zdal_p dlC_M_isWord_74 (i := 1) rfl) ?_
  refine zr_if_ne (pc := 4) (tgt := 28) ⟨(ze_r Mz 81 7).1, (ze_r Mz 81 7).2⟩ (by decide) (zdal_p dlC_M_isWord_74 (i := 2) rfl) (fun hc_4 => ?_) (fun hc_4 => ?_)
  · skip
    refine zw_iconst (pc := 28) (v := Int32.ofInt 0) (by decide) (zdal_p dlC_M_isWord_74 (i := 14) rfl) ?_
    exact zr_iret (pc := 29) (ty := .boolean) rfl (z_narB (by (decide))) ⟨by (decide), by (decide)⟩ hf (show ((0 = 1 ∧ ze Mz 81 7 = 0 ∧ zkd b_ n_ (ze Mz 81 4).toNat = 1 ∧ zke8 b_ n_ (ze Mz 81 4).toNat = a0_) ∨ (0 = 0 ∧ (ze Mz 81 7 = 0 → ¬ (zkd b_ n_ (ze Mz 81 4).toNat = 1 ∧ zke8 b_ n_ (ze Mz 81 4).toNat = a0_)))) from Or.inr (⟨(show 0 = 0 by first | rfl | (intro z0_; rintro ⟨z1_, z2_⟩; have w_ := t4_ z1_; unfold zke8 at z2_; omega)), (show (ze Mz 81 7 = 0 → ¬ (zkd b_ n_ (ze Mz 81 4).toNat = 1 ∧ zke8 b_ n_ (ze Mz 81 4).toNat = a0_)) by first | rfl | (intro z0_; rintro ⟨z1_, z2_⟩; have w_ := t4_ z1_; unfold zke8 at z2_; (exact zo_260 z0_ hc_4)))⟩)) (zdal_p dlC_M_isWord_74 (i := 15) rfl)
  · skip
    refine zw_aload_n (pc := 7) (n := 0) (x := 81) rfl (zdal_p dlC_M_isWord_74 (i := 3) rfl) ?_
    refine zr_getI0 hf hW (pc := 8) (by decide) f_M_155 rfl (zdal_p dlC_M_isWord_74 (i := 4) rfl) ?_
    refine zw_iconst (pc := 11) (v := Int32.ofInt 1) (by decide) (zdal_p dlC_M_isWord_74 (i := 5) rfl) ?_
    refine zr_icmp_ne (pc := 12) (tgt := 28) ⟨(ze_r Mz 81 5).1, (ze_r Mz 81 5).2⟩ ⟨(by decide), (by decide)⟩ (by decide) (zdal_p dlC_M_isWord_74 (i := 6) rfl) (fun hc_12 => ?_) (fun hc_12 => ?_)
    · skip
      refine zw_iconst (pc := 28) (v := Int32.ofInt 0) (by decide) (zdal_p dlC_M_isWord_74 (i := 14) rfl) ?_
      exact zr_iret (pc := 29) (ty := .boolean) rfl (z_narB (by (decide))) ⟨by (decide), by (decide)⟩ hf (show ((0 = 1 ∧ ze Mz 81 7 = 0 ∧ zkd b_ n_ (ze Mz 81 4).toNat = 1 ∧ zke8 b_ n_ (ze Mz 81 4).toNat = a0_) ∨ (0 = 0 ∧ (ze Mz 81 7 = 0 → ¬ (zkd b_ n_ (ze Mz 81 4).toNat = 1 ∧ zke8 b_ n_ (ze Mz 81 4).toNat = a0_)))) from Or.inr (⟨(show 0 = 0 by first | rfl | (intro z0_; rintro ⟨z1_, z2_⟩; have w_ := t4_ z1_; unfold zke8 at z2_; omega)), (show (ze Mz 81 7 = 0 → ¬ (zkd b_ n_ (ze Mz 81 4).toNat = 1 ∧ zke8 b_ n_ (ze Mz 81 4).toNat = a0_)) by first | rfl | (intro z0_; rintro ⟨z1_, z2_⟩; have w_ := t4_ z1_; unfold zke8 at z2_; (exact zo_261 r_5.1 r_5.2 t3_ z1_ hc_12)))⟩)) (zdal_p dlC_M_isWord_74 (i := 15) rfl)
    · skip
      refine zw_aload_n (pc := 15) (n := 0) (x := 81) rfl (zdal_p dlC_M_isWord_74 (i := 7) rfl) ?_
      refine zr_getJ (hf.w hW) (pc := 16) f_M_148 rfl (zdal_p dlC_M_isWord_74 (i := 8) rfl) ?_
      have hr1_ := zg_r Mz 81 11
      refine zw_lload_n (pc := 19) (n := 1) (x := Int64.ofInt a0_) rfl (zdal_p dlC_M_isWord_74 (i := 9) rfl) ?_
      refine zr_lcmp (pc := 20) ⟨(zg_r Mz 81 11).1, (zg_r Mz 81 11).2⟩ ⟨ha0_a, ha0_b⟩ (zdal_p dlC_M_isWord_74 (i := 10) rfl) ?_
      have hr2_ := zcmp_s (zg Mz 81 11) a0_
      refine zr_if_ne (pc := 21) (tgt := 28) ⟨(by (exact zo_81 hr2_)), (by (exact zo_82 hr2_))⟩ (by decide) (zdal_p dlC_M_isWord_74 (i := 11) rfl) (fun hc_21 => ?_) (fun hc_21 => ?_)
      · skip
        refine zw_iconst (pc := 28) (v := Int32.ofInt 0) (by decide) (zdal_p dlC_M_isWord_74 (i := 14) rfl) ?_
        exact zr_iret (pc := 29) (ty := .boolean) rfl (z_narB (by (decide))) ⟨by (decide), by (decide)⟩ hf (show ((0 = 1 ∧ ze Mz 81 7 = 0 ∧ zkd b_ n_ (ze Mz 81 4).toNat = 1 ∧ zke8 b_ n_ (ze Mz 81 4).toNat = a0_) ∨ (0 = 0 ∧ (ze Mz 81 7 = 0 → ¬ (zkd b_ n_ (ze Mz 81 4).toNat = 1 ∧ zke8 b_ n_ (ze Mz 81 4).toNat = a0_)))) from Or.inr (⟨(show 0 = 0 by first | rfl | (intro z0_; rintro ⟨z1_, z2_⟩; have w_ := t4_ z1_; unfold zke8 at z2_; omega)), (show (ze Mz 81 7 = 0 → ¬ (zkd b_ n_ (ze Mz 81 4).toNat = 1 ∧ zke8 b_ n_ (ze Mz 81 4).toNat = a0_)) by first | rfl | (intro z0_; rintro ⟨z1_, z2_⟩; have w_ := t4_ z1_; unfold zke8 at z2_; omega))⟩)) (zdal_p dlC_M_isWord_74 (i := 15) rfl)
      · skip
        refine zw_iconst (pc := 24) (v := Int32.ofInt 1) (by decide) (zdal_p dlC_M_isWord_74 (i := 12) rfl) ?_
        refine zw_goto (pc := 25) (tgt := 29) (by decide) (zdal_p dlC_M_isWord_74 (i := 13) rfl) ?_
        exact zr_iret (pc := 29) (ty := .boolean) rfl (z_narB (by (decide))) ⟨by (decide), by (decide)⟩ hf (show ((1 = 1 ∧ ze Mz 81 7 = 0 ∧ zkd b_ n_ (ze Mz 81 4).toNat = 1 ∧ zke8 b_ n_ (ze Mz 81 4).toNat = a0_) ∨ (1 = 0 ∧ (ze Mz 81 7 = 0 → ¬ (zkd b_ n_ (ze Mz 81 4).toNat = 1 ∧ zke8 b_ n_ (ze Mz 81 4).toNat = a0_)))) from Or.inl (⟨(show 1 = 1 by first | rfl | omega | (have w_ := t4_ (by omega); unfold zke8; omega)), (show ze Mz 81 7 = 0 by first | rfl | (exact hc_4) | (have w_ := t4_ (by omega); unfold zke8; omega)), (show zkd b_ n_ (ze Mz 81 4).toNat = 1 by first | rfl | (exact zo_262 hc_12 t3_) | (have w_ := t4_ (by omega); unfold zke8; omega)), (show zke8 b_ n_ (ze Mz 81 4).toNat = a0_ by first | rfl | omega | (have w_ := t4_ (by (exact zo_262 hc_12 t3_)); unfold zke8; omega))⟩)) (zdal_p dlC_M_isWord_74 (i := 15) rfl)
set_option maxHeartbeats 4000000 in
theorem c_M_isSignHereF (l : Launch) (Mz : zMem) (hW : zMt Mz) (a0_ : Int) (ha0_a : -2147483648 ≤ a0_) (ha0_b : a0_ < 2147483648) (b_ : Nat → Int) (n_ : Nat) (p0_ : zRt b_ n_ Mz) : zC l m_M_isSignHere 0 0 [.ref 81, .int (Int32.ofInt a0_)] Mz (zpI [] [] Mz (fun v N => (((v = 1 ∧ ze Mz 81 7 = 0 ∧ zisg b_ n_ (ze Mz 81 4).toNat a0_) ∨ (v = 0 ∧ (ze Mz 81 7 = 0 → ¬ zisg b_ n_ (ze Mz 81 4).toNat a0_)))))) := by
  refine zC_of (L0 := [some (.ref 81), some (.int (Int32.ofInt a0_))]) md_M_isSignHere (Nat.le_of_ble_eq_true rfl) rfl ?_ zQ0
  have hf : zFr [] [] Mz Mz := zFr.rf
  have r_4 := ze_r Mz 81 4
  have r_5 := ze_r Mz 81 5
  have r_6 := ze_r Mz 81 6
  have r_7 := ze_r Mz 81 7
  obtain ⟨t1_, t2_, t3_, t4_, t5_, t6_⟩ := id p0_
  refine zw_aload_n (pc := 0) (n := 0) (x := 81) rfl (zdal_p dlC_M_isSignHere_81 (i := 0) rfl) ?_
  refine zr_getI0 hf hW (pc := 1) (by decide) f_M_172 rfl (zdal_p dlC_M_isSignHere_81 (i := 1) rfl) ?_
  refine zr_if_ne (pc := 4) (tgt := 27) ⟨(ze_r Mz 81 7).1, (ze_r Mz 81 7).2⟩ (by decide) (zdal_p dlC_M_isSignHere_81 (i := 2) rfl) (fun hc_4 => ?_) (fun hc_4 => ?_)
  · skip
    refine zw_iconst (pc := 27) (v := Int32.ofInt 0) (by decide) (zdal_p dlC_M_isSignHere_81 (i := 13) rfl) ?_
    exact zr_iret (pc := 28) (ty := .boolean) rfl (z_narB (by (decide))) ⟨by (decide), by (decide)⟩ hf (show ((0 = 1 ∧ ze Mz 81 7 = 0 ∧ zisg b_ n_ (ze Mz 81 4).toNat a0_) ∨ (0 = 0 ∧ (ze Mz 81 7 = 0 → ¬ zisg b_ n_ (ze Mz 81 4).toNat a0_))) from Or.inr (⟨(show 0 = 0 by first | rfl | (intro z0_; rintro ⟨z1_, z2_⟩; have w_ := t6_ z1_; omega)), (show (ze Mz 81 7 = 0 → ¬ zisg b_ n_ (ze Mz 81 4).toNat a0_) by first | rfl | (intro z0_; rintro ⟨z1_, z2_⟩; have w_ := t6_ z1_; (exact zo_260 z0_ hc_4)))⟩)) (zdal_p dlC_M_isSignHere_81 (i := 14) rfl)
  · skip
    refine zw_aload_n (pc := 7) (n := 0) (x := 81) rfl (zdal_p dlC_M_isSignHere_81 (i := 3) rfl) ?_
    refine zr_getI0 hf hW (pc := 8) (by decide) f_M_155 rfl (zdal_p dlC_M_isSignHere_81 (i := 4) rfl) ?_
    refine zw_iconst (pc := 11) (v := Int32.ofInt 3) (by decide) (zdal_p dlC_M_isSignHere_81 (i := 5) rfl) ?_
    refine zr_icmp_ne (pc := 12) (tgt := 27) ⟨(ze_r Mz 81 5).1, (ze_r Mz 81 5).2⟩ ⟨(by decide), (by decide)⟩ (by decide) (zdal_p dlC_M_isSignHere_81 (i := 6) rfl) (fun hc_12 => ?_) (fun hc_12 => ?_)
    · skip
      refine zw_iconst (pc := 27) (v := Int32.ofInt 0) (by decide) (zdal_p dlC_M_isSignHere_81 (i := 13) rfl) ?_
      exact zr_iret (pc := 28) (ty := .boolean) rfl (z_narB (by (decide))) ⟨by (decide), by (decide)⟩ hf (show ((0 = 1 ∧ ze Mz 81 7 = 0 ∧ zisg b_ n_ (ze Mz 81 4).toNat a0_) ∨ (0 = 0 ∧ (ze Mz 81 7 = 0 → ¬ zisg b_ n_ (ze Mz 81 4).toNat a0_))) from Or.inr (⟨(show 0 = 0 by first | rfl | (intro z0_; rintro ⟨z1_, z2_⟩; have w_ := t6_ z1_; omega)), (show (ze Mz 81 7 = 0 → ¬ zisg b_ n_ (ze Mz 81 4).toNat a0_) by first | rfl | (intro z0_; rintro ⟨z1_, z2_⟩; have w_ := t6_ z1_; (exact zo_263 r_5.1 r_5.2 t3_ z1_ hc_12)))⟩)) (zdal_p dlC_M_isSignHere_81 (i := 14) rfl)
    · skip
      refine zw_aload_n (pc := 15) (n := 0) (x := 81) rfl (zdal_p dlC_M_isSignHere_81 (i := 7) rfl) ?_
      refine zr_getI0 hf hW (pc := 16) (by decide) f_M_152 rfl (zdal_p dlC_M_isSignHere_81 (i := 8) rfl) ?_
      refine zw_iload_n (pc := 19) (n := 1) (x := Int32.ofInt a0_) rfl (zdal_p dlC_M_isSignHere_81 (i := 9) rfl) ?_
      refine zr_icmp_ne (pc := 20) (tgt := 27) ⟨(ze_r Mz 81 6).1, (ze_r Mz 81 6).2⟩ ⟨ha0_a, ha0_b⟩ (by decide) (zdal_p dlC_M_isSignHere_81 (i := 10) rfl) (fun hc_20 => ?_) (fun hc_20 => ?_)
      · skip
        refine zw_iconst (pc := 27) (v := Int32.ofInt 0) (by decide) (zdal_p dlC_M_isSignHere_81 (i := 13) rfl) ?_
        exact zr_iret (pc := 28) (ty := .boolean) rfl (z_narB (by (decide))) ⟨by (decide), by (decide)⟩ hf (show ((0 = 1 ∧ ze Mz 81 7 = 0 ∧ zisg b_ n_ (ze Mz 81 4).toNat a0_) ∨ (0 = 0 ∧ (ze Mz 81 7 = 0 → ¬ zisg b_ n_ (ze Mz 81 4).toNat a0_))) from Or.inr (⟨(show 0 = 0 by first | rfl | (intro z0_; rintro ⟨z1_, z2_⟩; have w_ := t6_ z1_; omega)), (show (ze Mz 81 7 = 0 → ¬ zisg b_ n_ (ze Mz 81 4).toNat a0_) by first | rfl | (intro z0_; rintro ⟨z1_, z2_⟩; have w_ := t6_ z1_; (exact zo_264 w_ z2_ hc_20)))⟩)) (zdal_p dlC_M_isSignHere_81 (i := 14) rfl)
      · skip
        refine zw_iconst (pc := 23) (v := Int32.ofInt 1) (by decide) (zdal_p dlC_M_isSignHere_81 (i := 11) rfl) ?_
        refine zw_goto (pc := 24) (tgt := 28) (by decide) (zdal_p dlC_M_isSignHere_81 (i := 12) rfl) ?_
        exact zr_iret (pc := 28) (ty := .boolean) rfl (z_narB (by (decide))) ⟨by (decide), by (decide)⟩ hf (show ((1 = 1 ∧ ze Mz 81 7 = 0 ∧ zisg b_ n_ (ze Mz 81 4).toNat a0_) ∨ (1 = 0 ∧ (ze Mz 81 7 = 0 → ¬ zisg b_ n_ (ze Mz 81 4).toNat a0_))) from Or.inl (⟨(show 1 = 1 by first | rfl | omega | exact ⟨by omega, by have w_ := t6_ (by omega); omega⟩), (show ze Mz 81 7 = 0 by first | rfl | (exact hc_4) | exact ⟨by omega, by have w_ := t6_ (by omega); omega⟩), (show zisg b_ n_ (ze Mz 81 4).toNat a0_ by first | rfl | omega | exact ⟨by (exact zo_265 hc_12 t3_), by have w_ := t6_ (by (exact zo_265 hc_12 t3_)); (exact zo_266 hc_20 w_)⟩)⟩)) (zdal_p dlC_M_isSignHere_81 (i := 14) rfl)
set_option maxHeartbeats 4000000 in
theorem c_M_isNameF (l : Launch) (Mz : zMem) (hW : zMt Mz) (b_ : Nat → Int) (n_ : Nat) (p0_ : zRt b_ n_ Mz) : zC l m_M_isName 0 0 [.ref 81] Mz (zpI [] [] Mz (fun v N => (((v = 1 ∧ zisn b_ n_ (ze Mz 81 4).toNat) ∨ (v = 0 ∧ ¬ zisn b_ n_ (ze Mz 81 4).toNat))))) := by
  refine zC_of (L0 := [some (.ref 81)]) md_M_isName (Nat.le_of_ble_eq_true rfl) rfl ?_ zQ0
  have hf : zFr [] [] Mz Mz := zFr.rf
  have r_4 := ze_r Mz 81 4
  have r_5 := ze_r Mz 81 5
  obtain ⟨t1_, t2_, t3_, t4_, t5_, t6_⟩ := id p0_
  refine zw_aload_n (pc := 0) (n := 0) (x := 81) rfl (zdal_p dlC_M_isName_91 (i := 0) rfl) ?_
  refine zr_getI0 hf hW (pc := 1) (by decide) f_M_155 rfl (zdal_p dlC_M_isName_91 (i := 1) rfl) ?_
  refine zw_iconst (pc := 4) (v := Int32.ofInt 1) (by decide) (zdal_p dlC_M_isName_91 (i := 2) rfl) ?_
  refine zr_icmp_ne (pc := 5) (tgt := 56) ⟨(ze_r Mz 81 5).1, (ze_r Mz 81 5).2⟩ ⟨(by decide), (by decide)⟩ (by decide) (zdal_p dlC_M_isName_91 (i := 3) rfl) (fun hc_5 => ?_) (fun hc_5 => ?_)
  · skip
    refine zw_iconst (pc := 56) (v := Int32.ofInt 0) (by decide) d_M_isName_56 ?_
    exact zr_iret (pc := 57) (ty := .boolean) rfl (z_narB (by (decide))) ⟨by (decide), by (decide)⟩ hf (show ((0 = 1 ∧ zisn b_ n_ (ze Mz 81 4).toNat) ∨ (0 = 0 ∧ ¬ zisn b_ n_ (ze Mz 81 4).toNat)) from Or.inr (⟨(show 0 = 0 by first | rfl | (rintro ⟨q0_, q1_, q2_, q3_, q4_⟩; have w_ := t4_ q0_; have e_ : zke8 b_ n_ (ze Mz 81 4).toNat = zg Mz 81 11 := w_.symm; first | omega | exact q1_ ((zke8_w q0_ (i := 0) (by decide)).mp (by rw [e_]; have h2_ : zkW8 0 = 123610792682867 := rfl; omega)) | exact q2_ ((zke8_w q0_ (i := 1) (by decide)).mp (by rw [e_]; have h2_ : zkW8 1 = 1836021349 := rfl; omega)) | exact q3_ ((zke8_w q0_ (i := 2) (by decide)).mp (by rw [e_]; have h2_ : zkW8 2 = 7103860 := rfl; omega)) | exact q4_ ((zke8_w q0_ (i := 3) (by decide)).mp (by rw [e_]; have h2_ : zkW8 3 = 1936683636 := rfl; omega)))), (show ¬ zisn b_ n_ (ze Mz 81 4).toNat by first | rfl | (rintro ⟨q0_, q1_, q2_, q3_, q4_⟩; have w_ := t4_ q0_; have e_ : zke8 b_ n_ (ze Mz 81 4).toNat = zg Mz 81 11 := w_.symm; first | (exact zo_267 q0_ r_5.1 r_5.2 t3_ hc_5) | exact q1_ ((zke8_w q0_ (i := 0) (by decide)).mp (by rw [e_]; have h2_ : zkW8 0 = 123610792682867 := rfl; omega)) | exact q2_ ((zke8_w q0_ (i := 1) (by decide)).mp (by rw [e_]; have h2_ : zkW8 1 = 1836021349 := rfl; omega)) | exact q3_ ((zke8_w q0_ (i := 2) (by decide)).mp (by rw [e_]; have h2_ : zkW8 2 = 7103860 := rfl; omega)) | exact q4_ ((zke8_w q0_ (i := 3) (by decide)).mp (by rw [e_]; have h2_ : zkW8 3 = 1936683636 := rfl; omega))))⟩)) d_M_isName_57
  · skip
    refine zw_aload_n (pc := 8) (n := 0) (x := 81) rfl (zdal_p dlC_M_isName_91 (i := 4) rfl) ?_
    refine zr_getJ (hf.w hW) (pc := 9) f_M_148 rfl (zdal_p dlC_M_isName_91 (i := 5) rfl) ?_
    have hr1_ := zg_r Mz 81 11
    refine zr_ldc2 (pc := 12) (n := 123610792682867) (by decide) k_M_175 (zdal_p dlC_M_isName_91 (i := 6) rfl) ?_
    refine zr_lcmp (pc := 15) ⟨(zg_r Mz 81 11).1, (zg_r Mz 81 11).2⟩ ⟨(by decide), (by decide)⟩ (zdal_p dlC_M_isName_91 (i := 7) rfl) ?_
    have hr2_ := zcmp_s (zg Mz 81 11) 123610792682867
    refine zr_if_eq (pc := 16) (tgt := 56) ⟨(by (exact zo_268 hr2_)), (by (exact zo_269 hr2_))⟩ (by decide) (zdal_p dlC_M_isName_91 (i := 8) rfl) (fun hc_16 => ?_) (fun hc_16 => ?_)
    · skip
      refine zw_iconst (pc := 56) (v := Int32.ofInt 0) (by decide) d_M_isName_56 ?_
      exact zr_iret (pc := 57) (ty := .boolean) rfl (z_narB (by (decide))) ⟨by (decide), by (decide)⟩ hf (show ((0 = 1 ∧ zisn b_ n_ (ze Mz 81 4).toNat) ∨ (0 = 0 ∧ ¬ zisn b_ n_ (ze Mz 81 4).toNat)) from Or.inr (⟨(show 0 = 0 by first | rfl | (rintro ⟨q0_, q1_, q2_, q3_, q4_⟩; have w_ := t4_ q0_; have e_ : zke8 b_ n_ (ze Mz 81 4).toNat = zg Mz 81 11 := w_.symm; first | omega | exact q1_ ((zke8_w q0_ (i := 0) (by decide)).mp (by rw [e_]; have h2_ : zkW8 0 = 123610792682867 := rfl; omega)) | exact q2_ ((zke8_w q0_ (i := 1) (by decide)).mp (by rw [e_]; have h2_ : zkW8 1 = 1836021349 := rfl; omega)) | exact q3_ ((zke8_w q0_ (i := 2) (by decide)).mp (by rw [e_]; have h2_ : zkW8 2 = 7103860 := rfl; omega)) | exact q4_ ((zke8_w q0_ (i := 3) (by decide)).mp (by rw [e_]; have h2_ : zkW8 3 = 1936683636 := rfl; omega)))), (show ¬ zisn b_ n_ (ze Mz 81 4).toNat by first | rfl | (rintro ⟨q0_, q1_, q2_, q3_, q4_⟩; have w_ := t4_ q0_; have e_ : zke8 b_ n_ (ze Mz 81 4).toNat = zg Mz 81 11 := w_.symm; first | omega | exact q1_ ((zke8_w q0_ (i := 0) (by decide)).mp (by rw [e_]; have h2_ : zkW8 0 = 123610792682867 := rfl; omega)) | exact q2_ ((zke8_w q0_ (i := 1) (by decide)).mp (by rw [e_]; have h2_ : zkW8 1 = 1836021349 := rfl; omega)) | exact q3_ ((zke8_w q0_ (i := 2) (by decide)).mp (by rw [e_]; have h2_ : zkW8 2 = 7103860 := rfl; omega)) | exact q4_ ((zke8_w q0_ (i := 3) (by decide)).mp (by rw [e_]; have h2_ : zkW8 3 = 1936683636 := rfl; omega))))⟩)) d_M_isName_57
    · skip
      refine zw_aload_n (pc := 19) (n := 0) (x := 81) rfl (zdal_p dlC_M_isName_91 (i := 9) rfl) ?_
      refine zr_getJ (hf.w hW) (pc := 20) f_M_148 rfl (zdal_p dlC_M_isName_91 (i := 10) rfl) ?_
      refine zr_ldc2 (pc := 23) (n := 1836021349) (by decide) k_M_177 (zdal_p dlC_M_isName_91 (i := 11) rfl) ?_
      refine zr_lcmp (pc := 26) ⟨(zg_r Mz 81 11).1, (zg_r Mz 81 11).2⟩ ⟨(by decide), (by decide)⟩ (zdal_p dlC_M_isName_91 (i := 12) rfl) ?_
      have hr3_ := zcmp_s (zg Mz 81 11) 1836021349
      refine zr_if_eq (pc := 27) (tgt := 56) ⟨(by (exact zo_270 hr3_)), (by (exact zo_271 hr3_))⟩ (by decide) (zdal_p dlC_M_isName_91 (i := 13) rfl) (fun hc_27 => ?_) (fun hc_27 => ?_)
      · skip
        refine zw_iconst (pc := 56) (v := Int32.ofInt 0) (by decide) d_M_isName_56 ?_
        exact zr_iret (pc := 57) (ty := .boolean) rfl (z_narB (by (decide))) ⟨by (decide), by (decide)⟩ hf (show ((0 = 1 ∧ zisn b_ n_ (ze Mz 81 4).toNat) ∨ (0 = 0 ∧ ¬ zisn b_ n_ (ze Mz 81 4).toNat)) from Or.inr (⟨(show 0 = 0 by first | rfl | (rintro ⟨q0_, q1_, q2_, q3_, q4_⟩; have w_ := t4_ q0_; have e_ : zke8 b_ n_ (ze Mz 81 4).toNat = zg Mz 81 11 := w_.symm; first | omega | exact q1_ ((zke8_w q0_ (i := 0) (by decide)).mp (by rw [e_]; have h2_ : zkW8 0 = 123610792682867 := rfl; omega)) | exact q2_ ((zke8_w q0_ (i := 1) (by decide)).mp (by rw [e_]; have h2_ : zkW8 1 = 1836021349 := rfl; omega)) | exact q3_ ((zke8_w q0_ (i := 2) (by decide)).mp (by rw [e_]; have h2_ : zkW8 2 = 7103860 := rfl; omega)) | exact q4_ ((zke8_w q0_ (i := 3) (by decide)).mp (by rw [e_]; have h2_ : zkW8 3 = 1936683636 := rfl; omega)))), (show ¬ zisn b_ n_ (ze Mz 81 4).toNat by first | rfl | (rintro ⟨q0_, q1_, q2_, q3_, q4_⟩; have w_ := t4_ q0_; have e_ : zke8 b_ n_ (ze Mz 81 4).toNat = zg Mz 81 11 := w_.symm; first | omega | exact q1_ ((zke8_w q0_ (i := 0) (by decide)).mp (by rw [e_]; have h2_ : zkW8 0 = 123610792682867 := rfl; omega)) | exact q2_ ((zke8_w q0_ (i := 1) (by decide)).mp (by rw [e_]; have h2_ : zkW8 1 = 1836021349 := rfl; omega)) | exact q3_ ((zke8_w q0_ (i := 2) (by decide)).mp (by rw [e_]; have h2_ : zkW8 2 = 7103860 := rfl; omega)) | exact q4_ ((zke8_w q0_ (i := 3) (by decide)).mp (by rw [e_]; have h2_ : zkW8 3 = 1936683636 := rfl; omega))))⟩)) d_M_isName_57
      · skip
        refine zw_aload_n (pc := 30) (n := 0) (x := 81) rfl (zdal_p dlC_M_isName_91 (i := 14) rfl) ?_
        refine zr_getJ (hf.w hW) (pc := 31) f_M_148 rfl (zdal_p dlC_M_isName_91 (i := 15) rfl) ?_
        refine zr_ldc2 (pc := 34) (n := 7103860) (by decide) k_M_179 (zdal_p dlC_M_isName_91 (i := 16) rfl) ?_
        refine zr_lcmp (pc := 37) ⟨(zg_r Mz 81 11).1, (zg_r Mz 81 11).2⟩ ⟨(by decide), (by decide)⟩ (zdal_p dlC_M_isName_91 (i := 17) rfl) ?_
        have hr4_ := zcmp_s (zg Mz 81 11) 7103860
        refine zr_if_eq (pc := 38) (tgt := 56) ⟨(by (exact zo_272 hr4_)), (by (exact zo_273 hr4_))⟩ (by decide) (zdal_p dlC_M_isName_91 (i := 18) rfl) (fun hc_38 => ?_) (fun hc_38 => ?_)
        · skip
          refine zw_iconst (pc := 56) (v := Int32.ofInt 0) (by decide) d_M_isName_56 ?_
          exact zr_iret (pc := 57) (ty := .boolean) rfl (z_narB (by (decide))) ⟨by (decide), by (decide)⟩ hf (show ((0 = 1 ∧ zisn b_ n_ (ze Mz 81 4).toNat) ∨ (0 = 0 ∧ ¬ zisn b_ n_ (ze Mz 81 4).toNat)) from Or.inr (⟨(show 0 = 0 by first | rfl | (rintro ⟨q0_, q1_, q2_, q3_, q4_⟩; have w_ := t4_ q0_; have e_ : zke8 b_ n_ (ze Mz 81 4).toNat = zg Mz 81 11 := w_.symm; first | omega | exact q1_ ((zke8_w q0_ (i := 0) (by decide)).mp (by rw [e_]; have h2_ : zkW8 0 = 123610792682867 := rfl; omega)) | exact q2_ ((zke8_w q0_ (i := 1) (by decide)).mp (by rw [e_]; have h2_ : zkW8 1 = 1836021349 := rfl; omega)) | exact q3_ ((zke8_w q0_ (i := 2) (by decide)).mp (by rw [e_]; have h2_ : zkW8 2 = 7103860 := rfl; omega)) | exact q4_ ((zke8_w q0_ (i := 3) (by decide)).mp (by rw [e_]; have h2_ : zkW8 3 = 1936683636 := rfl; omega)))), (show ¬ zisn b_ n_ (ze Mz 81 4).toNat by first | rfl | (rintro ⟨q0_, q1_, q2_, q3_, q4_⟩; have w_ := t4_ q0_; have e_ : zke8 b_ n_ (ze Mz 81 4).toNat = zg Mz 81 11 := w_.symm; first | omega | exact q1_ ((zke8_w q0_ (i := 0) (by decide)).mp (by rw [e_]; have h2_ : zkW8 0 = 123610792682867 := rfl; omega)) | exact q2_ ((zke8_w q0_ (i := 1) (by decide)).mp (by rw [e_]; have h2_ : zkW8 1 = 1836021349 := rfl; omega)) | exact q3_ ((zke8_w q0_ (i := 2) (by decide)).mp (by rw [e_]; have h2_ : zkW8 2 = 7103860 := rfl; omega)) | exact q4_ ((zke8_w q0_ (i := 3) (by decide)).mp (by rw [e_]; have h2_ : zkW8 3 = 1936683636 := rfl; omega))))⟩)) d_M_isName_57
        · skip
          refine zw_aload_n (pc := 41) (n := 0) (x := 81) rfl (zdal_p dlC_M_isName_91 (i := 19) rfl) ?_
          refine zr_getJ (hf.w hW) (pc := 42) f_M_148 rfl (zdal_p dlC_M_isName_91 (i := 20) rfl) ?_
          refine zr_ldc2 (pc := 45) (n := 1936683636) (by decide) k_M_181 (zdal_p dlC_M_isName_91 (i := 21) rfl) ?_
          refine zr_lcmp (pc := 48) ⟨(zg_r Mz 81 11).1, (zg_r Mz 81 11).2⟩ ⟨(by decide), (by decide)⟩ (zdal_p dlC_M_isName_91 (i := 22) rfl) ?_
          have hr5_ := zcmp_s (zg Mz 81 11) 1936683636
          refine zr_if_eq (pc := 49) (tgt := 56) ⟨(by (exact zo_274 hr5_)), (by (exact zo_275 hr5_))⟩ (by decide) (zdal_p dlC_M_isName_91 (i := 23) rfl) (fun hc_49 => ?_) (fun hc_49 => ?_)
          · skip
            refine zw_iconst (pc := 56) (v := Int32.ofInt 0) (by decide) d_M_isName_56 ?_
            exact zr_iret (pc := 57) (ty := .boolean) rfl (z_narB (by (decide))) ⟨by (decide), by (decide)⟩ hf (show ((0 = 1 ∧ zisn b_ n_ (ze Mz 81 4).toNat) ∨ (0 = 0 ∧ ¬ zisn b_ n_ (ze Mz 81 4).toNat)) from Or.inr (⟨(show 0 = 0 by first | rfl | (rintro ⟨q0_, q1_, q2_, q3_, q4_⟩; have w_ := t4_ q0_; have e_ : zke8 b_ n_ (ze Mz 81 4).toNat = zg Mz 81 11 := w_.symm; first | omega | exact q1_ ((zke8_w q0_ (i := 0) (by decide)).mp (by rw [e_]; have h2_ : zkW8 0 = 123610792682867 := rfl; omega)) | exact q2_ ((zke8_w q0_ (i := 1) (by decide)).mp (by rw [e_]; have h2_ : zkW8 1 = 1836021349 := rfl; omega)) | exact q3_ ((zke8_w q0_ (i := 2) (by decide)).mp (by rw [e_]; have h2_ : zkW8 2 = 7103860 := rfl; omega)) | exact q4_ ((zke8_w q0_ (i := 3) (by decide)).mp (by rw [e_]; have h2_ : zkW8 3 = 1936683636 := rfl; omega)))), (show ¬ zisn b_ n_ (ze Mz 81 4).toNat by first | rfl | (rintro ⟨q0_, q1_, q2_, q3_, q4_⟩; have w_ := t4_ q0_; have e_ : zke8 b_ n_ (ze Mz 81 4).toNat = zg Mz 81 11 := w_.symm; first | omega | exact q1_ ((zke8_w q0_ (i := 0) (by decide)).mp (by rw [e_]; have h2_ : zkW8 0 = 123610792682867 := rfl; omega)) | exact q2_ ((zke8_w q0_ (i := 1) (by decide)).mp (by rw [e_]; have h2_ : zkW8 1 = 1836021349 := rfl; omega)) | exact q3_ ((zke8_w q0_ (i := 2) (by decide)).mp (by rw [e_]; have h2_ : zkW8 2 = 7103860 := rfl; omega)) | exact q4_ ((zke8_w q0_ (i := 3) (by decide)).mp (by rw [e_]; have h2_ : zkW8 3 = 1936683636 := rfl; omega))))⟩)) d_M_isName_57
          · skip
            refine zw_iconst (pc := 52) (v := Int32.ofInt 1) (by decide) (zdal_p dlC_M_isName_92 (i := 0) rfl) ?_
            refine zw_goto (pc := 53) (tgt := 57) (by decide) (zdal_p dlC_M_isName_92 (i := 1) rfl) ?_
            exact zr_iret (pc := 57) (ty := .boolean) rfl (z_narB (by (decide))) ⟨by (decide), by (decide)⟩ hf (show ((1 = 1 ∧ zisn b_ n_ (ze Mz 81 4).toNat) ∨ (1 = 0 ∧ ¬ zisn b_ n_ (ze Mz 81 4).toNat)) from Or.inl (⟨(show 1 = 1 by first | rfl | (have k_ : zkd b_ n_ (ze Mz 81 4).toNat = 1 := (by omega); have w_ := t4_ k_; have e_ : zke8 b_ n_ (ze Mz 81 4).toNat = zg Mz 81 11 := w_.symm; exact ⟨k_, fun q_ => by have h_ := (zke8_w k_ (i := 0) (by decide)).mpr q_; rw [e_] at h_; have h2_ : zkW8 0 = 123610792682867 := rfl; omega, fun q_ => by have h_ := (zke8_w k_ (i := 1) (by decide)).mpr q_; rw [e_] at h_; have h2_ : zkW8 1 = 1836021349 := rfl; omega, fun q_ => by have h_ := (zke8_w k_ (i := 2) (by decide)).mpr q_; rw [e_] at h_; have h2_ : zkW8 2 = 7103860 := rfl; omega, fun q_ => by have h_ := (zke8_w k_ (i := 3) (by decide)).mpr q_; rw [e_] at h_; have h2_ : zkW8 3 = 1936683636 := rfl; omega⟩)), (show zisn b_ n_ (ze Mz 81 4).toNat by first | rfl | (have k_ : zkd b_ n_ (ze Mz 81 4).toNat = 1 := (by (exact zo_262 hc_5 t3_)); have w_ := t4_ k_; have e_ : zke8 b_ n_ (ze Mz 81 4).toNat = zg Mz 81 11 := w_.symm; exact ⟨k_, fun q_ => by have h_ := (zke8_w k_ (i := 0) (by decide)).mpr q_; rw [e_] at h_; have h2_ : zkW8 0 = 123610792682867 := rfl; omega, fun q_ => by have h_ := (zke8_w k_ (i := 1) (by decide)).mpr q_; rw [e_] at h_; have h2_ : zkW8 1 = 1836021349 := rfl; omega, fun q_ => by have h_ := (zke8_w k_ (i := 2) (by decide)).mpr q_; rw [e_] at h_; have h2_ : zkW8 2 = 7103860 := rfl; omega, fun q_ => by have h_ := (zke8_w k_ (i := 3) (by decide)).mpr q_; rw [e_] at h_; have h2_ : zkW8 3 = 1936683636 := rfl; omega⟩))⟩)) d_M_isName_57
set_option maxHeartbeats 4000000 in
theorem c_M_wrongAtF (l : Launch) (Mz : zMem) (hW : zMt Mz) (a0_ : Int) (ha0_a : -2147483648 ≤ a0_) (ha0_b : a0_ < 2147483648) (a1_ : Int) (ha1_a : -2147483648 ≤ a1_) (ha1_b : a1_ < 2147483648) (p0_ : 1 ≤ a0_) : zC l m_M_wrongAt 0 0 [.ref 81, .int (Int32.ofInt a0_), .int (Int32.ofInt a1_)] Mz (zpV [7, 8] [] Mz (fun N => 1 ≤ ze N 81 7)) := by
  refine zC_of (L0 := [some (.ref 81), some (.int (Int32.ofInt a0_)), some (.int (Int32.ofInt a1_))]) md_M_wrongAt (Nat.le_of_ble_eq_true rfl) rfl ?_ zQ0
  have hf : zFr [7, 8] [] Mz Mz := zFr.rf
  have r_7 := ze_r Mz 81 7
  have r_8 := ze_r Mz 81 8
  refine zw_aload_n (pc := 0) (n := 0) (x := 81) rfl (zdal_p dlC_M_wrongAt_76 (i := 0) rfl) ?_
  refine zr_getI (hf.w hW) (pc := 1) f_M_172 rfl (zdal_p dlC_M_wrongAt_76 (i := 1) rfl) ?_
  refine zr_if_le (pc := 4) (tgt := 8) ⟨(ze_r Mz 81 7).1, (ze_r Mz 81 7).2⟩ (by decide) (zdal_p dlC_M_wrongAt_76 (i := 2) rfl) (fun hc_4 => ?_) (fun hc_4 => ?_)
  · skip
    refine zw_aload_n (pc := 8) (n := 0) (x := 81) rfl (zdal_p dlC_M_wrongAt_76 (i := 4) rfl) ?_
    refine zw_iload_n (pc := 9) (n := 1) (x := Int32.ofInt a0_) rfl (zdal_p dlC_M_wrongAt_76 (i := 5) rfl) ?_
    refine zr_putI (hf.w hW) (pc := 10) f_M_172 rfl rfl ⟨by (exact ha0_a), by (exact ha0_b)⟩ rfl rfl (zdal_p dlC_M_wrongAt_76 (i := 6) rfl) (fun N1_ hsN1_ hvN1_ => ?_)
    have hf_N1_ : zFr [7, 8] [] Mz N1_ := hf.tr hsN1_ (by decide) (by decide)
    have r7_N1_ := ze_r N1_ 81 7
    have e8_N1_ : ze N1_ 81 8 = ze Mz 81 8 := hsN1_.e (by decide)
    refine zw_aload_n (pc := 13) (n := 0) (x := 81) rfl (zdal_p dlC_M_wrongAt_76 (i := 7) rfl) ?_
    refine zw_iload_n (pc := 14) (n := 2) (x := Int32.ofInt a1_) rfl (zdal_p dlC_M_wrongAt_76 (i := 8) rfl) ?_
    refine zr_putI (hf_N1_.w hW) (pc := 15) f_M_13 rfl rfl ⟨by (exact ha1_a), by (exact ha1_b)⟩ rfl rfl (zdal_p dlC_M_wrongAt_76 (i := 9) rfl) (fun N2_ hsN2_ hvN2_ => ?_)
    have hf_N2_ : zFr [7, 8] [] Mz N2_ := hf_N1_.tr hsN2_ (by decide) (by decide)
    have e7_N2_ : ze N2_ 81 7 = ze N1_ 81 7 := hsN2_.e (by decide)
    have r8_N2_ := ze_r N2_ 81 8
    exact zr_vret (pc := 18) rfl hf_N2_ (show 1 ≤ ze N2_ 81 7 by first | assumption | (exact zo_276 e7_N2_ hvN1_ p0_ r7_N1_.1)) (zdal_p dlC_M_wrongAt_76 (i := 10) rfl)
  · skip
    exact zr_vret (pc := 7) rfl hf (show 1 ≤ ze Mz 81 7 by first | assumption | omega) (zdal_p dlC_M_wrongAt_76 (i := 3) rfl)
set_option maxHeartbeats 4000000 in
theorem c_M_wrongF (l : Launch) (Mz : zMem) (hW : zMt Mz) (a0_ : Int) (ha0_a : -2147483648 ≤ a0_) (ha0_b : a0_ < 2147483648) (p0_ : 1 ≤ a0_) : zC l m_M_wrong 0 0 [.ref 81, .int (Int32.ofInt a0_)] Mz (zpV [7, 8] [] Mz (fun N => 1 ≤ ze N 81 7)) := by
  refine zC_of (L0 := [some (.ref 81), some (.int (Int32.ofInt a0_))]) md_M_wrong (Nat.le_of_ble_eq_true rfl) rfl ?_ zQ0
  have hf : zFr [7, 8] [] Mz Mz := zFr.rf
  have r_4 := ze_r Mz 81 4
  have r_5 := ze_r Mz 81 5
  have r_7 := ze_r Mz 81 7
  refine zw_aload_n (pc := 0) (n := 0) (x := 81) rfl (zdal_p dlC_M_wrong_75 (i := 0) rfl) ?_
  refine zw_aload_n (pc := 1) (n := 0) (x := 81) rfl (zdal_p dlC_M_wrong_75 (i := 1) rfl) ?_
  refine zr_getI0 hf hW (pc := 2) (by decide) f_M_155 rfl (zdal_p dlC_M_wrong_75 (i := 2) rfl) ?_
  refine zw_iconst (pc := 5) (v := Int32.ofInt 4) (by decide) (zdal_p dlC_M_wrong_75 (i := 3) rfl) ?_
  refine zr_icmp_ne (pc := 6) (tgt := 13) ⟨(ze_r Mz 81 5).1, (ze_r Mz 81 5).2⟩ ⟨(by decide), (by decide)⟩ (by decide) (zdal_p dlC_M_wrong_75 (i := 4) rfl) (fun hc_6 => ?_) (fun hc_6 => ?_)
  · skip
    refine zw_iload_n (pc := 13) (n := 1) (x := Int32.ofInt a0_) rfl (zdal_p dlC_M_wrong_75 (i := 7) rfl) ?_
    refine zw_aload_n (pc := 14) (n := 0) (x := 81) rfl (zdal_p dlC_M_wrong_75 (i := 8) rfl) ?_
    refine zr_getI0 hf hW (pc := 15) (by decide) f_M_145 rfl (zdal_p dlC_M_wrong_75 (i := 9) rfl) ?_
    refine zr_callV (hf.w hW) hf.x (pc := 18) [.int (Int32.ofInt a0_), .int (Int32.ofInt (ze Mz 81 4))] [] l_M_168 (c_M_wrongAtF l Mz (hf.w hW) a0_ ha0_a ha0_b (ze Mz 81 4) (ze_r Mz 81 4).1 (ze_r Mz 81 4).2 (show 1 ≤ a0_ by first | assumption | omega)) rfl rfl rfl (by decide) (Nat.le_of_ble_eq_true rfl) (zdal_p dlC_M_wrong_75 (i := 10) rfl) ?_
    rintro _ N1_ ⟨rfl, hsN1_, hp0_N1_⟩
    replace hp0_N1_ : 1 ≤ ze N1_ 81 7 := hp0_N1_
    have hf_N1_ : zFr [7, 8] [] Mz N1_ := hf.tr hsN1_ (by decide) (by decide)
    have e4_N1_ : ze N1_ 81 4 = ze Mz 81 4 := hsN1_.e (by decide)
    have e5_N1_ : ze N1_ 81 5 = ze Mz 81 5 := hsN1_.e (by decide)
    have r7_N1_ := ze_r N1_ 81 7
    show zW l m_M_wrong (zn Mz + 0, zw Mz + 0) N1_ 21 [some (.ref 81), some (.int (Int32.ofInt a0_))] [] _
    exact zr_vret (pc := 21) rfl hf_N1_ (show 1 ≤ ze N1_ 81 7 by first | assumption | omega) (zdal_p dlC_M_wrong_75 (i := 11) rfl)
  · skip
    refine zw_iconst (pc := 9) (v := Int32.ofInt 1) (by decide) (zdal_p dlC_M_wrong_75 (i := 5) rfl) ?_
    refine zw_goto (pc := 10) (tgt := 14) (by decide) (zdal_p dlC_M_wrong_75 (i := 6) rfl) ?_
    refine zw_aload_n (pc := 14) (n := 0) (x := 81) rfl (zdal_p dlC_M_wrong_75 (i := 8) rfl) ?_
    refine zr_getI0 hf hW (pc := 15) (by decide) f_M_145 rfl (zdal_p dlC_M_wrong_75 (i := 9) rfl) ?_
    refine zr_callV (hf.w hW) hf.x (pc := 18) [.int (Int32.ofInt 1), .int (Int32.ofInt (ze Mz 81 4))] [] l_M_168 (c_M_wrongAtF l Mz (hf.w hW) 1 (by decide) (by decide) (ze Mz 81 4) (ze_r Mz 81 4).1 (ze_r Mz 81 4).2 (show 1 ≤ 1 by first | assumption | (decide))) rfl rfl rfl (by decide) (Nat.le_of_ble_eq_true rfl) (zdal_p dlC_M_wrong_75 (i := 10) rfl) ?_
    rintro _ N3_ ⟨rfl, hsN3_, hp0_N3_⟩
    replace hp0_N3_ : 1 ≤ ze N3_ 81 7 := hp0_N3_
    have hf_N3_ : zFr [7, 8] [] Mz N3_ := hf.tr hsN3_ (by decide) (by decide)
    have e4_N3_ : ze N3_ 81 4 = ze Mz 81 4 := hsN3_.e (by decide)
    have e5_N3_ : ze N3_ 81 5 = ze Mz 81 5 := hsN3_.e (by decide)
    have r7_N3_ := ze_r N3_ 81 7
    show zW l m_M_wrong (zn Mz + 0, zw Mz + 0) N3_ 21 [some (.ref 81), some (.int (Int32.ofInt a0_))] [] _
    exact zr_vret (pc := 21) rfl hf_N3_ (show 1 ≤ ze N3_ 81 7 by first | assumption | omega) (zdal_p dlC_M_wrong_75 (i := 11) rfl)
set_option maxHeartbeats 4000000 in
theorem c_M_mustF (l : Launch) (Mz : zMem) (hW : zMt Mz) (a0_ : Int) (ha0_a : -2147483648 ≤ a0_) (ha0_b : a0_ < 2147483648) (b_ : Nat → Int) (n_ : Nat) (p0_ : zRb b_ n_ Mz) (p1_ : zRt b_ n_ Mz) (p2_ : 0 ≤ ze Mz 81 7) : zC l m_M_must 0 0 [.ref 81, .int (Int32.ofInt a0_)] Mz (zpV [3, 4, 5, 6, 7, 8, 11] [] Mz (fun N => zRt b_ n_ N ∧ (((1 ≤ ze N 81 7 ∧ (ze Mz 81 7 = 0 → ¬ zisg b_ n_ (ze Mz 81 4).toNat a0_)) ∨ (ze N 81 7 = 0 ∧ ze Mz 81 7 = 0 ∧ zisg b_ n_ (ze Mz 81 4).toNat a0_ ∧ (ze N 81 4).toNat = znx b_ n_ (ze Mz 81 4).toNat))))) := by
  refine zC_of (L0 := [some (.ref 81), some (.int (Int32.ofInt a0_))]) md_M_must (Nat.le_of_ble_eq_true rfl) rfl ?_ zQ0
  have hf : zFr [3, 4, 5, 6, 7, 8, 11] [] Mz Mz := zFr.rf
  have r_3 := ze_r Mz 81 3
  have r_4 := ze_r Mz 81 4
  have r_7 := ze_r Mz 81 7
  refine zw_aload_n (pc := 0) (n := 0) (x := 81) rfl (zdal_p dlC_M_must_80 (i := 0) rfl) ?_
  refine zr_callV (hf.w hW) hf.x (pc := 1) [] [] l_M_183 (c_M_isGood l Mz (hf.w hW) ) rfl rfl rfl (by decide) (Nat.le_of_ble_eq_true rfl) (zdal_p dlC_M_must_80 (i := 1) rfl) ?_
  rintro _ N1_ ⟨v2_, rfl, ⟨hv2_a, hv2_b⟩, hsN1_, hp0_N1_⟩
  obtain rfl := hsN1_.eq.symm
  replace hp0_N1_ : ((v2_ = 1 ∧ ze Mz 81 7 = 0) ∨ (v2_ = 0 ∧ ze Mz 81 7 ≠ 0)) := hp0_N1_
  rcases hp0_N1_ with ⟨rfl, ha1_0_hp0_N1_⟩ | ⟨rfl, ha1_0_hp0_N1_⟩
  · skip
    show zW l m_M_must (zn Mz + 0, zw Mz + 0) Mz 4 [some (.ref 81), some (.int (Int32.ofInt a0_))] [.int (Int32.ofInt 1)] _
    refine zr_if_eq (pc := 4) (tgt := 20) ⟨(by decide), (by decide)⟩ (by decide) (zdal_p dlC_M_must_80 (i := 2) rfl) (fun hc_4 => ?_) (fun hc_4 => ?_)
    · skip
      exact absurd hc_4 (by decide)
    · skip
      refine zw_aload_n (pc := 7) (n := 0) (x := 81) rfl (zdal_p dlC_M_must_80 (i := 3) rfl) ?_
      refine zw_iload_n (pc := 8) (n := 1) (x := Int32.ofInt a0_) rfl (zdal_p dlC_M_must_80 (i := 4) rfl) ?_
      refine zr_callV (hf.w hW) hf.x (pc := 9) [.int (Int32.ofInt a0_)] [] l_M_187 (c_M_isSignHereF l Mz (hf.w hW) a0_ ha0_a ha0_b b_ n_ p1_) rfl rfl rfl (by decide) (Nat.le_of_ble_eq_true rfl) (zdal_p dlC_M_must_80 (i := 5) rfl) ?_
      rintro _ N3_ ⟨v4_, rfl, ⟨hv4_a, hv4_b⟩, hsN3_, hp0_N3_⟩
      obtain rfl := hsN3_.eq.symm
      replace hp0_N3_ : ((v4_ = 1 ∧ ze Mz 81 7 = 0 ∧ zisg b_ n_ (ze Mz 81 4).toNat a0_) ∨ (v4_ = 0 ∧ (ze Mz 81 7 = 0 → ¬ zisg b_ n_ (ze Mz 81 4).toNat a0_))) := hp0_N3_
      rcases hp0_N3_ with ⟨rfl, ha9_0_hp0_N3_, ha9_1_hp0_N3_⟩ | ⟨rfl, ha9_0_hp0_N3_⟩
      · skip
        have hsg_ := ha9_1_hp0_N3_
        show zW l m_M_must (zn Mz + 0, zw Mz + 0) Mz 12 [some (.ref 81), some (.int (Int32.ofInt a0_))] [.int (Int32.ofInt 1)] _
        refine zr_if_ne (pc := 12) (tgt := 20) ⟨(by decide), (by decide)⟩ (by decide) (zdal_p dlC_M_must_80 (i := 6) rfl) (fun hc_12 => ?_) (fun hc_12 => ?_)
        · skip
          refine zw_aload_n (pc := 20) (n := 0) (x := 81) rfl (zdal_p dlC_M_must_80 (i := 10) rfl) ?_
          refine zr_callV (hf.w hW) hf.x (pc := 21) [] [] l_M_183 (c_M_isGood l Mz (hf.w hW) ) rfl rfl rfl (by decide) (Nat.le_of_ble_eq_true rfl) (zdal_p dlC_M_must_80 (i := 11) rfl) ?_
          rintro _ N5_ ⟨v6_, rfl, ⟨hv6_a, hv6_b⟩, hsN5_, hp0_N5_⟩
          obtain rfl := hsN5_.eq.symm
          replace hp0_N5_ : ((v6_ = 1 ∧ ze Mz 81 7 = 0) ∨ (v6_ = 0 ∧ ze Mz 81 7 ≠ 0)) := hp0_N5_
          rcases hp0_N5_ with ⟨rfl, ha21_0_hp0_N5_⟩ | ⟨rfl, ha21_0_hp0_N5_⟩
          · skip
            show zW l m_M_must (zn Mz + 0, zw Mz + 0) Mz 24 [some (.ref 81), some (.int (Int32.ofInt a0_))] [.int (Int32.ofInt 1)] _
            refine zr_if_eq (pc := 24) (tgt := 31) ⟨(by decide), (by decide)⟩ (by decide) (zdal_p dlC_M_must_80 (i := 12) rfl) (fun hc_24 => ?_) (fun hc_24 => ?_)
            · skip
              exact absurd hc_24 (by decide)
            · skip
              have hyt_ := p1_
              have hyx_ := hyt_.x
              refine zw_aload_n (pc := 27) (n := 0) (x := 81) rfl (zdal_p dlC_M_must_80 (i := 13) rfl) ?_
              refine zr_callV (hf.w hW) hf.x (pc := 28) [] [] l_M_193 (c_M_goOnF l Mz (hf.w hW) b_ n_ p0_ (show 0 ≤ ze Mz 81 3 by first | assumption | (exact zo_57 hyx_.2.1)) (show ze Mz 81 3 ≤ n_ by first | assumption | (exact zo_277 hyx_.2.2 r_3.2))) rfl rfl rfl (by decide) (Nat.le_of_ble_eq_true rfl) (zdal_p dlC_M_must_80 (i := 14) rfl) ?_
              rintro _ N7_ ⟨rfl, hsN7_, ⟨hp0_N7_, hp1_N7_⟩⟩
              have hf_N7_ : zFr [3, 4, 5, 6, 7, 8, 11] [] Mz N7_ := hf.tr hsN7_ (by decide) (by decide)
              have r3_N7_ := ze_r N7_ 81 3
              have r4_N7_ := ze_r N7_ 81 4
              have e7_N7_ : ze N7_ 81 7 = ze Mz 81 7 := hsN7_.e (by decide)
              have c9_ : zRb b_ n_ N7_ := zRb.fr hsN7_ p0_ (by decide) (by decide)
              show zW l m_M_must (zn Mz + 0, zw Mz + 0) N7_ 31 [some (.ref 81), some (.int (Int32.ofInt a0_))] [] _
              have hnn_ := hyt_.nx hp0_N7_
              exact zr_vret (pc := 31) rfl hf_N7_ ⟨hp1_N7_, (show ((1 ≤ ze N7_ 81 7 ∧ (ze Mz 81 7 = 0 → ¬ zisg b_ n_ (ze Mz 81 4).toNat a0_)) ∨ (ze N7_ 81 7 = 0 ∧ ze Mz 81 7 = 0 ∧ zisg b_ n_ (ze Mz 81 4).toNat a0_ ∧ (ze N7_ 81 4).toNat = znx b_ n_ (ze Mz 81 4).toNat)) from Or.inr (⟨(show ze N7_ 81 7 = 0 by first | (exact zo_278 e7_N7_ ha1_0_hp0_N1_ p2_) | exact hsg_ | exact hnn_.2.trans (by rw [show ze Mz 81 4 = ze Mz 81 4 by omega])), (show ze Mz 81 7 = 0 by first | (exact ha1_0_hp0_N1_) | exact hsg_ | exact hnn_.2.trans (by rw [show ze Mz 81 4 = ze Mz 81 4 by omega])), (show zisg b_ n_ (ze Mz 81 4).toNat a0_ by first | omega | exact hsg_ | exact hnn_.2.trans (by rw [show ze Mz 81 4 = ze Mz 81 4 by omega])), (show (ze N7_ 81 4).toNat = znx b_ n_ (ze Mz 81 4).toNat by first | (exact zo_279 hnn_.2 hp0_N7_ r4_N7_.1 r4_N7_.2) | exact hsg_ | exact hnn_.2.trans (by rw [show ze Mz 81 4 = ze Mz 81 4 by omega]))⟩))⟩ (zdal_p dlC_M_must_80 (i := 15) rfl)
          · skip
            exfalso; (exact zo_280 ha1_0_hp0_N1_ p2_ ha21_0_hp0_N5_)
        · skip
          exact absurd hc_12 (by decide)
      · skip
        have hns_ := ha9_0_hp0_N3_
        show zW l m_M_must (zn Mz + 0, zw Mz + 0) Mz 12 [some (.ref 81), some (.int (Int32.ofInt a0_))] [.int (Int32.ofInt 0)] _
        refine zr_if_ne (pc := 12) (tgt := 20) ⟨(by decide), (by decide)⟩ (by decide) (zdal_p dlC_M_must_80 (i := 6) rfl) (fun hc_12 => ?_) (fun hc_12 => ?_)
        · skip
          exact absurd hc_12 (by decide)
        · skip
          refine zw_aload_n (pc := 15) (n := 0) (x := 81) rfl (zdal_p dlC_M_must_80 (i := 7) rfl) ?_
          refine zw_iconst (pc := 16) (v := Int32.ofInt 2) (by decide) (zdal_p dlC_M_must_80 (i := 8) rfl) ?_
          refine zr_callV (hf.w hW) hf.x (pc := 17) [.int (Int32.ofInt 2)] [] l_M_190 (c_M_wrongF l Mz (hf.w hW) 2 (by decide) (by decide) (show 1 ≤ 2 by first | assumption | (decide))) rfl rfl rfl (by decide) (Nat.le_of_ble_eq_true rfl) (zdal_p dlC_M_must_80 (i := 9) rfl) ?_
          rintro _ N10_ ⟨rfl, hsN10_, hp0_N10_⟩
          replace hp0_N10_ : 1 ≤ ze N10_ 81 7 := hp0_N10_
          have hf_N10_ : zFr [3, 4, 5, 6, 7, 8, 11] [] Mz N10_ := hf.tr hsN10_ (by decide) (by decide)
          have e3_N10_ : ze N10_ 81 3 = ze Mz 81 3 := hsN10_.e (by decide)
          have e4_N10_ : ze N10_ 81 4 = ze Mz 81 4 := hsN10_.e (by decide)
          have r7_N10_ := ze_r N10_ 81 7
          have c12_ : zRb b_ n_ N10_ := zRb.fr hsN10_ p0_ (by decide) (by decide)
          have c13_ : zRt b_ n_ N10_ := zRt.fr hsN10_ p1_ (by decide) (by decide)
          show zW l m_M_must (zn Mz + 0, zw Mz + 0) N10_ 20 [some (.ref 81), some (.int (Int32.ofInt a0_))] [] _
          refine zw_aload_n (pc := 20) (n := 0) (x := 81) rfl (zdal_p dlC_M_must_80 (i := 10) rfl) ?_
          refine zr_callV (hf_N10_.w hW) hf_N10_.x (pc := 21) [] [] l_M_183 (c_M_isGood l N10_ (hf_N10_.w hW) ) rfl rfl rfl (by decide) (Nat.le_of_ble_eq_true rfl) (zdal_p dlC_M_must_80 (i := 11) rfl) ?_
          rintro _ N14_ ⟨v15_, rfl, ⟨hv15_a, hv15_b⟩, hsN14_, hp0_N14_⟩
          obtain rfl := hsN14_.eq.symm
          replace hp0_N14_ : ((v15_ = 1 ∧ ze N10_ 81 7 = 0) ∨ (v15_ = 0 ∧ ze N10_ 81 7 ≠ 0)) := hp0_N14_
          rcases hp0_N14_ with ⟨rfl, ha21_0_hp0_N14_⟩ | ⟨rfl, ha21_0_hp0_N14_⟩
          · skip
            exfalso; (exact zo_281 ha21_0_hp0_N14_ hp0_N10_)
          · skip
            show zW l m_M_must (zn Mz + 0, zw Mz + 0) N10_ 24 [some (.ref 81), some (.int (Int32.ofInt a0_))] [.int (Int32.ofInt 0)] _
            refine zr_if_eq (pc := 24) (tgt := 31) ⟨(by decide), (by decide)⟩ (by decide) (zdal_p dlC_M_must_80 (i := 12) rfl) (fun hc_24 => ?_) (fun hc_24 => ?_)
            · skip
              exact zr_vret (pc := 31) rfl hf_N10_ ⟨c13_, (show ((1 ≤ ze N10_ 81 7 ∧ (ze Mz 81 7 = 0 → ¬ zisg b_ n_ (ze Mz 81 4).toNat a0_)) ∨ (ze N10_ 81 7 = 0 ∧ ze Mz 81 7 = 0 ∧ zisg b_ n_ (ze Mz 81 4).toNat a0_ ∧ (ze N10_ 81 4).toNat = znx b_ n_ (ze Mz 81 4).toNat)) from Or.inl (⟨(show 1 ≤ ze N10_ 81 7 by first | (exact hp0_N10_) | exact hns_ | (intro z_; exfalso; omega)), (show (ze Mz 81 7 = 0 → ¬ zisg b_ n_ (ze Mz 81 4).toNat a0_) by first | (exact ha9_0_hp0_N3_) | exact hns_ | (intro z_; exfalso; omega))⟩))⟩ (zdal_p dlC_M_must_80 (i := 15) rfl)
            · skip
              exact absurd hc_24 (by decide)
  · skip
    show zW l m_M_must (zn Mz + 0, zw Mz + 0) Mz 4 [some (.ref 81), some (.int (Int32.ofInt a0_))] [.int (Int32.ofInt 0)] _
    refine zr_if_eq (pc := 4) (tgt := 20) ⟨(by decide), (by decide)⟩ (by decide) (zdal_p dlC_M_must_80 (i := 2) rfl) (fun hc_4 => ?_) (fun hc_4 => ?_)
    · skip
      refine zw_aload_n (pc := 20) (n := 0) (x := 81) rfl (zdal_p dlC_M_must_80 (i := 10) rfl) ?_
      refine zr_callV (hf.w hW) hf.x (pc := 21) [] [] l_M_183 (c_M_isGood l Mz (hf.w hW) ) rfl rfl rfl (by decide) (Nat.le_of_ble_eq_true rfl) (zdal_p dlC_M_must_80 (i := 11) rfl) ?_
      rintro _ N16_ ⟨v17_, rfl, ⟨hv17_a, hv17_b⟩, hsN16_, hp0_N16_⟩
      obtain rfl := hsN16_.eq.symm
      replace hp0_N16_ : ((v17_ = 1 ∧ ze Mz 81 7 = 0) ∨ (v17_ = 0 ∧ ze Mz 81 7 ≠ 0)) := hp0_N16_
      rcases hp0_N16_ with ⟨rfl, ha21_0_hp0_N16_⟩ | ⟨rfl, ha21_0_hp0_N16_⟩
      · skip
        exfalso; (exact zo_280 ha21_0_hp0_N16_ p2_ ha1_0_hp0_N1_)
      · skip
        show zW l m_M_must (zn Mz + 0, zw Mz + 0) Mz 24 [some (.ref 81), some (.int (Int32.ofInt a0_))] [.int (Int32.ofInt 0)] _
        refine zr_if_eq (pc := 24) (tgt := 31) ⟨(by decide), (by decide)⟩ (by decide) (zdal_p dlC_M_must_80 (i := 12) rfl) (fun hc_24 => ?_) (fun hc_24 => ?_)
        · skip
          exact zr_vret (pc := 31) rfl hf ⟨p1_, (show ((1 ≤ ze Mz 81 7 ∧ (ze Mz 81 7 = 0 → ¬ zisg b_ n_ (ze Mz 81 4).toNat a0_)) ∨ (ze Mz 81 7 = 0 ∧ ze Mz 81 7 = 0 ∧ zisg b_ n_ (ze Mz 81 4).toNat a0_ ∧ (ze Mz 81 4).toNat = znx b_ n_ (ze Mz 81 4).toNat)) from Or.inl (⟨(show 1 ≤ ze Mz 81 7 by first | (exact zo_136 p2_ ha1_0_hp0_N1_) | exact hns_ | (intro z_; exfalso; omega)), (show (ze Mz 81 7 = 0 → ¬ zisg b_ n_ (ze Mz 81 4).toNat a0_) by first | omega | exact hns_ | (intro z_; exfalso; omega))⟩))⟩ (zdal_p dlC_M_must_80 (i := 15) rfl)
        · skip
          exact absurd hc_24 (by decide)
    · skip
      exact absurd hc_4 (by decide)
set_option maxHeartbeats 4000000 in
theorem c_M_numberF (l : Launch) (Mz : zMem) (hW : zMt Mz) (a0_ : Int) (ha0_a : -2147483648 ≤ a0_) (ha0_b : a0_ < 2147483648) (a1_ : Int) (ha1_a : -2147483648 ≤ a1_) (ha1_b : a1_ < 2147483648) (b_ : Nat → Int) (n_ : Nat) (p0_ : zRb b_ n_ Mz) (p1_ : zRt b_ n_ Mz) (p2_ : 0 ≤ ze Mz 81 7) : zC l m_M_number 0 0 [.ref 81, .int (Int32.ofInt a0_), .int (Int32.ofInt a1_)] Mz (zpI [3, 4, 5, 6, 7, 8, 11] [] Mz (fun v N => zRt b_ n_ N ∧ (((1 ≤ ze N 81 7 ∧ (ze Mz 81 7 = 0 → ¬ (zkd b_ n_ (ze Mz 81 4).toNat = 2 ∧ a0_ ≤ znu b_ n_ (ze Mz 81 4).toNat ∧ znu b_ n_ (ze Mz 81 4).toNat ≤ a1_))) ∨ (ze N 81 7 = 0 ∧ ze Mz 81 7 = 0 ∧ (zkd b_ n_ (ze Mz 81 4).toNat = 2 ∧ a0_ ≤ znu b_ n_ (ze Mz 81 4).toNat ∧ znu b_ n_ (ze Mz 81 4).toNat ≤ a1_) ∧ v = znu b_ n_ (ze Mz 81 4).toNat ∧ (ze N 81 4).toNat = znx b_ n_ (ze Mz 81 4).toNat))))) := by
  refine zC_of (L0 := [some (.ref 81), some (.int (Int32.ofInt a0_)), some (.int (Int32.ofInt a1_)), none]) md_M_number (Nat.le_of_ble_eq_true rfl) rfl ?_ zQ0
  have hf : zFr [3, 4, 5, 6, 7, 8, 11] [] Mz Mz := zFr.rf
  have r_3 := ze_r Mz 81 3
  have r_4 := ze_r Mz 81 4
  have r_5 := ze_r Mz 81 5
  have r_6 := ze_r Mz 81 6
  have r_7 := ze_r Mz 81 7
  obtain ⟨t1_, t2_, t3_, t4_, t5_, t6_⟩ := id p1_
  refine zw_aload_n (pc := 0) (n := 0) (x := 81) rfl (zdal_p dlC_M_number_78 (i := 0) rfl) ?_
  refine zr_callV (hf.w hW) hf.x (pc := 1) [] [] l_M_183 (c_M_isGood l Mz (hf.w hW) ) rfl rfl rfl (by decide) (Nat.le_of_ble_eq_true rfl) (zdal_p dlC_M_number_78 (i := 1) rfl) ?_
  rintro _ N1_ ⟨v2_, rfl, ⟨hv2_a, hv2_b⟩, hsN1_, hp0_N1_⟩
  obtain rfl := hsN1_.eq.symm
  replace hp0_N1_ : ((v2_ = 1 ∧ ze Mz 81 7 = 0) ∨ (v2_ = 0 ∧ ze Mz 81 7 ≠ 0)) := hp0_N1_
  rcases hp0_N1_ with ⟨rfl, ha1_0_hp0_N1_⟩ | ⟨rfl, ha1_0_hp0_N1_⟩
  · skip
    show zW l m_M_number (zn Mz + 0, zw Mz + 0) Mz 4 [some (.ref 81), some (.int (Int32.ofInt a0_)), some (.int (Int32.ofInt a1_)), none] [.int (Int32.ofInt 1)] _
    refine zr_if_eq (pc := 4) (tgt := 20) ⟨(by decide), (by decide)⟩ (by decide) (zdal_p dlC_M_number_78 (i := 2) rfl) (fun hc_4 => ?_) (fun hc_4 => ?_)
    · skip
      exact absurd hc_4 (by decide)
    · skip
      refine zw_aload_n (pc := 7) (n := 0) (x := 81) rfl (zdal_p dlC_M_number_78 (i := 3) rfl) ?_
      refine zr_getI (hf.w hW) (pc := 8) f_M_155 rfl (zdal_p dlC_M_number_78 (i := 4) rfl) ?_
      refine zw_iconst (pc := 11) (v := Int32.ofInt 2) (by decide) (zdal_p dlC_M_number_78 (i := 5) rfl) ?_
      refine zr_icmp_eq (pc := 12) (tgt := 20) ⟨(ze_r Mz 81 5).1, (ze_r Mz 81 5).2⟩ ⟨(by decide), (by decide)⟩ (by decide) (zdal_p dlC_M_number_78 (i := 6) rfl) (fun hc_12 => ?_) (fun hc_12 => ?_)
      · skip
        refine zw_aload_n (pc := 20) (n := 0) (x := 81) rfl (zdal_p dlC_M_number_78 (i := 10) rfl) ?_
        refine zr_getI (hf.w hW) (pc := 21) f_M_152 rfl (zdal_p dlC_M_number_78 (i := 11) rfl) ?_
        refine zw_istore_n (pc := 24) (i := 3) (L2 := [some (.ref 81), some (.int (Int32.ofInt a0_)), some (.int (Int32.ofInt a1_)), some (.int (Int32.ofInt (ze Mz 81 6)))]) rfl (by decide) rfl (zdal_p dlC_M_number_78 (i := 12) rfl) ?_
        refine zw_aload_n (pc := 25) (n := 0) (x := 81) rfl (zdal_p dlC_M_number_78 (i := 13) rfl) ?_
        refine zr_callV (hf.w hW) hf.x (pc := 26) [] [] l_M_183 (c_M_isGood l Mz (hf.w hW) ) rfl rfl rfl (by decide) (Nat.le_of_ble_eq_true rfl) (zdal_p dlC_M_number_78 (i := 14) rfl) ?_
        rintro _ N3_ ⟨v4_, rfl, ⟨hv4_a, hv4_b⟩, hsN3_, hp0_N3_⟩
        obtain rfl := hsN3_.eq.symm
        replace hp0_N3_ : ((v4_ = 1 ∧ ze Mz 81 7 = 0) ∨ (v4_ = 0 ∧ ze Mz 81 7 ≠ 0)) := hp0_N3_
        rcases hp0_N3_ with ⟨rfl, ha26_0_hp0_N3_⟩ | ⟨rfl, ha26_0_hp0_N3_⟩
        · skip
          show zW l m_M_number (zn Mz + 0, zw Mz + 0) Mz 29 [some (.ref 81), some (.int (Int32.ofInt a0_)), some (.int (Int32.ofInt a1_)), some (.int (Int32.ofInt (ze Mz 81 6)))] [.int (Int32.ofInt 1)] _
          refine zr_if_eq (pc := 29) (tgt := 49) ⟨(by decide), (by decide)⟩ (by decide) (zdal_p dlC_M_number_78 (i := 15) rfl) (fun hc_29 => ?_) (fun hc_29 => ?_)
          · skip
            exact absurd hc_29 (by decide)
          · skip
            refine zw_iload_n (pc := 32) (n := 3) (x := Int32.ofInt (ze Mz 81 6)) rfl (zdal_p dlC_M_number_78 (i := 16) rfl) ?_
            refine zr_i2l (pc := 33) ⟨(ze_r Mz 81 6).1, (ze_r Mz 81 6).2⟩ (zdal_p dlC_M_number_78 (i := 17) rfl) ?_
            refine zw_iload_n (pc := 34) (n := 1) (x := Int32.ofInt a0_) rfl (zdal_p dlC_M_number_78 (i := 18) rfl) ?_
            refine zr_i2l (pc := 35) ⟨ha0_a, ha0_b⟩ (zdal_p dlC_M_number_78 (i := 19) rfl) ?_
            refine zw_iload_n (pc := 36) (n := 2) (x := Int32.ofInt a1_) rfl (zdal_p dlC_M_number_78 (i := 20) rfl) ?_
            refine zr_i2l (pc := 37) ⟨ha1_a, ha1_b⟩ (zdal_p dlC_M_number_78 (i := 21) rfl) ?_
            refine zr_callS hf.x (pc := 38) [.long (Int64.ofInt (ze Mz 81 6)), .long (Int64.ofInt a0_), .long (Int64.ofInt a1_)] [] l_M_131 (c_M_isIn l Mz (hf.w hW) (ze Mz 81 6) (by (exact zo_282 r_6.1)) (by (exact zo_283 r_6.2)) a0_ (by (exact zo_282 ha0_a)) (by (exact zo_283 ha0_b)) a1_ (by (exact zo_282 ha1_a)) (by (exact zo_283 ha1_b))) rfl rfl (by decide) (Nat.le_of_ble_eq_true rfl) (zdal_p dlC_M_number_78 (i := 22) rfl) ?_
            rintro _ N5_ ⟨v6_, rfl, ⟨hv6_a, hv6_b⟩, hsN5_, hp0_N5_⟩
            obtain rfl := hsN5_.eq.symm
            replace hp0_N5_ : ((v6_ = 1 ∧ a0_ ≤ (ze Mz 81 6) ∧ (ze Mz 81 6) ≤ a1_) ∨ (v6_ = 0 ∧ ((ze Mz 81 6) < a0_ ∨ a1_ < (ze Mz 81 6)))) := hp0_N5_
            rcases hp0_N5_ with ⟨rfl, ha38_0_hp0_N5_, ha38_1_hp0_N5_⟩ | ⟨rfl, ha38_0_hp0_N5_⟩
            · skip
              show zW l m_M_number (zn Mz + 0, zw Mz + 0) Mz 41 [some (.ref 81), some (.int (Int32.ofInt a0_)), some (.int (Int32.ofInt a1_)), some (.int (Int32.ofInt (ze Mz 81 6)))] [.int (Int32.ofInt 1)] _
              refine zr_if_ne (pc := 41) (tgt := 49) ⟨(by decide), (by decide)⟩ (by decide) (zdal_p dlC_M_number_78 (i := 23) rfl) (fun hc_41 => ?_) (fun hc_41 => ?_)
              · skip
                refine zw_aload_n (pc := 49) (n := 0) (x := 81) rfl (zdal_p dlC_M_number_79 (i := 3) rfl) ?_
                refine zr_callV (hf.w hW) hf.x (pc := 50) [] [] l_M_183 (c_M_isGood l Mz (hf.w hW) ) rfl rfl rfl (by decide) (Nat.le_of_ble_eq_true rfl) (zdal_p dlC_M_number_79 (i := 4) rfl) ?_
                rintro _ N7_ ⟨v8_, rfl, ⟨hv8_a, hv8_b⟩, hsN7_, hp0_N7_⟩
                obtain rfl := hsN7_.eq.symm
                replace hp0_N7_ : ((v8_ = 1 ∧ ze Mz 81 7 = 0) ∨ (v8_ = 0 ∧ ze Mz 81 7 ≠ 0)) := hp0_N7_
                rcases hp0_N7_ with ⟨rfl, ha50_0_hp0_N7_⟩ | ⟨rfl, ha50_0_hp0_N7_⟩
                · skip
                  show zW l m_M_number (zn Mz + 0, zw Mz + 0) Mz 53 [some (.ref 81), some (.int (Int32.ofInt a0_)), some (.int (Int32.ofInt a1_)), some (.int (Int32.ofInt (ze Mz 81 6)))] [.int (Int32.ofInt 1)] _
                  refine zr_if_eq (pc := 53) (tgt := 60) ⟨(by decide), (by decide)⟩ (by decide) (zdal_p dlC_M_number_79 (i := 5) rfl) (fun hc_53 => ?_) (fun hc_53 => ?_)
                  · skip
                    exact absurd hc_53 (by decide)
                  · skip
                    have hyt_ := p1_
                    have hyx_ := hyt_.x
                    refine zw_aload_n (pc := 56) (n := 0) (x := 81) rfl (zdal_p dlC_M_number_79 (i := 6) rfl) ?_
                    refine zr_callV (hf.w hW) hf.x (pc := 57) [] [] l_M_193 (c_M_goOnF l Mz (hf.w hW) b_ n_ p0_ (show 0 ≤ ze Mz 81 3 by first | assumption | (exact zo_57 hyx_.2.1)) (show ze Mz 81 3 ≤ n_ by first | assumption | (exact zo_277 hyx_.2.2 r_3.2))) rfl rfl rfl (by decide) (Nat.le_of_ble_eq_true rfl) (zdal_p dlC_M_number_79 (i := 7) rfl) ?_
                    rintro _ N9_ ⟨rfl, hsN9_, ⟨hp0_N9_, hp1_N9_⟩⟩
                    have hf_N9_ : zFr [3, 4, 5, 6, 7, 8, 11] [] Mz N9_ := hf.tr hsN9_ (by decide) (by decide)
                    have r3_N9_ := ze_r N9_ 81 3
                    have r4_N9_ := ze_r N9_ 81 4
                    have r5_N9_ := ze_r N9_ 81 5
                    have r6_N9_ := ze_r N9_ 81 6
                    have e7_N9_ : ze N9_ 81 7 = ze Mz 81 7 := hsN9_.e (by decide)
                    have c11_ : zRb b_ n_ N9_ := zRb.fr hsN9_ p0_ (by decide) (by decide)
                    show zW l m_M_number (zn Mz + 0, zw Mz + 0) N9_ 60 [some (.ref 81), some (.int (Int32.ofInt a0_)), some (.int (Int32.ofInt a1_)), some (.int (Int32.ofInt (ze Mz 81 6)))] [] _
                    have hnn_ := hyt_.nx hp0_N9_
                    refine zw_iload_n (pc := 60) (n := 3) (x := Int32.ofInt (ze Mz 81 6)) rfl (zdal_p dlC_M_number_79 (i := 8) rfl) ?_
                    exact zr_iret (pc := 61) (ty := .int) rfl rfl ⟨by (exact zo_284 r_6.1), by (exact zo_285 r_6.2)⟩ hf_N9_ ⟨hp1_N9_, (show ((1 ≤ ze N9_ 81 7 ∧ (ze Mz 81 7 = 0 → ¬ (zkd b_ n_ (ze Mz 81 4).toNat = 2 ∧ a0_ ≤ znu b_ n_ (ze Mz 81 4).toNat ∧ znu b_ n_ (ze Mz 81 4).toNat ≤ a1_))) ∨ (ze N9_ 81 7 = 0 ∧ ze Mz 81 7 = 0 ∧ (zkd b_ n_ (ze Mz 81 4).toNat = 2 ∧ a0_ ≤ znu b_ n_ (ze Mz 81 4).toNat ∧ znu b_ n_ (ze Mz 81 4).toNat ≤ a1_) ∧ (ze Mz 81 6) = znu b_ n_ (ze Mz 81 4).toNat ∧ (ze N9_ 81 4).toNat = znx b_ n_ (ze Mz 81 4).toNat)) from Or.inr (⟨(show ze N9_ 81 7 = 0 by first | (exact zo_278 e7_N9_ ha1_0_hp0_N1_ p2_) | (have k_ : zkd b_ n_ (ze Mz 81 4).toNat = 2 := (by omega); have w_ := (p1_.v2 k_).1; first | omega | exact ⟨k_, by omega, by omega⟩) | exact hnn_.2.trans (by rw [show ze Mz 81 4 = ze Mz 81 4 by omega])), (show ze Mz 81 7 = 0 by first | (exact ha1_0_hp0_N1_) | (have k_ : zkd b_ n_ (ze Mz 81 4).toNat = 2 := (by omega); have w_ := (p1_.v2 k_).1; first | omega | exact ⟨k_, by omega, by omega⟩) | exact hnn_.2.trans (by rw [show ze Mz 81 4 = ze Mz 81 4 by omega])), (show (zkd b_ n_ (ze Mz 81 4).toNat = 2 ∧ a0_ ≤ znu b_ n_ (ze Mz 81 4).toNat ∧ znu b_ n_ (ze Mz 81 4).toNat ≤ a1_) by first | omega | (have k_ : zkd b_ n_ (ze Mz 81 4).toNat = 2 := (by (exact zo_286 hc_12 t3_)); have w_ := (p1_.v2 k_).1; first | (exact zo_287 ha38_0_hp0_N5_ ha38_1_hp0_N5_ k_ w_) | exact ⟨k_, by omega, by omega⟩) | exact hnn_.2.trans (by rw [show ze Mz 81 4 = ze Mz 81 4 by omega])), (show (ze Mz 81 6) = znu b_ n_ (ze Mz 81 4).toNat by first | omega | (have k_ : zkd b_ n_ (ze Mz 81 4).toNat = 2 := (by (exact zo_286 hc_12 t3_)); have w_ := (p1_.v2 k_).1; first | (exact w_) | exact ⟨k_, by omega, by omega⟩) | exact hnn_.2.trans (by rw [show ze Mz 81 4 = ze Mz 81 4 by omega])), (show (ze N9_ 81 4).toNat = znx b_ n_ (ze Mz 81 4).toNat by first | (exact zo_279 hnn_.2 hp0_N9_ r4_N9_.1 r4_N9_.2) | (have k_ : zkd b_ n_ (ze Mz 81 4).toNat = 2 := (by omega); have w_ := (p1_.v2 k_).1; first | omega | exact ⟨k_, by omega, by omega⟩) | exact hnn_.2.trans (by rw [show ze Mz 81 4 = ze Mz 81 4 by omega]))⟩))⟩ (zdal_p dlC_M_number_79 (i := 9) rfl)
                · skip
                  exfalso; (exact zo_280 ha1_0_hp0_N1_ p2_ ha50_0_hp0_N7_)
              · skip
                exact absurd hc_41 (by decide)
            · skip
              show zW l m_M_number (zn Mz + 0, zw Mz + 0) Mz 41 [some (.ref 81), some (.int (Int32.ofInt a0_)), some (.int (Int32.ofInt a1_)), some (.int (Int32.ofInt (ze Mz 81 6)))] [.int (Int32.ofInt 0)] _
              refine zr_if_ne (pc := 41) (tgt := 49) ⟨(by decide), (by decide)⟩ (by decide) (zdal_p dlC_M_number_78 (i := 23) rfl) (fun hc_41 => ?_) (fun hc_41 => ?_)
              · skip
                exact absurd hc_41 (by decide)
              · skip
                refine zw_aload_n (pc := 44) (n := 0) (x := 81) rfl (zdal_p dlC_M_number_79 (i := 0) rfl) ?_
                refine zw_iconst (pc := 45) (v := Int32.ofInt 4) (by decide) (zdal_p dlC_M_number_79 (i := 1) rfl) ?_
                refine zr_callV (hf.w hW) hf.x (pc := 46) [.int (Int32.ofInt 4)] [] l_M_190 (c_M_wrongF l Mz (hf.w hW) 4 (by decide) (by decide) (show 1 ≤ 4 by first | assumption | (decide))) rfl rfl rfl (by decide) (Nat.le_of_ble_eq_true rfl) (zdal_p dlC_M_number_79 (i := 2) rfl) ?_
                rintro _ N12_ ⟨rfl, hsN12_, hp0_N12_⟩
                replace hp0_N12_ : 1 ≤ ze N12_ 81 7 := hp0_N12_
                have hf_N12_ : zFr [3, 4, 5, 6, 7, 8, 11] [] Mz N12_ := hf.tr hsN12_ (by decide) (by decide)
                have e3_N12_ : ze N12_ 81 3 = ze Mz 81 3 := hsN12_.e (by decide)
                have e4_N12_ : ze N12_ 81 4 = ze Mz 81 4 := hsN12_.e (by decide)
                have e5_N12_ : ze N12_ 81 5 = ze Mz 81 5 := hsN12_.e (by decide)
                have e6_N12_ : ze N12_ 81 6 = ze Mz 81 6 := hsN12_.e (by decide)
                have r7_N12_ := ze_r N12_ 81 7
                have c14_ : zRb b_ n_ N12_ := zRb.fr hsN12_ p0_ (by decide) (by decide)
                have c15_ : zRt b_ n_ N12_ := zRt.fr hsN12_ p1_ (by decide) (by decide)
                show zW l m_M_number (zn Mz + 0, zw Mz + 0) N12_ 49 [some (.ref 81), some (.int (Int32.ofInt a0_)), some (.int (Int32.ofInt a1_)), some (.int (Int32.ofInt (ze Mz 81 6)))] [] _
                refine zw_aload_n (pc := 49) (n := 0) (x := 81) rfl (zdal_p dlC_M_number_79 (i := 3) rfl) ?_
                refine zr_callV (hf_N12_.w hW) hf_N12_.x (pc := 50) [] [] l_M_183 (c_M_isGood l N12_ (hf_N12_.w hW) ) rfl rfl rfl (by decide) (Nat.le_of_ble_eq_true rfl) (zdal_p dlC_M_number_79 (i := 4) rfl) ?_
                rintro _ N16_ ⟨v17_, rfl, ⟨hv17_a, hv17_b⟩, hsN16_, hp0_N16_⟩
                obtain rfl := hsN16_.eq.symm
                replace hp0_N16_ : ((v17_ = 1 ∧ ze N12_ 81 7 = 0) ∨ (v17_ = 0 ∧ ze N12_ 81 7 ≠ 0)) := hp0_N16_
                rcases hp0_N16_ with ⟨rfl, ha50_0_hp0_N16_⟩ | ⟨rfl, ha50_0_hp0_N16_⟩
                · skip
                  exfalso; (exact zo_281 ha50_0_hp0_N16_ hp0_N12_)
                · skip
                  show zW l m_M_number (zn Mz + 0, zw Mz + 0) N12_ 53 [some (.ref 81), some (.int (Int32.ofInt a0_)), some (.int (Int32.ofInt a1_)), some (.int (Int32.ofInt (ze Mz 81 6)))] [.int (Int32.ofInt 0)] _
                  refine zr_if_eq (pc := 53) (tgt := 60) ⟨(by decide), (by decide)⟩ (by decide) (zdal_p dlC_M_number_79 (i := 5) rfl) (fun hc_53 => ?_) (fun hc_53 => ?_)
                  · skip
                    refine zw_iload_n (pc := 60) (n := 3) (x := Int32.ofInt (ze Mz 81 6)) rfl (zdal_p dlC_M_number_79 (i := 8) rfl) ?_
                    exact zr_iret (pc := 61) (ty := .int) rfl rfl ⟨by (exact zo_284 r_6.1), by (exact zo_285 r_6.2)⟩ hf_N12_ ⟨c15_, (show ((1 ≤ ze N12_ 81 7 ∧ (ze Mz 81 7 = 0 → ¬ (zkd b_ n_ (ze Mz 81 4).toNat = 2 ∧ a0_ ≤ znu b_ n_ (ze Mz 81 4).toNat ∧ znu b_ n_ (ze Mz 81 4).toNat ≤ a1_))) ∨ (ze N12_ 81 7 = 0 ∧ ze Mz 81 7 = 0 ∧ (zkd b_ n_ (ze Mz 81 4).toNat = 2 ∧ a0_ ≤ znu b_ n_ (ze Mz 81 4).toNat ∧ znu b_ n_ (ze Mz 81 4).toNat ≤ a1_) ∧ (ze Mz 81 6) = znu b_ n_ (ze Mz 81 4).toNat ∧ (ze N12_ 81 4).toNat = znx b_ n_ (ze Mz 81 4).toNat)) from Or.inl (⟨(show 1 ≤ ze N12_ 81 7 by first | (exact hp0_N12_) | (intro z_; exfalso; omega) | (intro z_; rintro ⟨z1_, z2_, z3_⟩; have w_ := (p1_.v2 z1_).1; omega)), (show (ze Mz 81 7 = 0 → ¬ (zkd b_ n_ (ze Mz 81 4).toNat = 2 ∧ a0_ ≤ znu b_ n_ (ze Mz 81 4).toNat ∧ znu b_ n_ (ze Mz 81 4).toNat ≤ a1_)) by first | omega | (intro z_; exfalso; omega) | (intro z_; rintro ⟨z1_, z2_, z3_⟩; have w_ := (p1_.v2 z1_).1; (exact zo_288 w_ z2_ z3_ ha38_0_hp0_N5_)))⟩))⟩ (zdal_p dlC_M_number_79 (i := 9) rfl)
                  · skip
                    exact absurd hc_53 (by decide)
        · skip
          exfalso; (exact zo_280 ha1_0_hp0_N1_ p2_ ha26_0_hp0_N3_)
      · skip
        refine zw_aload_n (pc := 15) (n := 0) (x := 81) rfl (zdal_p dlC_M_number_78 (i := 7) rfl) ?_
        refine zw_iconst (pc := 16) (v := Int32.ofInt 2) (by decide) (zdal_p dlC_M_number_78 (i := 8) rfl) ?_
        refine zr_callV (hf.w hW) hf.x (pc := 17) [.int (Int32.ofInt 2)] [] l_M_190 (c_M_wrongF l Mz (hf.w hW) 2 (by decide) (by decide) (show 1 ≤ 2 by first | assumption | (decide))) rfl rfl rfl (by decide) (Nat.le_of_ble_eq_true rfl) (zdal_p dlC_M_number_78 (i := 9) rfl) ?_
        rintro _ N18_ ⟨rfl, hsN18_, hp0_N18_⟩
        replace hp0_N18_ : 1 ≤ ze N18_ 81 7 := hp0_N18_
        have hf_N18_ : zFr [3, 4, 5, 6, 7, 8, 11] [] Mz N18_ := hf.tr hsN18_ (by decide) (by decide)
        have e3_N18_ : ze N18_ 81 3 = ze Mz 81 3 := hsN18_.e (by decide)
        have e4_N18_ : ze N18_ 81 4 = ze Mz 81 4 := hsN18_.e (by decide)
        have e5_N18_ : ze N18_ 81 5 = ze Mz 81 5 := hsN18_.e (by decide)
        have e6_N18_ : ze N18_ 81 6 = ze Mz 81 6 := hsN18_.e (by decide)
        have r7_N18_ := ze_r N18_ 81 7
        have c20_ : zRb b_ n_ N18_ := zRb.fr hsN18_ p0_ (by decide) (by decide)
        have c21_ : zRt b_ n_ N18_ := zRt.fr hsN18_ p1_ (by decide) (by decide)
        show zW l m_M_number (zn Mz + 0, zw Mz + 0) N18_ 20 [some (.ref 81), some (.int (Int32.ofInt a0_)), some (.int (Int32.ofInt a1_)), none] [] _
        refine zw_aload_n (pc := 20) (n := 0) (x := 81) rfl (zdal_p dlC_M_number_78 (i := 10) rfl) ?_
        refine zr_getI (hf_N18_.w hW) (pc := 21) f_M_152 rfl (zdal_p dlC_M_number_78 (i := 11) rfl) ?_
        refine zw_istore_n (pc := 24) (i := 3) (L2 := [some (.ref 81), some (.int (Int32.ofInt a0_)), some (.int (Int32.ofInt a1_)), some (.int (Int32.ofInt (ze N18_ 81 6)))]) rfl (by decide) rfl (zdal_p dlC_M_number_78 (i := 12) rfl) ?_
        refine zw_aload_n (pc := 25) (n := 0) (x := 81) rfl (zdal_p dlC_M_number_78 (i := 13) rfl) ?_
        refine zr_callV (hf_N18_.w hW) hf_N18_.x (pc := 26) [] [] l_M_183 (c_M_isGood l N18_ (hf_N18_.w hW) ) rfl rfl rfl (by decide) (Nat.le_of_ble_eq_true rfl) (zdal_p dlC_M_number_78 (i := 14) rfl) ?_
        rintro _ N22_ ⟨v23_, rfl, ⟨hv23_a, hv23_b⟩, hsN22_, hp0_N22_⟩
        obtain rfl := hsN22_.eq.symm
        replace hp0_N22_ : ((v23_ = 1 ∧ ze N18_ 81 7 = 0) ∨ (v23_ = 0 ∧ ze N18_ 81 7 ≠ 0)) := hp0_N22_
        rcases hp0_N22_ with ⟨rfl, ha26_0_hp0_N22_⟩ | ⟨rfl, ha26_0_hp0_N22_⟩
        · skip
          exfalso; (exact zo_281 ha26_0_hp0_N22_ hp0_N18_)
        · skip
          show zW l m_M_number (zn Mz + 0, zw Mz + 0) N18_ 29 [some (.ref 81), some (.int (Int32.ofInt a0_)), some (.int (Int32.ofInt a1_)), some (.int (Int32.ofInt (ze N18_ 81 6)))] [.int (Int32.ofInt 0)] _
          refine zr_if_eq (pc := 29) (tgt := 49) ⟨(by decide), (by decide)⟩ (by decide) (zdal_p dlC_M_number_78 (i := 15) rfl) (fun hc_29 => ?_) (fun hc_29 => ?_)
          · skip
            refine zw_aload_n (pc := 49) (n := 0) (x := 81) rfl (zdal_p dlC_M_number_79 (i := 3) rfl) ?_
            refine zr_callV (hf_N18_.w hW) hf_N18_.x (pc := 50) [] [] l_M_183 (c_M_isGood l N18_ (hf_N18_.w hW) ) rfl rfl rfl (by decide) (Nat.le_of_ble_eq_true rfl) (zdal_p dlC_M_number_79 (i := 4) rfl) ?_
            rintro _ N24_ ⟨v25_, rfl, ⟨hv25_a, hv25_b⟩, hsN24_, hp0_N24_⟩
            obtain rfl := hsN24_.eq.symm
            replace hp0_N24_ : ((v25_ = 1 ∧ ze N18_ 81 7 = 0) ∨ (v25_ = 0 ∧ ze N18_ 81 7 ≠ 0)) := hp0_N24_
            rcases hp0_N24_ with ⟨rfl, ha50_0_hp0_N24_⟩ | ⟨rfl, ha50_0_hp0_N24_⟩
            · skip
              exfalso; (exact zo_281 ha50_0_hp0_N24_ hp0_N18_)
            · skip
              show zW l m_M_number (zn Mz + 0, zw Mz + 0) N18_ 53 [some (.ref 81), some (.int (Int32.ofInt a0_)), some (.int (Int32.ofInt a1_)), some (.int (Int32.ofInt (ze N18_ 81 6)))] [.int (Int32.ofInt 0)] _
              refine zr_if_eq (pc := 53) (tgt := 60) ⟨(by decide), (by decide)⟩ (by decide) (zdal_p dlC_M_number_79 (i := 5) rfl) (fun hc_53 => ?_) (fun hc_53 => ?_)
              · skip
                refine zw_iload_n (pc := 60) (n := 3) (x := Int32.ofInt (ze N18_ 81 6)) rfl (zdal_p dlC_M_number_79 (i := 8) rfl) ?_
                exact zr_iret (pc := 61) (ty := .int) rfl rfl ⟨by (exact zo_289 e6_N18_ r_6.1), by (exact zo_290 e6_N18_ r_6.2)⟩ hf_N18_ ⟨c21_, (show ((1 ≤ ze N18_ 81 7 ∧ (ze Mz 81 7 = 0 → ¬ (zkd b_ n_ (ze Mz 81 4).toNat = 2 ∧ a0_ ≤ znu b_ n_ (ze Mz 81 4).toNat ∧ znu b_ n_ (ze Mz 81 4).toNat ≤ a1_))) ∨ (ze N18_ 81 7 = 0 ∧ ze Mz 81 7 = 0 ∧ (zkd b_ n_ (ze Mz 81 4).toNat = 2 ∧ a0_ ≤ znu b_ n_ (ze Mz 81 4).toNat ∧ znu b_ n_ (ze Mz 81 4).toNat ≤ a1_) ∧ (ze N18_ 81 6) = znu b_ n_ (ze Mz 81 4).toNat ∧ (ze N18_ 81 4).toNat = znx b_ n_ (ze Mz 81 4).toNat)) from Or.inl (⟨(show 1 ≤ ze N18_ 81 7 by first | (exact hp0_N18_) | (intro z_; exfalso; omega) | (intro z_; rintro ⟨z1_, z2_, z3_⟩; have w_ := (p1_.v2 z1_).1; omega)), (show (ze Mz 81 7 = 0 → ¬ (zkd b_ n_ (ze Mz 81 4).toNat = 2 ∧ a0_ ≤ znu b_ n_ (ze Mz 81 4).toNat ∧ znu b_ n_ (ze Mz 81 4).toNat ≤ a1_)) by first | omega | (intro z_; exfalso; omega) | (intro z_; rintro ⟨z1_, z2_, z3_⟩; have w_ := (p1_.v2 z1_).1; omega))⟩))⟩ (zdal_p dlC_M_number_79 (i := 9) rfl)
              · skip
                exact absurd hc_53 (by decide)
          · skip
            exact absurd hc_29 (by decide)
  · skip
    show zW l m_M_number (zn Mz + 0, zw Mz + 0) Mz 4 [some (.ref 81), some (.int (Int32.ofInt a0_)), some (.int (Int32.ofInt a1_)), none] [.int (Int32.ofInt 0)] _
    refine zr_if_eq (pc := 4) (tgt := 20) ⟨(by decide), (by decide)⟩ (by decide) (zdal_p dlC_M_number_78 (i := 2) rfl) (fun hc_4 => ?_) (fun hc_4 => ?_)
    · skip
      refine zw_aload_n (pc := 20) (n := 0) (x := 81) rfl (zdal_p dlC_M_number_78 (i := 10) rfl) ?_
      refine zr_getI (hf.w hW) (pc := 21) f_M_152 rfl (zdal_p dlC_M_number_78 (i := 11) rfl) ?_
      refine zw_istore_n (pc := 24) (i := 3) (L2 := [some (.ref 81), some (.int (Int32.ofInt a0_)), some (.int (Int32.ofInt a1_)), some (.int (Int32.ofInt (ze Mz 81 6)))]) rfl (by decide) rfl (zdal_p dlC_M_number_78 (i := 12) rfl) ?_
      refine zw_aload_n (pc := 25) (n := 0) (x := 81) rfl (zdal_p dlC_M_number_78 (i := 13) rfl) ?_
      refine zr_callV (hf.w hW) hf.x (pc := 26) [] [] l_M_183 (c_M_isGood l Mz (hf.w hW) ) rfl rfl rfl (by decide) (Nat.le_of_ble_eq_true rfl) (zdal_p dlC_M_number_78 (i := 14) rfl) ?_
      rintro _ N26_ ⟨v27_, rfl, ⟨hv27_a, hv27_b⟩, hsN26_, hp0_N26_⟩
      obtain rfl := hsN26_.eq.symm
      replace hp0_N26_ : ((v27_ = 1 ∧ ze Mz 81 7 = 0) ∨ (v27_ = 0 ∧ ze Mz 81 7 ≠ 0)) := hp0_N26_
      rcases hp0_N26_ with ⟨rfl, ha26_0_hp0_N26_⟩ | ⟨rfl, ha26_0_hp0_N26_⟩
      · skip
        exfalso; (exact zo_280 ha26_0_hp0_N26_ p2_ ha1_0_hp0_N1_)
      · skip
        show zW l m_M_number (zn Mz + 0, zw Mz + 0) Mz 29 [some (.ref 81), some (.int (Int32.ofInt a0_)), some (.int (Int32.ofInt a1_)), some (.int (Int32.ofInt (ze Mz 81 6)))] [.int (Int32.ofInt 0)] _
        refine zr_if_eq (pc := 29) (tgt := 49) ⟨(by decide), (by decide)⟩ (by decide) (zdal_p dlC_M_number_78 (i := 15) rfl) (fun hc_29 => ?_) (fun hc_29 => ?_)
        · skip
          refine zw_aload_n (pc := 49) (n := 0) (x := 81) rfl (zdal_p dlC_M_number_79 (i := 3) rfl) ?_
          refine zr_callV (hf.w hW) hf.x (pc := 50) [] [] l_M_183 (c_M_isGood l Mz (hf.w hW) ) rfl rfl rfl (by decide) (Nat.le_of_ble_eq_true rfl) (zdal_p dlC_M_number_79 (i := 4) rfl) ?_
          rintro _ N28_ ⟨v29_, rfl, ⟨hv29_a, hv29_b⟩, hsN28_, hp0_N28_⟩
          obtain rfl := hsN28_.eq.symm
          replace hp0_N28_ : ((v29_ = 1 ∧ ze Mz 81 7 = 0) ∨ (v29_ = 0 ∧ ze Mz 81 7 ≠ 0)) := hp0_N28_
          rcases hp0_N28_ with ⟨rfl, ha50_0_hp0_N28_⟩ | ⟨rfl, ha50_0_hp0_N28_⟩
          · skip
            exfalso; (exact zo_280 ha50_0_hp0_N28_ p2_ ha1_0_hp0_N1_)
          · skip
            show zW l m_M_number (zn Mz + 0, zw Mz + 0) Mz 53 [some (.ref 81), some (.int (Int32.ofInt a0_)), some (.int (Int32.ofInt a1_)), some (.int (Int32.ofInt (ze Mz 81 6)))] [.int (Int32.ofInt 0)] _
            refine zr_if_eq (pc := 53) (tgt := 60) ⟨(by decide), (by decide)⟩ (by decide) (zdal_p dlC_M_number_79 (i := 5) rfl) (fun hc_53 => ?_) (fun hc_53 => ?_)
            · skip
              refine zw_iload_n (pc := 60) (n := 3) (x := Int32.ofInt (ze Mz 81 6)) rfl (zdal_p dlC_M_number_79 (i := 8) rfl) ?_
              exact zr_iret (pc := 61) (ty := .int) rfl rfl ⟨by (exact zo_284 r_6.1), by (exact zo_285 r_6.2)⟩ hf ⟨p1_, (show ((1 ≤ ze Mz 81 7 ∧ (ze Mz 81 7 = 0 → ¬ (zkd b_ n_ (ze Mz 81 4).toNat = 2 ∧ a0_ ≤ znu b_ n_ (ze Mz 81 4).toNat ∧ znu b_ n_ (ze Mz 81 4).toNat ≤ a1_))) ∨ (ze Mz 81 7 = 0 ∧ ze Mz 81 7 = 0 ∧ (zkd b_ n_ (ze Mz 81 4).toNat = 2 ∧ a0_ ≤ znu b_ n_ (ze Mz 81 4).toNat ∧ znu b_ n_ (ze Mz 81 4).toNat ≤ a1_) ∧ (ze Mz 81 6) = znu b_ n_ (ze Mz 81 4).toNat ∧ (ze Mz 81 4).toNat = znx b_ n_ (ze Mz 81 4).toNat)) from Or.inl (⟨(show 1 ≤ ze Mz 81 7 by first | (exact zo_136 p2_ ha1_0_hp0_N1_) | (intro z_; exfalso; omega) | (intro z_; rintro ⟨z1_, z2_, z3_⟩; have w_ := (p1_.v2 z1_).1; omega)), (show (ze Mz 81 7 = 0 → ¬ (zkd b_ n_ (ze Mz 81 4).toNat = 2 ∧ a0_ ≤ znu b_ n_ (ze Mz 81 4).toNat ∧ znu b_ n_ (ze Mz 81 4).toNat ≤ a1_)) by first | omega | (intro z_; exfalso; omega) | (intro z_; rintro ⟨z1_, z2_, z3_⟩; have w_ := (p1_.v2 z1_).1; omega))⟩))⟩ (zdal_p dlC_M_number_79 (i := 9) rfl)
            · skip
              exact absurd hc_53 (by decide)
        · skip
          exact absurd hc_29 (by decide)
    · skip
      exact absurd hc_4 (by decide)
