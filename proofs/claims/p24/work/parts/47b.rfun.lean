set_option maxHeartbeats 4000000 in
theorem c_M_isSignF (l : Launch) (Mz : zMem) (hW : zMt Mz) (a0_ : Int) (ha0_a : -2147483648 ≤ a0_) (ha0_b : a0_ < 2147483648) : zC l m_M_isSign 0 0 [.int (Int32.ofInt a0_)] Mz (zpI [] [] Mz (fun v N => (((v = 1 ∧ zpS a0_ = true) ∨ (v = 0 ∧ zpS a0_ = false))))) := by
  refine zC_of (L0 := [some (.int (Int32.ofInt a0_))]) md_M_isSign (Nat.le_of_ble_eq_true rfl) rfl ?_ zQ0
  have hf : zFr [] [] Mz Mz := zFr.rf
  refine zw_iload_n (pc := 0) (n := 0) (x := Int32.ofInt a0_) rfl d_M_isSign_0 ?_
  refine zw_bipush (pc := 1) (v := Int32.ofInt 61) (by decide) d_M_isSign_1 ?_
  refine zr_icmp_eq (pc := 3) (tgt := 48) ⟨ha0_a, ha0_b⟩ ⟨(by decide), (by decide)⟩ (by decide) d_M_isSign_3 (fun hc_3 => ?_) (fun hc_3 => ?_)
  · skip
    refine zw_iconst (pc := 48) (v := Int32.ofInt 1) (by decide) d_M_isSign_48 ?_
    refine zw_goto (pc := 49) (tgt := 53) (by decide) d_M_isSign_49 ?_
    exact zr_iret (pc := 53) (ty := .boolean) rfl (z_narB (by omega)) ⟨by omega, by omega⟩ hf (show ((1 = 1 ∧ zpS a0_ = true) ∨ (1 = 0 ∧ zpS a0_ = false)) from Or.inl (⟨(show 1 = 1 by first | rfl | exact zpS_t.mpr (by omega)), (show zpS a0_ = true by first | rfl | exact zpS_t.mpr (by omega))⟩)) d_M_isSign_53
  · skip
    refine zw_iload_n (pc := 6) (n := 0) (x := Int32.ofInt a0_) rfl d_M_isSign_6 ?_
    refine zw_bipush (pc := 7) (v := Int32.ofInt 43) (by decide) d_M_isSign_7 ?_
    refine zr_icmp_eq (pc := 9) (tgt := 48) ⟨ha0_a, ha0_b⟩ ⟨(by decide), (by decide)⟩ (by decide) d_M_isSign_9 (fun hc_9 => ?_) (fun hc_9 => ?_)
    · skip
      refine zw_iconst (pc := 48) (v := Int32.ofInt 1) (by decide) d_M_isSign_48 ?_
      refine zw_goto (pc := 49) (tgt := 53) (by decide) d_M_isSign_49 ?_
      exact zr_iret (pc := 53) (ty := .boolean) rfl (z_narB (by omega)) ⟨by omega, by omega⟩ hf (show ((1 = 1 ∧ zpS a0_ = true) ∨ (1 = 0 ∧ zpS a0_ = false)) from Or.inl (⟨(show 1 = 1 by first | rfl | exact zpS_t.mpr (by omega)), (show zpS a0_ = true by first | rfl | exact zpS_t.mpr (by omega))⟩)) d_M_isSign_53
    · skip
      refine zw_iload_n (pc := 12) (n := 0) (x := Int32.ofInt a0_) rfl d_M_isSign_12 ?_
      refine zw_bipush (pc := 13) (v := Int32.ofInt 42) (by decide) d_M_isSign_13 ?_
      refine zr_icmp_eq (pc := 15) (tgt := 48) ⟨ha0_a, ha0_b⟩ ⟨(by decide), (by decide)⟩ (by decide) d_M_isSign_15 (fun hc_15 => ?_) (fun hc_15 => ?_)
      · skip
        refine zw_iconst (pc := 48) (v := Int32.ofInt 1) (by decide) d_M_isSign_48 ?_
        refine zw_goto (pc := 49) (tgt := 53) (by decide) d_M_isSign_49 ?_
        exact zr_iret (pc := 53) (ty := .boolean) rfl (z_narB (by omega)) ⟨by omega, by omega⟩ hf (show ((1 = 1 ∧ zpS a0_ = true) ∨ (1 = 0 ∧ zpS a0_ = false)) from Or.inl (⟨(show 1 = 1 by first | rfl | exact zpS_t.mpr (by omega)), (show zpS a0_ = true by first | rfl | exact zpS_t.mpr (by omega))⟩)) d_M_isSign_53
      · skip
        refine zw_iload_n (pc := 18) (n := 0) (x := Int32.ofInt a0_) rfl d_M_isSign_18 ?_
        refine zw_bipush (pc := 19) (v := Int32.ofInt 45) (by decide) d_M_isSign_19 ?_
        refine zr_icmp_eq (pc := 21) (tgt := 48) ⟨ha0_a, ha0_b⟩ ⟨(by decide), (by decide)⟩ (by decide) d_M_isSign_21 (fun hc_21 => ?_) (fun hc_21 => ?_)
        · skip
          refine zw_iconst (pc := 48) (v := Int32.ofInt 1) (by decide) d_M_isSign_48 ?_
          refine zw_goto (pc := 49) (tgt := 53) (by decide) d_M_isSign_49 ?_
          exact zr_iret (pc := 53) (ty := .boolean) rfl (z_narB (by omega)) ⟨by omega, by omega⟩ hf (show ((1 = 1 ∧ zpS a0_ = true) ∨ (1 = 0 ∧ zpS a0_ = false)) from Or.inl (⟨(show 1 = 1 by first | rfl | exact zpS_t.mpr (by omega)), (show zpS a0_ = true by first | rfl | exact zpS_t.mpr (by omega))⟩)) d_M_isSign_53
        · skip
          refine zw_iload_n (pc := 24) (n := 0) (x := Int32.ofInt a0_) rfl d_M_isSign_24 ?_
          refine zw_bipush (pc := 25) (v := Int32.ofInt 94) (by decide) d_M_isSign_25 ?_
          refine zr_icmp_eq (pc := 27) (tgt := 48) ⟨ha0_a, ha0_b⟩ ⟨(by decide), (by decide)⟩ (by decide) d_M_isSign_27 (fun hc_27 => ?_) (fun hc_27 => ?_)
          · skip
            refine zw_iconst (pc := 48) (v := Int32.ofInt 1) (by decide) d_M_isSign_48 ?_
            refine zw_goto (pc := 49) (tgt := 53) (by decide) d_M_isSign_49 ?_
            exact zr_iret (pc := 53) (ty := .boolean) rfl (z_narB (by omega)) ⟨by omega, by omega⟩ hf (show ((1 = 1 ∧ zpS a0_ = true) ∨ (1 = 0 ∧ zpS a0_ = false)) from Or.inl (⟨(show 1 = 1 by first | rfl | exact zpS_t.mpr (by omega)), (show zpS a0_ = true by first | rfl | exact zpS_t.mpr (by omega))⟩)) d_M_isSign_53
          · skip
            refine zw_iload_n (pc := 30) (n := 0) (x := Int32.ofInt a0_) rfl d_M_isSign_30 ?_
            refine zw_bipush (pc := 31) (v := Int32.ofInt 40) (by decide) d_M_isSign_31 ?_
            refine zr_icmp_eq (pc := 33) (tgt := 48) ⟨ha0_a, ha0_b⟩ ⟨(by decide), (by decide)⟩ (by decide) d_M_isSign_33 (fun hc_33 => ?_) (fun hc_33 => ?_)
            · skip
              refine zw_iconst (pc := 48) (v := Int32.ofInt 1) (by decide) d_M_isSign_48 ?_
              refine zw_goto (pc := 49) (tgt := 53) (by decide) d_M_isSign_49 ?_
              exact zr_iret (pc := 53) (ty := .boolean) rfl (z_narB (by omega)) ⟨by omega, by omega⟩ hf (show ((1 = 1 ∧ zpS a0_ = true) ∨ (1 = 0 ∧ zpS a0_ = false)) from Or.inl (⟨(show 1 = 1 by first | rfl | exact zpS_t.mpr (by omega)), (show zpS a0_ = true by first | rfl | exact zpS_t.mpr (by omega))⟩)) d_M_isSign_53
            · skip
              refine zw_iload_n (pc := 36) (n := 0) (x := Int32.ofInt a0_) rfl d_M_isSign_36 ?_
              refine zw_bipush (pc := 37) (v := Int32.ofInt 41) (by decide) d_M_isSign_37 ?_
              refine zr_icmp_eq (pc := 39) (tgt := 48) ⟨ha0_a, ha0_b⟩ ⟨(by decide), (by decide)⟩ (by decide) d_M_isSign_39 (fun hc_39 => ?_) (fun hc_39 => ?_)
              · skip
                refine zw_iconst (pc := 48) (v := Int32.ofInt 1) (by decide) d_M_isSign_48 ?_
                refine zw_goto (pc := 49) (tgt := 53) (by decide) d_M_isSign_49 ?_
                exact zr_iret (pc := 53) (ty := .boolean) rfl (z_narB (by omega)) ⟨by omega, by omega⟩ hf (show ((1 = 1 ∧ zpS a0_ = true) ∨ (1 = 0 ∧ zpS a0_ = false)) from Or.inl (⟨(show 1 = 1 by first | rfl | exact zpS_t.mpr (by omega)), (show zpS a0_ = true by first | rfl | exact zpS_t.mpr (by omega))⟩)) d_M_isSign_53
              · skip
                refine zw_iload_n (pc := 42) (n := 0) (x := Int32.ofInt a0_) rfl d_M_isSign_42 ?_
                refine zw_bipush (pc := 43) (v := Int32.ofInt 59) (by decide) d_M_isSign_43 ?_
                refine zr_icmp_ne (pc := 45) (tgt := 52) ⟨ha0_a, ha0_b⟩ ⟨(by decide), (by decide)⟩ (by decide) d_M_isSign_45 (fun hc_45 => ?_) (fun hc_45 => ?_)
                · skip
                  refine zw_iconst (pc := 52) (v := Int32.ofInt 0) (by decide) d_M_isSign_52 ?_
                  exact zr_iret (pc := 53) (ty := .boolean) rfl (z_narB (by omega)) ⟨by omega, by omega⟩ hf (show ((0 = 1 ∧ zpS a0_ = true) ∨ (0 = 0 ∧ zpS a0_ = false)) from Or.inr (⟨(show 0 = 0 by first | rfl | exact Bool.eq_false_iff.mpr (fun h => by have := zpS_t.mp h; omega)), (show zpS a0_ = false by first | rfl | exact Bool.eq_false_iff.mpr (fun h => by have := zpS_t.mp h; omega))⟩)) d_M_isSign_53
                · skip
                  refine zw_iconst (pc := 48) (v := Int32.ofInt 1) (by decide) d_M_isSign_48 ?_
                  refine zw_goto (pc := 49) (tgt := 53) (by decide) d_M_isSign_49 ?_
                  exact zr_iret (pc := 53) (ty := .boolean) rfl (z_narB (by omega)) ⟨by omega, by omega⟩ hf (show ((1 = 1 ∧ zpS a0_ = true) ∨ (1 = 0 ∧ zpS a0_ = false)) from Or.inl (⟨(show 1 = 1 by first | rfl | exact zpS_t.mpr (by omega)), (show zpS a0_ = true by first | rfl | exact zpS_t.mpr (by omega))⟩)) d_M_isSign_53
set_option maxHeartbeats 4000000 in
theorem c_M_goOnF (l : Launch) (Mz : zMem) (hW : zMt Mz) (b_ : Nat → Int) (n_ : Nat) (p0_ : zRb b_ n_ Mz) (p1_ : 0 ≤ ze Mz 81 3) (p2_ : ze Mz 81 3 ≤ n_) : zC l m_M_goOn 0 0 [.ref 81] Mz (zpV [3, 4, 5, 6, 11] [] Mz (fun N => ze N 81 4 = (zru zpB b_ n_ (ze Mz 81 3).toNat : Nat) ∧ zRt b_ n_ N)) := by
  refine zC_of (L0 := [some (.ref 81), none, none]) md_M_goOn (Nat.le_of_ble_eq_true rfl) rfl ?_ zQ0
  have hf : zFr [3, 4, 5, 6, 11] [] Mz Mz := zFr.rf
  have r_2 := ze_r Mz 81 2
  have r_3 := ze_r Mz 81 3
  have r_4 := ze_r Mz 81 4
  have r_5 := ze_r Mz 81 5
  have r_6 := ze_r Mz 81 6
  obtain ⟨hn_, hn7_, hB_, hb_⟩ := id p0_
  have lp_0 : ∀ (n : Nat) (N1_ : zMem) (hs2_ : zFr [3] [] Mz N1_) (i3_ : 0 ≤ ze N1_ 81 3) (i4_ : ze N1_ 81 3 ≤ n_) (i5_ : zru zpB b_ n_ (ze N1_ 81 3).toNat = zru zpB b_ n_ (ze Mz 81 3).toNat), (n_ - ze N1_ 81 3).toNat < n → zW l m_M_goOn (zn Mz + 0, zw Mz + 0) N1_ 0 [some (.ref 81), none, none] [] (zpV [3, 4, 5, 6, 11] [] Mz (fun N => ze N 81 4 = (zru zpB b_ n_ (ze Mz 81 3).toNat : Nat) ∧ zRt b_ n_ N)) := by
    intro n
    induction n with
    | zero =>
      intro N1_ hs2_ i3_ i4_ i5_ h0
      exact absurd h0 (Nat.not_lt_zero _)
    | succ n ih_0 =>
      intro N1_ hs2_ i3_ i4_ i5_ hlt_0
      have hf_N1_ : zFr [3, 4, 5, 6, 11] [] Mz N1_ := hf.tr hs2_ (by decide) (by decide)
      have e2_N1_ : ze N1_ 81 2 = ze Mz 81 2 := hs2_.e (by decide)
      have r3_N1_ := ze_r N1_ 81 3
      have e4_N1_ : ze N1_ 81 4 = ze Mz 81 4 := hs2_.e (by decide)
      have e5_N1_ : ze N1_ 81 5 = ze Mz 81 5 := hs2_.e (by decide)
      have e6_N1_ : ze N1_ 81 6 = ze Mz 81 6 := hs2_.e (by decide)
      have c6_ : zRb b_ n_ N1_ := zRb.fr hs2_ p0_ (by decide) (by decide)
      have hh_ := c6_.h (k := 0) (by omega)
      refine zw_aload_n (pc := 0) (n := 0) (x := 81) rfl d_M_goOn_0 ?_
      refine zw_iconst (pc := 1) (v := Int32.ofInt 0) (by decide) d_M_goOn_1 ?_
      refine zr_callV (hf_N1_.w hW) hf_N1_.x (pc := 2) [.int (Int32.ofInt 0)] [] l_M_141 (c_M_here l N1_ (hf_N1_.w hW) 0 (by decide) (by decide) (show 0 ≤ ze N1_ 81 3 + 0 by first | assumption | omega) (show ze N1_ 81 3 ≤ 700 by first | assumption | omega) (show 0 ≤ 1000 by first | assumption | omega) (show ze N1_ 81 2 ≤ 700 by first | assumption | omega)) rfl rfl rfl (by decide) (Nat.le_of_ble_eq_true rfl) d_M_goOn_2 ?_
      rintro _ N7_ ⟨v8_, rfl, ⟨hv8_a, hv8_b⟩, hsN7_, ⟨hp0_N7_, hp1_N7_⟩⟩
      obtain rfl := hsN7_.eq.symm
      show zW l m_M_goOn (zn Mz + 0, zw Mz + 0) N1_ 5 [some (.ref 81), none, none] [.int (Int32.ofInt v8_)] (zpV [3, 4, 5, 6, 11] [] Mz (fun N => ze N 81 4 = (zru zpB b_ n_ (ze Mz 81 3).toNat : Nat) ∧ zRt b_ n_ N))
      refine zw_bipush (pc := 5) (v := Int32.ofInt 32) (by decide) d_M_goOn_5 ?_
      refine zr_icmp_eq (pc := 7) (tgt := 20) ⟨hv8_a, hv8_b⟩ ⟨(by decide), (by decide)⟩ (by decide) d_M_goOn_7 (fun hc_7 => ?_) (fun hc_7 => ?_)
      · skip
        have hbl_ : zhr N1_ 0 = 32 ∨ zhr N1_ 0 = 10 := by omega
        refine zw_aload_n (pc := 20) (n := 0) (x := 81) rfl d_M_goOn_20 ?_
        refine zw_dup (pc := 21) rfl d_M_goOn_21 ?_
        refine zr_getI (hf_N1_.w hW) (pc := 22) f_M_135 rfl d_M_goOn_22 ?_
        refine zw_iconst (pc := 25) (v := Int32.ofInt 1) (by decide) d_M_goOn_25 ?_
        refine zr_iadd (pc := 26) d_M_goOn_26 ?_
        refine zr_putI (hf_N1_.w hW) (pc := 27) f_M_135 rfl rfl ⟨by omega, by omega⟩ rfl rfl d_M_goOn_27 (fun N9_ hsN9_ hvN9_ => ?_)
        have hf_N9_ : zFr [3, 4, 5, 6, 11] [] Mz N9_ := hf_N1_.tr hsN9_ (by decide) (by decide)
        have hb0_N9_ : zFr [3] [] Mz N9_ := hs2_.tr hsN9_ (by decide) (by decide)
        have e2_N9_ : ze N9_ 81 2 = ze N1_ 81 2 := hsN9_.e (by decide)
        have r3_N9_ := ze_r N9_ 81 3
        have e4_N9_ : ze N9_ 81 4 = ze N1_ 81 4 := hsN9_.e (by decide)
        have e5_N9_ : ze N9_ 81 5 = ze N1_ 81 5 := hsN9_.e (by decide)
        have e6_N9_ : ze N9_ 81 6 = ze N1_ 81 6 := hsN9_.e (by decide)
        have c10_ : zRb b_ n_ N9_ := zRb.fr hsN9_ c6_ (by decide) (by decide)
        refine zw_goto (pc := 30) (tgt := 0) (by decide) d_M_goOn_30 ?_
        exact ih_0 N9_ hb0_N9_ (show 0 ≤ ze N9_ 81 3 by first | assumption | omega) (show ze N9_ 81 3 ≤ n_ by first | assumption | omega) (show zru zpB b_ n_ (ze N9_ 81 3).toNat = zru zpB b_ n_ (ze Mz 81 3).toNat by rw [show ze N9_ 81 3 = ze N1_ 81 3 + 1 by omega]; rcases hh_ with ⟨q1_, q2_, q3_, q4_⟩ | ⟨q1_, q2_⟩; exact zru_step (P := zpB) (v := zhr N1_ 0) (by omega) (by omega) (by rw [q2_, Int.add_zero]) (zpB_t.mpr hbl_) (by assumption); exfalso; omega) (by omega)
      · skip
        refine zw_aload_n (pc := 10) (n := 0) (x := 81) rfl d_M_goOn_10 ?_
        refine zw_iconst (pc := 11) (v := Int32.ofInt 0) (by decide) d_M_goOn_11 ?_
        refine zr_callV (hf_N1_.w hW) hf_N1_.x (pc := 12) [.int (Int32.ofInt 0)] [] l_M_141 (c_M_here l N1_ (hf_N1_.w hW) 0 (by decide) (by decide) (show 0 ≤ ze N1_ 81 3 + 0 by first | assumption | omega) (show ze N1_ 81 3 ≤ 700 by first | assumption | omega) (show 0 ≤ 1000 by first | assumption | omega) (show ze N1_ 81 2 ≤ 700 by first | assumption | omega)) rfl rfl rfl (by decide) (Nat.le_of_ble_eq_true rfl) d_M_goOn_12 ?_
        rintro _ N11_ ⟨v12_, rfl, ⟨hv12_a, hv12_b⟩, hsN11_, ⟨hp0_N11_, hp1_N11_⟩⟩
        obtain rfl := hsN11_.eq.symm
        show zW l m_M_goOn (zn Mz + 0, zw Mz + 0) N1_ 15 [some (.ref 81), none, none] [.int (Int32.ofInt v12_)] (zpV [3, 4, 5, 6, 11] [] Mz (fun N => ze N 81 4 = (zru zpB b_ n_ (ze Mz 81 3).toNat : Nat) ∧ zRt b_ n_ N))
        refine zw_bipush (pc := 15) (v := Int32.ofInt 10) (by decide) d_M_goOn_15 ?_
        refine zr_icmp_ne (pc := 17) (tgt := 33) ⟨hv12_a, hv12_b⟩ ⟨(by decide), (by decide)⟩ (by decide) d_M_goOn_17 (fun hc_17 => ?_) (fun hc_17 => ?_)
        · skip
          have hst_ : ze N1_ 81 3 = (zru zpB b_ n_ (ze Mz 81 3).toNat : Nat) := by rcases hh_ with ⟨q1_, q2_, q3_, q4_⟩ | ⟨q1_, q2_⟩; exact zru_stop (P := zpB) (b := b_) (n := n_) (v := zhr N1_ 0) (by omega) (Or.inr ⟨by rw [q2_, Int.add_zero], Bool.eq_false_iff.mpr (fun h_ => by have := zpB_t.mp h_; omega)⟩) (by assumption); exact zru_stop (P := zpB) (b := b_) (n := n_) (v := 0) (by omega) (Or.inl (by omega)) (by assumption)
          obtain ⟨s_, hs_⟩ : ∃ s : Nat, (s : Int) = ze N1_ 81 3 := ⟨(ze N1_ 81 3).toNat, by omega⟩
          refine zw_aload_n (pc := 33) (n := 0) (x := 81) rfl d_M_goOn_33 ?_
          refine zw_aload_n (pc := 34) (n := 0) (x := 81) rfl d_M_goOn_34 ?_
          refine zr_getI (hf_N1_.w hW) (pc := 35) f_M_135 rfl d_M_goOn_35 ?_
          refine zr_putI (hf_N1_.w hW) (pc := 38) f_M_145 rfl rfl ⟨by omega, by omega⟩ rfl rfl d_M_goOn_38 (fun N13_ hsN13_ hvN13_ => ?_)
          have hf_N13_ : zFr [3, 4, 5, 6, 11] [] Mz N13_ := hf_N1_.tr hsN13_ (by decide) (by decide)
          have e2_N13_ : ze N13_ 81 2 = ze N1_ 81 2 := hsN13_.e (by decide)
          have e3_N13_ : ze N13_ 81 3 = ze N1_ 81 3 := hsN13_.e (by decide)
          have r4_N13_ := ze_r N13_ 81 4
          have e5_N13_ : ze N13_ 81 5 = ze N1_ 81 5 := hsN13_.e (by decide)
          have e6_N13_ : ze N13_ 81 6 = ze N1_ 81 6 := hsN13_.e (by decide)
          have c14_ : zRb b_ n_ N13_ := zRb.fr hsN13_ c6_ (by decide) (by decide)
          refine zw_aload_n (pc := 41) (n := 0) (x := 81) rfl d_M_goOn_41 ?_
          refine zw_lconst (pc := 42) (v := Int64.ofInt 0) (by decide) d_M_goOn_42 ?_
          refine zr_putJ (hf_N13_.w hW) (pc := 43) f_M_148 rfl rfl rfl rfl d_M_goOn_43 (fun N15_ hsN15_ hvN15_ => ?_)
          have hf_N15_ : zFr [3, 4, 5, 6, 11] [] Mz N15_ := hf_N13_.tr hsN15_ (by decide) (by decide)
          have e2_N15_ : ze N15_ 81 2 = ze N13_ 81 2 := hsN15_.e (by decide)
          have e3_N15_ : ze N15_ 81 3 = ze N13_ 81 3 := hsN15_.e (by decide)
          have e4_N15_ : ze N15_ 81 4 = ze N13_ 81 4 := hsN15_.e (by decide)
          have e5_N15_ : ze N15_ 81 5 = ze N13_ 81 5 := hsN15_.e (by decide)
          have e6_N15_ : ze N15_ 81 6 = ze N13_ 81 6 := hsN15_.e (by decide)
          have c16_ : zRb b_ n_ N15_ := zRb.fr hsN15_ c14_ (by decide) (by decide)
          have hv00_ : zg N15_ 81 11 = 0 := hvN15_ ⟨by omega, by omega⟩
          refine zw_aload_n (pc := 46) (n := 0) (x := 81) rfl d_M_goOn_46 ?_
          refine zw_iconst (pc := 47) (v := Int32.ofInt 0) (by decide) d_M_goOn_47 ?_
          refine zr_putI (hf_N15_.w hW) (pc := 48) f_M_152 rfl rfl ⟨by omega, by omega⟩ rfl rfl d_M_goOn_48 (fun N17_ hsN17_ hvN17_ => ?_)
          have hf_N17_ : zFr [3, 4, 5, 6, 11] [] Mz N17_ := hf_N15_.tr hsN17_ (by decide) (by decide)
          have e2_N17_ : ze N17_ 81 2 = ze N15_ 81 2 := hsN17_.e (by decide)
          have e3_N17_ : ze N17_ 81 3 = ze N15_ 81 3 := hsN17_.e (by decide)
          have e4_N17_ : ze N17_ 81 4 = ze N15_ 81 4 := hsN17_.e (by decide)
          have e5_N17_ : ze N17_ 81 5 = ze N15_ 81 5 := hsN17_.e (by decide)
          have r6_N17_ := ze_r N17_ 81 6
          have c18_ : zRb b_ n_ N17_ := zRb.fr hsN17_ c16_ (by decide) (by decide)
          have hv0_ : zg N17_ 81 11 = zw8 b_ s_ (0 : Int).toNat := (hsN17_.g (by decide)).trans hv00_
          refine zw_aload_n (pc := 51) (n := 0) (x := 81) rfl d_M_goOn_51 ?_
          refine zw_iconst (pc := 52) (v := Int32.ofInt 0) (by decide) d_M_goOn_52 ?_
          have hc_ := c18_.h (k := 0) (by omega)
          refine zr_callV (hf_N17_.w hW) hf_N17_.x (pc := 53) [.int (Int32.ofInt 0)] [] l_M_141 (c_M_here l N17_ (hf_N17_.w hW) 0 (by decide) (by decide) (show 0 ≤ ze N17_ 81 3 + 0 by first | assumption | omega) (show ze N17_ 81 3 ≤ 700 by first | assumption | omega) (show 0 ≤ 1000 by first | assumption | omega) (show ze N17_ 81 2 ≤ 700 by first | assumption | omega)) rfl rfl rfl (by decide) (Nat.le_of_ble_eq_true rfl) d_M_goOn_53 ?_
          rintro _ N19_ ⟨v20_, rfl, ⟨hv20_a, hv20_b⟩, hsN19_, ⟨hp0_N19_, hp1_N19_⟩⟩
          obtain rfl := hsN19_.eq.symm
          show zW l m_M_goOn (zn Mz + 0, zw Mz + 0) N17_ 56 [some (.ref 81), none, none] [.int (Int32.ofInt v20_)] (zpV [3, 4, 5, 6, 11] [] Mz (fun N => ze N 81 4 = (zru zpB b_ n_ (ze Mz 81 3).toNat : Nat) ∧ zRt b_ n_ N))
          refine zw_istore_n (pc := 56) (i := 1) (L2 := [some (.ref 81), some (.int (Int32.ofInt v20_)), none]) rfl (by decide) rfl d_M_goOn_56 ?_
          refine zw_iconst (pc := 57) (v := Int32.ofInt 0) (by decide) d_M_goOn_57 ?_
          refine zw_istore_n (pc := 58) (i := 2) (L2 := [some (.ref 81), some (.int (Int32.ofInt v20_)), some (.int (Int32.ofInt 0))]) rfl (by decide) rfl d_M_goOn_58 ?_
          refine zw_iload_n (pc := 59) (n := 1) (x := Int32.ofInt v20_) rfl d_M_goOn_59 ?_
          refine zr_if_ge (pc := 60) (tgt := 69) ⟨hv20_a, hv20_b⟩ (by decide) d_M_goOn_60 (fun hc_60 => ?_) (fun hc_60 => ?_)
          · skip
            have hcb_ : v20_ = b_ s_ := by rcases hc_ with ⟨q1_, q2_, q3_, q4_⟩ | ⟨q1_, q2_⟩; rw [show v20_ = zhr N17_ 0 by omega, q2_, show (ze N17_ 81 3 + 0).toNat = s_ by omega]; exfalso; omega
            have hsn_ : s_ < n_ := by rcases hc_ with ⟨q1_, q2_, q3_, q4_⟩ | ⟨q1_, q2_⟩; omega; exfalso; omega
            refine zw_iload_n (pc := 69) (n := 1) (x := Int32.ofInt v20_) rfl d_M_goOn_69 ?_
            refine zr_callS hf_N17_.x (pc := 70) [.int (Int32.ofInt v20_)] [] l_M_158 (c_M_isLetter l N17_ (hf_N17_.w hW) v20_ hv20_a hv20_b) rfl rfl (by decide) (Nat.le_of_ble_eq_true rfl) d_M_goOn_70 ?_
            rintro _ N21_ ⟨v22_, rfl, ⟨hv22_a, hv22_b⟩, hsN21_, hp0_N21_⟩
            obtain rfl := hsN21_.eq.symm
            replace hp0_N21_ : ((v22_ = 1 ∧ 97 ≤ v20_ ∧ v20_ ≤ 122) ∨ (v22_ = 0 ∧ (v20_ < 97 ∨ 122 < v20_))) := hp0_N21_
            rcases hp0_N21_ with ⟨rfl, ha70_0_hp0_N21_, ha70_1_hp0_N21_⟩ | ⟨rfl, ha70_0_hp0_N21_⟩
            · skip
              have hlt_ : zpL (b_ s_) = true := by rw [← hcb_]; exact zpL_t.mpr (by omega)
              show zW l m_M_goOn (zn Mz + 0, zw Mz + 0) N17_ 73 [some (.ref 81), some (.int (Int32.ofInt v20_)), some (.int (Int32.ofInt 0))] [.int (Int32.ofInt 1)] (zpV [3, 4, 5, 6, 11] [] Mz (fun N => ze N 81 4 = (zru zpB b_ n_ (ze Mz 81 3).toNat : Nat) ∧ zRt b_ n_ N))
              refine zr_if_eq (pc := 73) (tgt := 135) ⟨(by decide), (by decide)⟩ (by decide) d_M_goOn_73 (fun hc_73 => ?_) (fun hc_73 => ?_)
              · skip
                exact absurd hc_73 (by decide)
              · skip
                have lp_76 : ∀ (n : Nat) (u23_ : Int) (hu23_a : -2147483648 ≤ u23_) (hu23_b : u23_ < 2147483648) (N24_ : zMem) (hs25_ : zFr [11] [] N17_ N24_) (i26_ : 0 ≤ u23_) (i27_ : s_ + u23_ ≤ n_) (i28_ : zru zpL b_ n_ (s_ + u23_).toNat = zru zpL b_ n_ s_) (i29_ : ∀ j : Nat, s_ ≤ j → j < (s_ + u23_).toNat → zpL (b_ j) = true) (i30_ : (u23_ ≤ 6 → zg N24_ 81 11 = zw8 b_ s_ (u23_).toNat)), (n_ - s_ - u23_).toNat < n → zW l m_M_goOn (zn Mz + 0, zw Mz + 0) N24_ 76 [some (.ref 81), some (.int (Int32.ofInt v20_)), some (.int (Int32.ofInt u23_))] [] (zpV [3, 4, 5, 6, 11] [] Mz (fun N => ze N 81 4 = (zru zpB b_ n_ (ze Mz 81 3).toNat : Nat) ∧ zRt b_ n_ N)) := by
                  intro n
                  induction n with
                  | zero =>
                    intro u23_ hu23_a hu23_b N24_ hs25_ i26_ i27_ i28_ i29_ i30_ h0
                    exact absurd h0 (Nat.not_lt_zero _)
                  | succ n ih_76 =>
                    intro u23_ hu23_a hu23_b N24_ hs25_ i26_ i27_ i28_ i29_ i30_ hlt_76
                    have hf_N24_ : zFr [3, 4, 5, 6, 11] [] Mz N24_ := hf_N17_.tr hs25_ (by decide) (by decide)
                    have e2_N24_ : ze N24_ 81 2 = ze N17_ 81 2 := hs25_.e (by decide)
                    have e3_N24_ : ze N24_ 81 3 = ze N17_ 81 3 := hs25_.e (by decide)
                    have e4_N24_ : ze N24_ 81 4 = ze N17_ 81 4 := hs25_.e (by decide)
                    have e5_N24_ : ze N24_ 81 5 = ze N17_ 81 5 := hs25_.e (by decide)
                    have e6_N24_ : ze N24_ 81 6 = ze N17_ 81 6 := hs25_.e (by decide)
                    have c31_ : zRb b_ n_ N24_ := zRb.fr hs25_ c18_ (by decide) (by decide)
                    have hk_ := c31_.h (k := u23_) (by omega)
                    have hru_ := (show zru zpL b_ n_ (s_ + u23_).toNat = zru zpL b_ n_ s_ by assumption)
                    have hal_ := (show ∀ j : Nat, s_ ≤ j → j < (s_ + u23_).toNat → zpL (b_ j) = true by assumption)
                    have hwi_ := (show (u23_ ≤ 6 → zg N24_ 81 11 = zw8 b_ s_ (u23_).toNat) by assumption)
                    refine zw_aload_n (pc := 76) (n := 0) (x := 81) rfl d_M_goOn_76 ?_
                    refine zw_iload_n (pc := 77) (n := 2) (x := Int32.ofInt u23_) rfl d_M_goOn_77 ?_
                    refine zr_callV (hf_N24_.w hW) hf_N24_.x (pc := 78) [.int (Int32.ofInt u23_)] [] l_M_141 (c_M_here l N24_ (hf_N24_.w hW) u23_ hu23_a hu23_b (show 0 ≤ ze N24_ 81 3 + u23_ by first | assumption | omega) (show ze N24_ 81 3 ≤ 700 by first | assumption | omega) (show u23_ ≤ 1000 by first | assumption | omega) (show ze N24_ 81 2 ≤ 700 by first | assumption | omega)) rfl rfl rfl (by decide) (Nat.le_of_ble_eq_true rfl) d_M_goOn_78 ?_
                    rintro _ N32_ ⟨v33_, rfl, ⟨hv33_a, hv33_b⟩, hsN32_, ⟨hp0_N32_, hp1_N32_⟩⟩
                    obtain rfl := hsN32_.eq.symm
                    show zW l m_M_goOn (zn Mz + 0, zw Mz + 0) N24_ 81 [some (.ref 81), some (.int (Int32.ofInt v20_)), some (.int (Int32.ofInt u23_))] [.int (Int32.ofInt v33_)] (zpV [3, 4, 5, 6, 11] [] Mz (fun N => ze N 81 4 = (zru zpB b_ n_ (ze Mz 81 3).toNat : Nat) ∧ zRt b_ n_ N))
                    refine zr_callS hf_N24_.x (pc := 81) [.int (Int32.ofInt v33_)] [] l_M_158 (c_M_isLetter l N24_ (hf_N24_.w hW) v33_ hv33_a hv33_b) rfl rfl (by decide) (Nat.le_of_ble_eq_true rfl) d_M_goOn_81 ?_
                    rintro _ N34_ ⟨v35_, rfl, ⟨hv35_a, hv35_b⟩, hsN34_, hp0_N34_⟩
                    obtain rfl := hsN34_.eq.symm
                    replace hp0_N34_ : ((v35_ = 1 ∧ 97 ≤ v33_ ∧ v33_ ≤ 122) ∨ (v35_ = 0 ∧ (v33_ < 97 ∨ 122 < v33_))) := hp0_N34_
                    rcases hp0_N34_ with ⟨rfl, ha81_0_hp0_N34_, ha81_1_hp0_N34_⟩ | ⟨rfl, ha81_0_hp0_N34_⟩
                    · skip
                      have hkl_ : zpL (zhr N24_ u23_) = true := zpL_t.mpr (by omega)
                      have hkn_ : ze N24_ 81 3 + u23_ < n_ ∧ zhr N24_ u23_ = b_ (s_ + u23_).toNat := by rcases hk_ with ⟨q1_, q2_, q3_, q4_⟩ | ⟨q1_, q2_⟩; exact ⟨q1_, by rw [q2_, show ze N24_ 81 3 = s_ by omega]⟩; exfalso; omega
                      have hr1_ := zru_st2 (P := zpL) (by omega) (by omega) hkn_.2 hkl_ hru_
                      have hr2_ := zall_1 (P := zpL) (by omega) hal_ hkn_.2 hkl_
                      show zW l m_M_goOn (zn Mz + 0, zw Mz + 0) N24_ 84 [some (.ref 81), some (.int (Int32.ofInt v20_)), some (.int (Int32.ofInt u23_))] [.int (Int32.ofInt 1)] (zpV [3, 4, 5, 6, 11] [] Mz (fun N => ze N 81 4 = (zru zpB b_ n_ (ze Mz 81 3).toNat : Nat) ∧ zRt b_ n_ N))
                      refine zr_if_eq (pc := 84) (tgt := 117) ⟨(by decide), (by decide)⟩ (by decide) d_M_goOn_84 (fun hc_84 => ?_) (fun hc_84 => ?_)
                      · skip
                        exact absurd hc_84 (by decide)
                      · skip
                        refine zw_iload_n (pc := 87) (n := 2) (x := Int32.ofInt u23_) rfl d_M_goOn_87 ?_
                        refine zw_bipush (pc := 88) (v := Int32.ofInt 6) (by decide) d_M_goOn_88 ?_
                        refine zr_icmp_ge (pc := 90) (tgt := 111) ⟨hu23_a, hu23_b⟩ ⟨(by decide), (by decide)⟩ (by decide) d_M_goOn_90 (fun hc_90 => ?_) (fun hc_90 => ?_)
                        · skip
                          refine zr_iinc (pc := 111) (i := 2) (a := u23_) (n := 1) (L2 := [some (.ref 81), some (.int (Int32.ofInt v20_)), some (.int (Int32.ofInt (u23_ + 1)))]) rfl (by decide) rfl d_M_goOn_111 ?_
                          refine zw_goto (pc := 114) (tgt := 76) (by decide) d_M_goOn_114 ?_
                          exact ih_76 (u23_ + 1) (by omega) (by omega) N24_ hs25_ (show 0 ≤ (u23_ + 1) by first | assumption | omega) (show s_ + (u23_ + 1) ≤ n_ by first | assumption | omega) (show zru zpL b_ n_ (s_ + (u23_ + 1)).toNat = zru zpL b_ n_ s_ by exact hr1_) (show ∀ j : Nat, s_ ≤ j → j < (s_ + (u23_ + 1)).toNat → zpL (b_ j) = true by exact hr2_) (show ((u23_ + 1) ≤ 6 → zg N24_ 81 11 = zw8 b_ s_ ((u23_ + 1)).toNat) by first | exact hwp_ | exact fun q_ => absurd q_ (by omega)) (by omega)
                        · skip
                          refine zw_aload_n (pc := 93) (n := 0) (x := 81) rfl d_M_goOn_93 ?_
                          refine zw_aload_n (pc := 94) (n := 0) (x := 81) rfl d_M_goOn_94 ?_
                          refine zr_getJ (hf_N24_.w hW) (pc := 95) f_M_148 rfl d_M_goOn_95 ?_
                          have hr36_ := zg_r N24_ 81 11
                          refine zw_bipush (pc := 98) (v := Int32.ofInt 8) (by decide) d_M_goOn_98 ?_
                          refine zr_lshl (pc := 100) d_M_goOn_100 ?_
                          have hr37_ := zlshl_r (zg N24_ 81 11) 8
                          refine zw_aload_n (pc := 101) (n := 0) (x := 81) rfl d_M_goOn_101 ?_
                          refine zw_iload_n (pc := 102) (n := 2) (x := Int32.ofInt u23_) rfl d_M_goOn_102 ?_
                          refine zr_callV (hf_N24_.w hW) hf_N24_.x (pc := 103) [.int (Int32.ofInt u23_)] [.long (Int64.ofInt (zlshl (zg N24_ 81 11) 8)), .ref 81] l_M_141 (c_M_here l N24_ (hf_N24_.w hW) u23_ hu23_a hu23_b (show 0 ≤ ze N24_ 81 3 + u23_ by first | assumption | omega) (show ze N24_ 81 3 ≤ 700 by first | assumption | omega) (show u23_ ≤ 1000 by first | assumption | omega) (show ze N24_ 81 2 ≤ 700 by first | assumption | omega)) rfl rfl rfl (by decide) (Nat.le_of_ble_eq_true rfl) d_M_goOn_103 ?_
                          rintro _ N38_ ⟨v39_, rfl, ⟨hv39_a, hv39_b⟩, hsN38_, ⟨hp0_N38_, hp1_N38_⟩⟩
                          obtain rfl := hsN38_.eq.symm
                          show zW l m_M_goOn (zn Mz + 0, zw Mz + 0) N24_ 106 [some (.ref 81), some (.int (Int32.ofInt v20_)), some (.int (Int32.ofInt u23_))] [.int (Int32.ofInt v39_), .long (Int64.ofInt (zlshl (zg N24_ 81 11) 8)), .ref 81] (zpV [3, 4, 5, 6, 11] [] Mz (fun N => ze N 81 4 = (zru zpB b_ n_ (ze Mz 81 3).toNat : Nat) ∧ zRt b_ n_ N))
                          have hc3_ : v39_ = b_ (s_ + u23_).toNat := by rw [← hkn_.2]; omega
                          refine zr_i2l (pc := 106) ⟨hv39_a, hv39_b⟩ d_M_goOn_106 ?_
                          refine zr_lor (pc := 107) d_M_goOn_107 ?_
                          have hr40_ := zlor_r (zlshl (zg N24_ 81 11) 8) v39_
                          refine zr_putJ (hf_N24_.w hW) (pc := 108) f_M_148 rfl rfl rfl rfl d_M_goOn_108 (fun N41_ hsN41_ hvN41_ => ?_)
                          have hf_N41_ : zFr [3, 4, 5, 6, 11] [] Mz N41_ := hf_N24_.tr hsN41_ (by decide) (by decide)
                          have hb0_N41_ : zFr [11] [] N17_ N41_ := hs25_.tr hsN41_ (by decide) (by decide)
                          have e2_N41_ : ze N41_ 81 2 = ze N24_ 81 2 := hsN41_.e (by decide)
                          have e3_N41_ : ze N41_ 81 3 = ze N24_ 81 3 := hsN41_.e (by decide)
                          have e4_N41_ : ze N41_ 81 4 = ze N24_ 81 4 := hsN41_.e (by decide)
                          have e5_N41_ : ze N41_ 81 5 = ze N24_ 81 5 := hsN41_.e (by decide)
                          have e6_N41_ : ze N41_ 81 6 = ze N24_ 81 6 := hsN41_.e (by decide)
                          have c42_ : zRb b_ n_ N41_ := zRb.fr hsN41_ c31_ (by decide) (by decide)
                          have hwp_ : u23_ + 1 ≤ 6 → zg N41_ 81 11 = zw8 b_ s_ (u23_ + 1).toNat := zw8_step (n := n_) (by omega) (by omega) (by omega) hal_ hwi_ hc3_ (by rw [hc3_, ← hkn_.2]; exact hkl_) (hvN41_ ⟨by omega, by omega⟩)
                          refine zr_iinc (pc := 111) (i := 2) (a := u23_) (n := 1) (L2 := [some (.ref 81), some (.int (Int32.ofInt v20_)), some (.int (Int32.ofInt (u23_ + 1)))]) rfl (by decide) rfl d_M_goOn_111 ?_
                          refine zw_goto (pc := 114) (tgt := 76) (by decide) d_M_goOn_114 ?_
                          exact ih_76 (u23_ + 1) (by omega) (by omega) N41_ hb0_N41_ (show 0 ≤ (u23_ + 1) by first | assumption | omega) (show s_ + (u23_ + 1) ≤ n_ by first | assumption | omega) (show zru zpL b_ n_ (s_ + (u23_ + 1)).toNat = zru zpL b_ n_ s_ by exact hr1_) (show ∀ j : Nat, s_ ≤ j → j < (s_ + (u23_ + 1)).toNat → zpL (b_ j) = true by exact hr2_) (show ((u23_ + 1) ≤ 6 → zg N41_ 81 11 = zw8 b_ s_ ((u23_ + 1)).toNat) by first | exact hwp_ | exact fun q_ => absurd q_ (by omega)) (by omega)
                    · skip
                      show zW l m_M_goOn (zn Mz + 0, zw Mz + 0) N24_ 84 [some (.ref 81), some (.int (Int32.ofInt v20_)), some (.int (Int32.ofInt u23_))] [.int (Int32.ofInt 0)] (zpV [3, 4, 5, 6, 11] [] Mz (fun N => ze N 81 4 = (zru zpB b_ n_ (ze Mz 81 3).toNat : Nat) ∧ zRt b_ n_ N))
                      refine zr_if_eq (pc := 84) (tgt := 117) ⟨(by decide), (by decide)⟩ (by decide) d_M_goOn_84 (fun hc_84 => ?_) (fun hc_84 => ?_)
                      · skip
                        have hend_ : u23_ = (zru zpL b_ n_ s_ : Nat) - s_ := by have hz_ := zru_sp2 (P := zpL) (b := b_) (n := n_) (s := s_) (k := u23_) (c := zhr N24_ u23_) (by omega) (by rcases hk_ with ⟨q1_, q2_, q3_, q4_⟩ | ⟨q1_, q2_⟩; exact Or.inl ⟨by omega, by rw [q2_, show ze N24_ 81 3 = s_ by omega], Bool.eq_false_iff.mpr (fun h_ => by have := zpL_t.mp h_; omega)⟩; exact Or.inr (by omega)) hru_; omega
                        refine zw_aload_n (pc := 117) (n := 0) (x := 81) rfl d_M_goOn_117 ?_
                        refine zw_iload_n (pc := 118) (n := 2) (x := Int32.ofInt u23_) rfl d_M_goOn_118 ?_
                        refine zw_bipush (pc := 119) (v := Int32.ofInt 6) (by decide) d_M_goOn_119 ?_
                        refine zr_icmp_le (pc := 121) (tgt := 128) ⟨hu23_a, hu23_b⟩ ⟨(by decide), (by decide)⟩ (by decide) d_M_goOn_121 (fun hc_121 => ?_) (fun hc_121 => ?_)
                        · skip
                          refine zw_iconst (pc := 128) (v := Int32.ofInt 1) (by decide) d_M_goOn_128 ?_
                          refine zr_putI (hf_N24_.w hW) (pc := 129) f_M_155 rfl rfl ⟨by omega, by omega⟩ rfl rfl d_M_goOn_129 (fun N43_ hsN43_ hvN43_ => ?_)
                          have hf_N43_ : zFr [3, 4, 5, 6, 11] [] Mz N43_ := hf_N24_.tr hsN43_ (by decide) (by decide)
                          have e2_N43_ : ze N43_ 81 2 = ze N24_ 81 2 := hsN43_.e (by decide)
                          have e3_N43_ : ze N43_ 81 3 = ze N24_ 81 3 := hsN43_.e (by decide)
                          have e4_N43_ : ze N43_ 81 4 = ze N24_ 81 4 := hsN43_.e (by decide)
                          have r5_N43_ := ze_r N43_ 81 5
                          have e6_N43_ : ze N43_ 81 6 = ze N24_ 81 6 := hsN43_.e (by decide)
                          have c44_ : zRb b_ n_ N43_ := zRb.fr hsN43_ c31_ (by decide) (by decide)
                          have hwf_ : zg N43_ 81 11 = zg N24_ 81 11 := hsN43_.g (by decide)
                          refine zw_goto (pc := 132) (tgt := 235) (by decide) d_M_goOn_132 ?_
                          refine zw_aload_n (pc := 235) (n := 0) (x := 81) rfl d_M_goOn_235 ?_
                          refine zw_dup (pc := 236) rfl d_M_goOn_236 ?_
                          refine zr_getI (hf_N43_.w hW) (pc := 237) f_M_135 rfl d_M_goOn_237 ?_
                          refine zw_iload_n (pc := 240) (n := 2) (x := Int32.ofInt u23_) rfl d_M_goOn_240 ?_
                          refine zr_iadd (pc := 241) d_M_goOn_241 ?_
                          refine zr_putI (hf_N43_.w hW) (pc := 242) f_M_135 rfl rfl ⟨by omega, by omega⟩ rfl rfl d_M_goOn_242 (fun N45_ hsN45_ hvN45_ => ?_)
                          have hf_N45_ : zFr [3, 4, 5, 6, 11] [] Mz N45_ := hf_N43_.tr hsN45_ (by decide) (by decide)
                          have e2_N45_ : ze N45_ 81 2 = ze N43_ 81 2 := hsN45_.e (by decide)
                          have r3_N45_ := ze_r N45_ 81 3
                          have e4_N45_ : ze N45_ 81 4 = ze N43_ 81 4 := hsN45_.e (by decide)
                          have e5_N45_ : ze N45_ 81 5 = ze N43_ 81 5 := hsN45_.e (by decide)
                          have e6_N45_ : ze N45_ 81 6 = ze N43_ 81 6 := hsN45_.e (by decide)
                          have c46_ : zRb b_ n_ N45_ := zRb.fr hsN45_ c44_ (by decide) (by decide)
                          have hge_ := zru_ge (P := zpL) (b := b_) (n := n_) (p := s_)
                          have hge2_ := zru_ge (P := zpD) (b := b_) (n := n_) (p := s_)
                          have hfin_ : zRt b_ n_ N45_ := by first | exact zRt_L (s := s_) (by omega) hsn_ hlt_ (by omega) (fun q_ => by have w_ := hwi_ (by omega); rw [show (u23_).toNat = zru zpL b_ n_ s_ - s_ by omega] at w_; rw [← w_]; first | exact (hsN45_.g (by decide)).trans hwf_) (by omega) | exact zRt_D (s := s_) (by omega) hsn_ hnl_ hdt_ (by omega) (fun q_ => by have w_ := hwi_ (by omega); rw [show (u23_).toNat = zru zpD b_ n_ s_ - s_ by omega] at w_; omega) (by first | exact Or.inr ⟨fun q_ => by have := q_.1; omega, by omega⟩ | exact Or.inr ⟨fun q_ => q_.2 ⟨hlb_.2, hlb_.1⟩, by omega⟩ | exact Or.inl ⟨⟨by omega, hlc_⟩, by omega⟩) | exact zRt_S (s := s_) (by omega) hsn_ hnl_ hnd_ (by omega) (by omega) (by first | exact Or.inl ⟨hsg_, by omega⟩ | exact Or.inr ⟨hsg_, by omega⟩)
                          exact zr_vret (pc := 245) rfl hf_N45_ ⟨(show ze N45_ 81 4 = (zru zpB b_ n_ (ze Mz 81 3).toNat : Nat) by omega), hfin_⟩ d_M_goOn_245
                        · skip
                          refine zw_iconst (pc := 124) (v := Int32.ofInt 4) (by decide) d_M_goOn_124 ?_
                          refine zw_goto (pc := 125) (tgt := 129) (by decide) d_M_goOn_125 ?_
                          refine zr_putI (hf_N24_.w hW) (pc := 129) f_M_155 rfl rfl ⟨by omega, by omega⟩ rfl rfl d_M_goOn_129 (fun N47_ hsN47_ hvN47_ => ?_)
                          have hf_N47_ : zFr [3, 4, 5, 6, 11] [] Mz N47_ := hf_N24_.tr hsN47_ (by decide) (by decide)
                          have e2_N47_ : ze N47_ 81 2 = ze N24_ 81 2 := hsN47_.e (by decide)
                          have e3_N47_ : ze N47_ 81 3 = ze N24_ 81 3 := hsN47_.e (by decide)
                          have e4_N47_ : ze N47_ 81 4 = ze N24_ 81 4 := hsN47_.e (by decide)
                          have r5_N47_ := ze_r N47_ 81 5
                          have e6_N47_ : ze N47_ 81 6 = ze N24_ 81 6 := hsN47_.e (by decide)
                          have c48_ : zRb b_ n_ N47_ := zRb.fr hsN47_ c31_ (by decide) (by decide)
                          have hwf_ : zg N47_ 81 11 = zg N24_ 81 11 := hsN47_.g (by decide)
                          refine zw_goto (pc := 132) (tgt := 235) (by decide) d_M_goOn_132 ?_
                          refine zw_aload_n (pc := 235) (n := 0) (x := 81) rfl d_M_goOn_235 ?_
                          refine zw_dup (pc := 236) rfl d_M_goOn_236 ?_
                          refine zr_getI (hf_N47_.w hW) (pc := 237) f_M_135 rfl d_M_goOn_237 ?_
                          refine zw_iload_n (pc := 240) (n := 2) (x := Int32.ofInt u23_) rfl d_M_goOn_240 ?_
                          refine zr_iadd (pc := 241) d_M_goOn_241 ?_
                          refine zr_putI (hf_N47_.w hW) (pc := 242) f_M_135 rfl rfl ⟨by omega, by omega⟩ rfl rfl d_M_goOn_242 (fun N49_ hsN49_ hvN49_ => ?_)
                          have hf_N49_ : zFr [3, 4, 5, 6, 11] [] Mz N49_ := hf_N47_.tr hsN49_ (by decide) (by decide)
                          have e2_N49_ : ze N49_ 81 2 = ze N47_ 81 2 := hsN49_.e (by decide)
                          have r3_N49_ := ze_r N49_ 81 3
                          have e4_N49_ : ze N49_ 81 4 = ze N47_ 81 4 := hsN49_.e (by decide)
                          have e5_N49_ : ze N49_ 81 5 = ze N47_ 81 5 := hsN49_.e (by decide)
                          have e6_N49_ : ze N49_ 81 6 = ze N47_ 81 6 := hsN49_.e (by decide)
                          have c50_ : zRb b_ n_ N49_ := zRb.fr hsN49_ c48_ (by decide) (by decide)
                          have hge_ := zru_ge (P := zpL) (b := b_) (n := n_) (p := s_)
                          have hge2_ := zru_ge (P := zpD) (b := b_) (n := n_) (p := s_)
                          have hfin_ : zRt b_ n_ N49_ := by first | exact zRt_L (s := s_) (by omega) hsn_ hlt_ (by omega) (fun q_ => by have w_ := hwi_ (by omega); rw [show (u23_).toNat = zru zpL b_ n_ s_ - s_ by omega] at w_; rw [← w_]; first | exact (hsN49_.g (by decide)).trans hwf_) (by omega) | exact zRt_D (s := s_) (by omega) hsn_ hnl_ hdt_ (by omega) (fun q_ => by have w_ := hwi_ (by omega); rw [show (u23_).toNat = zru zpD b_ n_ s_ - s_ by omega] at w_; omega) (by first | exact Or.inr ⟨fun q_ => by have := q_.1; omega, by omega⟩ | exact Or.inr ⟨fun q_ => q_.2 ⟨hlb_.2, hlb_.1⟩, by omega⟩ | exact Or.inl ⟨⟨by omega, hlc_⟩, by omega⟩) | exact zRt_S (s := s_) (by omega) hsn_ hnl_ hnd_ (by omega) (by omega) (by first | exact Or.inl ⟨hsg_, by omega⟩ | exact Or.inr ⟨hsg_, by omega⟩)
                          exact zr_vret (pc := 245) rfl hf_N49_ ⟨(show ze N49_ 81 4 = (zru zpB b_ n_ (ze Mz 81 3).toNat : Nat) by omega), hfin_⟩ d_M_goOn_245
                      · skip
                        exact absurd hc_84 (by decide)
                exact lp_76 _ 0 (by decide) (by decide) N17_ zFr.rf (show 0 ≤ (0 : Int) by first | assumption | omega) (show s_ + (0 : Int) ≤ n_ by omega) (show zru zpL b_ n_ (s_ + (0 : Int)).toNat = zru zpL b_ n_ s_ by rw [show (s_ + (0 : Int)).toNat = s_ by omega]) (show ∀ j : Nat, s_ ≤ j → j < (s_ + (0 : Int)).toNat → zpL (b_ j) = true by intro j h1 h2; omega) (show ((0 : Int) ≤ 6 → zg N17_ 81 11 = zw8 b_ s_ ((0 : Int)).toNat) by intro _; exact hv0_) (Nat.lt_succ_self _)
            · skip
              show zW l m_M_goOn (zn Mz + 0, zw Mz + 0) N17_ 73 [some (.ref 81), some (.int (Int32.ofInt v20_)), some (.int (Int32.ofInt 0))] [.int (Int32.ofInt 0)] (zpV [3, 4, 5, 6, 11] [] Mz (fun N => ze N 81 4 = (zru zpB b_ n_ (ze Mz 81 3).toNat : Nat) ∧ zRt b_ n_ N))
              refine zr_if_eq (pc := 73) (tgt := 135) ⟨(by decide), (by decide)⟩ (by decide) d_M_goOn_73 (fun hc_73 => ?_) (fun hc_73 => ?_)
              · skip
                have hnl_ : zpL (b_ s_) = false := by rw [← hcb_]; exact Bool.eq_false_iff.mpr (fun h_ => by have := zpL_t.mp h_; omega)
                refine zw_iload_n (pc := 135) (n := 1) (x := Int32.ofInt v20_) rfl d_M_goOn_135 ?_
                refine zr_callS hf_N17_.x (pc := 136) [.int (Int32.ofInt v20_)] [] l_M_162 (c_M_isDigit l N17_ (hf_N17_.w hW) v20_ hv20_a hv20_b) rfl rfl (by decide) (Nat.le_of_ble_eq_true rfl) d_M_goOn_136 ?_
                rintro _ N51_ ⟨v52_, rfl, ⟨hv52_a, hv52_b⟩, hsN51_, hp0_N51_⟩
                obtain rfl := hsN51_.eq.symm
                replace hp0_N51_ : ((v52_ = 1 ∧ 48 ≤ v20_ ∧ v20_ ≤ 57) ∨ (v52_ = 0 ∧ (v20_ < 48 ∨ 57 < v20_))) := hp0_N51_
                rcases hp0_N51_ with ⟨rfl, ha136_0_hp0_N51_, ha136_1_hp0_N51_⟩ | ⟨rfl, ha136_0_hp0_N51_⟩
                · skip
                  have hdt_ : zpD (b_ s_) = true := by rw [← hcb_]; exact zpD_t.mpr (by omega)
                  show zW l m_M_goOn (zn Mz + 0, zw Mz + 0) N17_ 139 [some (.ref 81), some (.int (Int32.ofInt v20_)), some (.int (Int32.ofInt 0))] [.int (Int32.ofInt 1)] (zpV [3, 4, 5, 6, 11] [] Mz (fun N => ze N 81 4 = (zru zpB b_ n_ (ze Mz 81 3).toNat : Nat) ∧ zRt b_ n_ N))
                  refine zr_if_eq (pc := 139) (tgt := 212) ⟨(by decide), (by decide)⟩ (by decide) d_M_goOn_139 (fun hc_139 => ?_) (fun hc_139 => ?_)
                  · skip
                    exact absurd hc_139 (by decide)
                  · skip
                    have lp_142 : ∀ (n : Nat) (u53_ : Int) (hu53_a : -2147483648 ≤ u53_) (hu53_b : u53_ < 2147483648) (N54_ : zMem) (hs55_ : zFr [6] [] N17_ N54_) (i56_ : 0 ≤ u53_) (i57_ : s_ + u53_ ≤ n_) (i58_ : zru zpD b_ n_ (s_ + u53_).toNat = zru zpD b_ n_ s_) (i59_ : ∀ j : Nat, s_ ≤ j → j < (s_ + u53_).toNat → zpD (b_ j) = true) (i60_ : (u53_ ≤ 3 → ze N54_ 81 6 = zvl b_ s_ (u53_).toNat)), (n_ - s_ - u53_).toNat < n → zW l m_M_goOn (zn Mz + 0, zw Mz + 0) N54_ 142 [some (.ref 81), some (.int (Int32.ofInt v20_)), some (.int (Int32.ofInt u53_))] [] (zpV [3, 4, 5, 6, 11] [] Mz (fun N => ze N 81 4 = (zru zpB b_ n_ (ze Mz 81 3).toNat : Nat) ∧ zRt b_ n_ N)) := by
                      intro n
                      induction n with
                      | zero =>
                        intro u53_ hu53_a hu53_b N54_ hs55_ i56_ i57_ i58_ i59_ i60_ h0
                        exact absurd h0 (Nat.not_lt_zero _)
                      | succ n ih_142 =>
                        intro u53_ hu53_a hu53_b N54_ hs55_ i56_ i57_ i58_ i59_ i60_ hlt_142
                        have hf_N54_ : zFr [3, 4, 5, 6, 11] [] Mz N54_ := hf_N17_.tr hs55_ (by decide) (by decide)
                        have e2_N54_ : ze N54_ 81 2 = ze N17_ 81 2 := hs55_.e (by decide)
                        have e3_N54_ : ze N54_ 81 3 = ze N17_ 81 3 := hs55_.e (by decide)
                        have e4_N54_ : ze N54_ 81 4 = ze N17_ 81 4 := hs55_.e (by decide)
                        have e5_N54_ : ze N54_ 81 5 = ze N17_ 81 5 := hs55_.e (by decide)
                        have r6_N54_ := ze_r N54_ 81 6
                        have c61_ : zRb b_ n_ N54_ := zRb.fr hs55_ c18_ (by decide) (by decide)
                        have hk_ := c61_.h (k := u53_) (by omega)
                        have hru_ := (show zru zpD b_ n_ (s_ + u53_).toNat = zru zpD b_ n_ s_ by assumption)
                        have hal_ := (show ∀ j : Nat, s_ ≤ j → j < (s_ + u53_).toNat → zpD (b_ j) = true by assumption)
                        have hwi_ := (show (u53_ ≤ 3 → ze N54_ 81 6 = zvl b_ s_ (u53_).toNat) by assumption)
                        refine zw_aload_n (pc := 142) (n := 0) (x := 81) rfl d_M_goOn_142 ?_
                        refine zw_iload_n (pc := 143) (n := 2) (x := Int32.ofInt u53_) rfl d_M_goOn_143 ?_
                        refine zr_callV (hf_N54_.w hW) hf_N54_.x (pc := 144) [.int (Int32.ofInt u53_)] [] l_M_141 (c_M_here l N54_ (hf_N54_.w hW) u53_ hu53_a hu53_b (show 0 ≤ ze N54_ 81 3 + u53_ by first | assumption | omega) (show ze N54_ 81 3 ≤ 700 by first | assumption | omega) (show u53_ ≤ 1000 by first | assumption | omega) (show ze N54_ 81 2 ≤ 700 by first | assumption | omega)) rfl rfl rfl (by decide) (Nat.le_of_ble_eq_true rfl) d_M_goOn_144 ?_
                        rintro _ N62_ ⟨v63_, rfl, ⟨hv63_a, hv63_b⟩, hsN62_, ⟨hp0_N62_, hp1_N62_⟩⟩
                        obtain rfl := hsN62_.eq.symm
                        show zW l m_M_goOn (zn Mz + 0, zw Mz + 0) N54_ 147 [some (.ref 81), some (.int (Int32.ofInt v20_)), some (.int (Int32.ofInt u53_))] [.int (Int32.ofInt v63_)] (zpV [3, 4, 5, 6, 11] [] Mz (fun N => ze N 81 4 = (zru zpB b_ n_ (ze Mz 81 3).toNat : Nat) ∧ zRt b_ n_ N))
                        refine zr_callS hf_N54_.x (pc := 147) [.int (Int32.ofInt v63_)] [] l_M_162 (c_M_isDigit l N54_ (hf_N54_.w hW) v63_ hv63_a hv63_b) rfl rfl (by decide) (Nat.le_of_ble_eq_true rfl) d_M_goOn_147 ?_
                        rintro _ N64_ ⟨v65_, rfl, ⟨hv65_a, hv65_b⟩, hsN64_, hp0_N64_⟩
                        obtain rfl := hsN64_.eq.symm
                        replace hp0_N64_ : ((v65_ = 1 ∧ 48 ≤ v63_ ∧ v63_ ≤ 57) ∨ (v65_ = 0 ∧ (v63_ < 48 ∨ 57 < v63_))) := hp0_N64_
                        rcases hp0_N64_ with ⟨rfl, ha147_0_hp0_N64_, ha147_1_hp0_N64_⟩ | ⟨rfl, ha147_0_hp0_N64_⟩
                        · skip
                          have hkl_ : zpD (zhr N54_ u53_) = true := zpD_t.mpr (by omega)
                          have hkn_ : ze N54_ 81 3 + u53_ < n_ ∧ zhr N54_ u53_ = b_ (s_ + u53_).toNat := by rcases hk_ with ⟨q1_, q2_, q3_, q4_⟩ | ⟨q1_, q2_⟩; exact ⟨q1_, by rw [q2_, show ze N54_ 81 3 = s_ by omega]⟩; exfalso; omega
                          have hr1_ := zru_st2 (P := zpD) (by omega) (by omega) hkn_.2 hkl_ hru_
                          have hr2_ := zall_1 (P := zpD) (by omega) hal_ hkn_.2 hkl_
                          show zW l m_M_goOn (zn Mz + 0, zw Mz + 0) N54_ 150 [some (.ref 81), some (.int (Int32.ofInt v20_)), some (.int (Int32.ofInt u53_))] [.int (Int32.ofInt 1)] (zpV [3, 4, 5, 6, 11] [] Mz (fun N => ze N 81 4 = (zru zpB b_ n_ (ze Mz 81 3).toNat : Nat) ∧ zRt b_ n_ N))
                          refine zr_if_eq (pc := 150) (tgt := 184) ⟨(by decide), (by decide)⟩ (by decide) d_M_goOn_150 (fun hc_150 => ?_) (fun hc_150 => ?_)
                          · skip
                            exact absurd hc_150 (by decide)
                          · skip
                            refine zw_iload_n (pc := 153) (n := 2) (x := Int32.ofInt u53_) rfl d_M_goOn_153 ?_
                            refine zw_iconst (pc := 154) (v := Int32.ofInt 3) (by decide) d_M_goOn_154 ?_
                            refine zr_icmp_ge (pc := 155) (tgt := 178) ⟨hu53_a, hu53_b⟩ ⟨(by decide), (by decide)⟩ (by decide) d_M_goOn_155 (fun hc_155 => ?_) (fun hc_155 => ?_)
                            · skip
                              refine zr_iinc (pc := 178) (i := 2) (a := u53_) (n := 1) (L2 := [some (.ref 81), some (.int (Int32.ofInt v20_)), some (.int (Int32.ofInt (u53_ + 1)))]) rfl (by decide) rfl d_M_goOn_178 ?_
                              refine zw_goto (pc := 181) (tgt := 142) (by decide) d_M_goOn_181 ?_
                              exact ih_142 (u53_ + 1) (by omega) (by omega) N54_ hs55_ (show 0 ≤ (u53_ + 1) by first | assumption | omega) (show s_ + (u53_ + 1) ≤ n_ by first | assumption | omega) (show zru zpD b_ n_ (s_ + (u53_ + 1)).toNat = zru zpD b_ n_ s_ by exact hr1_) (show ∀ j : Nat, s_ ≤ j → j < (s_ + (u53_ + 1)).toNat → zpD (b_ j) = true by exact hr2_) (show ((u53_ + 1) ≤ 3 → ze N54_ 81 6 = zvl b_ s_ ((u53_ + 1)).toNat) by first | exact hvp_ | exact fun q_ => absurd q_ (by omega)) (by omega)
                            · skip
                              refine zw_aload_n (pc := 158) (n := 0) (x := 81) rfl d_M_goOn_158 ?_
                              refine zw_bipush (pc := 159) (v := Int32.ofInt 10) (by decide) d_M_goOn_159 ?_
                              refine zw_aload_n (pc := 161) (n := 0) (x := 81) rfl d_M_goOn_161 ?_
                              refine zr_getI (hf_N54_.w hW) (pc := 162) f_M_152 rfl d_M_goOn_162 ?_
                              refine zr_imul (pc := 165) d_M_goOn_165 ?_
                              refine zw_aload_n (pc := 166) (n := 0) (x := 81) rfl d_M_goOn_166 ?_
                              refine zw_iload_n (pc := 167) (n := 2) (x := Int32.ofInt u53_) rfl d_M_goOn_167 ?_
                              refine zr_callV (hf_N54_.w hW) hf_N54_.x (pc := 168) [.int (Int32.ofInt u53_)] [.int (Int32.ofInt (10 * (ze N54_ 81 6))), .ref 81] l_M_141 (c_M_here l N54_ (hf_N54_.w hW) u53_ hu53_a hu53_b (show 0 ≤ ze N54_ 81 3 + u53_ by first | assumption | omega) (show ze N54_ 81 3 ≤ 700 by first | assumption | omega) (show u53_ ≤ 1000 by first | assumption | omega) (show ze N54_ 81 2 ≤ 700 by first | assumption | omega)) rfl rfl rfl (by decide) (Nat.le_of_ble_eq_true rfl) d_M_goOn_168 ?_
                              rintro _ N66_ ⟨v67_, rfl, ⟨hv67_a, hv67_b⟩, hsN66_, ⟨hp0_N66_, hp1_N66_⟩⟩
                              obtain rfl := hsN66_.eq.symm
                              show zW l m_M_goOn (zn Mz + 0, zw Mz + 0) N54_ 171 [some (.ref 81), some (.int (Int32.ofInt v20_)), some (.int (Int32.ofInt u53_))] [.int (Int32.ofInt v67_), .int (Int32.ofInt (10 * (ze N54_ 81 6))), .ref 81] (zpV [3, 4, 5, 6, 11] [] Mz (fun N => ze N 81 4 = (zru zpB b_ n_ (ze Mz 81 3).toNat : Nat) ∧ zRt b_ n_ N))
                              have hc3_ : v67_ = b_ (s_ + u53_).toNat := by rw [← hkn_.2]; omega
                              have hd99_ := zvl_d3 (by omega) (by omega) hal_ hwi_
                              have hcd_ := zpD_t.mp hkl_
                              refine zr_iadd (pc := 171) d_M_goOn_171 ?_
                              refine zw_bipush (pc := 172) (v := Int32.ofInt 48) (by decide) d_M_goOn_172 ?_
                              refine zr_isub (pc := 174) d_M_goOn_174 ?_
                              refine zr_putI (hf_N54_.w hW) (pc := 175) f_M_152 rfl rfl ⟨by omega, by omega⟩ rfl rfl d_M_goOn_175 (fun N68_ hsN68_ hvN68_ => ?_)
                              have hf_N68_ : zFr [3, 4, 5, 6, 11] [] Mz N68_ := hf_N54_.tr hsN68_ (by decide) (by decide)
                              have hb0_N68_ : zFr [6] [] N17_ N68_ := hs55_.tr hsN68_ (by decide) (by decide)
                              have e2_N68_ : ze N68_ 81 2 = ze N54_ 81 2 := hsN68_.e (by decide)
                              have e3_N68_ : ze N68_ 81 3 = ze N54_ 81 3 := hsN68_.e (by decide)
                              have e4_N68_ : ze N68_ 81 4 = ze N54_ 81 4 := hsN68_.e (by decide)
                              have e5_N68_ : ze N68_ 81 5 = ze N54_ 81 5 := hsN68_.e (by decide)
                              have r6_N68_ := ze_r N68_ 81 6
                              have c69_ : zRb b_ n_ N68_ := zRb.fr hsN68_ c61_ (by decide) (by decide)
                              have hvp_ : u53_ + 1 ≤ 3 → ze N68_ 81 6 = zvl b_ s_ (u53_ + 1).toNat := zvl_st3 hB_ (by omega) (by omega) hwi_ hc3_ hvN68_
                              refine zr_iinc (pc := 178) (i := 2) (a := u53_) (n := 1) (L2 := [some (.ref 81), some (.int (Int32.ofInt v20_)), some (.int (Int32.ofInt (u53_ + 1)))]) rfl (by decide) rfl d_M_goOn_178 ?_
                              refine zw_goto (pc := 181) (tgt := 142) (by decide) d_M_goOn_181 ?_
                              exact ih_142 (u53_ + 1) (by omega) (by omega) N68_ hb0_N68_ (show 0 ≤ (u53_ + 1) by first | assumption | omega) (show s_ + (u53_ + 1) ≤ n_ by first | assumption | omega) (show zru zpD b_ n_ (s_ + (u53_ + 1)).toNat = zru zpD b_ n_ s_ by exact hr1_) (show ∀ j : Nat, s_ ≤ j → j < (s_ + (u53_ + 1)).toNat → zpD (b_ j) = true by exact hr2_) (show ((u53_ + 1) ≤ 3 → ze N68_ 81 6 = zvl b_ s_ ((u53_ + 1)).toNat) by first | exact hvp_ | exact fun q_ => absurd q_ (by omega)) (by omega)
                        · skip
                          show zW l m_M_goOn (zn Mz + 0, zw Mz + 0) N54_ 150 [some (.ref 81), some (.int (Int32.ofInt v20_)), some (.int (Int32.ofInt u53_))] [.int (Int32.ofInt 0)] (zpV [3, 4, 5, 6, 11] [] Mz (fun N => ze N 81 4 = (zru zpB b_ n_ (ze Mz 81 3).toNat : Nat) ∧ zRt b_ n_ N))
                          refine zr_if_eq (pc := 150) (tgt := 184) ⟨(by decide), (by decide)⟩ (by decide) d_M_goOn_150 (fun hc_150 => ?_) (fun hc_150 => ?_)
                          · skip
                            have hend_ : u53_ = (zru zpD b_ n_ s_ : Nat) - s_ := by have hz_ := zru_sp2 (P := zpD) (b := b_) (n := n_) (s := s_) (k := u53_) (c := zhr N54_ u53_) (by omega) (by rcases hk_ with ⟨q1_, q2_, q3_, q4_⟩ | ⟨q1_, q2_⟩; exact Or.inl ⟨by omega, by rw [q2_, show ze N54_ 81 3 = s_ by omega], Bool.eq_false_iff.mpr (fun h_ => by have := zpD_t.mp h_; omega)⟩; exact Or.inr (by omega)) hru_; omega
                            refine zw_aload_n (pc := 184) (n := 0) (x := 81) rfl d_M_goOn_184 ?_
                            refine zw_iload_n (pc := 185) (n := 2) (x := Int32.ofInt u53_) rfl d_M_goOn_185 ?_
                            refine zw_iconst (pc := 186) (v := Int32.ofInt 3) (by decide) d_M_goOn_186 ?_
                            refine zr_icmp_gt (pc := 187) (tgt := 201) ⟨hu53_a, hu53_b⟩ ⟨(by decide), (by decide)⟩ (by decide) d_M_goOn_187 (fun hc_187 => ?_) (fun hc_187 => ?_)
                            · skip
                              refine zw_iconst (pc := 201) (v := Int32.ofInt 4) (by decide) d_M_goOn_201 ?_
                              refine zw_goto (pc := 202) (tgt := 206) (by decide) d_M_goOn_202 ?_
                              refine zr_putI (hf_N54_.w hW) (pc := 206) f_M_155 rfl rfl ⟨by omega, by omega⟩ rfl rfl d_M_goOn_206 (fun N70_ hsN70_ hvN70_ => ?_)
                              have hf_N70_ : zFr [3, 4, 5, 6, 11] [] Mz N70_ := hf_N54_.tr hsN70_ (by decide) (by decide)
                              have e2_N70_ : ze N70_ 81 2 = ze N54_ 81 2 := hsN70_.e (by decide)
                              have e3_N70_ : ze N70_ 81 3 = ze N54_ 81 3 := hsN70_.e (by decide)
                              have e4_N70_ : ze N70_ 81 4 = ze N54_ 81 4 := hsN70_.e (by decide)
                              have r5_N70_ := ze_r N70_ 81 5
                              have e6_N70_ : ze N70_ 81 6 = ze N54_ 81 6 := hsN70_.e (by decide)
                              have c71_ : zRb b_ n_ N70_ := zRb.fr hsN70_ c61_ (by decide) (by decide)
                              refine zw_goto (pc := 209) (tgt := 235) (by decide) d_M_goOn_209 ?_
                              refine zw_aload_n (pc := 235) (n := 0) (x := 81) rfl d_M_goOn_235 ?_
                              refine zw_dup (pc := 236) rfl d_M_goOn_236 ?_
                              refine zr_getI (hf_N70_.w hW) (pc := 237) f_M_135 rfl d_M_goOn_237 ?_
                              refine zw_iload_n (pc := 240) (n := 2) (x := Int32.ofInt u53_) rfl d_M_goOn_240 ?_
                              refine zr_iadd (pc := 241) d_M_goOn_241 ?_
                              refine zr_putI (hf_N70_.w hW) (pc := 242) f_M_135 rfl rfl ⟨by omega, by omega⟩ rfl rfl d_M_goOn_242 (fun N72_ hsN72_ hvN72_ => ?_)
                              have hf_N72_ : zFr [3, 4, 5, 6, 11] [] Mz N72_ := hf_N70_.tr hsN72_ (by decide) (by decide)
                              have e2_N72_ : ze N72_ 81 2 = ze N70_ 81 2 := hsN72_.e (by decide)
                              have r3_N72_ := ze_r N72_ 81 3
                              have e4_N72_ : ze N72_ 81 4 = ze N70_ 81 4 := hsN72_.e (by decide)
                              have e5_N72_ : ze N72_ 81 5 = ze N70_ 81 5 := hsN72_.e (by decide)
                              have e6_N72_ : ze N72_ 81 6 = ze N70_ 81 6 := hsN72_.e (by decide)
                              have c73_ : zRb b_ n_ N72_ := zRb.fr hsN72_ c71_ (by decide) (by decide)
                              have hge_ := zru_ge (P := zpL) (b := b_) (n := n_) (p := s_)
                              have hge2_ := zru_ge (P := zpD) (b := b_) (n := n_) (p := s_)
                              have hfin_ : zRt b_ n_ N72_ := by first | exact zRt_L (s := s_) (by omega) hsn_ hlt_ (by omega) (fun q_ => by have w_ := hwi_ (by omega); rw [show (u53_).toNat = zru zpL b_ n_ s_ - s_ by omega] at w_; rw [← w_]; first | exact (hsN72_.g (by decide)).trans hwf_) (by omega) | exact zRt_D (s := s_) (by omega) hsn_ hnl_ hdt_ (by omega) (fun q_ => by have w_ := hwi_ (by omega); rw [show (u53_).toNat = zru zpD b_ n_ s_ - s_ by omega] at w_; omega) (by first | exact Or.inr ⟨fun q_ => by have := q_.1; omega, by omega⟩ | exact Or.inr ⟨fun q_ => q_.2 ⟨hlb_.2, hlb_.1⟩, by omega⟩ | exact Or.inl ⟨⟨by omega, hlc_⟩, by omega⟩) | exact zRt_S (s := s_) (by omega) hsn_ hnl_ hnd_ (by omega) (by omega) (by first | exact Or.inl ⟨hsg_, by omega⟩ | exact Or.inr ⟨hsg_, by omega⟩)
                              exact zr_vret (pc := 245) rfl hf_N72_ ⟨(show ze N72_ 81 4 = (zru zpB b_ n_ (ze Mz 81 3).toNat : Nat) by omega), hfin_⟩ d_M_goOn_245
                            · skip
                              refine zw_aload_n (pc := 190) (n := 0) (x := 81) rfl d_M_goOn_190 ?_
                              refine zw_iload_n (pc := 191) (n := 2) (x := Int32.ofInt u53_) rfl d_M_goOn_191 ?_
                              refine zr_callV (hf_N54_.w hW) hf_N54_.x (pc := 192) [.int (Int32.ofInt u53_)] [.ref 81] l_M_141 (c_M_here l N54_ (hf_N54_.w hW) u53_ hu53_a hu53_b (show 0 ≤ ze N54_ 81 3 + u53_ by first | assumption | omega) (show ze N54_ 81 3 ≤ 700 by first | assumption | omega) (show u53_ ≤ 1000 by first | assumption | omega) (show ze N54_ 81 2 ≤ 700 by first | assumption | omega)) rfl rfl rfl (by decide) (Nat.le_of_ble_eq_true rfl) d_M_goOn_192 ?_
                              rintro _ N74_ ⟨v75_, rfl, ⟨hv75_a, hv75_b⟩, hsN74_, ⟨hp0_N74_, hp1_N74_⟩⟩
                              obtain rfl := hsN74_.eq.symm
                              show zW l m_M_goOn (zn Mz + 0, zw Mz + 0) N54_ 195 [some (.ref 81), some (.int (Int32.ofInt v20_)), some (.int (Int32.ofInt u53_))] [.int (Int32.ofInt v75_), .ref 81] (zpV [3, 4, 5, 6, 11] [] Mz (fun N => ze N 81 4 = (zru zpB b_ n_ (ze Mz 81 3).toNat : Nat) ∧ zRt b_ n_ N))
                              refine zr_callS hf_N54_.x (pc := 195) [.int (Int32.ofInt v75_)] [.ref 81] l_M_158 (c_M_isLetter l N54_ (hf_N54_.w hW) v75_ hv75_a hv75_b) rfl rfl (by decide) (Nat.le_of_ble_eq_true rfl) d_M_goOn_195 ?_
                              rintro _ N76_ ⟨v77_, rfl, ⟨hv77_a, hv77_b⟩, hsN76_, hp0_N76_⟩
                              obtain rfl := hsN76_.eq.symm
                              replace hp0_N76_ : ((v77_ = 1 ∧ 97 ≤ v75_ ∧ v75_ ≤ 122) ∨ (v77_ = 0 ∧ (v75_ < 97 ∨ 122 < v75_))) := hp0_N76_
                              rcases hp0_N76_ with ⟨rfl, ha195_0_hp0_N76_, ha195_1_hp0_N76_⟩ | ⟨rfl, ha195_0_hp0_N76_⟩
                              · skip
                                have hlb_ : zpL (b_ (zru zpD b_ n_ s_)) = true ∧ zru zpD b_ n_ s_ < n_ := by rcases hk_ with ⟨q1_, q2_, q3_, q4_⟩ | ⟨q1_, q2_⟩; exact ⟨by rw [show zru zpD b_ n_ s_ = (ze N54_ 81 3 + u53_).toNat by omega, ← q2_]; exact zpL_t.mpr (by omega), by omega⟩; exfalso; omega
                                show zW l m_M_goOn (zn Mz + 0, zw Mz + 0) N54_ 198 [some (.ref 81), some (.int (Int32.ofInt v20_)), some (.int (Int32.ofInt u53_))] [.int (Int32.ofInt 1), .ref 81] (zpV [3, 4, 5, 6, 11] [] Mz (fun N => ze N 81 4 = (zru zpB b_ n_ (ze Mz 81 3).toNat : Nat) ∧ zRt b_ n_ N))
                                refine zr_if_eq (pc := 198) (tgt := 205) ⟨(by decide), (by decide)⟩ (by decide) d_M_goOn_198 (fun hc_198 => ?_) (fun hc_198 => ?_)
                                · skip
                                  exact absurd hc_198 (by decide)
                                · skip
                                  refine zw_iconst (pc := 201) (v := Int32.ofInt 4) (by decide) d_M_goOn_201 ?_
                                  refine zw_goto (pc := 202) (tgt := 206) (by decide) d_M_goOn_202 ?_
                                  refine zr_putI (hf_N54_.w hW) (pc := 206) f_M_155 rfl rfl ⟨by omega, by omega⟩ rfl rfl d_M_goOn_206 (fun N78_ hsN78_ hvN78_ => ?_)
                                  have hf_N78_ : zFr [3, 4, 5, 6, 11] [] Mz N78_ := hf_N54_.tr hsN78_ (by decide) (by decide)
                                  have e2_N78_ : ze N78_ 81 2 = ze N54_ 81 2 := hsN78_.e (by decide)
                                  have e3_N78_ : ze N78_ 81 3 = ze N54_ 81 3 := hsN78_.e (by decide)
                                  have e4_N78_ : ze N78_ 81 4 = ze N54_ 81 4 := hsN78_.e (by decide)
                                  have r5_N78_ := ze_r N78_ 81 5
                                  have e6_N78_ : ze N78_ 81 6 = ze N54_ 81 6 := hsN78_.e (by decide)
                                  have c79_ : zRb b_ n_ N78_ := zRb.fr hsN78_ c61_ (by decide) (by decide)
                                  refine zw_goto (pc := 209) (tgt := 235) (by decide) d_M_goOn_209 ?_
                                  refine zw_aload_n (pc := 235) (n := 0) (x := 81) rfl d_M_goOn_235 ?_
                                  refine zw_dup (pc := 236) rfl d_M_goOn_236 ?_
                                  refine zr_getI (hf_N78_.w hW) (pc := 237) f_M_135 rfl d_M_goOn_237 ?_
                                  refine zw_iload_n (pc := 240) (n := 2) (x := Int32.ofInt u53_) rfl d_M_goOn_240 ?_
                                  refine zr_iadd (pc := 241) d_M_goOn_241 ?_
                                  refine zr_putI (hf_N78_.w hW) (pc := 242) f_M_135 rfl rfl ⟨by omega, by omega⟩ rfl rfl d_M_goOn_242 (fun N80_ hsN80_ hvN80_ => ?_)
                                  have hf_N80_ : zFr [3, 4, 5, 6, 11] [] Mz N80_ := hf_N78_.tr hsN80_ (by decide) (by decide)
                                  have e2_N80_ : ze N80_ 81 2 = ze N78_ 81 2 := hsN80_.e (by decide)
                                  have r3_N80_ := ze_r N80_ 81 3
                                  have e4_N80_ : ze N80_ 81 4 = ze N78_ 81 4 := hsN80_.e (by decide)
                                  have e5_N80_ : ze N80_ 81 5 = ze N78_ 81 5 := hsN80_.e (by decide)
                                  have e6_N80_ : ze N80_ 81 6 = ze N78_ 81 6 := hsN80_.e (by decide)
                                  have c81_ : zRb b_ n_ N80_ := zRb.fr hsN80_ c79_ (by decide) (by decide)
                                  have hge_ := zru_ge (P := zpL) (b := b_) (n := n_) (p := s_)
                                  have hge2_ := zru_ge (P := zpD) (b := b_) (n := n_) (p := s_)
                                  have hfin_ : zRt b_ n_ N80_ := by first | exact zRt_L (s := s_) (by omega) hsn_ hlt_ (by omega) (fun q_ => by have w_ := hwi_ (by omega); rw [show (u53_).toNat = zru zpL b_ n_ s_ - s_ by omega] at w_; rw [← w_]; first | exact (hsN80_.g (by decide)).trans hwf_) (by omega) | exact zRt_D (s := s_) (by omega) hsn_ hnl_ hdt_ (by omega) (fun q_ => by have w_ := hwi_ (by omega); rw [show (u53_).toNat = zru zpD b_ n_ s_ - s_ by omega] at w_; omega) (by first | exact Or.inr ⟨fun q_ => by have := q_.1; omega, by omega⟩ | exact Or.inr ⟨fun q_ => q_.2 ⟨hlb_.2, hlb_.1⟩, by omega⟩ | exact Or.inl ⟨⟨by omega, hlc_⟩, by omega⟩) | exact zRt_S (s := s_) (by omega) hsn_ hnl_ hnd_ (by omega) (by omega) (by first | exact Or.inl ⟨hsg_, by omega⟩ | exact Or.inr ⟨hsg_, by omega⟩)
                                  exact zr_vret (pc := 245) rfl hf_N80_ ⟨(show ze N80_ 81 4 = (zru zpB b_ n_ (ze Mz 81 3).toNat : Nat) by omega), hfin_⟩ d_M_goOn_245
                              · skip
                                have hlc_ : ¬ (zru zpD b_ n_ s_ < n_ ∧ zpL (b_ (zru zpD b_ n_ s_)) = true) := by rintro ⟨z1_, z2_⟩; rcases hk_ with ⟨q1_, q2_, q3_, q4_⟩ | ⟨q1_, q2_⟩; rw [show zru zpD b_ n_ s_ = (ze N54_ 81 3 + u53_).toNat by omega, ← q2_] at z2_; have z3_ := zpL_t.mp z2_; omega; omega
                                show zW l m_M_goOn (zn Mz + 0, zw Mz + 0) N54_ 198 [some (.ref 81), some (.int (Int32.ofInt v20_)), some (.int (Int32.ofInt u53_))] [.int (Int32.ofInt 0), .ref 81] (zpV [3, 4, 5, 6, 11] [] Mz (fun N => ze N 81 4 = (zru zpB b_ n_ (ze Mz 81 3).toNat : Nat) ∧ zRt b_ n_ N))
                                refine zr_if_eq (pc := 198) (tgt := 205) ⟨(by decide), (by decide)⟩ (by decide) d_M_goOn_198 (fun hc_198 => ?_) (fun hc_198 => ?_)
                                · skip
                                  refine zw_iconst (pc := 205) (v := Int32.ofInt 2) (by decide) d_M_goOn_205 ?_
                                  refine zr_putI (hf_N54_.w hW) (pc := 206) f_M_155 rfl rfl ⟨by omega, by omega⟩ rfl rfl d_M_goOn_206 (fun N82_ hsN82_ hvN82_ => ?_)
                                  have hf_N82_ : zFr [3, 4, 5, 6, 11] [] Mz N82_ := hf_N54_.tr hsN82_ (by decide) (by decide)
                                  have e2_N82_ : ze N82_ 81 2 = ze N54_ 81 2 := hsN82_.e (by decide)
                                  have e3_N82_ : ze N82_ 81 3 = ze N54_ 81 3 := hsN82_.e (by decide)
                                  have e4_N82_ : ze N82_ 81 4 = ze N54_ 81 4 := hsN82_.e (by decide)
                                  have r5_N82_ := ze_r N82_ 81 5
                                  have e6_N82_ : ze N82_ 81 6 = ze N54_ 81 6 := hsN82_.e (by decide)
                                  have c83_ : zRb b_ n_ N82_ := zRb.fr hsN82_ c61_ (by decide) (by decide)
                                  refine zw_goto (pc := 209) (tgt := 235) (by decide) d_M_goOn_209 ?_
                                  refine zw_aload_n (pc := 235) (n := 0) (x := 81) rfl d_M_goOn_235 ?_
                                  refine zw_dup (pc := 236) rfl d_M_goOn_236 ?_
                                  refine zr_getI (hf_N82_.w hW) (pc := 237) f_M_135 rfl d_M_goOn_237 ?_
                                  refine zw_iload_n (pc := 240) (n := 2) (x := Int32.ofInt u53_) rfl d_M_goOn_240 ?_
                                  refine zr_iadd (pc := 241) d_M_goOn_241 ?_
                                  refine zr_putI (hf_N82_.w hW) (pc := 242) f_M_135 rfl rfl ⟨by omega, by omega⟩ rfl rfl d_M_goOn_242 (fun N84_ hsN84_ hvN84_ => ?_)
                                  have hf_N84_ : zFr [3, 4, 5, 6, 11] [] Mz N84_ := hf_N82_.tr hsN84_ (by decide) (by decide)
                                  have e2_N84_ : ze N84_ 81 2 = ze N82_ 81 2 := hsN84_.e (by decide)
                                  have r3_N84_ := ze_r N84_ 81 3
                                  have e4_N84_ : ze N84_ 81 4 = ze N82_ 81 4 := hsN84_.e (by decide)
                                  have e5_N84_ : ze N84_ 81 5 = ze N82_ 81 5 := hsN84_.e (by decide)
                                  have e6_N84_ : ze N84_ 81 6 = ze N82_ 81 6 := hsN84_.e (by decide)
                                  have c85_ : zRb b_ n_ N84_ := zRb.fr hsN84_ c83_ (by decide) (by decide)
                                  have hge_ := zru_ge (P := zpL) (b := b_) (n := n_) (p := s_)
                                  have hge2_ := zru_ge (P := zpD) (b := b_) (n := n_) (p := s_)
                                  have hfin_ : zRt b_ n_ N84_ := by first | exact zRt_L (s := s_) (by omega) hsn_ hlt_ (by omega) (fun q_ => by have w_ := hwi_ (by omega); rw [show (u53_).toNat = zru zpL b_ n_ s_ - s_ by omega] at w_; rw [← w_]; first | exact (hsN84_.g (by decide)).trans hwf_) (by omega) | exact zRt_D (s := s_) (by omega) hsn_ hnl_ hdt_ (by omega) (fun q_ => by have w_ := hwi_ (by omega); rw [show (u53_).toNat = zru zpD b_ n_ s_ - s_ by omega] at w_; omega) (by first | exact Or.inr ⟨fun q_ => by have := q_.1; omega, by omega⟩ | exact Or.inr ⟨fun q_ => q_.2 ⟨hlb_.2, hlb_.1⟩, by omega⟩ | exact Or.inl ⟨⟨by omega, hlc_⟩, by omega⟩) | exact zRt_S (s := s_) (by omega) hsn_ hnl_ hnd_ (by omega) (by omega) (by first | exact Or.inl ⟨hsg_, by omega⟩ | exact Or.inr ⟨hsg_, by omega⟩)
                                  exact zr_vret (pc := 245) rfl hf_N84_ ⟨(show ze N84_ 81 4 = (zru zpB b_ n_ (ze Mz 81 3).toNat : Nat) by omega), hfin_⟩ d_M_goOn_245
                                · skip
                                  exact absurd hc_198 (by decide)
                          · skip
                            exact absurd hc_150 (by decide)
                    exact lp_142 _ 0 (by decide) (by decide) N17_ zFr.rf (show 0 ≤ (0 : Int) by first | assumption | omega) (show s_ + (0 : Int) ≤ n_ by omega) (show zru zpD b_ n_ (s_ + (0 : Int)).toNat = zru zpD b_ n_ s_ by rw [show (s_ + (0 : Int)).toNat = s_ by omega]) (show ∀ j : Nat, s_ ≤ j → j < (s_ + (0 : Int)).toNat → zpD (b_ j) = true by intro j h1 h2; omega) (show ((0 : Int) ≤ 3 → ze N17_ 81 6 = zvl b_ s_ ((0 : Int)).toNat) by intro _; show _ = (0 : Int); omega) (Nat.lt_succ_self _)
                · skip
                  show zW l m_M_goOn (zn Mz + 0, zw Mz + 0) N17_ 139 [some (.ref 81), some (.int (Int32.ofInt v20_)), some (.int (Int32.ofInt 0))] [.int (Int32.ofInt 0)] (zpV [3, 4, 5, 6, 11] [] Mz (fun N => ze N 81 4 = (zru zpB b_ n_ (ze Mz 81 3).toNat : Nat) ∧ zRt b_ n_ N))
                  refine zr_if_eq (pc := 139) (tgt := 212) ⟨(by decide), (by decide)⟩ (by decide) d_M_goOn_139 (fun hc_139 => ?_) (fun hc_139 => ?_)
                  · skip
                    have hnd_ : zpD (b_ s_) = false := by rw [← hcb_]; exact Bool.eq_false_iff.mpr (fun h_ => by have := zpD_t.mp h_; omega)
                    refine zw_aload_n (pc := 212) (n := 0) (x := 81) rfl d_M_goOn_212 ?_
                    refine zw_iload_n (pc := 213) (n := 1) (x := Int32.ofInt v20_) rfl d_M_goOn_213 ?_
                    refine zr_callS hf_N17_.x (pc := 214) [.int (Int32.ofInt v20_)] [.ref 81] l_M_165 (c_M_isSignF l N17_ (hf_N17_.w hW) v20_ hv20_a hv20_b) rfl rfl (by decide) (Nat.le_of_ble_eq_true rfl) d_M_goOn_214 ?_
                    rintro _ N86_ ⟨v87_, rfl, ⟨hv87_a, hv87_b⟩, hsN86_, hp0_N86_⟩
                    obtain rfl := hsN86_.eq.symm
                    replace hp0_N86_ : ((v87_ = 1 ∧ zpS v20_ = true) ∨ (v87_ = 0 ∧ zpS v20_ = false)) := hp0_N86_
                    rcases hp0_N86_ with ⟨rfl, ha214_0_hp0_N86_⟩ | ⟨rfl, ha214_0_hp0_N86_⟩
                    · skip
                      have hsg_ : zpS (b_ s_) = true := by rw [← hcb_]; exact ha214_0_hp0_N86_
                      show zW l m_M_goOn (zn Mz + 0, zw Mz + 0) N17_ 217 [some (.ref 81), some (.int (Int32.ofInt v20_)), some (.int (Int32.ofInt 0))] [.int (Int32.ofInt 1), .ref 81] (zpV [3, 4, 5, 6, 11] [] Mz (fun N => ze N 81 4 = (zru zpB b_ n_ (ze Mz 81 3).toNat : Nat) ∧ zRt b_ n_ N))
                      refine zr_if_eq (pc := 217) (tgt := 224) ⟨(by decide), (by decide)⟩ (by decide) d_M_goOn_217 (fun hc_217 => ?_) (fun hc_217 => ?_)
                      · skip
                        exact absurd hc_217 (by decide)
                      · skip
                        refine zw_iconst (pc := 220) (v := Int32.ofInt 3) (by decide) d_M_goOn_220 ?_
                        refine zw_goto (pc := 221) (tgt := 225) (by decide) d_M_goOn_221 ?_
                        refine zr_putI (hf_N17_.w hW) (pc := 225) f_M_155 rfl rfl ⟨by omega, by omega⟩ rfl rfl d_M_goOn_225 (fun N88_ hsN88_ hvN88_ => ?_)
                        have hf_N88_ : zFr [3, 4, 5, 6, 11] [] Mz N88_ := hf_N17_.tr hsN88_ (by decide) (by decide)
                        have e2_N88_ : ze N88_ 81 2 = ze N17_ 81 2 := hsN88_.e (by decide)
                        have e3_N88_ : ze N88_ 81 3 = ze N17_ 81 3 := hsN88_.e (by decide)
                        have e4_N88_ : ze N88_ 81 4 = ze N17_ 81 4 := hsN88_.e (by decide)
                        have r5_N88_ := ze_r N88_ 81 5
                        have e6_N88_ : ze N88_ 81 6 = ze N17_ 81 6 := hsN88_.e (by decide)
                        have c89_ : zRb b_ n_ N88_ := zRb.fr hsN88_ c18_ (by decide) (by decide)
                        refine zw_aload_n (pc := 228) (n := 0) (x := 81) rfl d_M_goOn_228 ?_
                        refine zw_iload_n (pc := 229) (n := 1) (x := Int32.ofInt v20_) rfl d_M_goOn_229 ?_
                        refine zr_putI (hf_N88_.w hW) (pc := 230) f_M_152 rfl rfl ⟨by omega, by omega⟩ rfl rfl d_M_goOn_230 (fun N90_ hsN90_ hvN90_ => ?_)
                        have hf_N90_ : zFr [3, 4, 5, 6, 11] [] Mz N90_ := hf_N88_.tr hsN90_ (by decide) (by decide)
                        have e2_N90_ : ze N90_ 81 2 = ze N88_ 81 2 := hsN90_.e (by decide)
                        have e3_N90_ : ze N90_ 81 3 = ze N88_ 81 3 := hsN90_.e (by decide)
                        have e4_N90_ : ze N90_ 81 4 = ze N88_ 81 4 := hsN90_.e (by decide)
                        have e5_N90_ : ze N90_ 81 5 = ze N88_ 81 5 := hsN90_.e (by decide)
                        have r6_N90_ := ze_r N90_ 81 6
                        have c91_ : zRb b_ n_ N90_ := zRb.fr hsN90_ c89_ (by decide) (by decide)
                        refine zw_iconst (pc := 233) (v := Int32.ofInt 1) (by decide) d_M_goOn_233 ?_
                        refine zw_istore_n (pc := 234) (i := 2) (L2 := [some (.ref 81), some (.int (Int32.ofInt v20_)), some (.int (Int32.ofInt 1))]) rfl (by decide) rfl d_M_goOn_234 ?_
                        refine zw_aload_n (pc := 235) (n := 0) (x := 81) rfl d_M_goOn_235 ?_
                        refine zw_dup (pc := 236) rfl d_M_goOn_236 ?_
                        refine zr_getI (hf_N90_.w hW) (pc := 237) f_M_135 rfl d_M_goOn_237 ?_
                        refine zw_iload_n (pc := 240) (n := 2) (x := Int32.ofInt 1) rfl d_M_goOn_240 ?_
                        refine zr_iadd (pc := 241) d_M_goOn_241 ?_
                        refine zr_putI (hf_N90_.w hW) (pc := 242) f_M_135 rfl rfl ⟨by omega, by omega⟩ rfl rfl d_M_goOn_242 (fun N92_ hsN92_ hvN92_ => ?_)
                        have hf_N92_ : zFr [3, 4, 5, 6, 11] [] Mz N92_ := hf_N90_.tr hsN92_ (by decide) (by decide)
                        have e2_N92_ : ze N92_ 81 2 = ze N90_ 81 2 := hsN92_.e (by decide)
                        have r3_N92_ := ze_r N92_ 81 3
                        have e4_N92_ : ze N92_ 81 4 = ze N90_ 81 4 := hsN92_.e (by decide)
                        have e5_N92_ : ze N92_ 81 5 = ze N90_ 81 5 := hsN92_.e (by decide)
                        have e6_N92_ : ze N92_ 81 6 = ze N90_ 81 6 := hsN92_.e (by decide)
                        have c93_ : zRb b_ n_ N92_ := zRb.fr hsN92_ c91_ (by decide) (by decide)
                        have hge_ := zru_ge (P := zpL) (b := b_) (n := n_) (p := s_)
                        have hge2_ := zru_ge (P := zpD) (b := b_) (n := n_) (p := s_)
                        have hfin_ : zRt b_ n_ N92_ := by first | exact zRt_L (s := s_) (by omega) hsn_ hlt_ (by omega) (fun q_ => by have w_ := hwi_ (by omega); rw [show ((1 : Int)).toNat = zru zpL b_ n_ s_ - s_ by omega] at w_; rw [← w_]; first | exact (hsN92_.g (by decide)).trans hwf_) (by omega) | exact zRt_D (s := s_) (by omega) hsn_ hnl_ hdt_ (by omega) (fun q_ => by have w_ := hwi_ (by omega); rw [show ((1 : Int)).toNat = zru zpD b_ n_ s_ - s_ by omega] at w_; omega) (by first | exact Or.inr ⟨fun q_ => by have := q_.1; omega, by omega⟩ | exact Or.inr ⟨fun q_ => q_.2 ⟨hlb_.2, hlb_.1⟩, by omega⟩ | exact Or.inl ⟨⟨by omega, hlc_⟩, by omega⟩) | exact zRt_S (s := s_) (by omega) hsn_ hnl_ hnd_ (by omega) (by omega) (by first | exact Or.inl ⟨hsg_, by omega⟩ | exact Or.inr ⟨hsg_, by omega⟩)
                        exact zr_vret (pc := 245) rfl hf_N92_ ⟨(show ze N92_ 81 4 = (zru zpB b_ n_ (ze Mz 81 3).toNat : Nat) by omega), hfin_⟩ d_M_goOn_245
                    · skip
                      have hsg_ : zpS (b_ s_) = false := by rw [← hcb_]; exact ha214_0_hp0_N86_
                      show zW l m_M_goOn (zn Mz + 0, zw Mz + 0) N17_ 217 [some (.ref 81), some (.int (Int32.ofInt v20_)), some (.int (Int32.ofInt 0))] [.int (Int32.ofInt 0), .ref 81] (zpV [3, 4, 5, 6, 11] [] Mz (fun N => ze N 81 4 = (zru zpB b_ n_ (ze Mz 81 3).toNat : Nat) ∧ zRt b_ n_ N))
                      refine zr_if_eq (pc := 217) (tgt := 224) ⟨(by decide), (by decide)⟩ (by decide) d_M_goOn_217 (fun hc_217 => ?_) (fun hc_217 => ?_)
                      · skip
                        refine zw_iconst (pc := 224) (v := Int32.ofInt 4) (by decide) d_M_goOn_224 ?_
                        refine zr_putI (hf_N17_.w hW) (pc := 225) f_M_155 rfl rfl ⟨by omega, by omega⟩ rfl rfl d_M_goOn_225 (fun N94_ hsN94_ hvN94_ => ?_)
                        have hf_N94_ : zFr [3, 4, 5, 6, 11] [] Mz N94_ := hf_N17_.tr hsN94_ (by decide) (by decide)
                        have e2_N94_ : ze N94_ 81 2 = ze N17_ 81 2 := hsN94_.e (by decide)
                        have e3_N94_ : ze N94_ 81 3 = ze N17_ 81 3 := hsN94_.e (by decide)
                        have e4_N94_ : ze N94_ 81 4 = ze N17_ 81 4 := hsN94_.e (by decide)
                        have r5_N94_ := ze_r N94_ 81 5
                        have e6_N94_ : ze N94_ 81 6 = ze N17_ 81 6 := hsN94_.e (by decide)
                        have c95_ : zRb b_ n_ N94_ := zRb.fr hsN94_ c18_ (by decide) (by decide)
                        refine zw_aload_n (pc := 228) (n := 0) (x := 81) rfl d_M_goOn_228 ?_
                        refine zw_iload_n (pc := 229) (n := 1) (x := Int32.ofInt v20_) rfl d_M_goOn_229 ?_
                        refine zr_putI (hf_N94_.w hW) (pc := 230) f_M_152 rfl rfl ⟨by omega, by omega⟩ rfl rfl d_M_goOn_230 (fun N96_ hsN96_ hvN96_ => ?_)
                        have hf_N96_ : zFr [3, 4, 5, 6, 11] [] Mz N96_ := hf_N94_.tr hsN96_ (by decide) (by decide)
                        have e2_N96_ : ze N96_ 81 2 = ze N94_ 81 2 := hsN96_.e (by decide)
                        have e3_N96_ : ze N96_ 81 3 = ze N94_ 81 3 := hsN96_.e (by decide)
                        have e4_N96_ : ze N96_ 81 4 = ze N94_ 81 4 := hsN96_.e (by decide)
                        have e5_N96_ : ze N96_ 81 5 = ze N94_ 81 5 := hsN96_.e (by decide)
                        have r6_N96_ := ze_r N96_ 81 6
                        have c97_ : zRb b_ n_ N96_ := zRb.fr hsN96_ c95_ (by decide) (by decide)
                        refine zw_iconst (pc := 233) (v := Int32.ofInt 1) (by decide) d_M_goOn_233 ?_
                        refine zw_istore_n (pc := 234) (i := 2) (L2 := [some (.ref 81), some (.int (Int32.ofInt v20_)), some (.int (Int32.ofInt 1))]) rfl (by decide) rfl d_M_goOn_234 ?_
                        refine zw_aload_n (pc := 235) (n := 0) (x := 81) rfl d_M_goOn_235 ?_
                        refine zw_dup (pc := 236) rfl d_M_goOn_236 ?_
                        refine zr_getI (hf_N96_.w hW) (pc := 237) f_M_135 rfl d_M_goOn_237 ?_
                        refine zw_iload_n (pc := 240) (n := 2) (x := Int32.ofInt 1) rfl d_M_goOn_240 ?_
                        refine zr_iadd (pc := 241) d_M_goOn_241 ?_
                        refine zr_putI (hf_N96_.w hW) (pc := 242) f_M_135 rfl rfl ⟨by omega, by omega⟩ rfl rfl d_M_goOn_242 (fun N98_ hsN98_ hvN98_ => ?_)
                        have hf_N98_ : zFr [3, 4, 5, 6, 11] [] Mz N98_ := hf_N96_.tr hsN98_ (by decide) (by decide)
                        have e2_N98_ : ze N98_ 81 2 = ze N96_ 81 2 := hsN98_.e (by decide)
                        have r3_N98_ := ze_r N98_ 81 3
                        have e4_N98_ : ze N98_ 81 4 = ze N96_ 81 4 := hsN98_.e (by decide)
                        have e5_N98_ : ze N98_ 81 5 = ze N96_ 81 5 := hsN98_.e (by decide)
                        have e6_N98_ : ze N98_ 81 6 = ze N96_ 81 6 := hsN98_.e (by decide)
                        have c99_ : zRb b_ n_ N98_ := zRb.fr hsN98_ c97_ (by decide) (by decide)
                        have hge_ := zru_ge (P := zpL) (b := b_) (n := n_) (p := s_)
                        have hge2_ := zru_ge (P := zpD) (b := b_) (n := n_) (p := s_)
                        have hfin_ : zRt b_ n_ N98_ := by first | exact zRt_L (s := s_) (by omega) hsn_ hlt_ (by omega) (fun q_ => by have w_ := hwi_ (by omega); rw [show ((1 : Int)).toNat = zru zpL b_ n_ s_ - s_ by omega] at w_; rw [← w_]; first | exact (hsN98_.g (by decide)).trans hwf_) (by omega) | exact zRt_D (s := s_) (by omega) hsn_ hnl_ hdt_ (by omega) (fun q_ => by have w_ := hwi_ (by omega); rw [show ((1 : Int)).toNat = zru zpD b_ n_ s_ - s_ by omega] at w_; omega) (by first | exact Or.inr ⟨fun q_ => by have := q_.1; omega, by omega⟩ | exact Or.inr ⟨fun q_ => q_.2 ⟨hlb_.2, hlb_.1⟩, by omega⟩ | exact Or.inl ⟨⟨by omega, hlc_⟩, by omega⟩) | exact zRt_S (s := s_) (by omega) hsn_ hnl_ hnd_ (by omega) (by omega) (by first | exact Or.inl ⟨hsg_, by omega⟩ | exact Or.inr ⟨hsg_, by omega⟩)
                        exact zr_vret (pc := 245) rfl hf_N98_ ⟨(show ze N98_ 81 4 = (zru zpB b_ n_ (ze Mz 81 3).toNat : Nat) by omega), hfin_⟩ d_M_goOn_245
                      · skip
                        exact absurd hc_217 (by decide)
                  · skip
                    exact absurd hc_139 (by decide)
              · skip
                exact absurd hc_73 (by decide)
          · skip
            refine zw_aload_n (pc := 63) (n := 0) (x := 81) rfl d_M_goOn_63 ?_
            refine zw_iconst (pc := 64) (v := Int32.ofInt 0) (by decide) d_M_goOn_64 ?_
            refine zr_putI (hf_N17_.w hW) (pc := 65) f_M_155 rfl rfl ⟨by omega, by omega⟩ rfl rfl d_M_goOn_65 (fun N100_ hsN100_ hvN100_ => ?_)
            have hf_N100_ : zFr [3, 4, 5, 6, 11] [] Mz N100_ := hf_N17_.tr hsN100_ (by decide) (by decide)
            have e2_N100_ : ze N100_ 81 2 = ze N17_ 81 2 := hsN100_.e (by decide)
            have e3_N100_ : ze N100_ 81 3 = ze N17_ 81 3 := hsN100_.e (by decide)
            have e4_N100_ : ze N100_ 81 4 = ze N17_ 81 4 := hsN100_.e (by decide)
            have r5_N100_ := ze_r N100_ 81 5
            have e6_N100_ : ze N100_ 81 6 = ze N17_ 81 6 := hsN100_.e (by decide)
            have c101_ : zRb b_ n_ N100_ := zRb.fr hsN100_ c18_ (by decide) (by decide)
            have hfin_ : zRt b_ n_ N100_ := zRt_0 (s := s_) (by omega) (by rcases hc_ with ⟨q1_, q2_, q3_, q4_⟩ | ⟨q1_, q2_⟩; exfalso; omega; omega) (by omega) (by omega)
            exact zr_vret (pc := 68) rfl hf_N100_ ⟨(show ze N100_ 81 4 = (zru zpB b_ n_ (ze Mz 81 3).toNat : Nat) by omega), hfin_⟩ d_M_goOn_68
        · skip
          have hbl_ : zhr N1_ 0 = 32 ∨ zhr N1_ 0 = 10 := by omega
          refine zw_aload_n (pc := 20) (n := 0) (x := 81) rfl d_M_goOn_20 ?_
          refine zw_dup (pc := 21) rfl d_M_goOn_21 ?_
          refine zr_getI (hf_N1_.w hW) (pc := 22) f_M_135 rfl d_M_goOn_22 ?_
          refine zw_iconst (pc := 25) (v := Int32.ofInt 1) (by decide) d_M_goOn_25 ?_
          refine zr_iadd (pc := 26) d_M_goOn_26 ?_
          refine zr_putI (hf_N1_.w hW) (pc := 27) f_M_135 rfl rfl ⟨by omega, by omega⟩ rfl rfl d_M_goOn_27 (fun N102_ hsN102_ hvN102_ => ?_)
          have hf_N102_ : zFr [3, 4, 5, 6, 11] [] Mz N102_ := hf_N1_.tr hsN102_ (by decide) (by decide)
          have hb0_N102_ : zFr [3] [] Mz N102_ := hs2_.tr hsN102_ (by decide) (by decide)
          have e2_N102_ : ze N102_ 81 2 = ze N1_ 81 2 := hsN102_.e (by decide)
          have r3_N102_ := ze_r N102_ 81 3
          have e4_N102_ : ze N102_ 81 4 = ze N1_ 81 4 := hsN102_.e (by decide)
          have e5_N102_ : ze N102_ 81 5 = ze N1_ 81 5 := hsN102_.e (by decide)
          have e6_N102_ : ze N102_ 81 6 = ze N1_ 81 6 := hsN102_.e (by decide)
          have c103_ : zRb b_ n_ N102_ := zRb.fr hsN102_ c6_ (by decide) (by decide)
          refine zw_goto (pc := 30) (tgt := 0) (by decide) d_M_goOn_30 ?_
          exact ih_0 N102_ hb0_N102_ (show 0 ≤ ze N102_ 81 3 by first | assumption | omega) (show ze N102_ 81 3 ≤ n_ by first | assumption | omega) (show zru zpB b_ n_ (ze N102_ 81 3).toNat = zru zpB b_ n_ (ze Mz 81 3).toNat by rw [show ze N102_ 81 3 = ze N1_ 81 3 + 1 by omega]; rcases hh_ with ⟨q1_, q2_, q3_, q4_⟩ | ⟨q1_, q2_⟩; exact zru_step (P := zpB) (v := zhr N1_ 0) (by omega) (by omega) (by rw [q2_, Int.add_zero]) (zpB_t.mpr hbl_) (by assumption); exfalso; omega) (by omega)
  exact lp_0 _ Mz zFr.rf (show 0 ≤ ze Mz 81 3 by first | assumption | omega) (show ze Mz 81 3 ≤ n_ by first | assumption | omega) (show zru zpB b_ n_ (ze Mz 81 3).toNat = zru zpB b_ n_ (ze Mz 81 3).toNat by rfl) (Nat.lt_succ_self _)
set_option maxHeartbeats 4000000 in
theorem c_M_isWordF (l : Launch) (Mz : zMem) (hW : zMt Mz) (a0_ : Int) (ha0_a : -9223372036854775808 ≤ a0_) (ha0_b : a0_ < 9223372036854775808) (b_ : Nat → Int) (n_ : Nat) (p0_ : zRt b_ n_ Mz) : zC l m_M_isWord 0 0 [.ref 81, .long (Int64.ofInt a0_)] Mz (zpI [] [] Mz (fun v N => (((v = 1 ∧ ze Mz 81 7 = 0 ∧ zkd b_ n_ (ze Mz 81 4).toNat = 1 ∧ zke8 b_ n_ (ze Mz 81 4).toNat = a0_) ∨ (v = 0 ∧ (ze Mz 81 7 = 0 → ¬ (zkd b_ n_ (ze Mz 81 4).toNat = 1 ∧ zke8 b_ n_ (ze Mz 81 4).toNat = a0_))))))) := by
  refine zC_of (L0 := [some (.ref 81), some (.long (Int64.ofInt a0_)), none]) md_M_isWord (Nat.le_of_ble_eq_true rfl) rfl ?_ zQ0
  have hf : zFr [] [] Mz Mz := zFr.rf
  have r_4 := ze_r Mz 81 4
  have r_5 := ze_r Mz 81 5
  have r_7 := ze_r Mz 81 7
  obtain ⟨t1_, t2_, t3_, t4_, t5_, t6_⟩ := id p0_
  refine zw_aload_n (pc := 0) (n := 0) (x := 81) rfl d_M_isWord_0 ?_
  refine zr_getI0 hf hW (pc := 1) (by decide) f_M_172 rfl d_M_isWord_1 ?_
  refine zr_if_ne (pc := 4) (tgt := 28) ⟨(ze_r Mz 81 7).1, (ze_r Mz 81 7).2⟩ (by decide) d_M_isWord_4 (fun hc_4 => ?_) (fun hc_4 => ?_)
  · skip
    refine zw_iconst (pc := 28) (v := Int32.ofInt 0) (by decide) d_M_isWord_28 ?_
    exact zr_iret (pc := 29) (ty := .boolean) rfl (z_narB (by omega)) ⟨by omega, by omega⟩ hf (show ((0 = 1 ∧ ze Mz 81 7 = 0 ∧ zkd b_ n_ (ze Mz 81 4).toNat = 1 ∧ zke8 b_ n_ (ze Mz 81 4).toNat = a0_) ∨ (0 = 0 ∧ (ze Mz 81 7 = 0 → ¬ (zkd b_ n_ (ze Mz 81 4).toNat = 1 ∧ zke8 b_ n_ (ze Mz 81 4).toNat = a0_)))) from Or.inr (⟨(show 0 = 0 by first | rfl | (intro z0_; rintro ⟨z1_, z2_⟩; have w_ := t4_ z1_; unfold zke8 at z2_; omega)), (show (ze Mz 81 7 = 0 → ¬ (zkd b_ n_ (ze Mz 81 4).toNat = 1 ∧ zke8 b_ n_ (ze Mz 81 4).toNat = a0_)) by first | rfl | (intro z0_; rintro ⟨z1_, z2_⟩; have w_ := t4_ z1_; unfold zke8 at z2_; omega))⟩)) d_M_isWord_29
  · skip
    refine zw_aload_n (pc := 7) (n := 0) (x := 81) rfl d_M_isWord_7 ?_
    refine zr_getI0 hf hW (pc := 8) (by decide) f_M_155 rfl d_M_isWord_8 ?_
    refine zw_iconst (pc := 11) (v := Int32.ofInt 1) (by decide) d_M_isWord_11 ?_
    refine zr_icmp_ne (pc := 12) (tgt := 28) ⟨(ze_r Mz 81 5).1, (ze_r Mz 81 5).2⟩ ⟨(by decide), (by decide)⟩ (by decide) d_M_isWord_12 (fun hc_12 => ?_) (fun hc_12 => ?_)
    · skip
      refine zw_iconst (pc := 28) (v := Int32.ofInt 0) (by decide) d_M_isWord_28 ?_
      exact zr_iret (pc := 29) (ty := .boolean) rfl (z_narB (by omega)) ⟨by omega, by omega⟩ hf (show ((0 = 1 ∧ ze Mz 81 7 = 0 ∧ zkd b_ n_ (ze Mz 81 4).toNat = 1 ∧ zke8 b_ n_ (ze Mz 81 4).toNat = a0_) ∨ (0 = 0 ∧ (ze Mz 81 7 = 0 → ¬ (zkd b_ n_ (ze Mz 81 4).toNat = 1 ∧ zke8 b_ n_ (ze Mz 81 4).toNat = a0_)))) from Or.inr (⟨(show 0 = 0 by first | rfl | (intro z0_; rintro ⟨z1_, z2_⟩; have w_ := t4_ z1_; unfold zke8 at z2_; omega)), (show (ze Mz 81 7 = 0 → ¬ (zkd b_ n_ (ze Mz 81 4).toNat = 1 ∧ zke8 b_ n_ (ze Mz 81 4).toNat = a0_)) by first | rfl | (intro z0_; rintro ⟨z1_, z2_⟩; have w_ := t4_ z1_; unfold zke8 at z2_; omega))⟩)) d_M_isWord_29
    · skip
      refine zw_aload_n (pc := 15) (n := 0) (x := 81) rfl d_M_isWord_15 ?_
      refine zr_getJ (hf.w hW) (pc := 16) f_M_148 rfl d_M_isWord_16 ?_
      have hr1_ := zg_r Mz 81 11
      refine zw_lload_n (pc := 19) (n := 1) (x := Int64.ofInt a0_) rfl d_M_isWord_19 ?_
      refine zr_lcmp (pc := 20) ⟨(zg_r Mz 81 11).1, (zg_r Mz 81 11).2⟩ ⟨ha0_a, ha0_b⟩ d_M_isWord_20 ?_
      have hr2_ := zcmp_s (zg Mz 81 11) a0_
      refine zr_if_ne (pc := 21) (tgt := 28) ⟨(by omega), (by omega)⟩ (by decide) d_M_isWord_21 (fun hc_21 => ?_) (fun hc_21 => ?_)
      · skip
        refine zw_iconst (pc := 28) (v := Int32.ofInt 0) (by decide) d_M_isWord_28 ?_
        exact zr_iret (pc := 29) (ty := .boolean) rfl (z_narB (by omega)) ⟨by omega, by omega⟩ hf (show ((0 = 1 ∧ ze Mz 81 7 = 0 ∧ zkd b_ n_ (ze Mz 81 4).toNat = 1 ∧ zke8 b_ n_ (ze Mz 81 4).toNat = a0_) ∨ (0 = 0 ∧ (ze Mz 81 7 = 0 → ¬ (zkd b_ n_ (ze Mz 81 4).toNat = 1 ∧ zke8 b_ n_ (ze Mz 81 4).toNat = a0_)))) from Or.inr (⟨(show 0 = 0 by first | rfl | (intro z0_; rintro ⟨z1_, z2_⟩; have w_ := t4_ z1_; unfold zke8 at z2_; omega)), (show (ze Mz 81 7 = 0 → ¬ (zkd b_ n_ (ze Mz 81 4).toNat = 1 ∧ zke8 b_ n_ (ze Mz 81 4).toNat = a0_)) by first | rfl | (intro z0_; rintro ⟨z1_, z2_⟩; have w_ := t4_ z1_; unfold zke8 at z2_; omega))⟩)) d_M_isWord_29
      · skip
        refine zw_iconst (pc := 24) (v := Int32.ofInt 1) (by decide) d_M_isWord_24 ?_
        refine zw_goto (pc := 25) (tgt := 29) (by decide) d_M_isWord_25 ?_
        exact zr_iret (pc := 29) (ty := .boolean) rfl (z_narB (by omega)) ⟨by omega, by omega⟩ hf (show ((1 = 1 ∧ ze Mz 81 7 = 0 ∧ zkd b_ n_ (ze Mz 81 4).toNat = 1 ∧ zke8 b_ n_ (ze Mz 81 4).toNat = a0_) ∨ (1 = 0 ∧ (ze Mz 81 7 = 0 → ¬ (zkd b_ n_ (ze Mz 81 4).toNat = 1 ∧ zke8 b_ n_ (ze Mz 81 4).toNat = a0_)))) from Or.inl (⟨(show 1 = 1 by first | rfl | omega | (have w_ := t4_ (by omega); unfold zke8; omega)), (show ze Mz 81 7 = 0 by first | rfl | omega | (have w_ := t4_ (by omega); unfold zke8; omega)), (show zkd b_ n_ (ze Mz 81 4).toNat = 1 by first | rfl | omega | (have w_ := t4_ (by omega); unfold zke8; omega)), (show zke8 b_ n_ (ze Mz 81 4).toNat = a0_ by first | rfl | omega | (have w_ := t4_ (by omega); unfold zke8; omega))⟩)) d_M_isWord_29
set_option maxHeartbeats 4000000 in
theorem c_M_isSignHereF (l : Launch) (Mz : zMem) (hW : zMt Mz) (a0_ : Int) (ha0_a : -2147483648 ≤ a0_) (ha0_b : a0_ < 2147483648) (b_ : Nat → Int) (n_ : Nat) (p0_ : zRt b_ n_ Mz) : zC l m_M_isSignHere 0 0 [.ref 81, .int (Int32.ofInt a0_)] Mz (zpI [] [] Mz (fun v N => (((v = 1 ∧ ze Mz 81 7 = 0 ∧ zisg b_ n_ (ze Mz 81 4).toNat a0_) ∨ (v = 0 ∧ (ze Mz 81 7 = 0 → ¬ zisg b_ n_ (ze Mz 81 4).toNat a0_)))))) := by
  refine zC_of (L0 := [some (.ref 81), some (.int (Int32.ofInt a0_))]) md_M_isSignHere (Nat.le_of_ble_eq_true rfl) rfl ?_ zQ0
  have hf : zFr [] [] Mz Mz := zFr.rf
  have r_4 := ze_r Mz 81 4
  have r_5 := ze_r Mz 81 5
  have r_6 := ze_r Mz 81 6
  have r_7 := ze_r Mz 81 7
  obtain ⟨t1_, t2_, t3_, t4_, t5_, t6_⟩ := id p0_
  refine zw_aload_n (pc := 0) (n := 0) (x := 81) rfl d_M_isSignHere_0 ?_
  refine zr_getI0 hf hW (pc := 1) (by decide) f_M_172 rfl d_M_isSignHere_1 ?_
  refine zr_if_ne (pc := 4) (tgt := 27) ⟨(ze_r Mz 81 7).1, (ze_r Mz 81 7).2⟩ (by decide) d_M_isSignHere_4 (fun hc_4 => ?_) (fun hc_4 => ?_)
  · skip
    refine zw_iconst (pc := 27) (v := Int32.ofInt 0) (by decide) d_M_isSignHere_27 ?_
    exact zr_iret (pc := 28) (ty := .boolean) rfl (z_narB (by omega)) ⟨by omega, by omega⟩ hf (show ((0 = 1 ∧ ze Mz 81 7 = 0 ∧ zisg b_ n_ (ze Mz 81 4).toNat a0_) ∨ (0 = 0 ∧ (ze Mz 81 7 = 0 → ¬ zisg b_ n_ (ze Mz 81 4).toNat a0_))) from Or.inr (⟨(show 0 = 0 by first | rfl | (intro z0_; rintro ⟨z1_, z2_⟩; have w_ := t6_ z1_; omega)), (show (ze Mz 81 7 = 0 → ¬ zisg b_ n_ (ze Mz 81 4).toNat a0_) by first | rfl | (intro z0_; rintro ⟨z1_, z2_⟩; have w_ := t6_ z1_; omega))⟩)) d_M_isSignHere_28
  · skip
    refine zw_aload_n (pc := 7) (n := 0) (x := 81) rfl d_M_isSignHere_7 ?_
    refine zr_getI0 hf hW (pc := 8) (by decide) f_M_155 rfl d_M_isSignHere_8 ?_
    refine zw_iconst (pc := 11) (v := Int32.ofInt 3) (by decide) d_M_isSignHere_11 ?_
    refine zr_icmp_ne (pc := 12) (tgt := 27) ⟨(ze_r Mz 81 5).1, (ze_r Mz 81 5).2⟩ ⟨(by decide), (by decide)⟩ (by decide) d_M_isSignHere_12 (fun hc_12 => ?_) (fun hc_12 => ?_)
    · skip
      refine zw_iconst (pc := 27) (v := Int32.ofInt 0) (by decide) d_M_isSignHere_27 ?_
      exact zr_iret (pc := 28) (ty := .boolean) rfl (z_narB (by omega)) ⟨by omega, by omega⟩ hf (show ((0 = 1 ∧ ze Mz 81 7 = 0 ∧ zisg b_ n_ (ze Mz 81 4).toNat a0_) ∨ (0 = 0 ∧ (ze Mz 81 7 = 0 → ¬ zisg b_ n_ (ze Mz 81 4).toNat a0_))) from Or.inr (⟨(show 0 = 0 by first | rfl | (intro z0_; rintro ⟨z1_, z2_⟩; have w_ := t6_ z1_; omega)), (show (ze Mz 81 7 = 0 → ¬ zisg b_ n_ (ze Mz 81 4).toNat a0_) by first | rfl | (intro z0_; rintro ⟨z1_, z2_⟩; have w_ := t6_ z1_; omega))⟩)) d_M_isSignHere_28
    · skip
      refine zw_aload_n (pc := 15) (n := 0) (x := 81) rfl d_M_isSignHere_15 ?_
      refine zr_getI0 hf hW (pc := 16) (by decide) f_M_152 rfl d_M_isSignHere_16 ?_
      refine zw_iload_n (pc := 19) (n := 1) (x := Int32.ofInt a0_) rfl d_M_isSignHere_19 ?_
      refine zr_icmp_ne (pc := 20) (tgt := 27) ⟨(ze_r Mz 81 6).1, (ze_r Mz 81 6).2⟩ ⟨ha0_a, ha0_b⟩ (by decide) d_M_isSignHere_20 (fun hc_20 => ?_) (fun hc_20 => ?_)
      · skip
        refine zw_iconst (pc := 27) (v := Int32.ofInt 0) (by decide) d_M_isSignHere_27 ?_
        exact zr_iret (pc := 28) (ty := .boolean) rfl (z_narB (by omega)) ⟨by omega, by omega⟩ hf (show ((0 = 1 ∧ ze Mz 81 7 = 0 ∧ zisg b_ n_ (ze Mz 81 4).toNat a0_) ∨ (0 = 0 ∧ (ze Mz 81 7 = 0 → ¬ zisg b_ n_ (ze Mz 81 4).toNat a0_))) from Or.inr (⟨(show 0 = 0 by first | rfl | (intro z0_; rintro ⟨z1_, z2_⟩; have w_ := t6_ z1_; omega)), (show (ze Mz 81 7 = 0 → ¬ zisg b_ n_ (ze Mz 81 4).toNat a0_) by first | rfl | (intro z0_; rintro ⟨z1_, z2_⟩; have w_ := t6_ z1_; omega))⟩)) d_M_isSignHere_28
      · skip
        refine zw_iconst (pc := 23) (v := Int32.ofInt 1) (by decide) d_M_isSignHere_23 ?_
        refine zw_goto (pc := 24) (tgt := 28) (by decide) d_M_isSignHere_24 ?_
        exact zr_iret (pc := 28) (ty := .boolean) rfl (z_narB (by omega)) ⟨by omega, by omega⟩ hf (show ((1 = 1 ∧ ze Mz 81 7 = 0 ∧ zisg b_ n_ (ze Mz 81 4).toNat a0_) ∨ (1 = 0 ∧ (ze Mz 81 7 = 0 → ¬ zisg b_ n_ (ze Mz 81 4).toNat a0_))) from Or.inl (⟨(show 1 = 1 by first | rfl | omega | exact ⟨by omega, by have w_ := t6_ (by omega); omega⟩), (show ze Mz 81 7 = 0 by first | rfl | omega | exact ⟨by omega, by have w_ := t6_ (by omega); omega⟩), (show zisg b_ n_ (ze Mz 81 4).toNat a0_ by first | rfl | omega | exact ⟨by omega, by have w_ := t6_ (by omega); omega⟩)⟩)) d_M_isSignHere_28
set_option maxHeartbeats 4000000 in
theorem c_M_isNameF (l : Launch) (Mz : zMem) (hW : zMt Mz) (b_ : Nat → Int) (n_ : Nat) (p0_ : zRt b_ n_ Mz) : zC l m_M_isName 0 0 [.ref 81] Mz (zpI [] [] Mz (fun v N => (((v = 1 ∧ zisn b_ n_ (ze Mz 81 4).toNat) ∨ (v = 0 ∧ ¬ zisn b_ n_ (ze Mz 81 4).toNat))))) := by
  refine zC_of (L0 := [some (.ref 81)]) md_M_isName (Nat.le_of_ble_eq_true rfl) rfl ?_ zQ0
  have hf : zFr [] [] Mz Mz := zFr.rf
  have r_4 := ze_r Mz 81 4
  have r_5 := ze_r Mz 81 5
  obtain ⟨t1_, t2_, t3_, t4_, t5_, t6_⟩ := id p0_
  refine zw_aload_n (pc := 0) (n := 0) (x := 81) rfl d_M_isName_0 ?_
  refine zr_getI0 hf hW (pc := 1) (by decide) f_M_155 rfl d_M_isName_1 ?_
  refine zw_iconst (pc := 4) (v := Int32.ofInt 1) (by decide) d_M_isName_4 ?_
  refine zr_icmp_ne (pc := 5) (tgt := 56) ⟨(ze_r Mz 81 5).1, (ze_r Mz 81 5).2⟩ ⟨(by decide), (by decide)⟩ (by decide) d_M_isName_5 (fun hc_5 => ?_) (fun hc_5 => ?_)
  · skip
    refine zw_iconst (pc := 56) (v := Int32.ofInt 0) (by decide) d_M_isName_56 ?_
    exact zr_iret (pc := 57) (ty := .boolean) rfl (z_narB (by omega)) ⟨by omega, by omega⟩ hf (show ((0 = 1 ∧ zisn b_ n_ (ze Mz 81 4).toNat) ∨ (0 = 0 ∧ ¬ zisn b_ n_ (ze Mz 81 4).toNat)) from Or.inr (⟨(show 0 = 0 by first | rfl | (rintro ⟨q0_, q1_, q2_, q3_, q4_⟩; have w_ := t4_ q0_; have e_ : zke8 b_ n_ (ze Mz 81 4).toNat = zg Mz 81 11 := w_.symm; first | omega | exact q1_ ((zke8_w q0_ (i := 0) (by decide)).mp (by rw [e_]; have h2_ : zkW8 0 = 123610792682867 := rfl; omega)) | exact q2_ ((zke8_w q0_ (i := 1) (by decide)).mp (by rw [e_]; have h2_ : zkW8 1 = 1836021349 := rfl; omega)) | exact q3_ ((zke8_w q0_ (i := 2) (by decide)).mp (by rw [e_]; have h2_ : zkW8 2 = 7103860 := rfl; omega)) | exact q4_ ((zke8_w q0_ (i := 3) (by decide)).mp (by rw [e_]; have h2_ : zkW8 3 = 1936683636 := rfl; omega)))), (show ¬ zisn b_ n_ (ze Mz 81 4).toNat by first | rfl | (rintro ⟨q0_, q1_, q2_, q3_, q4_⟩; have w_ := t4_ q0_; have e_ : zke8 b_ n_ (ze Mz 81 4).toNat = zg Mz 81 11 := w_.symm; first | omega | exact q1_ ((zke8_w q0_ (i := 0) (by decide)).mp (by rw [e_]; have h2_ : zkW8 0 = 123610792682867 := rfl; omega)) | exact q2_ ((zke8_w q0_ (i := 1) (by decide)).mp (by rw [e_]; have h2_ : zkW8 1 = 1836021349 := rfl; omega)) | exact q3_ ((zke8_w q0_ (i := 2) (by decide)).mp (by rw [e_]; have h2_ : zkW8 2 = 7103860 := rfl; omega)) | exact q4_ ((zke8_w q0_ (i := 3) (by decide)).mp (by rw [e_]; have h2_ : zkW8 3 = 1936683636 := rfl; omega))))⟩)) d_M_isName_57
  · skip
    refine zw_aload_n (pc := 8) (n := 0) (x := 81) rfl d_M_isName_8 ?_
    refine zr_getJ (hf.w hW) (pc := 9) f_M_148 rfl d_M_isName_9 ?_
    have hr1_ := zg_r Mz 81 11
    refine zr_ldc2 (pc := 12) (n := 123610792682867) (by decide) k_M_175 d_M_isName_12 ?_
    refine zr_lcmp (pc := 15) ⟨(zg_r Mz 81 11).1, (zg_r Mz 81 11).2⟩ ⟨(by decide), (by decide)⟩ d_M_isName_15 ?_
    have hr2_ := zcmp_s (zg Mz 81 11) 123610792682867
    refine zr_if_eq (pc := 16) (tgt := 56) ⟨(by omega), (by omega)⟩ (by decide) d_M_isName_16 (fun hc_16 => ?_) (fun hc_16 => ?_)
    · skip
      refine zw_iconst (pc := 56) (v := Int32.ofInt 0) (by decide) d_M_isName_56 ?_
      exact zr_iret (pc := 57) (ty := .boolean) rfl (z_narB (by omega)) ⟨by omega, by omega⟩ hf (show ((0 = 1 ∧ zisn b_ n_ (ze Mz 81 4).toNat) ∨ (0 = 0 ∧ ¬ zisn b_ n_ (ze Mz 81 4).toNat)) from Or.inr (⟨(show 0 = 0 by first | rfl | (rintro ⟨q0_, q1_, q2_, q3_, q4_⟩; have w_ := t4_ q0_; have e_ : zke8 b_ n_ (ze Mz 81 4).toNat = zg Mz 81 11 := w_.symm; first | omega | exact q1_ ((zke8_w q0_ (i := 0) (by decide)).mp (by rw [e_]; have h2_ : zkW8 0 = 123610792682867 := rfl; omega)) | exact q2_ ((zke8_w q0_ (i := 1) (by decide)).mp (by rw [e_]; have h2_ : zkW8 1 = 1836021349 := rfl; omega)) | exact q3_ ((zke8_w q0_ (i := 2) (by decide)).mp (by rw [e_]; have h2_ : zkW8 2 = 7103860 := rfl; omega)) | exact q4_ ((zke8_w q0_ (i := 3) (by decide)).mp (by rw [e_]; have h2_ : zkW8 3 = 1936683636 := rfl; omega)))), (show ¬ zisn b_ n_ (ze Mz 81 4).toNat by first | rfl | (rintro ⟨q0_, q1_, q2_, q3_, q4_⟩; have w_ := t4_ q0_; have e_ : zke8 b_ n_ (ze Mz 81 4).toNat = zg Mz 81 11 := w_.symm; first | omega | exact q1_ ((zke8_w q0_ (i := 0) (by decide)).mp (by rw [e_]; have h2_ : zkW8 0 = 123610792682867 := rfl; omega)) | exact q2_ ((zke8_w q0_ (i := 1) (by decide)).mp (by rw [e_]; have h2_ : zkW8 1 = 1836021349 := rfl; omega)) | exact q3_ ((zke8_w q0_ (i := 2) (by decide)).mp (by rw [e_]; have h2_ : zkW8 2 = 7103860 := rfl; omega)) | exact q4_ ((zke8_w q0_ (i := 3) (by decide)).mp (by rw [e_]; have h2_ : zkW8 3 = 1936683636 := rfl; omega))))⟩)) d_M_isName_57
    · skip
      refine zw_aload_n (pc := 19) (n := 0) (x := 81) rfl d_M_isName_19 ?_
      refine zr_getJ (hf.w hW) (pc := 20) f_M_148 rfl d_M_isName_20 ?_
      refine zr_ldc2 (pc := 23) (n := 1836021349) (by decide) k_M_177 d_M_isName_23 ?_
      refine zr_lcmp (pc := 26) ⟨(zg_r Mz 81 11).1, (zg_r Mz 81 11).2⟩ ⟨(by decide), (by decide)⟩ d_M_isName_26 ?_
      have hr3_ := zcmp_s (zg Mz 81 11) 1836021349
      refine zr_if_eq (pc := 27) (tgt := 56) ⟨(by omega), (by omega)⟩ (by decide) d_M_isName_27 (fun hc_27 => ?_) (fun hc_27 => ?_)
      · skip
        refine zw_iconst (pc := 56) (v := Int32.ofInt 0) (by decide) d_M_isName_56 ?_
        exact zr_iret (pc := 57) (ty := .boolean) rfl (z_narB (by omega)) ⟨by omega, by omega⟩ hf (show ((0 = 1 ∧ zisn b_ n_ (ze Mz 81 4).toNat) ∨ (0 = 0 ∧ ¬ zisn b_ n_ (ze Mz 81 4).toNat)) from Or.inr (⟨(show 0 = 0 by first | rfl | (rintro ⟨q0_, q1_, q2_, q3_, q4_⟩; have w_ := t4_ q0_; have e_ : zke8 b_ n_ (ze Mz 81 4).toNat = zg Mz 81 11 := w_.symm; first | omega | exact q1_ ((zke8_w q0_ (i := 0) (by decide)).mp (by rw [e_]; have h2_ : zkW8 0 = 123610792682867 := rfl; omega)) | exact q2_ ((zke8_w q0_ (i := 1) (by decide)).mp (by rw [e_]; have h2_ : zkW8 1 = 1836021349 := rfl; omega)) | exact q3_ ((zke8_w q0_ (i := 2) (by decide)).mp (by rw [e_]; have h2_ : zkW8 2 = 7103860 := rfl; omega)) | exact q4_ ((zke8_w q0_ (i := 3) (by decide)).mp (by rw [e_]; have h2_ : zkW8 3 = 1936683636 := rfl; omega)))), (show ¬ zisn b_ n_ (ze Mz 81 4).toNat by first | rfl | (rintro ⟨q0_, q1_, q2_, q3_, q4_⟩; have w_ := t4_ q0_; have e_ : zke8 b_ n_ (ze Mz 81 4).toNat = zg Mz 81 11 := w_.symm; first | omega | exact q1_ ((zke8_w q0_ (i := 0) (by decide)).mp (by rw [e_]; have h2_ : zkW8 0 = 123610792682867 := rfl; omega)) | exact q2_ ((zke8_w q0_ (i := 1) (by decide)).mp (by rw [e_]; have h2_ : zkW8 1 = 1836021349 := rfl; omega)) | exact q3_ ((zke8_w q0_ (i := 2) (by decide)).mp (by rw [e_]; have h2_ : zkW8 2 = 7103860 := rfl; omega)) | exact q4_ ((zke8_w q0_ (i := 3) (by decide)).mp (by rw [e_]; have h2_ : zkW8 3 = 1936683636 := rfl; omega))))⟩)) d_M_isName_57
      · skip
        refine zw_aload_n (pc := 30) (n := 0) (x := 81) rfl d_M_isName_30 ?_
        refine zr_getJ (hf.w hW) (pc := 31) f_M_148 rfl d_M_isName_31 ?_
        refine zr_ldc2 (pc := 34) (n := 7103860) (by decide) k_M_179 d_M_isName_34 ?_
        refine zr_lcmp (pc := 37) ⟨(zg_r Mz 81 11).1, (zg_r Mz 81 11).2⟩ ⟨(by decide), (by decide)⟩ d_M_isName_37 ?_
        have hr4_ := zcmp_s (zg Mz 81 11) 7103860
        refine zr_if_eq (pc := 38) (tgt := 56) ⟨(by omega), (by omega)⟩ (by decide) d_M_isName_38 (fun hc_38 => ?_) (fun hc_38 => ?_)
        · skip
          refine zw_iconst (pc := 56) (v := Int32.ofInt 0) (by decide) d_M_isName_56 ?_
          exact zr_iret (pc := 57) (ty := .boolean) rfl (z_narB (by omega)) ⟨by omega, by omega⟩ hf (show ((0 = 1 ∧ zisn b_ n_ (ze Mz 81 4).toNat) ∨ (0 = 0 ∧ ¬ zisn b_ n_ (ze Mz 81 4).toNat)) from Or.inr (⟨(show 0 = 0 by first | rfl | (rintro ⟨q0_, q1_, q2_, q3_, q4_⟩; have w_ := t4_ q0_; have e_ : zke8 b_ n_ (ze Mz 81 4).toNat = zg Mz 81 11 := w_.symm; first | omega | exact q1_ ((zke8_w q0_ (i := 0) (by decide)).mp (by rw [e_]; have h2_ : zkW8 0 = 123610792682867 := rfl; omega)) | exact q2_ ((zke8_w q0_ (i := 1) (by decide)).mp (by rw [e_]; have h2_ : zkW8 1 = 1836021349 := rfl; omega)) | exact q3_ ((zke8_w q0_ (i := 2) (by decide)).mp (by rw [e_]; have h2_ : zkW8 2 = 7103860 := rfl; omega)) | exact q4_ ((zke8_w q0_ (i := 3) (by decide)).mp (by rw [e_]; have h2_ : zkW8 3 = 1936683636 := rfl; omega)))), (show ¬ zisn b_ n_ (ze Mz 81 4).toNat by first | rfl | (rintro ⟨q0_, q1_, q2_, q3_, q4_⟩; have w_ := t4_ q0_; have e_ : zke8 b_ n_ (ze Mz 81 4).toNat = zg Mz 81 11 := w_.symm; first | omega | exact q1_ ((zke8_w q0_ (i := 0) (by decide)).mp (by rw [e_]; have h2_ : zkW8 0 = 123610792682867 := rfl; omega)) | exact q2_ ((zke8_w q0_ (i := 1) (by decide)).mp (by rw [e_]; have h2_ : zkW8 1 = 1836021349 := rfl; omega)) | exact q3_ ((zke8_w q0_ (i := 2) (by decide)).mp (by rw [e_]; have h2_ : zkW8 2 = 7103860 := rfl; omega)) | exact q4_ ((zke8_w q0_ (i := 3) (by decide)).mp (by rw [e_]; have h2_ : zkW8 3 = 1936683636 := rfl; omega))))⟩)) d_M_isName_57
        · skip
          refine zw_aload_n (pc := 41) (n := 0) (x := 81) rfl d_M_isName_41 ?_
          refine zr_getJ (hf.w hW) (pc := 42) f_M_148 rfl d_M_isName_42 ?_
          refine zr_ldc2 (pc := 45) (n := 1936683636) (by decide) k_M_181 d_M_isName_45 ?_
          refine zr_lcmp (pc := 48) ⟨(zg_r Mz 81 11).1, (zg_r Mz 81 11).2⟩ ⟨(by decide), (by decide)⟩ d_M_isName_48 ?_
          have hr5_ := zcmp_s (zg Mz 81 11) 1936683636
          refine zr_if_eq (pc := 49) (tgt := 56) ⟨(by omega), (by omega)⟩ (by decide) d_M_isName_49 (fun hc_49 => ?_) (fun hc_49 => ?_)
          · skip
            refine zw_iconst (pc := 56) (v := Int32.ofInt 0) (by decide) d_M_isName_56 ?_
            exact zr_iret (pc := 57) (ty := .boolean) rfl (z_narB (by omega)) ⟨by omega, by omega⟩ hf (show ((0 = 1 ∧ zisn b_ n_ (ze Mz 81 4).toNat) ∨ (0 = 0 ∧ ¬ zisn b_ n_ (ze Mz 81 4).toNat)) from Or.inr (⟨(show 0 = 0 by first | rfl | (rintro ⟨q0_, q1_, q2_, q3_, q4_⟩; have w_ := t4_ q0_; have e_ : zke8 b_ n_ (ze Mz 81 4).toNat = zg Mz 81 11 := w_.symm; first | omega | exact q1_ ((zke8_w q0_ (i := 0) (by decide)).mp (by rw [e_]; have h2_ : zkW8 0 = 123610792682867 := rfl; omega)) | exact q2_ ((zke8_w q0_ (i := 1) (by decide)).mp (by rw [e_]; have h2_ : zkW8 1 = 1836021349 := rfl; omega)) | exact q3_ ((zke8_w q0_ (i := 2) (by decide)).mp (by rw [e_]; have h2_ : zkW8 2 = 7103860 := rfl; omega)) | exact q4_ ((zke8_w q0_ (i := 3) (by decide)).mp (by rw [e_]; have h2_ : zkW8 3 = 1936683636 := rfl; omega)))), (show ¬ zisn b_ n_ (ze Mz 81 4).toNat by first | rfl | (rintro ⟨q0_, q1_, q2_, q3_, q4_⟩; have w_ := t4_ q0_; have e_ : zke8 b_ n_ (ze Mz 81 4).toNat = zg Mz 81 11 := w_.symm; first | omega | exact q1_ ((zke8_w q0_ (i := 0) (by decide)).mp (by rw [e_]; have h2_ : zkW8 0 = 123610792682867 := rfl; omega)) | exact q2_ ((zke8_w q0_ (i := 1) (by decide)).mp (by rw [e_]; have h2_ : zkW8 1 = 1836021349 := rfl; omega)) | exact q3_ ((zke8_w q0_ (i := 2) (by decide)).mp (by rw [e_]; have h2_ : zkW8 2 = 7103860 := rfl; omega)) | exact q4_ ((zke8_w q0_ (i := 3) (by decide)).mp (by rw [e_]; have h2_ : zkW8 3 = 1936683636 := rfl; omega))))⟩)) d_M_isName_57
          · skip
            refine zw_iconst (pc := 52) (v := Int32.ofInt 1) (by decide) d_M_isName_52 ?_
            refine zw_goto (pc := 53) (tgt := 57) (by decide) d_M_isName_53 ?_
            exact zr_iret (pc := 57) (ty := .boolean) rfl (z_narB (by omega)) ⟨by omega, by omega⟩ hf (show ((1 = 1 ∧ zisn b_ n_ (ze Mz 81 4).toNat) ∨ (1 = 0 ∧ ¬ zisn b_ n_ (ze Mz 81 4).toNat)) from Or.inl (⟨(show 1 = 1 by first | rfl | (have k_ : zkd b_ n_ (ze Mz 81 4).toNat = 1 := (by omega); have w_ := t4_ k_; have e_ : zke8 b_ n_ (ze Mz 81 4).toNat = zg Mz 81 11 := w_.symm; exact ⟨k_, fun q_ => by have h_ := (zke8_w k_ (i := 0) (by decide)).mpr q_; rw [e_] at h_; have h2_ : zkW8 0 = 123610792682867 := rfl; omega, fun q_ => by have h_ := (zke8_w k_ (i := 1) (by decide)).mpr q_; rw [e_] at h_; have h2_ : zkW8 1 = 1836021349 := rfl; omega, fun q_ => by have h_ := (zke8_w k_ (i := 2) (by decide)).mpr q_; rw [e_] at h_; have h2_ : zkW8 2 = 7103860 := rfl; omega, fun q_ => by have h_ := (zke8_w k_ (i := 3) (by decide)).mpr q_; rw [e_] at h_; have h2_ : zkW8 3 = 1936683636 := rfl; omega⟩)), (show zisn b_ n_ (ze Mz 81 4).toNat by first | rfl | (have k_ : zkd b_ n_ (ze Mz 81 4).toNat = 1 := (by omega); have w_ := t4_ k_; have e_ : zke8 b_ n_ (ze Mz 81 4).toNat = zg Mz 81 11 := w_.symm; exact ⟨k_, fun q_ => by have h_ := (zke8_w k_ (i := 0) (by decide)).mpr q_; rw [e_] at h_; have h2_ : zkW8 0 = 123610792682867 := rfl; omega, fun q_ => by have h_ := (zke8_w k_ (i := 1) (by decide)).mpr q_; rw [e_] at h_; have h2_ : zkW8 1 = 1836021349 := rfl; omega, fun q_ => by have h_ := (zke8_w k_ (i := 2) (by decide)).mpr q_; rw [e_] at h_; have h2_ : zkW8 2 = 7103860 := rfl; omega, fun q_ => by have h_ := (zke8_w k_ (i := 3) (by decide)).mpr q_; rw [e_] at h_; have h2_ : zkW8 3 = 1936683636 := rfl; omega⟩))⟩)) d_M_isName_57
set_option maxHeartbeats 4000000 in
theorem c_M_wrongAtF (l : Launch) (Mz : zMem) (hW : zMt Mz) (a0_ : Int) (ha0_a : -2147483648 ≤ a0_) (ha0_b : a0_ < 2147483648) (a1_ : Int) (ha1_a : -2147483648 ≤ a1_) (ha1_b : a1_ < 2147483648) (p0_ : 1 ≤ a0_) : zC l m_M_wrongAt 0 0 [.ref 81, .int (Int32.ofInt a0_), .int (Int32.ofInt a1_)] Mz (zpV [7, 8] [] Mz (fun N => 1 ≤ ze N 81 7)) := by
  refine zC_of (L0 := [some (.ref 81), some (.int (Int32.ofInt a0_)), some (.int (Int32.ofInt a1_))]) md_M_wrongAt (Nat.le_of_ble_eq_true rfl) rfl ?_ zQ0
  have hf : zFr [7, 8] [] Mz Mz := zFr.rf
  have r_7 := ze_r Mz 81 7
  have r_8 := ze_r Mz 81 8
  refine zw_aload_n (pc := 0) (n := 0) (x := 81) rfl d_M_wrongAt_0 ?_
  refine zr_getI (hf.w hW) (pc := 1) f_M_172 rfl d_M_wrongAt_1 ?_
  refine zr_if_le (pc := 4) (tgt := 8) ⟨(ze_r Mz 81 7).1, (ze_r Mz 81 7).2⟩ (by decide) d_M_wrongAt_4 (fun hc_4 => ?_) (fun hc_4 => ?_)
  · skip
    refine zw_aload_n (pc := 8) (n := 0) (x := 81) rfl d_M_wrongAt_8 ?_
    refine zw_iload_n (pc := 9) (n := 1) (x := Int32.ofInt a0_) rfl d_M_wrongAt_9 ?_
    refine zr_putI (hf.w hW) (pc := 10) f_M_172 rfl rfl ⟨by omega, by omega⟩ rfl rfl d_M_wrongAt_10 (fun N1_ hsN1_ hvN1_ => ?_)
    have hf_N1_ : zFr [7, 8] [] Mz N1_ := hf.tr hsN1_ (by decide) (by decide)
    have r7_N1_ := ze_r N1_ 81 7
    have e8_N1_ : ze N1_ 81 8 = ze Mz 81 8 := hsN1_.e (by decide)
    refine zw_aload_n (pc := 13) (n := 0) (x := 81) rfl d_M_wrongAt_13 ?_
    refine zw_iload_n (pc := 14) (n := 2) (x := Int32.ofInt a1_) rfl d_M_wrongAt_14 ?_
    refine zr_putI (hf_N1_.w hW) (pc := 15) f_M_13 rfl rfl ⟨by omega, by omega⟩ rfl rfl d_M_wrongAt_15 (fun N2_ hsN2_ hvN2_ => ?_)
    have hf_N2_ : zFr [7, 8] [] Mz N2_ := hf_N1_.tr hsN2_ (by decide) (by decide)
    have e7_N2_ : ze N2_ 81 7 = ze N1_ 81 7 := hsN2_.e (by decide)
    have r8_N2_ := ze_r N2_ 81 8
    exact zr_vret (pc := 18) rfl hf_N2_ (show 1 ≤ ze N2_ 81 7 by first | assumption | omega) d_M_wrongAt_18
  · skip
    exact zr_vret (pc := 7) rfl hf (show 1 ≤ ze Mz 81 7 by first | assumption | omega) d_M_wrongAt_7
set_option maxHeartbeats 4000000 in
theorem c_M_wrongF (l : Launch) (Mz : zMem) (hW : zMt Mz) (a0_ : Int) (ha0_a : -2147483648 ≤ a0_) (ha0_b : a0_ < 2147483648) (p0_ : 1 ≤ a0_) : zC l m_M_wrong 0 0 [.ref 81, .int (Int32.ofInt a0_)] Mz (zpV [7, 8] [] Mz (fun N => 1 ≤ ze N 81 7)) := by
  refine zC_of (L0 := [some (.ref 81), some (.int (Int32.ofInt a0_))]) md_M_wrong (Nat.le_of_ble_eq_true rfl) rfl ?_ zQ0
  have hf : zFr [7, 8] [] Mz Mz := zFr.rf
  have r_4 := ze_r Mz 81 4
  have r_5 := ze_r Mz 81 5
  have r_7 := ze_r Mz 81 7
  refine zw_aload_n (pc := 0) (n := 0) (x := 81) rfl d_M_wrong_0 ?_
  refine zw_aload_n (pc := 1) (n := 0) (x := 81) rfl d_M_wrong_1 ?_
  refine zr_getI0 hf hW (pc := 2) (by decide) f_M_155 rfl d_M_wrong_2 ?_
  refine zw_iconst (pc := 5) (v := Int32.ofInt 4) (by decide) d_M_wrong_5 ?_
  refine zr_icmp_ne (pc := 6) (tgt := 13) ⟨(ze_r Mz 81 5).1, (ze_r Mz 81 5).2⟩ ⟨(by decide), (by decide)⟩ (by decide) d_M_wrong_6 (fun hc_6 => ?_) (fun hc_6 => ?_)
  · skip
    refine zw_iload_n (pc := 13) (n := 1) (x := Int32.ofInt a0_) rfl d_M_wrong_13 ?_
    refine zw_aload_n (pc := 14) (n := 0) (x := 81) rfl d_M_wrong_14 ?_
    refine zr_getI0 hf hW (pc := 15) (by decide) f_M_145 rfl d_M_wrong_15 ?_
    refine zr_callV (hf.w hW) hf.x (pc := 18) [.int (Int32.ofInt a0_), .int (Int32.ofInt (ze Mz 81 4))] [] l_M_168 (c_M_wrongAtF l Mz (hf.w hW) a0_ ha0_a ha0_b (ze Mz 81 4) (ze_r Mz 81 4).1 (ze_r Mz 81 4).2 (show 1 ≤ a0_ by first | assumption | omega)) rfl rfl rfl (by decide) (Nat.le_of_ble_eq_true rfl) d_M_wrong_18 ?_
    rintro _ N1_ ⟨rfl, hsN1_, hp0_N1_⟩
    replace hp0_N1_ : 1 ≤ ze N1_ 81 7 := hp0_N1_
    have hf_N1_ : zFr [7, 8] [] Mz N1_ := hf.tr hsN1_ (by decide) (by decide)
    have e4_N1_ : ze N1_ 81 4 = ze Mz 81 4 := hsN1_.e (by decide)
    have e5_N1_ : ze N1_ 81 5 = ze Mz 81 5 := hsN1_.e (by decide)
    have r7_N1_ := ze_r N1_ 81 7
    show zW l m_M_wrong (zn Mz + 0, zw Mz + 0) N1_ 21 [some (.ref 81), some (.int (Int32.ofInt a0_))] [] (zpV [7, 8] [] Mz (fun N => 1 ≤ ze N 81 7))
    exact zr_vret (pc := 21) rfl hf_N1_ (show 1 ≤ ze N1_ 81 7 by first | assumption | omega) d_M_wrong_21
  · skip
    refine zw_iconst (pc := 9) (v := Int32.ofInt 1) (by decide) d_M_wrong_9 ?_
    refine zw_goto (pc := 10) (tgt := 14) (by decide) d_M_wrong_10 ?_
    refine zw_aload_n (pc := 14) (n := 0) (x := 81) rfl d_M_wrong_14 ?_
    refine zr_getI0 hf hW (pc := 15) (by decide) f_M_145 rfl d_M_wrong_15 ?_
    refine zr_callV (hf.w hW) hf.x (pc := 18) [.int (Int32.ofInt 1), .int (Int32.ofInt (ze Mz 81 4))] [] l_M_168 (c_M_wrongAtF l Mz (hf.w hW) 1 (by decide) (by decide) (ze Mz 81 4) (ze_r Mz 81 4).1 (ze_r Mz 81 4).2 (show 1 ≤ 1 by first | assumption | omega)) rfl rfl rfl (by decide) (Nat.le_of_ble_eq_true rfl) d_M_wrong_18 ?_
    rintro _ N3_ ⟨rfl, hsN3_, hp0_N3_⟩
    replace hp0_N3_ : 1 ≤ ze N3_ 81 7 := hp0_N3_
    have hf_N3_ : zFr [7, 8] [] Mz N3_ := hf.tr hsN3_ (by decide) (by decide)
    have e4_N3_ : ze N3_ 81 4 = ze Mz 81 4 := hsN3_.e (by decide)
    have e5_N3_ : ze N3_ 81 5 = ze Mz 81 5 := hsN3_.e (by decide)
    have r7_N3_ := ze_r N3_ 81 7
    show zW l m_M_wrong (zn Mz + 0, zw Mz + 0) N3_ 21 [some (.ref 81), some (.int (Int32.ofInt a0_))] [] (zpV [7, 8] [] Mz (fun N => 1 ≤ ze N 81 7))
    exact zr_vret (pc := 21) rfl hf_N3_ (show 1 ≤ ze N3_ 81 7 by first | assumption | omega) d_M_wrong_21
set_option maxHeartbeats 4000000 in
theorem c_M_mustF (l : Launch) (Mz : zMem) (hW : zMt Mz) (a0_ : Int) (ha0_a : -2147483648 ≤ a0_) (ha0_b : a0_ < 2147483648) (b_ : Nat → Int) (n_ : Nat) (p0_ : zRb b_ n_ Mz) (p1_ : zRt b_ n_ Mz) (p2_ : 0 ≤ ze Mz 81 7) : zC l m_M_must 0 0 [.ref 81, .int (Int32.ofInt a0_)] Mz (zpV [3, 4, 5, 6, 7, 8, 11] [] Mz (fun N => zRt b_ n_ N ∧ (((1 ≤ ze N 81 7 ∧ (ze Mz 81 7 = 0 → ¬ zisg b_ n_ (ze Mz 81 4).toNat a0_)) ∨ (ze N 81 7 = 0 ∧ ze Mz 81 7 = 0 ∧ zisg b_ n_ (ze Mz 81 4).toNat a0_ ∧ (ze N 81 4).toNat = znx b_ n_ (ze Mz 81 4).toNat))))) := by
  refine zC_of (L0 := [some (.ref 81), some (.int (Int32.ofInt a0_))]) md_M_must (Nat.le_of_ble_eq_true rfl) rfl ?_ zQ0
  have hf : zFr [3, 4, 5, 6, 7, 8, 11] [] Mz Mz := zFr.rf
  have r_3 := ze_r Mz 81 3
  have r_4 := ze_r Mz 81 4
  have r_7 := ze_r Mz 81 7
  refine zw_aload_n (pc := 0) (n := 0) (x := 81) rfl d_M_must_0 ?_
  refine zr_callV (hf.w hW) hf.x (pc := 1) [] [] l_M_183 (c_M_isGood l Mz (hf.w hW) ) rfl rfl rfl (by decide) (Nat.le_of_ble_eq_true rfl) d_M_must_1 ?_
  rintro _ N1_ ⟨v2_, rfl, ⟨hv2_a, hv2_b⟩, hsN1_, hp0_N1_⟩
  obtain rfl := hsN1_.eq.symm
  replace hp0_N1_ : ((v2_ = 1 ∧ ze Mz 81 7 = 0) ∨ (v2_ = 0 ∧ ze Mz 81 7 ≠ 0)) := hp0_N1_
  rcases hp0_N1_ with ⟨rfl, ha1_0_hp0_N1_⟩ | ⟨rfl, ha1_0_hp0_N1_⟩
  · skip
    show zW l m_M_must (zn Mz + 0, zw Mz + 0) Mz 4 [some (.ref 81), some (.int (Int32.ofInt a0_))] [.int (Int32.ofInt 1)] (zpV [3, 4, 5, 6, 7, 8, 11] [] Mz (fun N => zRt b_ n_ N ∧ (((1 ≤ ze N 81 7 ∧ (ze Mz 81 7 = 0 → ¬ zisg b_ n_ (ze Mz 81 4).toNat a0_)) ∨ (ze N 81 7 = 0 ∧ ze Mz 81 7 = 0 ∧ zisg b_ n_ (ze Mz 81 4).toNat a0_ ∧ (ze N 81 4).toNat = znx b_ n_ (ze Mz 81 4).toNat)))))
    refine zr_if_eq (pc := 4) (tgt := 20) ⟨(by decide), (by decide)⟩ (by decide) d_M_must_4 (fun hc_4 => ?_) (fun hc_4 => ?_)
    · skip
      exact absurd hc_4 (by decide)
    · skip
      refine zw_aload_n (pc := 7) (n := 0) (x := 81) rfl d_M_must_7 ?_
      refine zw_iload_n (pc := 8) (n := 1) (x := Int32.ofInt a0_) rfl d_M_must_8 ?_
      refine zr_callV (hf.w hW) hf.x (pc := 9) [.int (Int32.ofInt a0_)] [] l_M_187 (c_M_isSignHereF l Mz (hf.w hW) a0_ ha0_a ha0_b b_ n_ p1_) rfl rfl rfl (by decide) (Nat.le_of_ble_eq_true rfl) d_M_must_9 ?_
      rintro _ N3_ ⟨v4_, rfl, ⟨hv4_a, hv4_b⟩, hsN3_, hp0_N3_⟩
      obtain rfl := hsN3_.eq.symm
      replace hp0_N3_ : ((v4_ = 1 ∧ ze Mz 81 7 = 0 ∧ zisg b_ n_ (ze Mz 81 4).toNat a0_) ∨ (v4_ = 0 ∧ (ze Mz 81 7 = 0 → ¬ zisg b_ n_ (ze Mz 81 4).toNat a0_))) := hp0_N3_
      rcases hp0_N3_ with ⟨rfl, ha9_0_hp0_N3_, ha9_1_hp0_N3_⟩ | ⟨rfl, ha9_0_hp0_N3_⟩
      · skip
        have hsg_ := ha9_1_hp0_N3_
        show zW l m_M_must (zn Mz + 0, zw Mz + 0) Mz 12 [some (.ref 81), some (.int (Int32.ofInt a0_))] [.int (Int32.ofInt 1)] (zpV [3, 4, 5, 6, 7, 8, 11] [] Mz (fun N => zRt b_ n_ N ∧ (((1 ≤ ze N 81 7 ∧ (ze Mz 81 7 = 0 → ¬ zisg b_ n_ (ze Mz 81 4).toNat a0_)) ∨ (ze N 81 7 = 0 ∧ ze Mz 81 7 = 0 ∧ zisg b_ n_ (ze Mz 81 4).toNat a0_ ∧ (ze N 81 4).toNat = znx b_ n_ (ze Mz 81 4).toNat)))))
        refine zr_if_ne (pc := 12) (tgt := 20) ⟨(by decide), (by decide)⟩ (by decide) d_M_must_12 (fun hc_12 => ?_) (fun hc_12 => ?_)
        · skip
          refine zw_aload_n (pc := 20) (n := 0) (x := 81) rfl d_M_must_20 ?_
          refine zr_callV (hf.w hW) hf.x (pc := 21) [] [] l_M_183 (c_M_isGood l Mz (hf.w hW) ) rfl rfl rfl (by decide) (Nat.le_of_ble_eq_true rfl) d_M_must_21 ?_
          rintro _ N5_ ⟨v6_, rfl, ⟨hv6_a, hv6_b⟩, hsN5_, hp0_N5_⟩
          obtain rfl := hsN5_.eq.symm
          replace hp0_N5_ : ((v6_ = 1 ∧ ze Mz 81 7 = 0) ∨ (v6_ = 0 ∧ ze Mz 81 7 ≠ 0)) := hp0_N5_
          rcases hp0_N5_ with ⟨rfl, ha21_0_hp0_N5_⟩ | ⟨rfl, ha21_0_hp0_N5_⟩
          · skip
            show zW l m_M_must (zn Mz + 0, zw Mz + 0) Mz 24 [some (.ref 81), some (.int (Int32.ofInt a0_))] [.int (Int32.ofInt 1)] (zpV [3, 4, 5, 6, 7, 8, 11] [] Mz (fun N => zRt b_ n_ N ∧ (((1 ≤ ze N 81 7 ∧ (ze Mz 81 7 = 0 → ¬ zisg b_ n_ (ze Mz 81 4).toNat a0_)) ∨ (ze N 81 7 = 0 ∧ ze Mz 81 7 = 0 ∧ zisg b_ n_ (ze Mz 81 4).toNat a0_ ∧ (ze N 81 4).toNat = znx b_ n_ (ze Mz 81 4).toNat)))))
            refine zr_if_eq (pc := 24) (tgt := 31) ⟨(by decide), (by decide)⟩ (by decide) d_M_must_24 (fun hc_24 => ?_) (fun hc_24 => ?_)
            · skip
              exact absurd hc_24 (by decide)
            · skip
              have hyt_ := p1_
              have hyx_ := hyt_.x
              refine zw_aload_n (pc := 27) (n := 0) (x := 81) rfl d_M_must_27 ?_
              refine zr_callV (hf.w hW) hf.x (pc := 28) [] [] l_M_193 (c_M_goOnF l Mz (hf.w hW) b_ n_ p0_ (show 0 ≤ ze Mz 81 3 by first | assumption | omega) (show ze Mz 81 3 ≤ n_ by first | assumption | omega)) rfl rfl rfl (by decide) (Nat.le_of_ble_eq_true rfl) d_M_must_28 ?_
              rintro _ N7_ ⟨rfl, hsN7_, ⟨hp0_N7_, hp1_N7_⟩⟩
              have hf_N7_ : zFr [3, 4, 5, 6, 7, 8, 11] [] Mz N7_ := hf.tr hsN7_ (by decide) (by decide)
              have r3_N7_ := ze_r N7_ 81 3
              have r4_N7_ := ze_r N7_ 81 4
              have e7_N7_ : ze N7_ 81 7 = ze Mz 81 7 := hsN7_.e (by decide)
              have c9_ : zRb b_ n_ N7_ := zRb.fr hsN7_ p0_ (by decide) (by decide)
              show zW l m_M_must (zn Mz + 0, zw Mz + 0) N7_ 31 [some (.ref 81), some (.int (Int32.ofInt a0_))] [] (zpV [3, 4, 5, 6, 7, 8, 11] [] Mz (fun N => zRt b_ n_ N ∧ (((1 ≤ ze N 81 7 ∧ (ze Mz 81 7 = 0 → ¬ zisg b_ n_ (ze Mz 81 4).toNat a0_)) ∨ (ze N 81 7 = 0 ∧ ze Mz 81 7 = 0 ∧ zisg b_ n_ (ze Mz 81 4).toNat a0_ ∧ (ze N 81 4).toNat = znx b_ n_ (ze Mz 81 4).toNat)))))
              have hnn_ := hyt_.nx hp0_N7_
              exact zr_vret (pc := 31) rfl hf_N7_ ⟨hp1_N7_, (show ((1 ≤ ze N7_ 81 7 ∧ (ze Mz 81 7 = 0 → ¬ zisg b_ n_ (ze Mz 81 4).toNat a0_)) ∨ (ze N7_ 81 7 = 0 ∧ ze Mz 81 7 = 0 ∧ zisg b_ n_ (ze Mz 81 4).toNat a0_ ∧ (ze N7_ 81 4).toNat = znx b_ n_ (ze Mz 81 4).toNat)) from Or.inr (⟨(show ze N7_ 81 7 = 0 by first | omega | exact hsg_ | exact hnn_.2.trans (by rw [show ze Mz 81 4 = ze Mz 81 4 by omega])), (show ze Mz 81 7 = 0 by first | omega | exact hsg_ | exact hnn_.2.trans (by rw [show ze Mz 81 4 = ze Mz 81 4 by omega])), (show zisg b_ n_ (ze Mz 81 4).toNat a0_ by first | omega | exact hsg_ | exact hnn_.2.trans (by rw [show ze Mz 81 4 = ze Mz 81 4 by omega])), (show (ze N7_ 81 4).toNat = znx b_ n_ (ze Mz 81 4).toNat by first | omega | exact hsg_ | exact hnn_.2.trans (by rw [show ze Mz 81 4 = ze Mz 81 4 by omega]))⟩))⟩ d_M_must_31
          · skip
            exfalso; omega
        · skip
          exact absurd hc_12 (by decide)
      · skip
        have hns_ := ha9_0_hp0_N3_
        show zW l m_M_must (zn Mz + 0, zw Mz + 0) Mz 12 [some (.ref 81), some (.int (Int32.ofInt a0_))] [.int (Int32.ofInt 0)] (zpV [3, 4, 5, 6, 7, 8, 11] [] Mz (fun N => zRt b_ n_ N ∧ (((1 ≤ ze N 81 7 ∧ (ze Mz 81 7 = 0 → ¬ zisg b_ n_ (ze Mz 81 4).toNat a0_)) ∨ (ze N 81 7 = 0 ∧ ze Mz 81 7 = 0 ∧ zisg b_ n_ (ze Mz 81 4).toNat a0_ ∧ (ze N 81 4).toNat = znx b_ n_ (ze Mz 81 4).toNat)))))
        refine zr_if_ne (pc := 12) (tgt := 20) ⟨(by decide), (by decide)⟩ (by decide) d_M_must_12 (fun hc_12 => ?_) (fun hc_12 => ?_)
        · skip
          exact absurd hc_12 (by decide)
        · skip
          refine zw_aload_n (pc := 15) (n := 0) (x := 81) rfl d_M_must_15 ?_
          refine zw_iconst (pc := 16) (v := Int32.ofInt 2) (by decide) d_M_must_16 ?_
          refine zr_callV (hf.w hW) hf.x (pc := 17) [.int (Int32.ofInt 2)] [] l_M_190 (c_M_wrongF l Mz (hf.w hW) 2 (by decide) (by decide) (show 1 ≤ 2 by first | assumption | omega)) rfl rfl rfl (by decide) (Nat.le_of_ble_eq_true rfl) d_M_must_17 ?_
          rintro _ N10_ ⟨rfl, hsN10_, hp0_N10_⟩
          replace hp0_N10_ : 1 ≤ ze N10_ 81 7 := hp0_N10_
          have hf_N10_ : zFr [3, 4, 5, 6, 7, 8, 11] [] Mz N10_ := hf.tr hsN10_ (by decide) (by decide)
          have e3_N10_ : ze N10_ 81 3 = ze Mz 81 3 := hsN10_.e (by decide)
          have e4_N10_ : ze N10_ 81 4 = ze Mz 81 4 := hsN10_.e (by decide)
          have r7_N10_ := ze_r N10_ 81 7
          have c12_ : zRb b_ n_ N10_ := zRb.fr hsN10_ p0_ (by decide) (by decide)
          have c13_ : zRt b_ n_ N10_ := zRt.fr hsN10_ p1_ (by decide) (by decide)
          show zW l m_M_must (zn Mz + 0, zw Mz + 0) N10_ 20 [some (.ref 81), some (.int (Int32.ofInt a0_))] [] (zpV [3, 4, 5, 6, 7, 8, 11] [] Mz (fun N => zRt b_ n_ N ∧ (((1 ≤ ze N 81 7 ∧ (ze Mz 81 7 = 0 → ¬ zisg b_ n_ (ze Mz 81 4).toNat a0_)) ∨ (ze N 81 7 = 0 ∧ ze Mz 81 7 = 0 ∧ zisg b_ n_ (ze Mz 81 4).toNat a0_ ∧ (ze N 81 4).toNat = znx b_ n_ (ze Mz 81 4).toNat)))))
          refine zw_aload_n (pc := 20) (n := 0) (x := 81) rfl d_M_must_20 ?_
          refine zr_callV (hf_N10_.w hW) hf_N10_.x (pc := 21) [] [] l_M_183 (c_M_isGood l N10_ (hf_N10_.w hW) ) rfl rfl rfl (by decide) (Nat.le_of_ble_eq_true rfl) d_M_must_21 ?_
          rintro _ N14_ ⟨v15_, rfl, ⟨hv15_a, hv15_b⟩, hsN14_, hp0_N14_⟩
          obtain rfl := hsN14_.eq.symm
          replace hp0_N14_ : ((v15_ = 1 ∧ ze N10_ 81 7 = 0) ∨ (v15_ = 0 ∧ ze N10_ 81 7 ≠ 0)) := hp0_N14_
          rcases hp0_N14_ with ⟨rfl, ha21_0_hp0_N14_⟩ | ⟨rfl, ha21_0_hp0_N14_⟩
          · skip
            exfalso; omega
          · skip
            show zW l m_M_must (zn Mz + 0, zw Mz + 0) N10_ 24 [some (.ref 81), some (.int (Int32.ofInt a0_))] [.int (Int32.ofInt 0)] (zpV [3, 4, 5, 6, 7, 8, 11] [] Mz (fun N => zRt b_ n_ N ∧ (((1 ≤ ze N 81 7 ∧ (ze Mz 81 7 = 0 → ¬ zisg b_ n_ (ze Mz 81 4).toNat a0_)) ∨ (ze N 81 7 = 0 ∧ ze Mz 81 7 = 0 ∧ zisg b_ n_ (ze Mz 81 4).toNat a0_ ∧ (ze N 81 4).toNat = znx b_ n_ (ze Mz 81 4).toNat)))))
            refine zr_if_eq (pc := 24) (tgt := 31) ⟨(by decide), (by decide)⟩ (by decide) d_M_must_24 (fun hc_24 => ?_) (fun hc_24 => ?_)
            · skip
              exact zr_vret (pc := 31) rfl hf_N10_ ⟨c13_, (show ((1 ≤ ze N10_ 81 7 ∧ (ze Mz 81 7 = 0 → ¬ zisg b_ n_ (ze Mz 81 4).toNat a0_)) ∨ (ze N10_ 81 7 = 0 ∧ ze Mz 81 7 = 0 ∧ zisg b_ n_ (ze Mz 81 4).toNat a0_ ∧ (ze N10_ 81 4).toNat = znx b_ n_ (ze Mz 81 4).toNat)) from Or.inl (⟨(show 1 ≤ ze N10_ 81 7 by first | omega | exact hns_ | (intro z_; exfalso; omega)), (show (ze Mz 81 7 = 0 → ¬ zisg b_ n_ (ze Mz 81 4).toNat a0_) by first | omega | exact hns_ | (intro z_; exfalso; omega))⟩))⟩ d_M_must_31
            · skip
              exact absurd hc_24 (by decide)
  · skip
    show zW l m_M_must (zn Mz + 0, zw Mz + 0) Mz 4 [some (.ref 81), some (.int (Int32.ofInt a0_))] [.int (Int32.ofInt 0)] (zpV [3, 4, 5, 6, 7, 8, 11] [] Mz (fun N => zRt b_ n_ N ∧ (((1 ≤ ze N 81 7 ∧ (ze Mz 81 7 = 0 → ¬ zisg b_ n_ (ze Mz 81 4).toNat a0_)) ∨ (ze N 81 7 = 0 ∧ ze Mz 81 7 = 0 ∧ zisg b_ n_ (ze Mz 81 4).toNat a0_ ∧ (ze N 81 4).toNat = znx b_ n_ (ze Mz 81 4).toNat)))))
    refine zr_if_eq (pc := 4) (tgt := 20) ⟨(by decide), (by decide)⟩ (by decide) d_M_must_4 (fun hc_4 => ?_) (fun hc_4 => ?_)
    · skip
      refine zw_aload_n (pc := 20) (n := 0) (x := 81) rfl d_M_must_20 ?_
      refine zr_callV (hf.w hW) hf.x (pc := 21) [] [] l_M_183 (c_M_isGood l Mz (hf.w hW) ) rfl rfl rfl (by decide) (Nat.le_of_ble_eq_true rfl) d_M_must_21 ?_
      rintro _ N16_ ⟨v17_, rfl, ⟨hv17_a, hv17_b⟩, hsN16_, hp0_N16_⟩
      obtain rfl := hsN16_.eq.symm
      replace hp0_N16_ : ((v17_ = 1 ∧ ze Mz 81 7 = 0) ∨ (v17_ = 0 ∧ ze Mz 81 7 ≠ 0)) := hp0_N16_
      rcases hp0_N16_ with ⟨rfl, ha21_0_hp0_N16_⟩ | ⟨rfl, ha21_0_hp0_N16_⟩
      · skip
        exfalso; omega
      · skip
        show zW l m_M_must (zn Mz + 0, zw Mz + 0) Mz 24 [some (.ref 81), some (.int (Int32.ofInt a0_))] [.int (Int32.ofInt 0)] (zpV [3, 4, 5, 6, 7, 8, 11] [] Mz (fun N => zRt b_ n_ N ∧ (((1 ≤ ze N 81 7 ∧ (ze Mz 81 7 = 0 → ¬ zisg b_ n_ (ze Mz 81 4).toNat a0_)) ∨ (ze N 81 7 = 0 ∧ ze Mz 81 7 = 0 ∧ zisg b_ n_ (ze Mz 81 4).toNat a0_ ∧ (ze N 81 4).toNat = znx b_ n_ (ze Mz 81 4).toNat)))))
        refine zr_if_eq (pc := 24) (tgt := 31) ⟨(by decide), (by decide)⟩ (by decide) d_M_must_24 (fun hc_24 => ?_) (fun hc_24 => ?_)
        · skip
          exact zr_vret (pc := 31) rfl hf ⟨p1_, (show ((1 ≤ ze Mz 81 7 ∧ (ze Mz 81 7 = 0 → ¬ zisg b_ n_ (ze Mz 81 4).toNat a0_)) ∨ (ze Mz 81 7 = 0 ∧ ze Mz 81 7 = 0 ∧ zisg b_ n_ (ze Mz 81 4).toNat a0_ ∧ (ze Mz 81 4).toNat = znx b_ n_ (ze Mz 81 4).toNat)) from Or.inl (⟨(show 1 ≤ ze Mz 81 7 by first | omega | exact hns_ | (intro z_; exfalso; omega)), (show (ze Mz 81 7 = 0 → ¬ zisg b_ n_ (ze Mz 81 4).toNat a0_) by first | omega | exact hns_ | (intro z_; exfalso; omega))⟩))⟩ d_M_must_31
        · skip
          exact absurd hc_24 (by decide)
    · skip
      exact absurd hc_4 (by decide)
set_option maxHeartbeats 4000000 in
theorem c_M_numberF (l : Launch) (Mz : zMem) (hW : zMt Mz) (a0_ : Int) (ha0_a : -2147483648 ≤ a0_) (ha0_b : a0_ < 2147483648) (a1_ : Int) (ha1_a : -2147483648 ≤ a1_) (ha1_b : a1_ < 2147483648) (b_ : Nat → Int) (n_ : Nat) (p0_ : zRb b_ n_ Mz) (p1_ : zRt b_ n_ Mz) (p2_ : 0 ≤ ze Mz 81 7) : zC l m_M_number 0 0 [.ref 81, .int (Int32.ofInt a0_), .int (Int32.ofInt a1_)] Mz (zpI [3, 4, 5, 6, 7, 8, 11] [] Mz (fun v N => zRt b_ n_ N ∧ (((1 ≤ ze N 81 7 ∧ (ze Mz 81 7 = 0 → ¬ (zkd b_ n_ (ze Mz 81 4).toNat = 2 ∧ a0_ ≤ znu b_ n_ (ze Mz 81 4).toNat ∧ znu b_ n_ (ze Mz 81 4).toNat ≤ a1_))) ∨ (ze N 81 7 = 0 ∧ ze Mz 81 7 = 0 ∧ (zkd b_ n_ (ze Mz 81 4).toNat = 2 ∧ a0_ ≤ znu b_ n_ (ze Mz 81 4).toNat ∧ znu b_ n_ (ze Mz 81 4).toNat ≤ a1_) ∧ v = znu b_ n_ (ze Mz 81 4).toNat ∧ (ze N 81 4).toNat = znx b_ n_ (ze Mz 81 4).toNat))))) := by
  refine zC_of (L0 := [some (.ref 81), some (.int (Int32.ofInt a0_)), some (.int (Int32.ofInt a1_)), none]) md_M_number (Nat.le_of_ble_eq_true rfl) rfl ?_ zQ0
  have hf : zFr [3, 4, 5, 6, 7, 8, 11] [] Mz Mz := zFr.rf
  have r_3 := ze_r Mz 81 3
  have r_4 := ze_r Mz 81 4
  have r_5 := ze_r Mz 81 5
  have r_6 := ze_r Mz 81 6
  have r_7 := ze_r Mz 81 7
  obtain ⟨t1_, t2_, t3_, t4_, t5_, t6_⟩ := id p1_
  refine zw_aload_n (pc := 0) (n := 0) (x := 81) rfl d_M_number_0 ?_
  refine zr_callV (hf.w hW) hf.x (pc := 1) [] [] l_M_183 (c_M_isGood l Mz (hf.w hW) ) rfl rfl rfl (by decide) (Nat.le_of_ble_eq_true rfl) d_M_number_1 ?_
  rintro _ N1_ ⟨v2_, rfl, ⟨hv2_a, hv2_b⟩, hsN1_, hp0_N1_⟩
  obtain rfl := hsN1_.eq.symm
  replace hp0_N1_ : ((v2_ = 1 ∧ ze Mz 81 7 = 0) ∨ (v2_ = 0 ∧ ze Mz 81 7 ≠ 0)) := hp0_N1_
  rcases hp0_N1_ with ⟨rfl, ha1_0_hp0_N1_⟩ | ⟨rfl, ha1_0_hp0_N1_⟩
  · skip
    show zW l m_M_number (zn Mz + 0, zw Mz + 0) Mz 4 [some (.ref 81), some (.int (Int32.ofInt a0_)), some (.int (Int32.ofInt a1_)), none] [.int (Int32.ofInt 1)] (zpI [3, 4, 5, 6, 7, 8, 11] [] Mz (fun v N => zRt b_ n_ N ∧ (((1 ≤ ze N 81 7 ∧ (ze Mz 81 7 = 0 → ¬ (zkd b_ n_ (ze Mz 81 4).toNat = 2 ∧ a0_ ≤ znu b_ n_ (ze Mz 81 4).toNat ∧ znu b_ n_ (ze Mz 81 4).toNat ≤ a1_))) ∨ (ze N 81 7 = 0 ∧ ze Mz 81 7 = 0 ∧ (zkd b_ n_ (ze Mz 81 4).toNat = 2 ∧ a0_ ≤ znu b_ n_ (ze Mz 81 4).toNat ∧ znu b_ n_ (ze Mz 81 4).toNat ≤ a1_) ∧ v = znu b_ n_ (ze Mz 81 4).toNat ∧ (ze N 81 4).toNat = znx b_ n_ (ze Mz 81 4).toNat)))))
    refine zr_if_eq (pc := 4) (tgt := 20) ⟨(by decide), (by decide)⟩ (by decide) d_M_number_4 (fun hc_4 => ?_) (fun hc_4 => ?_)
    · skip
      exact absurd hc_4 (by decide)
    · skip
      refine zw_aload_n (pc := 7) (n := 0) (x := 81) rfl d_M_number_7 ?_
      refine zr_getI (hf.w hW) (pc := 8) f_M_155 rfl d_M_number_8 ?_
      refine zw_iconst (pc := 11) (v := Int32.ofInt 2) (by decide) d_M_number_11 ?_
      refine zr_icmp_eq (pc := 12) (tgt := 20) ⟨(ze_r Mz 81 5).1, (ze_r Mz 81 5).2⟩ ⟨(by decide), (by decide)⟩ (by decide) d_M_number_12 (fun hc_12 => ?_) (fun hc_12 => ?_)
      · skip
        refine zw_aload_n (pc := 20) (n := 0) (x := 81) rfl d_M_number_20 ?_
        refine zr_getI (hf.w hW) (pc := 21) f_M_152 rfl d_M_number_21 ?_
        refine zw_istore_n (pc := 24) (i := 3) (L2 := [some (.ref 81), some (.int (Int32.ofInt a0_)), some (.int (Int32.ofInt a1_)), some (.int (Int32.ofInt (ze Mz 81 6)))]) rfl (by decide) rfl d_M_number_24 ?_
        refine zw_aload_n (pc := 25) (n := 0) (x := 81) rfl d_M_number_25 ?_
        refine zr_callV (hf.w hW) hf.x (pc := 26) [] [] l_M_183 (c_M_isGood l Mz (hf.w hW) ) rfl rfl rfl (by decide) (Nat.le_of_ble_eq_true rfl) d_M_number_26 ?_
        rintro _ N3_ ⟨v4_, rfl, ⟨hv4_a, hv4_b⟩, hsN3_, hp0_N3_⟩
        obtain rfl := hsN3_.eq.symm
        replace hp0_N3_ : ((v4_ = 1 ∧ ze Mz 81 7 = 0) ∨ (v4_ = 0 ∧ ze Mz 81 7 ≠ 0)) := hp0_N3_
        rcases hp0_N3_ with ⟨rfl, ha26_0_hp0_N3_⟩ | ⟨rfl, ha26_0_hp0_N3_⟩
        · skip
          show zW l m_M_number (zn Mz + 0, zw Mz + 0) Mz 29 [some (.ref 81), some (.int (Int32.ofInt a0_)), some (.int (Int32.ofInt a1_)), some (.int (Int32.ofInt (ze Mz 81 6)))] [.int (Int32.ofInt 1)] (zpI [3, 4, 5, 6, 7, 8, 11] [] Mz (fun v N => zRt b_ n_ N ∧ (((1 ≤ ze N 81 7 ∧ (ze Mz 81 7 = 0 → ¬ (zkd b_ n_ (ze Mz 81 4).toNat = 2 ∧ a0_ ≤ znu b_ n_ (ze Mz 81 4).toNat ∧ znu b_ n_ (ze Mz 81 4).toNat ≤ a1_))) ∨ (ze N 81 7 = 0 ∧ ze Mz 81 7 = 0 ∧ (zkd b_ n_ (ze Mz 81 4).toNat = 2 ∧ a0_ ≤ znu b_ n_ (ze Mz 81 4).toNat ∧ znu b_ n_ (ze Mz 81 4).toNat ≤ a1_) ∧ v = znu b_ n_ (ze Mz 81 4).toNat ∧ (ze N 81 4).toNat = znx b_ n_ (ze Mz 81 4).toNat)))))
          refine zr_if_eq (pc := 29) (tgt := 49) ⟨(by decide), (by decide)⟩ (by decide) d_M_number_29 (fun hc_29 => ?_) (fun hc_29 => ?_)
          · skip
            exact absurd hc_29 (by decide)
          · skip
            refine zw_iload_n (pc := 32) (n := 3) (x := Int32.ofInt (ze Mz 81 6)) rfl d_M_number_32 ?_
            refine zr_i2l (pc := 33) ⟨(ze_r Mz 81 6).1, (ze_r Mz 81 6).2⟩ d_M_number_33 ?_
            refine zw_iload_n (pc := 34) (n := 1) (x := Int32.ofInt a0_) rfl d_M_number_34 ?_
            refine zr_i2l (pc := 35) ⟨ha0_a, ha0_b⟩ d_M_number_35 ?_
            refine zw_iload_n (pc := 36) (n := 2) (x := Int32.ofInt a1_) rfl d_M_number_36 ?_
            refine zr_i2l (pc := 37) ⟨ha1_a, ha1_b⟩ d_M_number_37 ?_
            refine zr_callS hf.x (pc := 38) [.long (Int64.ofInt (ze Mz 81 6)), .long (Int64.ofInt a0_), .long (Int64.ofInt a1_)] [] l_M_131 (c_M_isIn l Mz (hf.w hW) (ze Mz 81 6) (by omega) (by omega) a0_ (by omega) (by omega) a1_ (by omega) (by omega)) rfl rfl (by decide) (Nat.le_of_ble_eq_true rfl) d_M_number_38 ?_
            rintro _ N5_ ⟨v6_, rfl, ⟨hv6_a, hv6_b⟩, hsN5_, hp0_N5_⟩
            obtain rfl := hsN5_.eq.symm
            replace hp0_N5_ : ((v6_ = 1 ∧ a0_ ≤ (ze Mz 81 6) ∧ (ze Mz 81 6) ≤ a1_) ∨ (v6_ = 0 ∧ ((ze Mz 81 6) < a0_ ∨ a1_ < (ze Mz 81 6)))) := hp0_N5_
            rcases hp0_N5_ with ⟨rfl, ha38_0_hp0_N5_, ha38_1_hp0_N5_⟩ | ⟨rfl, ha38_0_hp0_N5_⟩
            · skip
              show zW l m_M_number (zn Mz + 0, zw Mz + 0) Mz 41 [some (.ref 81), some (.int (Int32.ofInt a0_)), some (.int (Int32.ofInt a1_)), some (.int (Int32.ofInt (ze Mz 81 6)))] [.int (Int32.ofInt 1)] (zpI [3, 4, 5, 6, 7, 8, 11] [] Mz (fun v N => zRt b_ n_ N ∧ (((1 ≤ ze N 81 7 ∧ (ze Mz 81 7 = 0 → ¬ (zkd b_ n_ (ze Mz 81 4).toNat = 2 ∧ a0_ ≤ znu b_ n_ (ze Mz 81 4).toNat ∧ znu b_ n_ (ze Mz 81 4).toNat ≤ a1_))) ∨ (ze N 81 7 = 0 ∧ ze Mz 81 7 = 0 ∧ (zkd b_ n_ (ze Mz 81 4).toNat = 2 ∧ a0_ ≤ znu b_ n_ (ze Mz 81 4).toNat ∧ znu b_ n_ (ze Mz 81 4).toNat ≤ a1_) ∧ v = znu b_ n_ (ze Mz 81 4).toNat ∧ (ze N 81 4).toNat = znx b_ n_ (ze Mz 81 4).toNat)))))
              refine zr_if_ne (pc := 41) (tgt := 49) ⟨(by decide), (by decide)⟩ (by decide) d_M_number_41 (fun hc_41 => ?_) (fun hc_41 => ?_)
              · skip
                refine zw_aload_n (pc := 49) (n := 0) (x := 81) rfl d_M_number_49 ?_
                refine zr_callV (hf.w hW) hf.x (pc := 50) [] [] l_M_183 (c_M_isGood l Mz (hf.w hW) ) rfl rfl rfl (by decide) (Nat.le_of_ble_eq_true rfl) d_M_number_50 ?_
                rintro _ N7_ ⟨v8_, rfl, ⟨hv8_a, hv8_b⟩, hsN7_, hp0_N7_⟩
                obtain rfl := hsN7_.eq.symm
                replace hp0_N7_ : ((v8_ = 1 ∧ ze Mz 81 7 = 0) ∨ (v8_ = 0 ∧ ze Mz 81 7 ≠ 0)) := hp0_N7_
                rcases hp0_N7_ with ⟨rfl, ha50_0_hp0_N7_⟩ | ⟨rfl, ha50_0_hp0_N7_⟩
                · skip
                  show zW l m_M_number (zn Mz + 0, zw Mz + 0) Mz 53 [some (.ref 81), some (.int (Int32.ofInt a0_)), some (.int (Int32.ofInt a1_)), some (.int (Int32.ofInt (ze Mz 81 6)))] [.int (Int32.ofInt 1)] (zpI [3, 4, 5, 6, 7, 8, 11] [] Mz (fun v N => zRt b_ n_ N ∧ (((1 ≤ ze N 81 7 ∧ (ze Mz 81 7 = 0 → ¬ (zkd b_ n_ (ze Mz 81 4).toNat = 2 ∧ a0_ ≤ znu b_ n_ (ze Mz 81 4).toNat ∧ znu b_ n_ (ze Mz 81 4).toNat ≤ a1_))) ∨ (ze N 81 7 = 0 ∧ ze Mz 81 7 = 0 ∧ (zkd b_ n_ (ze Mz 81 4).toNat = 2 ∧ a0_ ≤ znu b_ n_ (ze Mz 81 4).toNat ∧ znu b_ n_ (ze Mz 81 4).toNat ≤ a1_) ∧ v = znu b_ n_ (ze Mz 81 4).toNat ∧ (ze N 81 4).toNat = znx b_ n_ (ze Mz 81 4).toNat)))))
                  refine zr_if_eq (pc := 53) (tgt := 60) ⟨(by decide), (by decide)⟩ (by decide) d_M_number_53 (fun hc_53 => ?_) (fun hc_53 => ?_)
                  · skip
                    exact absurd hc_53 (by decide)
                  · skip
                    have hyt_ := p1_
                    have hyx_ := hyt_.x
                    refine zw_aload_n (pc := 56) (n := 0) (x := 81) rfl d_M_number_56 ?_
                    refine zr_callV (hf.w hW) hf.x (pc := 57) [] [] l_M_193 (c_M_goOnF l Mz (hf.w hW) b_ n_ p0_ (show 0 ≤ ze Mz 81 3 by first | assumption | omega) (show ze Mz 81 3 ≤ n_ by first | assumption | omega)) rfl rfl rfl (by decide) (Nat.le_of_ble_eq_true rfl) d_M_number_57 ?_
                    rintro _ N9_ ⟨rfl, hsN9_, ⟨hp0_N9_, hp1_N9_⟩⟩
                    have hf_N9_ : zFr [3, 4, 5, 6, 7, 8, 11] [] Mz N9_ := hf.tr hsN9_ (by decide) (by decide)
                    have r3_N9_ := ze_r N9_ 81 3
                    have r4_N9_ := ze_r N9_ 81 4
                    have r5_N9_ := ze_r N9_ 81 5
                    have r6_N9_ := ze_r N9_ 81 6
                    have e7_N9_ : ze N9_ 81 7 = ze Mz 81 7 := hsN9_.e (by decide)
                    have c11_ : zRb b_ n_ N9_ := zRb.fr hsN9_ p0_ (by decide) (by decide)
                    show zW l m_M_number (zn Mz + 0, zw Mz + 0) N9_ 60 [some (.ref 81), some (.int (Int32.ofInt a0_)), some (.int (Int32.ofInt a1_)), some (.int (Int32.ofInt (ze Mz 81 6)))] [] (zpI [3, 4, 5, 6, 7, 8, 11] [] Mz (fun v N => zRt b_ n_ N ∧ (((1 ≤ ze N 81 7 ∧ (ze Mz 81 7 = 0 → ¬ (zkd b_ n_ (ze Mz 81 4).toNat = 2 ∧ a0_ ≤ znu b_ n_ (ze Mz 81 4).toNat ∧ znu b_ n_ (ze Mz 81 4).toNat ≤ a1_))) ∨ (ze N 81 7 = 0 ∧ ze Mz 81 7 = 0 ∧ (zkd b_ n_ (ze Mz 81 4).toNat = 2 ∧ a0_ ≤ znu b_ n_ (ze Mz 81 4).toNat ∧ znu b_ n_ (ze Mz 81 4).toNat ≤ a1_) ∧ v = znu b_ n_ (ze Mz 81 4).toNat ∧ (ze N 81 4).toNat = znx b_ n_ (ze Mz 81 4).toNat)))))
                    have hnn_ := hyt_.nx hp0_N9_
                    refine zw_iload_n (pc := 60) (n := 3) (x := Int32.ofInt (ze Mz 81 6)) rfl d_M_number_60 ?_
                    exact zr_iret (pc := 61) (ty := .int) rfl rfl ⟨by omega, by omega⟩ hf_N9_ ⟨hp1_N9_, (show ((1 ≤ ze N9_ 81 7 ∧ (ze Mz 81 7 = 0 → ¬ (zkd b_ n_ (ze Mz 81 4).toNat = 2 ∧ a0_ ≤ znu b_ n_ (ze Mz 81 4).toNat ∧ znu b_ n_ (ze Mz 81 4).toNat ≤ a1_))) ∨ (ze N9_ 81 7 = 0 ∧ ze Mz 81 7 = 0 ∧ (zkd b_ n_ (ze Mz 81 4).toNat = 2 ∧ a0_ ≤ znu b_ n_ (ze Mz 81 4).toNat ∧ znu b_ n_ (ze Mz 81 4).toNat ≤ a1_) ∧ (ze Mz 81 6) = znu b_ n_ (ze Mz 81 4).toNat ∧ (ze N9_ 81 4).toNat = znx b_ n_ (ze Mz 81 4).toNat)) from Or.inr (⟨(show ze N9_ 81 7 = 0 by first | omega | (have k_ : zkd b_ n_ (ze Mz 81 4).toNat = 2 := (by omega); have w_ := (p1_.v2 k_).1; first | omega | exact ⟨k_, by omega, by omega⟩) | exact hnn_.2.trans (by rw [show ze Mz 81 4 = ze Mz 81 4 by omega])), (show ze Mz 81 7 = 0 by first | omega | (have k_ : zkd b_ n_ (ze Mz 81 4).toNat = 2 := (by omega); have w_ := (p1_.v2 k_).1; first | omega | exact ⟨k_, by omega, by omega⟩) | exact hnn_.2.trans (by rw [show ze Mz 81 4 = ze Mz 81 4 by omega])), (show (zkd b_ n_ (ze Mz 81 4).toNat = 2 ∧ a0_ ≤ znu b_ n_ (ze Mz 81 4).toNat ∧ znu b_ n_ (ze Mz 81 4).toNat ≤ a1_) by first | omega | (have k_ : zkd b_ n_ (ze Mz 81 4).toNat = 2 := (by omega); have w_ := (p1_.v2 k_).1; first | omega | exact ⟨k_, by omega, by omega⟩) | exact hnn_.2.trans (by rw [show ze Mz 81 4 = ze Mz 81 4 by omega])), (show (ze Mz 81 6) = znu b_ n_ (ze Mz 81 4).toNat by first | omega | (have k_ : zkd b_ n_ (ze Mz 81 4).toNat = 2 := (by omega); have w_ := (p1_.v2 k_).1; first | omega | exact ⟨k_, by omega, by omega⟩) | exact hnn_.2.trans (by rw [show ze Mz 81 4 = ze Mz 81 4 by omega])), (show (ze N9_ 81 4).toNat = znx b_ n_ (ze Mz 81 4).toNat by first | omega | (have k_ : zkd b_ n_ (ze Mz 81 4).toNat = 2 := (by omega); have w_ := (p1_.v2 k_).1; first | omega | exact ⟨k_, by omega, by omega⟩) | exact hnn_.2.trans (by rw [show ze Mz 81 4 = ze Mz 81 4 by omega]))⟩))⟩ d_M_number_61
                · skip
                  exfalso; omega
              · skip
                exact absurd hc_41 (by decide)
            · skip
              show zW l m_M_number (zn Mz + 0, zw Mz + 0) Mz 41 [some (.ref 81), some (.int (Int32.ofInt a0_)), some (.int (Int32.ofInt a1_)), some (.int (Int32.ofInt (ze Mz 81 6)))] [.int (Int32.ofInt 0)] (zpI [3, 4, 5, 6, 7, 8, 11] [] Mz (fun v N => zRt b_ n_ N ∧ (((1 ≤ ze N 81 7 ∧ (ze Mz 81 7 = 0 → ¬ (zkd b_ n_ (ze Mz 81 4).toNat = 2 ∧ a0_ ≤ znu b_ n_ (ze Mz 81 4).toNat ∧ znu b_ n_ (ze Mz 81 4).toNat ≤ a1_))) ∨ (ze N 81 7 = 0 ∧ ze Mz 81 7 = 0 ∧ (zkd b_ n_ (ze Mz 81 4).toNat = 2 ∧ a0_ ≤ znu b_ n_ (ze Mz 81 4).toNat ∧ znu b_ n_ (ze Mz 81 4).toNat ≤ a1_) ∧ v = znu b_ n_ (ze Mz 81 4).toNat ∧ (ze N 81 4).toNat = znx b_ n_ (ze Mz 81 4).toNat)))))
              refine zr_if_ne (pc := 41) (tgt := 49) ⟨(by decide), (by decide)⟩ (by decide) d_M_number_41 (fun hc_41 => ?_) (fun hc_41 => ?_)
              · skip
                exact absurd hc_41 (by decide)
              · skip
                refine zw_aload_n (pc := 44) (n := 0) (x := 81) rfl d_M_number_44 ?_
                refine zw_iconst (pc := 45) (v := Int32.ofInt 4) (by decide) d_M_number_45 ?_
                refine zr_callV (hf.w hW) hf.x (pc := 46) [.int (Int32.ofInt 4)] [] l_M_190 (c_M_wrongF l Mz (hf.w hW) 4 (by decide) (by decide) (show 1 ≤ 4 by first | assumption | omega)) rfl rfl rfl (by decide) (Nat.le_of_ble_eq_true rfl) d_M_number_46 ?_
                rintro _ N12_ ⟨rfl, hsN12_, hp0_N12_⟩
                replace hp0_N12_ : 1 ≤ ze N12_ 81 7 := hp0_N12_
                have hf_N12_ : zFr [3, 4, 5, 6, 7, 8, 11] [] Mz N12_ := hf.tr hsN12_ (by decide) (by decide)
                have e3_N12_ : ze N12_ 81 3 = ze Mz 81 3 := hsN12_.e (by decide)
                have e4_N12_ : ze N12_ 81 4 = ze Mz 81 4 := hsN12_.e (by decide)
                have e5_N12_ : ze N12_ 81 5 = ze Mz 81 5 := hsN12_.e (by decide)
                have e6_N12_ : ze N12_ 81 6 = ze Mz 81 6 := hsN12_.e (by decide)
                have r7_N12_ := ze_r N12_ 81 7
                have c14_ : zRb b_ n_ N12_ := zRb.fr hsN12_ p0_ (by decide) (by decide)
                have c15_ : zRt b_ n_ N12_ := zRt.fr hsN12_ p1_ (by decide) (by decide)
                show zW l m_M_number (zn Mz + 0, zw Mz + 0) N12_ 49 [some (.ref 81), some (.int (Int32.ofInt a0_)), some (.int (Int32.ofInt a1_)), some (.int (Int32.ofInt (ze Mz 81 6)))] [] (zpI [3, 4, 5, 6, 7, 8, 11] [] Mz (fun v N => zRt b_ n_ N ∧ (((1 ≤ ze N 81 7 ∧ (ze Mz 81 7 = 0 → ¬ (zkd b_ n_ (ze Mz 81 4).toNat = 2 ∧ a0_ ≤ znu b_ n_ (ze Mz 81 4).toNat ∧ znu b_ n_ (ze Mz 81 4).toNat ≤ a1_))) ∨ (ze N 81 7 = 0 ∧ ze Mz 81 7 = 0 ∧ (zkd b_ n_ (ze Mz 81 4).toNat = 2 ∧ a0_ ≤ znu b_ n_ (ze Mz 81 4).toNat ∧ znu b_ n_ (ze Mz 81 4).toNat ≤ a1_) ∧ v = znu b_ n_ (ze Mz 81 4).toNat ∧ (ze N 81 4).toNat = znx b_ n_ (ze Mz 81 4).toNat)))))
                refine zw_aload_n (pc := 49) (n := 0) (x := 81) rfl d_M_number_49 ?_
                refine zr_callV (hf_N12_.w hW) hf_N12_.x (pc := 50) [] [] l_M_183 (c_M_isGood l N12_ (hf_N12_.w hW) ) rfl rfl rfl (by decide) (Nat.le_of_ble_eq_true rfl) d_M_number_50 ?_
                rintro _ N16_ ⟨v17_, rfl, ⟨hv17_a, hv17_b⟩, hsN16_, hp0_N16_⟩
                obtain rfl := hsN16_.eq.symm
                replace hp0_N16_ : ((v17_ = 1 ∧ ze N12_ 81 7 = 0) ∨ (v17_ = 0 ∧ ze N12_ 81 7 ≠ 0)) := hp0_N16_
                rcases hp0_N16_ with ⟨rfl, ha50_0_hp0_N16_⟩ | ⟨rfl, ha50_0_hp0_N16_⟩
                · skip
                  exfalso; omega
                · skip
                  show zW l m_M_number (zn Mz + 0, zw Mz + 0) N12_ 53 [some (.ref 81), some (.int (Int32.ofInt a0_)), some (.int (Int32.ofInt a1_)), some (.int (Int32.ofInt (ze Mz 81 6)))] [.int (Int32.ofInt 0)] (zpI [3, 4, 5, 6, 7, 8, 11] [] Mz (fun v N => zRt b_ n_ N ∧ (((1 ≤ ze N 81 7 ∧ (ze Mz 81 7 = 0 → ¬ (zkd b_ n_ (ze Mz 81 4).toNat = 2 ∧ a0_ ≤ znu b_ n_ (ze Mz 81 4).toNat ∧ znu b_ n_ (ze Mz 81 4).toNat ≤ a1_))) ∨ (ze N 81 7 = 0 ∧ ze Mz 81 7 = 0 ∧ (zkd b_ n_ (ze Mz 81 4).toNat = 2 ∧ a0_ ≤ znu b_ n_ (ze Mz 81 4).toNat ∧ znu b_ n_ (ze Mz 81 4).toNat ≤ a1_) ∧ v = znu b_ n_ (ze Mz 81 4).toNat ∧ (ze N 81 4).toNat = znx b_ n_ (ze Mz 81 4).toNat)))))
                  refine zr_if_eq (pc := 53) (tgt := 60) ⟨(by decide), (by decide)⟩ (by decide) d_M_number_53 (fun hc_53 => ?_) (fun hc_53 => ?_)
                  · skip
                    refine zw_iload_n (pc := 60) (n := 3) (x := Int32.ofInt (ze Mz 81 6)) rfl d_M_number_60 ?_
                    exact zr_iret (pc := 61) (ty := .int) rfl rfl ⟨by omega, by omega⟩ hf_N12_ ⟨c15_, (show ((1 ≤ ze N12_ 81 7 ∧ (ze Mz 81 7 = 0 → ¬ (zkd b_ n_ (ze Mz 81 4).toNat = 2 ∧ a0_ ≤ znu b_ n_ (ze Mz 81 4).toNat ∧ znu b_ n_ (ze Mz 81 4).toNat ≤ a1_))) ∨ (ze N12_ 81 7 = 0 ∧ ze Mz 81 7 = 0 ∧ (zkd b_ n_ (ze Mz 81 4).toNat = 2 ∧ a0_ ≤ znu b_ n_ (ze Mz 81 4).toNat ∧ znu b_ n_ (ze Mz 81 4).toNat ≤ a1_) ∧ (ze Mz 81 6) = znu b_ n_ (ze Mz 81 4).toNat ∧ (ze N12_ 81 4).toNat = znx b_ n_ (ze Mz 81 4).toNat)) from Or.inl (⟨(show 1 ≤ ze N12_ 81 7 by first | omega | (intro z_; exfalso; omega) | (intro z_; rintro ⟨z1_, z2_, z3_⟩; have w_ := (p1_.v2 z1_).1; omega)), (show (ze Mz 81 7 = 0 → ¬ (zkd b_ n_ (ze Mz 81 4).toNat = 2 ∧ a0_ ≤ znu b_ n_ (ze Mz 81 4).toNat ∧ znu b_ n_ (ze Mz 81 4).toNat ≤ a1_)) by first | omega | (intro z_; exfalso; omega) | (intro z_; rintro ⟨z1_, z2_, z3_⟩; have w_ := (p1_.v2 z1_).1; omega))⟩))⟩ d_M_number_61
                  · skip
                    exact absurd hc_53 (by decide)
        · skip
          exfalso; omega
      · skip
        refine zw_aload_n (pc := 15) (n := 0) (x := 81) rfl d_M_number_15 ?_
        refine zw_iconst (pc := 16) (v := Int32.ofInt 2) (by decide) d_M_number_16 ?_
        refine zr_callV (hf.w hW) hf.x (pc := 17) [.int (Int32.ofInt 2)] [] l_M_190 (c_M_wrongF l Mz (hf.w hW) 2 (by decide) (by decide) (show 1 ≤ 2 by first | assumption | omega)) rfl rfl rfl (by decide) (Nat.le_of_ble_eq_true rfl) d_M_number_17 ?_
        rintro _ N18_ ⟨rfl, hsN18_, hp0_N18_⟩
        replace hp0_N18_ : 1 ≤ ze N18_ 81 7 := hp0_N18_
        have hf_N18_ : zFr [3, 4, 5, 6, 7, 8, 11] [] Mz N18_ := hf.tr hsN18_ (by decide) (by decide)
        have e3_N18_ : ze N18_ 81 3 = ze Mz 81 3 := hsN18_.e (by decide)
        have e4_N18_ : ze N18_ 81 4 = ze Mz 81 4 := hsN18_.e (by decide)
        have e5_N18_ : ze N18_ 81 5 = ze Mz 81 5 := hsN18_.e (by decide)
        have e6_N18_ : ze N18_ 81 6 = ze Mz 81 6 := hsN18_.e (by decide)
        have r7_N18_ := ze_r N18_ 81 7
        have c20_ : zRb b_ n_ N18_ := zRb.fr hsN18_ p0_ (by decide) (by decide)
        have c21_ : zRt b_ n_ N18_ := zRt.fr hsN18_ p1_ (by decide) (by decide)
        show zW l m_M_number (zn Mz + 0, zw Mz + 0) N18_ 20 [some (.ref 81), some (.int (Int32.ofInt a0_)), some (.int (Int32.ofInt a1_)), none] [] (zpI [3, 4, 5, 6, 7, 8, 11] [] Mz (fun v N => zRt b_ n_ N ∧ (((1 ≤ ze N 81 7 ∧ (ze Mz 81 7 = 0 → ¬ (zkd b_ n_ (ze Mz 81 4).toNat = 2 ∧ a0_ ≤ znu b_ n_ (ze Mz 81 4).toNat ∧ znu b_ n_ (ze Mz 81 4).toNat ≤ a1_))) ∨ (ze N 81 7 = 0 ∧ ze Mz 81 7 = 0 ∧ (zkd b_ n_ (ze Mz 81 4).toNat = 2 ∧ a0_ ≤ znu b_ n_ (ze Mz 81 4).toNat ∧ znu b_ n_ (ze Mz 81 4).toNat ≤ a1_) ∧ v = znu b_ n_ (ze Mz 81 4).toNat ∧ (ze N 81 4).toNat = znx b_ n_ (ze Mz 81 4).toNat)))))
        refine zw_aload_n (pc := 20) (n := 0) (x := 81) rfl d_M_number_20 ?_
        refine zr_getI (hf_N18_.w hW) (pc := 21) f_M_152 rfl d_M_number_21 ?_
        refine zw_istore_n (pc := 24) (i := 3) (L2 := [some (.ref 81), some (.int (Int32.ofInt a0_)), some (.int (Int32.ofInt a1_)), some (.int (Int32.ofInt (ze N18_ 81 6)))]) rfl (by decide) rfl d_M_number_24 ?_
        refine zw_aload_n (pc := 25) (n := 0) (x := 81) rfl d_M_number_25 ?_
        refine zr_callV (hf_N18_.w hW) hf_N18_.x (pc := 26) [] [] l_M_183 (c_M_isGood l N18_ (hf_N18_.w hW) ) rfl rfl rfl (by decide) (Nat.le_of_ble_eq_true rfl) d_M_number_26 ?_
        rintro _ N22_ ⟨v23_, rfl, ⟨hv23_a, hv23_b⟩, hsN22_, hp0_N22_⟩
        obtain rfl := hsN22_.eq.symm
        replace hp0_N22_ : ((v23_ = 1 ∧ ze N18_ 81 7 = 0) ∨ (v23_ = 0 ∧ ze N18_ 81 7 ≠ 0)) := hp0_N22_
        rcases hp0_N22_ with ⟨rfl, ha26_0_hp0_N22_⟩ | ⟨rfl, ha26_0_hp0_N22_⟩
        · skip
          exfalso; omega
        · skip
          show zW l m_M_number (zn Mz + 0, zw Mz + 0) N18_ 29 [some (.ref 81), some (.int (Int32.ofInt a0_)), some (.int (Int32.ofInt a1_)), some (.int (Int32.ofInt (ze N18_ 81 6)))] [.int (Int32.ofInt 0)] (zpI [3, 4, 5, 6, 7, 8, 11] [] Mz (fun v N => zRt b_ n_ N ∧ (((1 ≤ ze N 81 7 ∧ (ze Mz 81 7 = 0 → ¬ (zkd b_ n_ (ze Mz 81 4).toNat = 2 ∧ a0_ ≤ znu b_ n_ (ze Mz 81 4).toNat ∧ znu b_ n_ (ze Mz 81 4).toNat ≤ a1_))) ∨ (ze N 81 7 = 0 ∧ ze Mz 81 7 = 0 ∧ (zkd b_ n_ (ze Mz 81 4).toNat = 2 ∧ a0_ ≤ znu b_ n_ (ze Mz 81 4).toNat ∧ znu b_ n_ (ze Mz 81 4).toNat ≤ a1_) ∧ v = znu b_ n_ (ze Mz 81 4).toNat ∧ (ze N 81 4).toNat = znx b_ n_ (ze Mz 81 4).toNat)))))
          refine zr_if_eq (pc := 29) (tgt := 49) ⟨(by decide), (by decide)⟩ (by decide) d_M_number_29 (fun hc_29 => ?_) (fun hc_29 => ?_)
          · skip
            refine zw_aload_n (pc := 49) (n := 0) (x := 81) rfl d_M_number_49 ?_
            refine zr_callV (hf_N18_.w hW) hf_N18_.x (pc := 50) [] [] l_M_183 (c_M_isGood l N18_ (hf_N18_.w hW) ) rfl rfl rfl (by decide) (Nat.le_of_ble_eq_true rfl) d_M_number_50 ?_
            rintro _ N24_ ⟨v25_, rfl, ⟨hv25_a, hv25_b⟩, hsN24_, hp0_N24_⟩
            obtain rfl := hsN24_.eq.symm
            replace hp0_N24_ : ((v25_ = 1 ∧ ze N18_ 81 7 = 0) ∨ (v25_ = 0 ∧ ze N18_ 81 7 ≠ 0)) := hp0_N24_
            rcases hp0_N24_ with ⟨rfl, ha50_0_hp0_N24_⟩ | ⟨rfl, ha50_0_hp0_N24_⟩
            · skip
              exfalso; omega
            · skip
              show zW l m_M_number (zn Mz + 0, zw Mz + 0) N18_ 53 [some (.ref 81), some (.int (Int32.ofInt a0_)), some (.int (Int32.ofInt a1_)), some (.int (Int32.ofInt (ze N18_ 81 6)))] [.int (Int32.ofInt 0)] (zpI [3, 4, 5, 6, 7, 8, 11] [] Mz (fun v N => zRt b_ n_ N ∧ (((1 ≤ ze N 81 7 ∧ (ze Mz 81 7 = 0 → ¬ (zkd b_ n_ (ze Mz 81 4).toNat = 2 ∧ a0_ ≤ znu b_ n_ (ze Mz 81 4).toNat ∧ znu b_ n_ (ze Mz 81 4).toNat ≤ a1_))) ∨ (ze N 81 7 = 0 ∧ ze Mz 81 7 = 0 ∧ (zkd b_ n_ (ze Mz 81 4).toNat = 2 ∧ a0_ ≤ znu b_ n_ (ze Mz 81 4).toNat ∧ znu b_ n_ (ze Mz 81 4).toNat ≤ a1_) ∧ v = znu b_ n_ (ze Mz 81 4).toNat ∧ (ze N 81 4).toNat = znx b_ n_ (ze Mz 81 4).toNat)))))
              refine zr_if_eq (pc := 53) (tgt := 60) ⟨(by decide), (by decide)⟩ (by decide) d_M_number_53 (fun hc_53 => ?_) (fun hc_53 => ?_)
              · skip
                refine zw_iload_n (pc := 60) (n := 3) (x := Int32.ofInt (ze N18_ 81 6)) rfl d_M_number_60 ?_
                exact zr_iret (pc := 61) (ty := .int) rfl rfl ⟨by omega, by omega⟩ hf_N18_ ⟨c21_, (show ((1 ≤ ze N18_ 81 7 ∧ (ze Mz 81 7 = 0 → ¬ (zkd b_ n_ (ze Mz 81 4).toNat = 2 ∧ a0_ ≤ znu b_ n_ (ze Mz 81 4).toNat ∧ znu b_ n_ (ze Mz 81 4).toNat ≤ a1_))) ∨ (ze N18_ 81 7 = 0 ∧ ze Mz 81 7 = 0 ∧ (zkd b_ n_ (ze Mz 81 4).toNat = 2 ∧ a0_ ≤ znu b_ n_ (ze Mz 81 4).toNat ∧ znu b_ n_ (ze Mz 81 4).toNat ≤ a1_) ∧ (ze N18_ 81 6) = znu b_ n_ (ze Mz 81 4).toNat ∧ (ze N18_ 81 4).toNat = znx b_ n_ (ze Mz 81 4).toNat)) from Or.inl (⟨(show 1 ≤ ze N18_ 81 7 by first | omega | (intro z_; exfalso; omega) | (intro z_; rintro ⟨z1_, z2_, z3_⟩; have w_ := (p1_.v2 z1_).1; omega)), (show (ze Mz 81 7 = 0 → ¬ (zkd b_ n_ (ze Mz 81 4).toNat = 2 ∧ a0_ ≤ znu b_ n_ (ze Mz 81 4).toNat ∧ znu b_ n_ (ze Mz 81 4).toNat ≤ a1_)) by first | omega | (intro z_; exfalso; omega) | (intro z_; rintro ⟨z1_, z2_, z3_⟩; have w_ := (p1_.v2 z1_).1; omega))⟩))⟩ d_M_number_61
              · skip
                exact absurd hc_53 (by decide)
          · skip
            exact absurd hc_29 (by decide)
  · skip
    show zW l m_M_number (zn Mz + 0, zw Mz + 0) Mz 4 [some (.ref 81), some (.int (Int32.ofInt a0_)), some (.int (Int32.ofInt a1_)), none] [.int (Int32.ofInt 0)] (zpI [3, 4, 5, 6, 7, 8, 11] [] Mz (fun v N => zRt b_ n_ N ∧ (((1 ≤ ze N 81 7 ∧ (ze Mz 81 7 = 0 → ¬ (zkd b_ n_ (ze Mz 81 4).toNat = 2 ∧ a0_ ≤ znu b_ n_ (ze Mz 81 4).toNat ∧ znu b_ n_ (ze Mz 81 4).toNat ≤ a1_))) ∨ (ze N 81 7 = 0 ∧ ze Mz 81 7 = 0 ∧ (zkd b_ n_ (ze Mz 81 4).toNat = 2 ∧ a0_ ≤ znu b_ n_ (ze Mz 81 4).toNat ∧ znu b_ n_ (ze Mz 81 4).toNat ≤ a1_) ∧ v = znu b_ n_ (ze Mz 81 4).toNat ∧ (ze N 81 4).toNat = znx b_ n_ (ze Mz 81 4).toNat)))))
    refine zr_if_eq (pc := 4) (tgt := 20) ⟨(by decide), (by decide)⟩ (by decide) d_M_number_4 (fun hc_4 => ?_) (fun hc_4 => ?_)
    · skip
      refine zw_aload_n (pc := 20) (n := 0) (x := 81) rfl d_M_number_20 ?_
      refine zr_getI (hf.w hW) (pc := 21) f_M_152 rfl d_M_number_21 ?_
      refine zw_istore_n (pc := 24) (i := 3) (L2 := [some (.ref 81), some (.int (Int32.ofInt a0_)), some (.int (Int32.ofInt a1_)), some (.int (Int32.ofInt (ze Mz 81 6)))]) rfl (by decide) rfl d_M_number_24 ?_
      refine zw_aload_n (pc := 25) (n := 0) (x := 81) rfl d_M_number_25 ?_
      refine zr_callV (hf.w hW) hf.x (pc := 26) [] [] l_M_183 (c_M_isGood l Mz (hf.w hW) ) rfl rfl rfl (by decide) (Nat.le_of_ble_eq_true rfl) d_M_number_26 ?_
      rintro _ N26_ ⟨v27_, rfl, ⟨hv27_a, hv27_b⟩, hsN26_, hp0_N26_⟩
      obtain rfl := hsN26_.eq.symm
      replace hp0_N26_ : ((v27_ = 1 ∧ ze Mz 81 7 = 0) ∨ (v27_ = 0 ∧ ze Mz 81 7 ≠ 0)) := hp0_N26_
      rcases hp0_N26_ with ⟨rfl, ha26_0_hp0_N26_⟩ | ⟨rfl, ha26_0_hp0_N26_⟩
      · skip
        exfalso; omega
      · skip
        show zW l m_M_number (zn Mz + 0, zw Mz + 0) Mz 29 [some (.ref 81), some (.int (Int32.ofInt a0_)), some (.int (Int32.ofInt a1_)), some (.int (Int32.ofInt (ze Mz 81 6)))] [.int (Int32.ofInt 0)] (zpI [3, 4, 5, 6, 7, 8, 11] [] Mz (fun v N => zRt b_ n_ N ∧ (((1 ≤ ze N 81 7 ∧ (ze Mz 81 7 = 0 → ¬ (zkd b_ n_ (ze Mz 81 4).toNat = 2 ∧ a0_ ≤ znu b_ n_ (ze Mz 81 4).toNat ∧ znu b_ n_ (ze Mz 81 4).toNat ≤ a1_))) ∨ (ze N 81 7 = 0 ∧ ze Mz 81 7 = 0 ∧ (zkd b_ n_ (ze Mz 81 4).toNat = 2 ∧ a0_ ≤ znu b_ n_ (ze Mz 81 4).toNat ∧ znu b_ n_ (ze Mz 81 4).toNat ≤ a1_) ∧ v = znu b_ n_ (ze Mz 81 4).toNat ∧ (ze N 81 4).toNat = znx b_ n_ (ze Mz 81 4).toNat)))))
        refine zr_if_eq (pc := 29) (tgt := 49) ⟨(by decide), (by decide)⟩ (by decide) d_M_number_29 (fun hc_29 => ?_) (fun hc_29 => ?_)
        · skip
          refine zw_aload_n (pc := 49) (n := 0) (x := 81) rfl d_M_number_49 ?_
          refine zr_callV (hf.w hW) hf.x (pc := 50) [] [] l_M_183 (c_M_isGood l Mz (hf.w hW) ) rfl rfl rfl (by decide) (Nat.le_of_ble_eq_true rfl) d_M_number_50 ?_
          rintro _ N28_ ⟨v29_, rfl, ⟨hv29_a, hv29_b⟩, hsN28_, hp0_N28_⟩
          obtain rfl := hsN28_.eq.symm
          replace hp0_N28_ : ((v29_ = 1 ∧ ze Mz 81 7 = 0) ∨ (v29_ = 0 ∧ ze Mz 81 7 ≠ 0)) := hp0_N28_
          rcases hp0_N28_ with ⟨rfl, ha50_0_hp0_N28_⟩ | ⟨rfl, ha50_0_hp0_N28_⟩
          · skip
            exfalso; omega
          · skip
            show zW l m_M_number (zn Mz + 0, zw Mz + 0) Mz 53 [some (.ref 81), some (.int (Int32.ofInt a0_)), some (.int (Int32.ofInt a1_)), some (.int (Int32.ofInt (ze Mz 81 6)))] [.int (Int32.ofInt 0)] (zpI [3, 4, 5, 6, 7, 8, 11] [] Mz (fun v N => zRt b_ n_ N ∧ (((1 ≤ ze N 81 7 ∧ (ze Mz 81 7 = 0 → ¬ (zkd b_ n_ (ze Mz 81 4).toNat = 2 ∧ a0_ ≤ znu b_ n_ (ze Mz 81 4).toNat ∧ znu b_ n_ (ze Mz 81 4).toNat ≤ a1_))) ∨ (ze N 81 7 = 0 ∧ ze Mz 81 7 = 0 ∧ (zkd b_ n_ (ze Mz 81 4).toNat = 2 ∧ a0_ ≤ znu b_ n_ (ze Mz 81 4).toNat ∧ znu b_ n_ (ze Mz 81 4).toNat ≤ a1_) ∧ v = znu b_ n_ (ze Mz 81 4).toNat ∧ (ze N 81 4).toNat = znx b_ n_ (ze Mz 81 4).toNat)))))
            refine zr_if_eq (pc := 53) (tgt := 60) ⟨(by decide), (by decide)⟩ (by decide) d_M_number_53 (fun hc_53 => ?_) (fun hc_53 => ?_)
            · skip
              refine zw_iload_n (pc := 60) (n := 3) (x := Int32.ofInt (ze Mz 81 6)) rfl d_M_number_60 ?_
              exact zr_iret (pc := 61) (ty := .int) rfl rfl ⟨by omega, by omega⟩ hf ⟨p1_, (show ((1 ≤ ze Mz 81 7 ∧ (ze Mz 81 7 = 0 → ¬ (zkd b_ n_ (ze Mz 81 4).toNat = 2 ∧ a0_ ≤ znu b_ n_ (ze Mz 81 4).toNat ∧ znu b_ n_ (ze Mz 81 4).toNat ≤ a1_))) ∨ (ze Mz 81 7 = 0 ∧ ze Mz 81 7 = 0 ∧ (zkd b_ n_ (ze Mz 81 4).toNat = 2 ∧ a0_ ≤ znu b_ n_ (ze Mz 81 4).toNat ∧ znu b_ n_ (ze Mz 81 4).toNat ≤ a1_) ∧ (ze Mz 81 6) = znu b_ n_ (ze Mz 81 4).toNat ∧ (ze Mz 81 4).toNat = znx b_ n_ (ze Mz 81 4).toNat)) from Or.inl (⟨(show 1 ≤ ze Mz 81 7 by first | omega | (intro z_; exfalso; omega) | (intro z_; rintro ⟨z1_, z2_, z3_⟩; have w_ := (p1_.v2 z1_).1; omega)), (show (ze Mz 81 7 = 0 → ¬ (zkd b_ n_ (ze Mz 81 4).toNat = 2 ∧ a0_ ≤ znu b_ n_ (ze Mz 81 4).toNat ∧ znu b_ n_ (ze Mz 81 4).toNat ≤ a1_)) by first | omega | (intro z_; exfalso; omega) | (intro z_; rintro ⟨z1_, z2_, z3_⟩; have w_ := (p1_.v2 z1_).1; omega))⟩))⟩ d_M_number_61
            · skip
              exact absurd hc_53 (by decide)
        · skip
          exact absurd hc_29 (by decide)
    · skip
      exact absurd hc_4 (by decide)
