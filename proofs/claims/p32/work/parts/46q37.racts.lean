set_option maxHeartbeats 4000000 in
theorem c_M_act (l : Launch) (Mz : zMem) (hW : zMt Mz) (p0_ : 0 ≤ ze Mz 81 60) (p1_ : ze Mz 81 60 ≤ 12) : zC l m_M_act 0 0 [.ref 81] Mz (zpV [60] [111] Mz (fun N => 1 ≤ ze N 81 60 ∧ ze N 81 60 ≤ 12)) := by
  refine zC_of (L0 := [some (.ref 81), none]) md_M_act (Nat.le_of_ble_eq_true rfl) rfl ?_ zQ0
  have hf : zFr [60] [111] Mz Mz := zFr.rf
  have r_60 := ze_r Mz 81 60
  refine zw_aload_n (pc := 0) (n := 0) (x := 81) rfl (zdal_p dlD_M_act_109 (i := 0) rfl) ?_
  refine zr_getI (hf.w hW) (pc := 1) f_M_391 rfl (zdal_p dlD_M_act_109 (i := 1) rfl) ?_
  refine zw_bipush (pc := 4) (v := Int32.ofInt 12) (by decide) (zdal_p dlD_M_act_109 (i := 2) rfl) ?_
  refine zr_icmp_ne (pc := 6) (tgt := 50) ⟨(ze_r Mz 81 60).1, (ze_r Mz 81 60).2⟩ ⟨(by decide), (by decide)⟩ (by decide) (zdal_p dlD_M_act_109 (i := 3) rfl) (fun hc_6 => ?_) (fun hc_6 => ?_)
  · skip
    refine zw_iconst (pc := 50) (v := Int32.ofInt 0) (by decide) (zdal_p dlD_M_act_110 (i := 3) rfl) ?_
    refine zw_istore_n (pc := 51) (i := 1) (L2 := [some (.ref 81), some (.int (Int32.ofInt 0))]) rfl (by decide) rfl (zdal_p dlD_M_act_110 (i := 4) rfl) ?_
    have lp_52 : ∀ (n : Nat) (u1_ : Int) (hu1_a : -2147483648 ≤ u1_) (hu1_b : u1_ < 2147483648) (N2_ : zMem) (hs3_ : zFr [] [111] Mz N2_) (i4_ : 0 ≤ u1_), (64 - u1_).toNat < n → zW l m_M_act (zn Mz + 0, zw Mz + 0) N2_ 52 [some (.ref 81), some (.int (Int32.ofInt u1_))] [] (zpV [60] [111] Mz (fun N => 1 ≤ ze N 81 60 ∧ ze N 81 60 ≤ 12)) := by
      intro n
      induction n with
      | zero =>
        intro u1_ hu1_a hu1_b N2_ hs3_ i4_ h0
        exact absurd h0 (Nat.not_lt_zero _)
      | succ n ih_52 =>
        intro u1_ hu1_a hu1_b N2_ hs3_ i4_ hlt_52
        have hf_N2_ : zFr [60] [111] Mz N2_ := hf.tr hs3_ (by decide) (by decide)
        have e60_N2_ : ze N2_ 81 60 = ze Mz 81 60 := hs3_.e (by decide)
        refine zw_iload_n (pc := 52) (n := 1) (x := Int32.ofInt u1_) rfl (zdal_p dlD_M_act_110 (i := 5) rfl) ?_
        refine zw_bipush (pc := 53) (v := Int32.ofInt 64) (by decide) (zdal_p dlD_M_act_110 (i := 6) rfl) ?_
        refine zr_icmp_ge (pc := 55) (tgt := 84) ⟨hu1_a, hu1_b⟩ ⟨(by decide), (by decide)⟩ (by decide) (zdal_p dlD_M_act_110 (i := 7) rfl) (fun hc_55 => ?_) (fun hc_55 => ?_)
        · skip
          refine zw_aload_n (pc := 84) (n := 0) (x := 81) rfl (zdal_p dlD_M_act_110 (i := 23) rfl) ?_
          refine zw_dup (pc := 85) rfl (zdal_p dlD_M_act_111 (i := 0) rfl) ?_
          refine zr_getI (hf_N2_.w hW) (pc := 86) f_M_391 rfl (zdal_p dlD_M_act_111 (i := 1) rfl) ?_
          refine zw_iconst (pc := 89) (v := Int32.ofInt 1) (by decide) (zdal_p dlD_M_act_111 (i := 2) rfl) ?_
          refine zr_iadd (pc := 90) (zdal_p dlD_M_act_111 (i := 3) rfl) ?_
          refine zr_putI (hf_N2_.w hW) (pc := 91) f_M_391 rfl rfl ⟨by (exact zo_1205 e60_N2_ p0_), by omega⟩ rfl rfl (zdal_p dlD_M_act_111 (i := 4) rfl) (fun N5_ hsN5_ hvN5_ => ?_)
          have hf_N5_ : zFr [60] [111] Mz N5_ := hf_N2_.tr hsN5_ (by decide) (by decide)
          exact zr_vret (pc := 94) rfl hf_N5_ ⟨(show 1 ≤ ze N5_ 81 60 by first | with_reducible assumption | assumption | omega), (show ze N5_ 81 60 ≤ 12 by first | with_reducible assumption | assumption | omega)⟩ (zdal_p dlD_M_act_111 (i := 5) rfl)
        · skip
          refine zw_aload_n (pc := 58) (n := 0) (x := 81) rfl (zdal_p dlD_M_act_110 (i := 8) rfl) ?_
          refine zr_getF (r := 111) (hf_N2_.w hW) (pc := 59) f_M_106 rfl (zh_111 (hf_N2_.w hW)).1 (zdal_p dlD_M_act_110 (i := 9) rfl) ?_
          refine zw_bipush (pc := 62) (v := Int32.ofInt 64) (by decide) (zdal_p dlD_M_act_110 (i := 10) rfl) ?_
          refine zw_aload_n (pc := 64) (n := 0) (x := 81) rfl (zdal_p dlD_M_act_110 (i := 11) rfl) ?_
          refine zr_getI (hf_N2_.w hW) (pc := 65) f_M_391 rfl (zdal_p dlD_M_act_110 (i := 12) rfl) ?_
          refine zr_imul (pc := 68) (zdal_p dlD_M_act_110 (i := 13) rfl) ?_
          refine zw_iload_n (pc := 69) (n := 1) (x := Int32.ofInt u1_) rfl (zdal_p dlD_M_act_110 (i := 14) rfl) ?_
          refine zr_iadd (pc := 70) (zdal_p dlD_M_act_110 (i := 15) rfl) ?_
          refine zw_aload_n (pc := 71) (n := 0) (x := 81) rfl (zdal_p dlD_M_act_110 (i := 16) rfl) ?_
          refine zr_getF (r := 98) (hf_N2_.w hW) (pc := 72) f_M_66 rfl (zh_98 (hf_N2_.w hW)).1 (zdal_p dlD_M_act_110 (i := 17) rfl) ?_
          refine zw_iload_n (pc := 75) (n := 1) (x := Int32.ofInt u1_) rfl (zdal_p dlD_M_act_110 (i := 18) rfl) ?_
          refine zr_laldn (pc := 76) (zh_98 (hf_N2_.w hW)).2 (by decide) (by (exact i4_)) (by (exact zo_2451 hc_55)) (zdal_p dlD_M_act_110 (i := 19) rfl) (fun v6_ hv6_ hv6_a hv6_b => ?_)
          rw [hf_N2_.jg (by decide) (by decide)] at hv6_
          refine zr_last (pc := 77) (zh_111 (hf_N2_.w hW)).2 (by decide) (by decide) (by (exact zo_2452 e60_N2_ i4_ p0_)) (by omega) (zdal_p dlD_M_act_110 (i := 20) rfl) (fun N7_ hN7_ hsN7_ => ?_)
          have hf_N7_ : zFr [60] [111] Mz N7_ := hf_N2_.tr hsN7_ (by decide) (by decide)
          have hb0_N7_ : zFr [] [111] Mz N7_ := hs3_.tr hsN7_ (by decide) (by decide)
          refine zr_iinc (pc := 78) (i := 1) (a := u1_) (n := 1) (L2 := [some (.ref 81), some (.int (Int32.ofInt (u1_ + 1)))]) rfl (by decide) rfl (zdal_p dlD_M_act_110 (i := 21) rfl) ?_
          refine zw_goto (pc := 81) (tgt := 52) (by decide) (zdal_p dlD_M_act_110 (i := 22) rfl) ?_
          exact ih_52 (u1_ + 1) (by (exact zo_74 i4_)) (by (exact zo_2454 hc_55)) N7_ hb0_N7_ (show 0 ≤ (u1_ + 1) by first | with_reducible assumption | (exact zo_76 i4_) | assumption) (by (exact zo_2455 hc_55 hlt_52 i4_))
    exact lp_52 _ 0 (by decide) (by decide) Mz zFr.rf (show 0 ≤ (0 : Int) by first | with_reducible assumption | (decide) | assumption) (Nat.lt_succ_self _)
  · skip
    refine zw_bipush (pc := 9) (v := Int32.ofInt 64) (by decide) (zdal_p dlD_M_act_109 (i := 4) rfl) ?_
    refine zw_istore_n (pc := 11) (i := 1) (L2 := [some (.ref 81), some (.int (Int32.ofInt 64))]) rfl (by decide) rfl (zdal_p dlD_M_act_109 (i := 5) rfl) ?_
    have lp_12 : ∀ (n : Nat) (u8_ : Int) (hu8_a : -2147483648 ≤ u8_) (hu8_b : u8_ < 2147483648) (N9_ : zMem) (hs10_ : zFr [] [111] Mz N9_) (i11_ : 64 ≤ u8_), (768 - u8_).toNat < n → zW l m_M_act (zn Mz + 0, zw Mz + 0) N9_ 12 [some (.ref 81), some (.int (Int32.ofInt u8_))] [] (zpV [60] [111] Mz (fun N => 1 ≤ ze N 81 60 ∧ ze N 81 60 ≤ 12)) := by
      intro n
      induction n with
      | zero =>
        intro u8_ hu8_a hu8_b N9_ hs10_ i11_ h0
        exact absurd h0 (Nat.not_lt_zero _)
      | succ n ih_12 =>
        intro u8_ hu8_a hu8_b N9_ hs10_ i11_ hlt_12
        have hf_N9_ : zFr [60] [111] Mz N9_ := hf.tr hs10_ (by decide) (by decide)
        have e60_N9_ : ze N9_ 81 60 = ze Mz 81 60 := hs10_.e (by decide)
        refine zw_iload_n (pc := 12) (n := 1) (x := Int32.ofInt u8_) rfl (zdal_p dlD_M_act_109 (i := 6) rfl) ?_
        refine zw_sipush (pc := 13) (v := Int32.ofInt 768) (by decide) (zdal_p dlD_M_act_109 (i := 7) rfl) ?_
        refine zr_icmp_ge (pc := 16) (tgt := 40) ⟨hu8_a, hu8_b⟩ ⟨(by decide), (by decide)⟩ (by decide) (zdal_p dlD_M_act_109 (i := 8) rfl) (fun hc_16 => ?_) (fun hc_16 => ?_)
        · skip
          refine zw_aload_n (pc := 40) (n := 0) (x := 81) rfl (zdal_p dlD_M_act_109 (i := 21) rfl) ?_
          refine zw_dup (pc := 41) rfl (zdal_p dlD_M_act_109 (i := 22) rfl) ?_
          refine zr_getI (hf_N9_.w hW) (pc := 42) f_M_391 rfl (zdal_p dlD_M_act_109 (i := 23) rfl) ?_
          refine zw_iconst (pc := 45) (v := Int32.ofInt 1) (by decide) (zdal_p dlD_M_act_110 (i := 0) rfl) ?_
          refine zr_isub (pc := 46) (zdal_p dlD_M_act_110 (i := 1) rfl) ?_
          refine zr_putI (hf_N9_.w hW) (pc := 47) f_M_391 rfl rfl ⟨by omega, by omega⟩ rfl rfl (zdal_p dlD_M_act_110 (i := 2) rfl) (fun N12_ hsN12_ hvN12_ => ?_)
          have hf_N12_ : zFr [60] [111] Mz N12_ := hf_N9_.tr hsN12_ (by decide) (by decide)
          have r60_N12_ := ze_r N12_ 81 60
          refine zw_iconst (pc := 50) (v := Int32.ofInt 0) (by decide) (zdal_p dlD_M_act_110 (i := 3) rfl) ?_
          refine zw_istore_n (pc := 51) (i := 1) (L2 := [some (.ref 81), some (.int (Int32.ofInt 0))]) rfl (by decide) rfl (zdal_p dlD_M_act_110 (i := 4) rfl) ?_
          have lp_52 : ∀ (n : Nat) (u13_ : Int) (hu13_a : -2147483648 ≤ u13_) (hu13_b : u13_ < 2147483648) (N14_ : zMem) (hs15_ : zFr [] [111] N12_ N14_) (i16_ : 0 ≤ u13_), (64 - u13_).toNat < n → zW l m_M_act (zn Mz + 0, zw Mz + 0) N14_ 52 [some (.ref 81), some (.int (Int32.ofInt u13_))] [] (zpV [60] [111] Mz (fun N => 1 ≤ ze N 81 60 ∧ ze N 81 60 ≤ 12)) := by
            intro n
            induction n with
            | zero =>
              intro u13_ hu13_a hu13_b N14_ hs15_ i16_ h0
              exact absurd h0 (Nat.not_lt_zero _)
            | succ n ih_52 =>
              intro u13_ hu13_a hu13_b N14_ hs15_ i16_ hlt_52
              have hf_N14_ : zFr [60] [111] Mz N14_ := hf_N12_.tr hs15_ (by decide) (by decide)
              have e60_N14_ : ze N14_ 81 60 = ze N12_ 81 60 := hs15_.e (by decide)
              refine zw_iload_n (pc := 52) (n := 1) (x := Int32.ofInt u13_) rfl (zdal_p dlD_M_act_110 (i := 5) rfl) ?_
              refine zw_bipush (pc := 53) (v := Int32.ofInt 64) (by decide) (zdal_p dlD_M_act_110 (i := 6) rfl) ?_
              refine zr_icmp_ge (pc := 55) (tgt := 84) ⟨hu13_a, hu13_b⟩ ⟨(by decide), (by decide)⟩ (by decide) (zdal_p dlD_M_act_110 (i := 7) rfl) (fun hc_55 => ?_) (fun hc_55 => ?_)
              · skip
                refine zw_aload_n (pc := 84) (n := 0) (x := 81) rfl (zdal_p dlD_M_act_110 (i := 23) rfl) ?_
                refine zw_dup (pc := 85) rfl (zdal_p dlD_M_act_111 (i := 0) rfl) ?_
                refine zr_getI (hf_N14_.w hW) (pc := 86) f_M_391 rfl (zdal_p dlD_M_act_111 (i := 1) rfl) ?_
                refine zw_iconst (pc := 89) (v := Int32.ofInt 1) (by decide) (zdal_p dlD_M_act_111 (i := 2) rfl) ?_
                refine zr_iadd (pc := 90) (zdal_p dlD_M_act_111 (i := 3) rfl) ?_
                refine zr_putI (hf_N14_.w hW) (pc := 91) f_M_391 rfl rfl ⟨by (exact zo_1139 e60_N14_ r60_N12_.1), by omega⟩ rfl rfl (zdal_p dlD_M_act_111 (i := 4) rfl) (fun N17_ hsN17_ hvN17_ => ?_)
                have hf_N17_ : zFr [60] [111] Mz N17_ := hf_N14_.tr hsN17_ (by decide) (by decide)
                exact zr_vret (pc := 94) rfl hf_N17_ ⟨(show 1 ≤ ze N17_ 81 60 by first | with_reducible assumption | assumption | omega), (show ze N17_ 81 60 ≤ 12 by first | with_reducible assumption | assumption | omega)⟩ (zdal_p dlD_M_act_111 (i := 5) rfl)
              · skip
                refine zw_aload_n (pc := 58) (n := 0) (x := 81) rfl (zdal_p dlD_M_act_110 (i := 8) rfl) ?_
                refine zr_getF (r := 111) (hf_N14_.w hW) (pc := 59) f_M_106 rfl (zh_111 (hf_N14_.w hW)).1 (zdal_p dlD_M_act_110 (i := 9) rfl) ?_
                refine zw_bipush (pc := 62) (v := Int32.ofInt 64) (by decide) (zdal_p dlD_M_act_110 (i := 10) rfl) ?_
                refine zw_aload_n (pc := 64) (n := 0) (x := 81) rfl (zdal_p dlD_M_act_110 (i := 11) rfl) ?_
                refine zr_getI (hf_N14_.w hW) (pc := 65) f_M_391 rfl (zdal_p dlD_M_act_110 (i := 12) rfl) ?_
                refine zr_imul (pc := 68) (zdal_p dlD_M_act_110 (i := 13) rfl) ?_
                refine zw_iload_n (pc := 69) (n := 1) (x := Int32.ofInt u13_) rfl (zdal_p dlD_M_act_110 (i := 14) rfl) ?_
                refine zr_iadd (pc := 70) (zdal_p dlD_M_act_110 (i := 15) rfl) ?_
                refine zw_aload_n (pc := 71) (n := 0) (x := 81) rfl (zdal_p dlD_M_act_110 (i := 16) rfl) ?_
                refine zr_getF (r := 98) (hf_N14_.w hW) (pc := 72) f_M_66 rfl (zh_98 (hf_N14_.w hW)).1 (zdal_p dlD_M_act_110 (i := 17) rfl) ?_
                refine zw_iload_n (pc := 75) (n := 1) (x := Int32.ofInt u13_) rfl (zdal_p dlD_M_act_110 (i := 18) rfl) ?_
                refine zr_laldn (pc := 76) (zh_98 (hf_N14_.w hW)).2 (by decide) (by (exact i16_)) (by (exact zo_2451 hc_55)) (zdal_p dlD_M_act_110 (i := 19) rfl) (fun v18_ hv18_ hv18_a hv18_b => ?_)
                rw [hf_N14_.jg (by decide) (by decide)] at hv18_
                refine zr_last (pc := 77) (zh_111 (hf_N14_.w hW)).2 (by decide) (by decide) (by omega) (by omega) (zdal_p dlD_M_act_110 (i := 20) rfl) (fun N19_ hN19_ hsN19_ => ?_)
                have hf_N19_ : zFr [60] [111] Mz N19_ := hf_N14_.tr hsN19_ (by decide) (by decide)
                have hb0_N19_ : zFr [] [111] N12_ N19_ := hs15_.tr hsN19_ (by decide) (by decide)
                refine zr_iinc (pc := 78) (i := 1) (a := u13_) (n := 1) (L2 := [some (.ref 81), some (.int (Int32.ofInt (u13_ + 1)))]) rfl (by decide) rfl (zdal_p dlD_M_act_110 (i := 21) rfl) ?_
                refine zw_goto (pc := 81) (tgt := 52) (by decide) (zdal_p dlD_M_act_110 (i := 22) rfl) ?_
                exact ih_52 (u13_ + 1) (by (exact zo_74 i16_)) (by (exact zo_2454 hc_55)) N19_ hb0_N19_ (show 0 ≤ (u13_ + 1) by first | with_reducible assumption | (exact zo_76 i16_) | assumption) (by (exact zo_2455 hc_55 hlt_52 i16_))
          exact lp_52 _ 0 (by decide) (by decide) N12_ zFr.rf (show 0 ≤ (0 : Int) by first | with_reducible assumption | (decide) | assumption) (Nat.lt_succ_self _)
        · skip
          refine zw_aload_n (pc := 19) (n := 0) (x := 81) rfl (zdal_p dlD_M_act_109 (i := 9) rfl) ?_
          refine zr_getF (r := 111) (hf_N9_.w hW) (pc := 20) f_M_106 rfl (zh_111 (hf_N9_.w hW)).1 (zdal_p dlD_M_act_109 (i := 10) rfl) ?_
          refine zw_iload_n (pc := 23) (n := 1) (x := Int32.ofInt u8_) rfl (zdal_p dlD_M_act_109 (i := 11) rfl) ?_
          refine zw_bipush (pc := 24) (v := Int32.ofInt 64) (by decide) (zdal_p dlD_M_act_109 (i := 12) rfl) ?_
          refine zr_isub (pc := 26) (zdal_p dlD_M_act_109 (i := 13) rfl) ?_
          refine zw_aload_n (pc := 27) (n := 0) (x := 81) rfl (zdal_p dlD_M_act_109 (i := 14) rfl) ?_
          refine zr_getF (r := 111) (hf_N9_.w hW) (pc := 28) f_M_106 rfl (zh_111 (hf_N9_.w hW)).1 (zdal_p dlD_M_act_109 (i := 15) rfl) ?_
          refine zw_iload_n (pc := 31) (n := 1) (x := Int32.ofInt u8_) rfl (zdal_p dlD_M_act_109 (i := 16) rfl) ?_
          refine zr_laldn (pc := 32) (zh_111 (hf_N9_.w hW)).2 (by decide) (by omega) (by omega) (zdal_p dlD_M_act_109 (i := 17) rfl) (fun v20_ hv20_ hv20_a hv20_b => ?_)
          refine zr_last (pc := 33) (zh_111 (hf_N9_.w hW)).2 (by decide) (by decide) (by omega) (by omega) (zdal_p dlD_M_act_109 (i := 18) rfl) (fun N21_ hN21_ hsN21_ => ?_)
          have hf_N21_ : zFr [60] [111] Mz N21_ := hf_N9_.tr hsN21_ (by decide) (by decide)
          have hb0_N21_ : zFr [] [111] Mz N21_ := hs10_.tr hsN21_ (by decide) (by decide)
          have e60_N21_ : ze N21_ 81 60 = ze N9_ 81 60 := hsN21_.e (by decide)
          refine zr_iinc (pc := 34) (i := 1) (a := u8_) (n := 1) (L2 := [some (.ref 81), some (.int (Int32.ofInt (u8_ + 1)))]) rfl (by decide) rfl (zdal_p dlD_M_act_109 (i := 19) rfl) ?_
          refine zw_goto (pc := 37) (tgt := 12) (by decide) (zdal_p dlD_M_act_109 (i := 20) rfl) ?_
          exact ih_12 (u8_ + 1) (by omega) (by omega) N21_ hb0_N21_ (show 64 ≤ (u8_ + 1) by first | with_reducible assumption | assumption | omega) (by omega)
    exact lp_12 _ 64 (by decide) (by decide) Mz zFr.rf (show 64 ≤ (64 : Int) by first | with_reducible assumption | (decide) | assumption) (Nat.lt_succ_self _)
set_option maxHeartbeats 4000000 in
theorem c_M_undo (l : Launch) (Mz : zMem) (hW : zMt Mz) (p0_ : 0 ≤ ze Mz 81 60) (p1_ : ze Mz 81 60 ≤ 12) : zC l m_M_undo 0 0 [.ref 81] Mz (zpI [60] [98] Mz (fun v N => 0 ≤ ze N 81 60 ∧ ze N 81 60 ≤ 12)) := by
  refine zC_of (L0 := [some (.ref 81), none]) md_M_undo (Nat.le_of_ble_eq_true rfl) rfl ?_ zQ0
  have hf : zFr [60] [98] Mz Mz := zFr.rf
  have r_60 := ze_r Mz 81 60
  refine zw_aload_n (pc := 0) (n := 0) (x := 81) rfl (zdal_p dlD_M_undo_89 (i := 0) rfl) ?_
  refine zr_getI (hf.w hW) (pc := 1) f_M_391 rfl (zdal_p dlD_M_undo_89 (i := 1) rfl) ?_
  refine zr_if_ne (pc := 4) (tgt := 9) ⟨(ze_r Mz 81 60).1, (ze_r Mz 81 60).2⟩ (by decide) (zdal_p dlD_M_undo_89 (i := 2) rfl) (fun hc_4 => ?_) (fun hc_4 => ?_)
  · skip
    refine zw_aload_n (pc := 9) (n := 0) (x := 81) rfl (zdal_p dlD_M_undo_89 (i := 5) rfl) ?_
    refine zw_dup (pc := 10) rfl (zdal_p dlD_M_undo_89 (i := 6) rfl) ?_
    refine zr_getI (hf.w hW) (pc := 11) f_M_391 rfl (zdal_p dlD_M_undo_89 (i := 7) rfl) ?_
    refine zw_iconst (pc := 14) (v := Int32.ofInt 1) (by decide) (zdal_p dlD_M_undo_89 (i := 8) rfl) ?_
    refine zr_isub (pc := 15) (zdal_p dlD_M_undo_89 (i := 9) rfl) ?_
    refine zr_putI (hf.w hW) (pc := 16) f_M_391 rfl rfl ⟨by (exact zo_600 p0_), by omega⟩ rfl rfl (zdal_p dlD_M_undo_89 (i := 10) rfl) (fun N1_ hsN1_ hvN1_ => ?_)
    have hf_N1_ : zFr [60] [98] Mz N1_ := hf.tr hsN1_ (by decide) (by decide)
    have r60_N1_ := ze_r N1_ 81 60
    refine zw_iconst (pc := 19) (v := Int32.ofInt 0) (by decide) (zdal_p dlD_M_undo_89 (i := 11) rfl) ?_
    refine zw_istore_n (pc := 20) (i := 1) (L2 := [some (.ref 81), some (.int (Int32.ofInt 0))]) rfl (by decide) rfl (zdal_p dlD_M_undo_89 (i := 12) rfl) ?_
    have lp_21 : ∀ (n : Nat) (u2_ : Int) (hu2_a : -2147483648 ≤ u2_) (hu2_b : u2_ < 2147483648) (N3_ : zMem) (hs4_ : zFr [] [98] N1_ N3_) (i5_ : 0 ≤ u2_), (64 - u2_).toNat < n → zW l m_M_undo (zn Mz + 0, zw Mz + 0) N3_ 21 [some (.ref 81), some (.int (Int32.ofInt u2_))] [] (zpI [60] [98] Mz (fun v N => 0 ≤ ze N 81 60 ∧ ze N 81 60 ≤ 12)) := by
      intro n
      induction n with
      | zero =>
        intro u2_ hu2_a hu2_b N3_ hs4_ i5_ h0
        exact absurd h0 (Nat.not_lt_zero _)
      | succ n ih_21 =>
        intro u2_ hu2_a hu2_b N3_ hs4_ i5_ hlt_21
        have hf_N3_ : zFr [60] [98] Mz N3_ := hf_N1_.tr hs4_ (by decide) (by decide)
        have e60_N3_ : ze N3_ 81 60 = ze N1_ 81 60 := hs4_.e (by decide)
        refine zw_iload_n (pc := 21) (n := 1) (x := Int32.ofInt u2_) rfl (zdal_p dlD_M_undo_89 (i := 13) rfl) ?_
        refine zw_bipush (pc := 22) (v := Int32.ofInt 64) (by decide) (zdal_p dlD_M_undo_89 (i := 14) rfl) ?_
        refine zr_icmp_ge (pc := 24) (tgt := 53) ⟨hu2_a, hu2_b⟩ ⟨(by decide), (by decide)⟩ (by decide) (zdal_p dlD_M_undo_89 (i := 15) rfl) (fun hc_24 => ?_) (fun hc_24 => ?_)
        · skip
          refine zw_aload_n (pc := 53) (n := 0) (x := 81) rfl (zdal_p dlD_M_undo_90 (i := 7) rfl) ?_
          refine zr_getI (hf_N3_.w hW) (pc := 54) f_M_391 rfl (zdal_p dlD_M_undo_90 (i := 8) rfl) ?_
          exact zr_iret (pc := 57) (ty := .int) rfl rfl ⟨by (exact zo_289 e60_N3_ r60_N1_.1), by (exact zo_290 e60_N3_ r60_N1_.2)⟩ hf_N3_ ⟨(show 0 ≤ ze N3_ 81 60 by first | with_reducible assumption | assumption | omega), (show ze N3_ 81 60 ≤ 12 by first | with_reducible assumption | assumption | omega)⟩ (zdal_p dlD_M_undo_90 (i := 9) rfl)
        · skip
          refine zw_aload_n (pc := 27) (n := 0) (x := 81) rfl (zdal_p dlD_M_undo_89 (i := 16) rfl) ?_
          refine zr_getF (r := 98) (hf_N3_.w hW) (pc := 28) f_M_66 rfl (zh_98 (hf_N3_.w hW)).1 (zdal_p dlD_M_undo_89 (i := 17) rfl) ?_
          refine zw_iload_n (pc := 31) (n := 1) (x := Int32.ofInt u2_) rfl (zdal_p dlD_M_undo_89 (i := 18) rfl) ?_
          refine zw_aload_n (pc := 32) (n := 0) (x := 81) rfl (zdal_p dlD_M_undo_89 (i := 19) rfl) ?_
          refine zr_getF (r := 111) (hf_N3_.w hW) (pc := 33) f_M_106 rfl (zh_111 (hf_N3_.w hW)).1 (zdal_p dlD_M_undo_89 (i := 20) rfl) ?_
          refine zw_bipush (pc := 36) (v := Int32.ofInt 64) (by decide) (zdal_p dlD_M_undo_89 (i := 21) rfl) ?_
          refine zw_aload_n (pc := 38) (n := 0) (x := 81) rfl (zdal_p dlD_M_undo_89 (i := 22) rfl) ?_
          refine zr_getI (hf_N3_.w hW) (pc := 39) f_M_391 rfl (zdal_p dlD_M_undo_89 (i := 23) rfl) ?_
          refine zr_imul (pc := 42) (zdal_p dlD_M_undo_90 (i := 0) rfl) ?_
          refine zw_iload_n (pc := 43) (n := 1) (x := Int32.ofInt u2_) rfl (zdal_p dlD_M_undo_90 (i := 1) rfl) ?_
          refine zr_iadd (pc := 44) (zdal_p dlD_M_undo_90 (i := 2) rfl) ?_
          refine zr_laldn (pc := 45) (zh_111 (hf_N3_.w hW)).2 (by decide) (by omega) (by omega) (zdal_p dlD_M_undo_90 (i := 3) rfl) (fun v6_ hv6_ hv6_a hv6_b => ?_)
          rw [hf_N3_.jg (by decide) (by decide)] at hv6_
          refine zr_last (pc := 46) (zh_98 (hf_N3_.w hW)).2 (by decide) (by decide) (by (exact i5_)) (by (exact zo_2451 hc_24)) (zdal_p dlD_M_undo_90 (i := 4) rfl) (fun N7_ hN7_ hsN7_ => ?_)
          have hf_N7_ : zFr [60] [98] Mz N7_ := hf_N3_.tr hsN7_ (by decide) (by decide)
          have hb0_N7_ : zFr [] [98] N1_ N7_ := hs4_.tr hsN7_ (by decide) (by decide)
          refine zr_iinc (pc := 47) (i := 1) (a := u2_) (n := 1) (L2 := [some (.ref 81), some (.int (Int32.ofInt (u2_ + 1)))]) rfl (by decide) rfl (zdal_p dlD_M_undo_90 (i := 5) rfl) ?_
          refine zw_goto (pc := 50) (tgt := 21) (by decide) (zdal_p dlD_M_undo_90 (i := 6) rfl) ?_
          exact ih_21 (u2_ + 1) (by (exact zo_74 i5_)) (by (exact zo_2454 hc_24)) N7_ hb0_N7_ (show 0 ≤ (u2_ + 1) by first | with_reducible assumption | (exact zo_76 i5_) | assumption) (by (exact zo_2455 hc_24 hlt_21 i5_))
    exact lp_21 _ 0 (by decide) (by decide) N1_ zFr.rf (show 0 ≤ (0 : Int) by first | with_reducible assumption | (decide) | assumption) (Nat.lt_succ_self _)
  · skip
    refine zw_iconst (pc := 7) (v := Int32.ofInt (-1)) (by decide) (zdal_p dlD_M_undo_89 (i := 3) rfl) ?_
    exact zr_iret (pc := 8) (ty := .int) rfl rfl ⟨by (decide), by (decide)⟩ hf ⟨(show 0 ≤ ze Mz 81 60 by first | with_reducible assumption | assumption | omega), (show ze Mz 81 60 ≤ 12 by first | with_reducible assumption | assumption | omega)⟩ (zdal_p dlD_M_undo_89 (i := 4) rfl)
set_option maxHeartbeats 4000000 in
theorem c_M_named (l : Launch) (Mz : zMem) (hW : zMt Mz) (a0_ : Int) (ha0_a : -2147483648 ≤ a0_) (ha0_b : a0_ < 2147483648) (a1_ : Int) (ha1_a : -2147483648 ≤ a1_) (ha1_b : a1_ < 2147483648) (T : zGT) (hO : gOK T) (p0_ : zGB T Mz) (p1_ : 0 ≤ ze Mz 81 18) (p2_ : ze Mz 81 18 ≤ 8) : zC l m_M_named 0 0 [.ref 81, .int (Int32.ofInt a0_), .int (Int32.ofInt a1_)] Mz (zpJ [] [] Mz (fun v N => True)) := by
  refine zC_of (L0 := [some (.ref 81), some (.int (Int32.ofInt a0_)), some (.int (Int32.ofInt a1_))]) md_M_named (Nat.le_of_ble_eq_true rfl) rfl ?_ zQ0
  have hf : zFr [] [] Mz Mz := zFr.rf
  have r_18 := ze_r Mz 81 18
  have r_26 := ze_r Mz 81 26
  have hG := hO.1
  have g24 := hG.2.1
  have g1 := hG.1
  have dv0 : zTab T Mz := p0_.1
  have dv1 : zB 85 144 0 5 Mz := p0_.2.1
  have dv2 : zJX T Mz := p0_.2.2.1
  have dv3 : zFirs T Mz := p0_.2.2.2.1
  have dv4 : zSSm T Mz := p0_.2.2.2.2.1
  have dv5 : zGD Mz := zGB.d hO p0_
  have gb := dv5.1
  have gn := dv0.1
  refine zw_iload_n (pc := 0) (n := 1) (x := Int32.ofInt a0_) rfl (zdal_p dlD_M_named_91 (i := 0) rfl) ?_
  refine zr_i2l (pc := 1) ⟨ha0_a, ha0_b⟩ (zdal_p dlD_M_named_91 (i := 1) rfl) ?_
  refine zw_lconst (pc := 2) (v := Int64.ofInt 0) (by decide) (zdal_p dlD_M_named_91 (i := 2) rfl) ?_
  refine zw_aload_n (pc := 3) (n := 0) (x := 81) rfl (zdal_p dlD_M_named_91 (i := 3) rfl) ?_
  refine zr_getI0 hf hW (pc := 4) (by decide) f_M_388 rfl (zdal_p dlD_M_named_91 (i := 4) rfl) ?_
  refine zw_iconst (pc := 7) (v := Int32.ofInt 1) (by decide) (zdal_p dlD_M_named_91 (i := 5) rfl) ?_
  refine zr_isub (pc := 8) (zdal_p dlD_M_named_91 (i := 6) rfl) ?_
  refine zr_i2l (pc := 9) ⟨(by (exact zo_600 p1_)), (by (exact zo_826 p2_))⟩ (zdal_p dlD_M_named_91 (i := 7) rfl) ?_
  refine zr_callS hf.x (pc := 10) [.long (Int64.ofInt a0_), .long (Int64.ofInt 0), .long (Int64.ofInt ((ze Mz 81 18) - 1))] [] l_M_131 (c_M_isIn l Mz (hf.w hW) a0_ (by (exact zo_282 ha0_a)) (by (exact zo_283 ha0_b)) 0 (by decide) (by decide) ((ze Mz 81 18) - 1) (by (exact zo_827 p1_)) (by (exact zo_828 p2_))) rfl rfl (by decide) (Nat.le_of_ble_eq_true rfl) (zdal_p dlD_M_named_91 (i := 8) rfl) ?_
  rintro _ N1_ ⟨v2_, rfl, ⟨hv2_a, hv2_b⟩, hsN1_, hp0_N1_⟩
  obtain rfl := hsN1_.eq.symm
  replace hp0_N1_ : ((v2_ = 1 ∧ 0 ≤ a0_ ∧ a0_ ≤ ((ze Mz 81 18) - 1)) ∨ (v2_ = 0 ∧ (a0_ < 0 ∨ ((ze Mz 81 18) - 1) < a0_))) := hp0_N1_
  rcases hp0_N1_ with ⟨rfl, ha10_0_hp0_N1_, ha10_1_hp0_N1_⟩ | ⟨rfl, ha10_0_hp0_N1_⟩
  · skip
    show zW l m_M_named (zn Mz + 0, zw Mz + 0) Mz 13 [some (.ref 81), some (.int (Int32.ofInt a0_)), some (.int (Int32.ofInt a1_))] [.int (Int32.ofInt 1)] (zpJ [] [] Mz (fun v N => True))
    refine zr_if_eq (pc := 13) (tgt := 38) ⟨(by decide), (by decide)⟩ (by decide) (zdal_p dlD_M_named_91 (i := 9) rfl) (fun hc_13 => ?_) (fun hc_13 => ?_)
    · skip
      exact absurd hc_13 (by decide)
    · skip
      refine zw_aload_n (pc := 16) (n := 0) (x := 81) rfl (zdal_p dlD_M_named_91 (i := 10) rfl) ?_
      refine zw_iload_n (pc := 17) (n := 2) (x := Int32.ofInt a1_) rfl (zdal_p dlD_M_named_91 (i := 11) rfl) ?_
      refine zr_callV (hf.w hW) hf.x (pc := 18) [.int (Int32.ofInt a1_)] [] l_M_414 (c_M_isSort l Mz (hf.w hW) a1_ ha1_a ha1_b T hO p0_) rfl rfl rfl (by decide) (Nat.le_of_ble_eq_true rfl) (zdal_p dlD_M_named_91 (i := 12) rfl) ?_
      rintro _ N3_ ⟨v4_, rfl, ⟨hv4_a, hv4_b⟩, hsN3_, hp0_N3_⟩
      obtain rfl := hsN3_.eq.symm
      replace hp0_N3_ : ((v4_ = 1 ∧ 0 ≤ a1_ ∧ a1_ < ze Mz 81 26) ∨ (v4_ = 0)) := hp0_N3_
      rcases hp0_N3_ with ⟨rfl, ha18_0_hp0_N3_, ha18_1_hp0_N3_⟩ | rfl
      · skip
        show zW l m_M_named (zn Mz + 0, zw Mz + 0) Mz 21 [some (.ref 81), some (.int (Int32.ofInt a0_)), some (.int (Int32.ofInt a1_))] [.int (Int32.ofInt 1)] (zpJ [] [] Mz (fun v N => True))
        refine zr_if_eq (pc := 21) (tgt := 38) ⟨(by decide), (by decide)⟩ (by decide) (zdal_p dlD_M_named_91 (i := 13) rfl) (fun hc_21 => ?_) (fun hc_21 => ?_)
        · skip
          exact absurd hc_21 (by decide)
        · skip
          refine zw_aload_n (pc := 24) (n := 0) (x := 81) rfl (zdal_p dlD_M_named_91 (i := 14) rfl) ?_
          refine zr_getF (r := 104) (hf.w hW) (pc := 25) f_M_84 rfl (zh_104 (hf.w hW)).1 (zdal_p dlD_M_named_91 (i := 15) rfl) ?_
          refine zw_bipush (pc := 28) (v := Int32.ofInt 64) (by decide) (zdal_p dlD_M_named_91 (i := 16) rfl) ?_
          refine zw_iload_n (pc := 30) (n := 1) (x := Int32.ofInt a0_) rfl (zdal_p dlD_M_named_91 (i := 17) rfl) ?_
          refine zr_imul (pc := 31) (zdal_p dlD_M_named_91 (i := 18) rfl) ?_
          refine zw_iload_n (pc := 32) (n := 2) (x := Int32.ofInt a1_) rfl (zdal_p dlD_M_named_91 (i := 19) rfl) ?_
          refine zr_iadd (pc := 33) (zdal_p dlD_M_named_91 (i := 20) rfl) ?_
          refine zr_laldn (pc := 34) (zh_104 (hf.w hW)).2 (by decide) (by (exact zo_529 ha10_0_hp0_N1_ ha18_0_hp0_N3_)) (by omega) (zdal_p dlD_M_named_91 (i := 21) rfl) (fun v5_ hv5_ hv5_a hv5_b => ?_)
          refine zw_goto (pc := 35) (tgt := 41) (by decide) (zdal_p dlD_M_named_91 (i := 22) rfl) ?_
          exact zr_lret (pc := 41) rfl ⟨by (exact hv5_a), by (exact hv5_b)⟩ hf trivial (zdal_p dlD_M_named_92 (i := 0) rfl)
      · skip
        show zW l m_M_named (zn Mz + 0, zw Mz + 0) Mz 21 [some (.ref 81), some (.int (Int32.ofInt a0_)), some (.int (Int32.ofInt a1_))] [.int (Int32.ofInt 0)] (zpJ [] [] Mz (fun v N => True))
        refine zr_if_eq (pc := 21) (tgt := 38) ⟨(by decide), (by decide)⟩ (by decide) (zdal_p dlD_M_named_91 (i := 13) rfl) (fun hc_21 => ?_) (fun hc_21 => ?_)
        · skip
          refine zr_ldc2 (pc := 38) (n := (-9223372036854775808)) (by decide) k_M_470 (zdal_p dlD_M_named_91 (i := 23) rfl) ?_
          exact zr_lret (pc := 41) rfl ⟨by (decide), by (decide)⟩ hf trivial (zdal_p dlD_M_named_92 (i := 0) rfl)
        · skip
          exact absurd hc_21 (by decide)
  · skip
    show zW l m_M_named (zn Mz + 0, zw Mz + 0) Mz 13 [some (.ref 81), some (.int (Int32.ofInt a0_)), some (.int (Int32.ofInt a1_))] [.int (Int32.ofInt 0)] (zpJ [] [] Mz (fun v N => True))
    refine zr_if_eq (pc := 13) (tgt := 38) ⟨(by decide), (by decide)⟩ (by decide) (zdal_p dlD_M_named_91 (i := 9) rfl) (fun hc_13 => ?_) (fun hc_13 => ?_)
    · skip
      refine zr_ldc2 (pc := 38) (n := (-9223372036854775808)) (by decide) k_M_470 (zdal_p dlD_M_named_91 (i := 23) rfl) ?_
      exact zr_lret (pc := 41) rfl ⟨by (decide), by (decide)⟩ hf trivial (zdal_p dlD_M_named_92 (i := 0) rfl)
    · skip
      exact absurd hc_13 (by decide)
set_option maxHeartbeats 4000000 in
theorem c_M_markAt_98 (l : Launch) (Mz : zMem) (hW : zMt Mz) (a1_ : Int) (ha1_a : -2147483648 ≤ a1_) (ha1_b : a1_ < 2147483648) (a2_ : Int) (ha2_a : -2147483648 ≤ a2_) (ha2_b : a2_ < 2147483648) (p0_ : zGD Mz) (p1_ : 0 ≤ a1_) (p2_ : a1_ ≤ 0) (p3_ : 0 ≤ a2_) (p4_ : a2_ ≤ 63) : zC l m_M_markAt 0 0 [.ref 81, .ref 98, .int (Int32.ofInt a1_), .int (Int32.ofInt a2_)] Mz (zpJ [] [] Mz (fun v N => True)) := by
  refine zC_of (L0 := [some (.ref 81), some (.ref 98), some (.int (Int32.ofInt a1_)), some (.int (Int32.ofInt a2_)), none, none, none]) md_M_markAt (Nat.le_of_ble_eq_true rfl) rfl ?_ zQ0
  have hf : zFr [] [] Mz Mz := zFr.rf
  have r_26 := ze_r Mz 81 26
  have gb := p0_.1
  refine zw_lconst (pc := 0) (v := Int64.ofInt 0) (by decide) (zdal_p dlC_M_markAt_114 (i := 0) rfl) ?_
  refine zw_lstore (pc := 1) (i := 4) (L2 := [some (.ref 81), some (.ref 98), some (.int (Int32.ofInt a1_)), some (.int (Int32.ofInt a2_)), some (.long (Int64.ofInt 0)), none, none]) (by decide) rfl (zdal_p dlC_M_markAt_114 (i := 1) rfl) ?_
  refine zw_iconst (pc := 3) (v := Int32.ofInt 0) (by decide) (zdal_p dlC_M_markAt_114 (i := 2) rfl) ?_
  refine zw_istore (pc := 4) (i := 6) (L2 := [some (.ref 81), some (.ref 98), some (.int (Int32.ofInt a1_)), some (.int (Int32.ofInt a2_)), some (.long (Int64.ofInt 0)), none, some (.int (Int32.ofInt 0))]) (by decide) rfl (zdal_p dlC_M_markAt_114 (i := 3) rfl) ?_
  have lp_6 : ∀ (n : Nat) (u1_ : Int) (hu1_a : -9223372036854775808 ≤ u1_) (hu1_b : u1_ < 9223372036854775808) (u2_ : Int) (hu2_a : -2147483648 ≤ u2_) (hu2_b : u2_ < 2147483648) (i3_ : 0 ≤ u2_), (ze Mz 81 26 - u2_).toNat < n → zW l m_M_markAt (zn Mz + 0, zw Mz + 0) Mz 6 [some (.ref 81), some (.ref 98), some (.int (Int32.ofInt a1_)), some (.int (Int32.ofInt a2_)), some (.long (Int64.ofInt u1_)), none, some (.int (Int32.ofInt u2_))] [] (zpJ [] [] Mz (fun v N => True)) := by
    intro n
    induction n with
    | zero =>
      intro u1_ hu1_a hu1_b u2_ hu2_a hu2_b i3_ h0
      exact absurd h0 (Nat.not_lt_zero _)
    | succ n ih_6 =>
      intro u1_ hu1_a hu1_b u2_ hu2_a hu2_b i3_ hlt_6
      refine zw_iload (pc := 6) (i := 6) (x := Int32.ofInt u2_) rfl (zdal_p dlC_M_markAt_114 (i := 4) rfl) ?_
      refine zw_aload_n (pc := 8) (n := 0) (x := 81) rfl (zdal_p dlC_M_markAt_114 (i := 5) rfl) ?_
      refine zr_getI0 hf hW (pc := 9) (by decide) f_M_235 rfl (zdal_p dlC_M_markAt_114 (i := 6) rfl) ?_
      refine zr_icmp_ge (pc := 12) (tgt := 46) ⟨hu2_a, hu2_b⟩ ⟨(ze_r Mz 81 26).1, (ze_r Mz 81 26).2⟩ (by decide) (zdal_p dlC_M_markAt_114 (i := 7) rfl) (fun hc_12 => ?_) (fun hc_12 => ?_)
      · skip
        refine zw_lload (pc := 46) (i := 4) (x := Int64.ofInt u1_) rfl (zdal_p dlC_M_markAt_115 (i := 4) rfl) ?_
        exact zr_lret (pc := 48) rfl ⟨by (exact hu1_a), by (exact hu1_b)⟩ hf trivial (zdal_p dlC_M_markAt_115 (i := 5) rfl)
      · skip
        refine zw_lload (pc := 15) (i := 4) (x := Int64.ofInt u1_) rfl (zdal_p dlC_M_markAt_114 (i := 8) rfl) ?_
        refine zw_aload_n (pc := 17) (n := 1) (x := 98) rfl (zdal_p dlC_M_markAt_114 (i := 9) rfl) ?_
        refine zw_iload_n (pc := 18) (n := 2) (x := Int32.ofInt a1_) rfl (zdal_p dlC_M_markAt_114 (i := 10) rfl) ?_
        refine zw_iload (pc := 19) (i := 6) (x := Int32.ofInt u2_) rfl (zdal_p dlC_M_markAt_114 (i := 11) rfl) ?_
        refine zr_iadd (pc := 21) (zdal_p dlC_M_markAt_114 (i := 12) rfl) ?_
        refine zr_laldn (pc := 22) (zh_98 (hf.w hW)).2 (by decide) (by (exact zo_833 i3_ p1_)) (by (exact zo_834 gb.2.2.2.2.2 hc_12 p2_)) (zdal_p dlC_M_markAt_114 (i := 13) rfl) (fun v4_ hv4_ hv4_a hv4_b => ?_)
        refine zw_aload_n (pc := 23) (n := 0) (x := 81) rfl (zdal_p dlC_M_markAt_114 (i := 14) rfl) ?_
        refine zr_getF (r := 93) (hf.w hW) (pc := 24) f_M_50 rfl (zh_93 (hf.w hW)).1 (zdal_p dlC_M_markAt_114 (i := 15) rfl) ?_
        refine zw_bipush (pc := 27) (v := Int32.ofInt 64) (by decide) (zdal_p dlC_M_markAt_114 (i := 16) rfl) ?_
        refine zw_iload (pc := 29) (i := 6) (x := Int32.ofInt u2_) rfl (zdal_p dlC_M_markAt_114 (i := 17) rfl) ?_
        refine zr_imul (pc := 31) (zdal_p dlC_M_markAt_114 (i := 18) rfl) ?_
        refine zw_iload_n (pc := 32) (n := 3) (x := Int32.ofInt a2_) rfl (zdal_p dlC_M_markAt_114 (i := 19) rfl) ?_
        refine zr_iadd (pc := 33) (zdal_p dlC_M_markAt_114 (i := 20) rfl) ?_
        refine zr_ialdn (pc := 34) (zh_93 (hf.w hW)).2 (by decide) (by (exact zo_529 i3_ p3_)) (by (exact zo_835 gb.2.2.2.2.2 hc_12 p4_)) (zdal_p dlC_M_markAt_114 (i := 21) rfl) (fun v5_ hv5_ hv5_a hv5_b => ?_)
        refine zr_i2l (pc := 35) ⟨hv5_a, hv5_b⟩ (zdal_p dlC_M_markAt_114 (i := 22) rfl) ?_
        refine zr_lmul (pc := 36) (zdal_p dlC_M_markAt_114 (i := 23) rfl) ?_
        refine zr_ladd (pc := 37) (zdal_p dlC_M_markAt_115 (i := 0) rfl) ?_
        refine zr_nmJ (fun v6_ hv6_ => ?_)
        obtain ⟨hv6_a, hv6_b⟩ := hv6_
        refine zw_lstore (pc := 38) (i := 4) (L2 := [some (.ref 81), some (.ref 98), some (.int (Int32.ofInt a1_)), some (.int (Int32.ofInt a2_)), some (.long (Int64.ofInt v6_)), none, some (.int (Int32.ofInt u2_))]) (by decide) rfl (zdal_p dlC_M_markAt_115 (i := 1) rfl) ?_
        refine zr_iinc (pc := 40) (i := 6) (a := u2_) (n := 1) (L2 := [some (.ref 81), some (.ref 98), some (.int (Int32.ofInt a1_)), some (.int (Int32.ofInt a2_)), some (.long (Int64.ofInt v6_)), none, some (.int (Int32.ofInt (u2_ + 1)))]) rfl (by decide) rfl (zdal_p dlC_M_markAt_115 (i := 2) rfl) ?_
        refine zw_goto (pc := 43) (tgt := 6) (by decide) (zdal_p dlC_M_markAt_115 (i := 3) rfl) ?_
        exact ih_6 v6_ hv6_a hv6_b (u2_ + 1) (by (exact zo_74 i3_)) (by (exact zo_832 gb.2.2.2.2.2 hc_12)) (show 0 ≤ (u2_ + 1) by first | with_reducible assumption | (exact zo_76 i3_) | assumption) (by (exact zo_147 hc_12 hlt_6))
  exact lp_6 _ 0 (by decide) (by decide) 0 (by decide) (by decide) (show 0 ≤ (0 : Int) by first | with_reducible assumption | (decide) | assumption) (Nat.lt_succ_self _)
set_option maxHeartbeats 4000000 in
theorem c_M_has (l : Launch) (Mz : zMem) (hW : zMt Mz) (a0_ : Int) (ha0_a : -2147483648 ≤ a0_) (ha0_b : a0_ < 2147483648) (T : zGT) (hO : gOK T) (p0_ : zGB T Mz) : zC l m_M_has 0 0 [.ref 81, .int (Int32.ofInt a0_)] Mz (zpJ [] [] Mz (fun v N => True)) := by
  refine zC_of (L0 := [some (.ref 81), some (.int (Int32.ofInt a0_))]) md_M_has (Nat.le_of_ble_eq_true rfl) rfl ?_ zQ0
  have hf : zFr [] [] Mz Mz := zFr.rf
  have r_26 := ze_r Mz 81 26
  have hG := hO.1
  have g24 := hG.2.1
  have g1 := hG.1
  have dv0 : zTab T Mz := p0_.1
  have dv1 : zB 85 144 0 5 Mz := p0_.2.1
  have dv2 : zJX T Mz := p0_.2.2.1
  have dv3 : zFirs T Mz := p0_.2.2.2.1
  have dv4 : zSSm T Mz := p0_.2.2.2.2.1
  have dv5 : zGD Mz := zGB.d hO p0_
  have gb := dv5.1
  have gn := dv0.1
  refine zw_aload_n (pc := 0) (n := 0) (x := 81) rfl (zdal_p dlD_M_has_93 (i := 0) rfl) ?_
  refine zw_iload_n (pc := 1) (n := 1) (x := Int32.ofInt a0_) rfl (zdal_p dlD_M_has_93 (i := 1) rfl) ?_
  refine zr_callV (hf.w hW) hf.x (pc := 2) [.int (Int32.ofInt a0_)] [] l_M_414 (c_M_isSort l Mz (hf.w hW) a0_ ha0_a ha0_b T hO p0_) rfl rfl rfl (by decide) (Nat.le_of_ble_eq_true rfl) (zdal_p dlD_M_has_93 (i := 2) rfl) ?_
  rintro _ N1_ ⟨v2_, rfl, ⟨hv2_a, hv2_b⟩, hsN1_, hp0_N1_⟩
  obtain rfl := hsN1_.eq.symm
  replace hp0_N1_ : ((v2_ = 1 ∧ 0 ≤ a0_ ∧ a0_ < ze Mz 81 26) ∨ (v2_ = 0)) := hp0_N1_
  rcases hp0_N1_ with ⟨rfl, ha2_0_hp0_N1_, ha2_1_hp0_N1_⟩ | rfl
  · skip
    show zW l m_M_has (zn Mz + 0, zw Mz + 0) Mz 5 [some (.ref 81), some (.int (Int32.ofInt a0_))] [.int (Int32.ofInt 1)] (zpJ [] [] Mz (fun v N => True))
    refine zr_if_eq (pc := 5) (tgt := 17) ⟨(by decide), (by decide)⟩ (by decide) (zdal_p dlD_M_has_93 (i := 3) rfl) (fun hc_5 => ?_) (fun hc_5 => ?_)
    · skip
      exact absurd hc_5 (by decide)
    · skip
      refine zw_aload_n (pc := 8) (n := 0) (x := 81) rfl (zdal_p dlD_M_has_93 (i := 4) rfl) ?_
      refine zr_getF (r := 98) (hf.w hW) (pc := 9) f_M_66 rfl (zh_98 (hf.w hW)).1 (zdal_p dlD_M_has_93 (i := 5) rfl) ?_
      refine zw_iload_n (pc := 12) (n := 1) (x := Int32.ofInt a0_) rfl (zdal_p dlD_M_has_93 (i := 6) rfl) ?_
      refine zr_laldn (pc := 13) (zh_98 (hf.w hW)).2 (by decide) (by (exact ha2_0_hp0_N1_)) (by (exact zo_906 gb.2.2.2.2.2 ha0_b ha2_1_hp0_N1_)) (zdal_p dlD_M_has_93 (i := 7) rfl) (fun v3_ hv3_ hv3_a hv3_b => ?_)
      refine zw_goto (pc := 14) (tgt := 20) (by decide) (zdal_p dlD_M_has_93 (i := 8) rfl) ?_
      exact zr_lret (pc := 20) rfl ⟨by (exact hv3_a), by (exact hv3_b)⟩ hf trivial (zdal_p dlD_M_has_93 (i := 10) rfl)
  · skip
    show zW l m_M_has (zn Mz + 0, zw Mz + 0) Mz 5 [some (.ref 81), some (.int (Int32.ofInt a0_))] [.int (Int32.ofInt 0)] (zpJ [] [] Mz (fun v N => True))
    refine zr_if_eq (pc := 5) (tgt := 17) ⟨(by decide), (by decide)⟩ (by decide) (zdal_p dlD_M_has_93 (i := 3) rfl) (fun hc_5 => ?_) (fun hc_5 => ?_)
    · skip
      refine zr_ldc2 (pc := 17) (n := (-9223372036854775808)) (by decide) k_M_470 (zdal_p dlD_M_has_93 (i := 9) rfl) ?_
      exact zr_lret (pc := 20) rfl ⟨by (decide), by (decide)⟩ hf trivial (zdal_p dlD_M_has_93 (i := 10) rfl)
    · skip
      exact absurd hc_5 (by decide)
set_option maxHeartbeats 4000000 in
theorem c_M_marked (l : Launch) (Mz : zMem) (hW : zMt Mz) (a0_ : Int) (ha0_a : -2147483648 ≤ a0_) (ha0_b : a0_ < 2147483648) (T : zGT) (hO : gOK T) (p0_ : zGB T Mz) : zC l m_M_marked 0 0 [.ref 81, .int (Int32.ofInt a0_)] Mz (zpJ [] [] Mz (fun v N => True)) := by
  refine zC_of (L0 := [some (.ref 81), some (.int (Int32.ofInt a0_))]) md_M_marked (Nat.le_of_ble_eq_true rfl) rfl ?_ zQ0
  have hf : zFr [] [] Mz Mz := zFr.rf
  have r_26 := ze_r Mz 81 26
  have hG := hO.1
  have g24 := hG.2.1
  have g1 := hG.1
  have dv0 : zTab T Mz := p0_.1
  have dv1 : zB 85 144 0 5 Mz := p0_.2.1
  have dv2 : zJX T Mz := p0_.2.2.1
  have dv3 : zFirs T Mz := p0_.2.2.2.1
  have dv4 : zSSm T Mz := p0_.2.2.2.2.1
  have dv5 : zGD Mz := zGB.d hO p0_
  have gb := dv5.1
  have gn := dv0.1
  refine zw_aload_n (pc := 0) (n := 0) (x := 81) rfl (zdal_p dlD_M_marked_94 (i := 0) rfl) ?_
  refine zw_iload_n (pc := 1) (n := 1) (x := Int32.ofInt a0_) rfl (zdal_p dlD_M_marked_94 (i := 1) rfl) ?_
  refine zr_callV (hf.w hW) hf.x (pc := 2) [.int (Int32.ofInt a0_)] [] l_M_414 (c_M_isSort l Mz (hf.w hW) a0_ ha0_a ha0_b T hO p0_) rfl rfl rfl (by decide) (Nat.le_of_ble_eq_true rfl) (zdal_p dlD_M_marked_94 (i := 2) rfl) ?_
  rintro _ N1_ ⟨v2_, rfl, ⟨hv2_a, hv2_b⟩, hsN1_, hp0_N1_⟩
  obtain rfl := hsN1_.eq.symm
  replace hp0_N1_ : ((v2_ = 1 ∧ 0 ≤ a0_ ∧ a0_ < ze Mz 81 26) ∨ (v2_ = 0)) := hp0_N1_
  rcases hp0_N1_ with ⟨rfl, ha2_0_hp0_N1_, ha2_1_hp0_N1_⟩ | rfl
  · skip
    show zW l m_M_marked (zn Mz + 0, zw Mz + 0) Mz 5 [some (.ref 81), some (.int (Int32.ofInt a0_))] [.int (Int32.ofInt 1)] (zpJ [] [] Mz (fun v N => True))
    refine zr_if_eq (pc := 5) (tgt := 21) ⟨(by decide), (by decide)⟩ (by decide) (zdal_p dlD_M_marked_94 (i := 3) rfl) (fun hc_5 => ?_) (fun hc_5 => ?_)
    · skip
      exact absurd hc_5 (by decide)
    · skip
      refine zw_aload_n (pc := 8) (n := 0) (x := 81) rfl (zdal_p dlD_M_marked_94 (i := 4) rfl) ?_
      refine zw_aload_n (pc := 9) (n := 0) (x := 81) rfl (zdal_p dlD_M_marked_94 (i := 5) rfl) ?_
      refine zr_getF (r := 98) (hf.w hW) (pc := 10) f_M_66 rfl (zh_98 (hf.w hW)).1 (zdal_p dlD_M_marked_94 (i := 6) rfl) ?_
      refine zw_iconst (pc := 13) (v := Int32.ofInt 0) (by decide) (zdal_p dlD_M_marked_94 (i := 7) rfl) ?_
      refine zw_iload_n (pc := 14) (n := 1) (x := Int32.ofInt a0_) rfl (zdal_p dlD_M_marked_94 (i := 8) rfl) ?_
      refine zr_callV (hf.w hW) hf.x (pc := 15) [.ref 98, .int (Int32.ofInt 0), .int (Int32.ofInt a0_)] [] l_M_264 (c_M_markAt_98 l Mz (hf.w hW) 0 (by decide) (by decide) a0_ ha0_a ha0_b dv5 (show 0 ≤ 0 by first | with_reducible assumption | (decide) | assumption) (show 0 ≤ 0 by first | with_reducible assumption | (decide) | assumption) (show 0 ≤ a0_ by first | with_reducible assumption | assumption | omega) (show a0_ ≤ 63 by first | with_reducible assumption | assumption | omega)) rfl rfl rfl (by decide) (Nat.le_of_ble_eq_true rfl) (zdal_p dlD_M_marked_94 (i := 9) rfl) ?_
      rintro _ N3_ ⟨v4_, rfl, ⟨hv4_a, hv4_b⟩, hsN3_, -⟩
      obtain rfl := hsN3_.eq.symm
      show zW l m_M_marked (zn Mz + 0, zw Mz + 0) Mz 18 [some (.ref 81), some (.int (Int32.ofInt a0_))] [.long (Int64.ofInt v4_)] (zpJ [] [] Mz (fun v N => True))
      refine zw_goto (pc := 18) (tgt := 24) (by decide) (zdal_p dlD_M_marked_94 (i := 10) rfl) ?_
      exact zr_lret (pc := 24) rfl ⟨by (exact hv4_a), by (exact hv4_b)⟩ hf trivial (zdal_p dlD_M_marked_94 (i := 12) rfl)
  · skip
    show zW l m_M_marked (zn Mz + 0, zw Mz + 0) Mz 5 [some (.ref 81), some (.int (Int32.ofInt a0_))] [.int (Int32.ofInt 0)] (zpJ [] [] Mz (fun v N => True))
    refine zr_if_eq (pc := 5) (tgt := 21) ⟨(by decide), (by decide)⟩ (by decide) (zdal_p dlD_M_marked_94 (i := 3) rfl) (fun hc_5 => ?_) (fun hc_5 => ?_)
    · skip
      refine zr_ldc2 (pc := 21) (n := (-9223372036854775808)) (by decide) k_M_470 (zdal_p dlD_M_marked_94 (i := 11) rfl) ?_
      exact zr_lret (pc := 24) rfl ⟨by (decide), by (decide)⟩ hf trivial (zdal_p dlD_M_marked_94 (i := 12) rfl)
    · skip
      exact absurd hc_5 (by decide)
set_option maxHeartbeats 4000000 in
theorem c_M_character (l : Launch) (Mz : zMem) (hW : zMt Mz) (a0_ : Int) (ha0_a : -2147483648 ≤ a0_) (ha0_b : a0_ < 2147483648) (T : zGT) (hO : gOK T) (p0_ : zGB T Mz) : zC l m_M_character 0 0 [.ref 81, .int (Int32.ofInt a0_)] Mz (zpJ [] [] Mz (fun v N => True)) := by
  refine zC_of (L0 := [some (.ref 81), some (.int (Int32.ofInt a0_))]) md_M_character (Nat.le_of_ble_eq_true rfl) rfl ?_ zQ0
  have hf : zFr [] [] Mz Mz := zFr.rf
  have r_20 := ze_r Mz 81 20
  have r_26 := ze_r Mz 81 26
  have hG := hO.1
  have g24 := hG.2.1
  have g1 := hG.1
  have dv0 : zTab T Mz := p0_.1
  have dv1 : zB 85 144 0 5 Mz := p0_.2.1
  have dv2 : zJX T Mz := p0_.2.2.1
  have dv3 : zFirs T Mz := p0_.2.2.2.1
  have dv4 : zSSm T Mz := p0_.2.2.2.2.1
  have dv5 : zGD Mz := zGB.d hO p0_
  have gb := dv5.1
  have gn := dv0.1
  refine zw_aload_n (pc := 0) (n := 0) (x := 81) rfl (zdal_p dlD_M_character_95 (i := 0) rfl) ?_
  refine zw_iload_n (pc := 1) (n := 1) (x := Int32.ofInt a0_) rfl (zdal_p dlD_M_character_95 (i := 1) rfl) ?_
  refine zr_callV (hf.w hW) hf.x (pc := 2) [.int (Int32.ofInt a0_)] [] l_M_400 (c_M_isMember l Mz (hf.w hW) a0_ ha0_a ha0_b T hO p0_) rfl rfl rfl (by decide) (Nat.le_of_ble_eq_true rfl) (zdal_p dlD_M_character_95 (i := 2) rfl) ?_
  rintro _ N1_ ⟨v2_, rfl, ⟨hv2_a, hv2_b⟩, hsN1_, hp0_N1_⟩
  obtain rfl := hsN1_.eq.symm
  replace hp0_N1_ : ((v2_ = 1 ∧ 0 ≤ a0_ ∧ a0_ < ze Mz 81 20) ∨ (v2_ = 0)) := hp0_N1_
  rcases hp0_N1_ with ⟨rfl, ha2_0_hp0_N1_, ha2_1_hp0_N1_⟩ | rfl
  · skip
    show zW l m_M_character (zn Mz + 0, zw Mz + 0) Mz 5 [some (.ref 81), some (.int (Int32.ofInt a0_))] [.int (Int32.ofInt 1)] (zpJ [] [] Mz (fun v N => True))
    refine zr_if_eq (pc := 5) (tgt := 31) ⟨(by decide), (by decide)⟩ (by decide) (zdal_p dlD_M_character_95 (i := 3) rfl) (fun hc_5 => ?_) (fun hc_5 => ?_)
    · skip
      exact absurd hc_5 (by decide)
    · skip
      refine zw_aload_n (pc := 8) (n := 0) (x := 81) rfl (zdal_p dlD_M_character_95 (i := 4) rfl) ?_
      refine zw_aload_n (pc := 9) (n := 0) (x := 81) rfl (zdal_p dlD_M_character_95 (i := 5) rfl) ?_
      refine zr_getF (r := 98) (hf.w hW) (pc := 10) f_M_66 rfl (zh_98 (hf.w hW)).1 (zdal_p dlD_M_character_95 (i := 6) rfl) ?_
      refine zw_iconst (pc := 13) (v := Int32.ofInt 0) (by decide) (zdal_p dlD_M_character_95 (i := 7) rfl) ?_
      refine zw_aload_n (pc := 14) (n := 0) (x := 81) rfl (zdal_p dlD_M_character_95 (i := 8) rfl) ?_
      refine zw_aload_n (pc := 15) (n := 0) (x := 81) rfl (zdal_p dlD_M_character_95 (i := 9) rfl) ?_
      refine zw_iconst (pc := 16) (v := Int32.ofInt 1) (by decide) (zdal_p dlD_M_character_95 (i := 10) rfl) ?_
      refine zw_iload_n (pc := 17) (n := 1) (x := Int32.ofInt a0_) rfl (zdal_p dlD_M_character_95 (i := 11) rfl) ?_
      refine zr_ishl (pc := 18) (zdal_p dlD_M_character_95 (i := 12) rfl) ?_
      have hr3_ := zshl_r 1 a0_
      have hsi := zshl_i hG (k := a0_) (by (exact ha2_0_hp0_N1_)) (by (exact zo_928 gb.2.1 gn ha2_1_hp0_N1_))
      refine zr_callV (hf.w hW) hf.x (pc := 19) [.int (Int32.ofInt (zshl 1 a0_))] [.ref 81, .int (Int32.ofInt 0), .ref 98, .ref 81] l_M_229 (c_M_closed l Mz (hf.w hW) (zshl 1 a0_) (by (exact zo_168 hsi.2.1)) (by (exact zo_285 hr3_.2)) T hG dv0 (show gIn T (zshl 1 a0_) by exact hsi.1)) rfl rfl rfl (by decide) (Nat.le_of_ble_eq_true rfl) (zdal_p dlD_M_character_95 (i := 13) rfl) ?_
      rintro _ N4_ ⟨v5_, rfl, ⟨hv5_a, hv5_b⟩, hsN4_, ⟨hp0_N4_, hp1_N4_, hp2_N4_⟩⟩
      obtain rfl := hsN4_.eq.symm
      show zW l m_M_character (zn Mz + 0, zw Mz + 0) Mz 22 [some (.ref 81), some (.int (Int32.ofInt a0_))] [.int (Int32.ofInt v5_), .ref 81, .int (Int32.ofInt 0), .ref 98, .ref 81] (zpJ [] [] Mz (fun v N => True))
      have hm_Mz := gMe_c hO hp0_N4_ (by (exact hp1_N4_))
      refine zr_callV (hf.w hW) hf.x (pc := 22) [.int (Int32.ofInt v5_)] [.int (Int32.ofInt 0), .ref 98, .ref 81] l_M_411 (c_M_sortOfSet l Mz (hf.w hW) v5_ hv5_a hv5_b T hO p0_ (show gMe T v5_ by first | with_reducible assumption | assumption)) rfl rfl rfl (by decide) (Nat.le_of_ble_eq_true rfl) (zdal_p dlD_M_character_95 (i := 14) rfl) ?_
      rintro _ N6_ ⟨v7_, rfl, ⟨hv7_a, hv7_b⟩, hsN6_, ⟨hp0_N6_, hp1_N6_⟩⟩
      obtain rfl := hsN6_.eq.symm
      show zW l m_M_character (zn Mz + 0, zw Mz + 0) Mz 25 [some (.ref 81), some (.int (Int32.ofInt a0_))] [.int (Int32.ofInt v7_), .int (Int32.ofInt 0), .ref 98, .ref 81] (zpJ [] [] Mz (fun v N => True))
      refine zr_callV (hf.w hW) hf.x (pc := 25) [.ref 98, .int (Int32.ofInt 0), .int (Int32.ofInt v7_)] [] l_M_264 (c_M_markAt_98 l Mz (hf.w hW) 0 (by decide) (by decide) v7_ hv7_a hv7_b dv5 (show 0 ≤ 0 by first | with_reducible assumption | (decide) | assumption) (show 0 ≤ 0 by first | with_reducible assumption | (decide) | assumption) (show 0 ≤ v7_ by first | with_reducible assumption | assumption | omega) (show v7_ ≤ 63 by first | with_reducible assumption | assumption | omega)) rfl rfl rfl (by decide) (Nat.le_of_ble_eq_true rfl) (zdal_p dlD_M_character_95 (i := 15) rfl) ?_
      rintro _ N8_ ⟨v9_, rfl, ⟨hv9_a, hv9_b⟩, hsN8_, -⟩
      obtain rfl := hsN8_.eq.symm
      show zW l m_M_character (zn Mz + 0, zw Mz + 0) Mz 28 [some (.ref 81), some (.int (Int32.ofInt a0_))] [.long (Int64.ofInt v9_)] (zpJ [] [] Mz (fun v N => True))
      refine zw_goto (pc := 28) (tgt := 34) (by decide) (zdal_p dlD_M_character_95 (i := 16) rfl) ?_
      exact zr_lret (pc := 34) rfl ⟨by (exact hv9_a), by (exact hv9_b)⟩ hf trivial (zdal_p dlD_M_character_95 (i := 18) rfl)
  · skip
    show zW l m_M_character (zn Mz + 0, zw Mz + 0) Mz 5 [some (.ref 81), some (.int (Int32.ofInt a0_))] [.int (Int32.ofInt 0)] (zpJ [] [] Mz (fun v N => True))
    refine zr_if_eq (pc := 5) (tgt := 31) ⟨(by decide), (by decide)⟩ (by decide) (zdal_p dlD_M_character_95 (i := 3) rfl) (fun hc_5 => ?_) (fun hc_5 => ?_)
    · skip
      refine zr_ldc2 (pc := 31) (n := (-9223372036854775808)) (by decide) k_M_470 (zdal_p dlD_M_character_95 (i := 17) rfl) ?_
      exact zr_lret (pc := 34) rfl ⟨by (decide), by (decide)⟩ hf trivial (zdal_p dlD_M_character_95 (i := 18) rfl)
    · skip
      exact absurd hc_5 (by decide)
set_option maxHeartbeats 4000000 in
theorem c_M_parts (l : Launch) (Mz : zMem) (hW : zMt Mz) (T : zGT) (hO : gOK T) (p0_ : zGB T Mz) : zC l m_M_parts 0 0 [.ref 81] Mz (zpI [] [] Mz (fun v N => True)) := by
  refine zC_of (L0 := [some (.ref 81), none, none]) md_M_parts (Nat.le_of_ble_eq_true rfl) rfl ?_ zQ0
  have hf : zFr [] [] Mz Mz := zFr.rf
  have r_26 := ze_r Mz 81 26
  have hG := hO.1
  have g24 := hG.2.1
  have g1 := hG.1
  have dv0 : zTab T Mz := p0_.1
  have dv1 : zB 85 144 0 5 Mz := p0_.2.1
  have dv2 : zJX T Mz := p0_.2.2.1
  have dv3 : zFirs T Mz := p0_.2.2.2.1
  have dv4 : zSSm T Mz := p0_.2.2.2.2.1
  have dv5 : zGD Mz := zGB.d hO p0_
  have gb := dv5.1
  have gn := dv0.1
  refine zw_iconst (pc := 0) (v := Int32.ofInt 0) (by decide) (zdal_p dlD_M_parts_96 (i := 0) rfl) ?_
  refine zw_istore_n (pc := 1) (i := 1) (L2 := [some (.ref 81), some (.int (Int32.ofInt 0)), none]) rfl (by decide) rfl (zdal_p dlD_M_parts_96 (i := 1) rfl) ?_
  refine zw_iconst (pc := 2) (v := Int32.ofInt 0) (by decide) (zdal_p dlD_M_parts_96 (i := 2) rfl) ?_
  refine zw_istore_n (pc := 3) (i := 2) (L2 := [some (.ref 81), some (.int (Int32.ofInt 0)), some (.int (Int32.ofInt 0))]) rfl (by decide) rfl (zdal_p dlD_M_parts_96 (i := 3) rfl) ?_
  have lp_4 : ∀ (n : Nat) (u1_ : Int) (hu1_a : -2147483648 ≤ u1_) (hu1_b : u1_ < 2147483648) (u2_ : Int) (hu2_a : -2147483648 ≤ u2_) (hu2_b : u2_ < 2147483648) (i3_ : 0 ≤ u2_), (ze Mz 81 26 - u2_).toNat < n → zW l m_M_parts (zn Mz + 0, zw Mz + 0) Mz 4 [some (.ref 81), some (.int (Int32.ofInt u1_)), some (.int (Int32.ofInt u2_))] [] (zpI [] [] Mz (fun v N => True)) := by
    intro n
    induction n with
    | zero =>
      intro u1_ hu1_a hu1_b u2_ hu2_a hu2_b i3_ h0
      exact absurd h0 (Nat.not_lt_zero _)
    | succ n ih_4 =>
      intro u1_ hu1_a hu1_b u2_ hu2_a hu2_b i3_ hlt_4
      refine zw_iload_n (pc := 4) (n := 2) (x := Int32.ofInt u2_) rfl (zdal_p dlD_M_parts_96 (i := 4) rfl) ?_
      refine zw_aload_n (pc := 5) (n := 0) (x := 81) rfl (zdal_p dlD_M_parts_96 (i := 5) rfl) ?_
      refine zr_getI0 hf hW (pc := 6) (by decide) f_M_235 rfl (zdal_p dlD_M_parts_96 (i := 6) rfl) ?_
      refine zr_icmp_ge (pc := 9) (tgt := 40) ⟨hu2_a, hu2_b⟩ ⟨(ze_r Mz 81 26).1, (ze_r Mz 81 26).2⟩ (by decide) (zdal_p dlD_M_parts_96 (i := 7) rfl) (fun hc_9 => ?_) (fun hc_9 => ?_)
      · skip
        refine zw_iload_n (pc := 40) (n := 1) (x := Int32.ofInt u1_) rfl (zdal_p dlD_M_parts_97 (i := 0) rfl) ?_
        exact zr_iret (pc := 41) (ty := .int) rfl rfl ⟨by (exact hu1_a), by (exact hu1_b)⟩ hf trivial (zdal_p dlD_M_parts_97 (i := 1) rfl)
      · skip
        refine zw_iload_n (pc := 12) (n := 1) (x := Int32.ofInt u1_) rfl (zdal_p dlD_M_parts_96 (i := 8) rfl) ?_
        refine zw_aload_n (pc := 13) (n := 0) (x := 81) rfl (zdal_p dlD_M_parts_96 (i := 9) rfl) ?_
        refine zr_getF (r := 98) (hf.w hW) (pc := 14) f_M_66 rfl (zh_98 (hf.w hW)).1 (zdal_p dlD_M_parts_96 (i := 10) rfl) ?_
        refine zw_iload_n (pc := 17) (n := 2) (x := Int32.ofInt u2_) rfl (zdal_p dlD_M_parts_96 (i := 11) rfl) ?_
        refine zr_laldn (pc := 18) (zh_98 (hf.w hW)).2 (by decide) (by (exact i3_)) (by (exact zo_831 gb.2.2.2.2.2 hc_9)) (zdal_p dlD_M_parts_96 (i := 12) rfl) (fun v4_ hv4_ hv4_a hv4_b => ?_)
        refine zw_lconst (pc := 19) (v := Int64.ofInt 0) (by decide) (zdal_p dlD_M_parts_96 (i := 13) rfl) ?_
        refine zr_lcmp (pc := 20) ⟨hv4_a, hv4_b⟩ ⟨(by decide), (by decide)⟩ (zdal_p dlD_M_parts_96 (i := 14) rfl) ?_
        have hr5_ := zcmp_s v4_ 0
        refine zr_if_eq (pc := 21) (tgt := 28) ⟨(by (exact zo_71 hr5_)), (by (exact zo_72 hr5_))⟩ (by decide) (zdal_p dlD_M_parts_96 (i := 15) rfl) (fun hc_21 => ?_) (fun hc_21 => ?_)
        · skip
          refine zw_iconst (pc := 28) (v := Int32.ofInt 0) (by decide) (zdal_p dlD_M_parts_96 (i := 18) rfl) ?_
          refine zr_callS hf.x (pc := 29) [.int (Int32.ofInt 0)] [.int (Int32.ofInt u1_)] l_M_256 (c_M_truth l Mz (hf.w hW) 0 (by decide) (by decide) (by (decide))) rfl rfl (by decide) (Nat.le_of_ble_eq_true rfl) (zdal_p dlD_M_parts_96 (i := 19) rfl) ?_
          rintro _ N6_ ⟨v7_, rfl, ⟨hv7_a, hv7_b⟩, hsN6_, hp0_N6_⟩
          obtain rfl := hsN6_.eq.symm
          replace hp0_N6_ : v7_ = 0 := hp0_N6_
          show zW l m_M_parts (zn Mz + 0, zw Mz + 0) Mz 32 [some (.ref 81), some (.int (Int32.ofInt u1_)), some (.int (Int32.ofInt u2_))] [.int (Int32.ofInt v7_), .int (Int32.ofInt u1_)] (zpI [] [] Mz (fun v N => True))
          refine zr_iadd (pc := 32) (zdal_p dlD_M_parts_96 (i := 20) rfl) ?_
          refine zr_nmI (fun v8_ hv8_ => ?_)
          obtain ⟨hv8_a, hv8_b⟩ := hv8_
          refine zw_istore_n (pc := 33) (i := 1) (L2 := [some (.ref 81), some (.int (Int32.ofInt v8_)), some (.int (Int32.ofInt u2_))]) rfl (by decide) rfl (zdal_p dlD_M_parts_96 (i := 21) rfl) ?_
          refine zr_iinc (pc := 34) (i := 2) (a := u2_) (n := 1) (L2 := [some (.ref 81), some (.int (Int32.ofInt v8_)), some (.int (Int32.ofInt (u2_ + 1)))]) rfl (by decide) rfl (zdal_p dlD_M_parts_96 (i := 22) rfl) ?_
          refine zw_goto (pc := 37) (tgt := 4) (by decide) (zdal_p dlD_M_parts_96 (i := 23) rfl) ?_
          exact ih_4 v8_ hv8_a hv8_b (u2_ + 1) (by (exact zo_74 i3_)) (by (exact zo_832 gb.2.2.2.2.2 hc_9)) (show 0 ≤ (u2_ + 1) by first | with_reducible assumption | (exact zo_76 i3_) | assumption) (by (exact zo_147 hc_9 hlt_4))
        · skip
          refine zw_iconst (pc := 24) (v := Int32.ofInt 1) (by decide) (zdal_p dlD_M_parts_96 (i := 16) rfl) ?_
          refine zw_goto (pc := 25) (tgt := 29) (by decide) (zdal_p dlD_M_parts_96 (i := 17) rfl) ?_
          refine zr_callS hf.x (pc := 29) [.int (Int32.ofInt 1)] [.int (Int32.ofInt u1_)] l_M_256 (c_M_truth l Mz (hf.w hW) 1 (by decide) (by decide) (by (decide))) rfl rfl (by decide) (Nat.le_of_ble_eq_true rfl) (zdal_p dlD_M_parts_96 (i := 19) rfl) ?_
          rintro _ N9_ ⟨v10_, rfl, ⟨hv10_a, hv10_b⟩, hsN9_, hp0_N9_⟩
          obtain rfl := hsN9_.eq.symm
          replace hp0_N9_ : v10_ = 1 := hp0_N9_
          show zW l m_M_parts (zn Mz + 0, zw Mz + 0) Mz 32 [some (.ref 81), some (.int (Int32.ofInt u1_)), some (.int (Int32.ofInt u2_))] [.int (Int32.ofInt v10_), .int (Int32.ofInt u1_)] (zpI [] [] Mz (fun v N => True))
          refine zr_iadd (pc := 32) (zdal_p dlD_M_parts_96 (i := 20) rfl) ?_
          refine zr_nmI (fun v11_ hv11_ => ?_)
          obtain ⟨hv11_a, hv11_b⟩ := hv11_
          refine zw_istore_n (pc := 33) (i := 1) (L2 := [some (.ref 81), some (.int (Int32.ofInt v11_)), some (.int (Int32.ofInt u2_))]) rfl (by decide) rfl (zdal_p dlD_M_parts_96 (i := 21) rfl) ?_
          refine zr_iinc (pc := 34) (i := 2) (a := u2_) (n := 1) (L2 := [some (.ref 81), some (.int (Int32.ofInt v11_)), some (.int (Int32.ofInt (u2_ + 1)))]) rfl (by decide) rfl (zdal_p dlD_M_parts_96 (i := 22) rfl) ?_
          refine zw_goto (pc := 37) (tgt := 4) (by decide) (zdal_p dlD_M_parts_96 (i := 23) rfl) ?_
          exact ih_4 v11_ hv11_a hv11_b (u2_ + 1) (by (exact zo_74 i3_)) (by (exact zo_832 gb.2.2.2.2.2 hc_9)) (show 0 ≤ (u2_ + 1) by first | with_reducible assumption | (exact zo_76 i3_) | assumption) (by (exact zo_147 hc_9 hlt_4))
  exact lp_4 _ 0 (by decide) (by decide) 0 (by decide) (by decide) (show 0 ≤ (0 : Int) by first | with_reducible assumption | (decide) | assumption) (Nat.lt_succ_self _)
set_option maxHeartbeats 4000000 in
theorem c_M_laysMarks (l : Launch) (Mz : zMem) (hW : zMt Mz) (T : zGT) (hO : gOK T) (p0_ : zGB T Mz) : zC l m_M_laysMarks 0 0 [.ref 81] Mz (zpV [] [99] Mz (fun N => True)) := by
  refine zC_of (L0 := [some (.ref 81), none]) md_M_laysMarks (Nat.le_of_ble_eq_true rfl) rfl ?_ zQ0
  have hf : zFr [] [99] Mz Mz := zFr.rf
  have r_26 := ze_r Mz 81 26
  have hG := hO.1
  have g24 := hG.2.1
  have g1 := hG.1
  have dv0 : zTab T Mz := p0_.1
  have dv1 : zB 85 144 0 5 Mz := p0_.2.1
  have dv2 : zJX T Mz := p0_.2.2.1
  have dv3 : zFirs T Mz := p0_.2.2.2.1
  have dv4 : zSSm T Mz := p0_.2.2.2.2.1
  have dv5 : zGD Mz := zGB.d hO p0_
  have gb := dv5.1
  have gn := dv0.1
  refine zw_iconst (pc := 0) (v := Int32.ofInt 0) (by decide) (zdal_p dlD_M_laysMarks_99 (i := 0) rfl) ?_
  refine zw_istore_n (pc := 1) (i := 1) (L2 := [some (.ref 81), some (.int (Int32.ofInt 0))]) rfl (by decide) rfl (zdal_p dlD_M_laysMarks_99 (i := 1) rfl) ?_
  have lp_2 : ∀ (n : Nat) (u1_ : Int) (hu1_a : -2147483648 ≤ u1_) (hu1_b : u1_ < 2147483648) (N2_ : zMem) (hs3_ : zFr [] [99] Mz N2_) (i4_ : 0 ≤ u1_), (ze Mz 81 26 - u1_).toNat < n → zW l m_M_laysMarks (zn Mz + 0, zw Mz + 0) N2_ 2 [some (.ref 81), some (.int (Int32.ofInt u1_))] [] (zpV [] [99] Mz (fun N => True)) := by
    intro n
    induction n with
    | zero =>
      intro u1_ hu1_a hu1_b N2_ hs3_ i4_ h0
      exact absurd h0 (Nat.not_lt_zero _)
    | succ n ih_2 =>
      intro u1_ hu1_a hu1_b N2_ hs3_ i4_ hlt_2
      have hf_N2_ : zFr [] [99] Mz N2_ := hf.tr hs3_ (by decide) (by decide)
      have c11_ : zGD N2_ := zGD.fr hs3_ dv5 (by decide) (by decide)
      refine zw_iload_n (pc := 2) (n := 1) (x := Int32.ofInt u1_) rfl (zdal_p dlD_M_laysMarks_99 (i := 2) rfl) ?_
      refine zw_aload_n (pc := 3) (n := 0) (x := 81) rfl (zdal_p dlD_M_laysMarks_99 (i := 3) rfl) ?_
      refine zr_getI0 hf_N2_ hW (pc := 4) (by decide) f_M_235 rfl (zdal_p dlD_M_laysMarks_99 (i := 4) rfl) ?_
      refine zr_icmp_ge (pc := 7) (tgt := 32) ⟨hu1_a, hu1_b⟩ ⟨(ze_r Mz 81 26).1, (ze_r Mz 81 26).2⟩ (by decide) (zdal_p dlD_M_laysMarks_99 (i := 5) rfl) (fun hc_7 => ?_) (fun hc_7 => ?_)
      · skip
        exact zr_vret (pc := 32) rfl hf_N2_ trivial (zdal_p dlD_M_laysMarks_99 (i := 18) rfl)
      · skip
        refine zw_aload_n (pc := 10) (n := 0) (x := 81) rfl (zdal_p dlD_M_laysMarks_99 (i := 6) rfl) ?_
        refine zr_getF (r := 99) (hf_N2_.w hW) (pc := 11) f_M_69 rfl (zh_99 (hf_N2_.w hW)).1 (zdal_p dlD_M_laysMarks_99 (i := 7) rfl) ?_
        refine zw_iload_n (pc := 14) (n := 1) (x := Int32.ofInt u1_) rfl (zdal_p dlD_M_laysMarks_99 (i := 8) rfl) ?_
        refine zw_aload_n (pc := 15) (n := 0) (x := 81) rfl (zdal_p dlD_M_laysMarks_99 (i := 9) rfl) ?_
        refine zw_aload_n (pc := 16) (n := 0) (x := 81) rfl (zdal_p dlD_M_laysMarks_99 (i := 10) rfl) ?_
        refine zr_getF (r := 98) (hf_N2_.w hW) (pc := 17) f_M_66 rfl (zh_98 (hf_N2_.w hW)).1 (zdal_p dlD_M_laysMarks_99 (i := 11) rfl) ?_
        refine zw_iconst (pc := 20) (v := Int32.ofInt 0) (by decide) (zdal_p dlD_M_laysMarks_99 (i := 12) rfl) ?_
        refine zw_iload_n (pc := 21) (n := 1) (x := Int32.ofInt u1_) rfl (zdal_p dlD_M_laysMarks_99 (i := 13) rfl) ?_
        refine zr_callV (hf_N2_.w hW) hf_N2_.x (pc := 22) [.ref 98, .int (Int32.ofInt 0), .int (Int32.ofInt u1_)] [.int (Int32.ofInt u1_), .ref 99] l_M_264 (c_M_markAt_98 l N2_ (hf_N2_.w hW) 0 (by decide) (by decide) u1_ hu1_a hu1_b c11_ (show 0 ≤ 0 by first | with_reducible assumption | (decide) | assumption) (show 0 ≤ 0 by first | with_reducible assumption | (decide) | assumption) (show 0 ≤ u1_ by first | with_reducible assumption | assumption | omega) (show u1_ ≤ 63 by first | with_reducible assumption | (exact zo_836 gb.2.2.2.2.2 hc_7) | assumption)) rfl rfl rfl (by decide) (Nat.le_of_ble_eq_true rfl) (zdal_p dlD_M_laysMarks_99 (i := 14) rfl) ?_
        rintro _ N12_ ⟨v13_, rfl, ⟨hv13_a, hv13_b⟩, hsN12_, -⟩
        obtain rfl := hsN12_.eq.symm
        show zW l m_M_laysMarks (zn Mz + 0, zw Mz + 0) N2_ 25 [some (.ref 81), some (.int (Int32.ofInt u1_))] [.long (Int64.ofInt v13_), .int (Int32.ofInt u1_), .ref 99] (zpV [] [99] Mz (fun N => True))
        refine zr_last (pc := 25) (zh_99 (hf_N2_.w hW)).2 (by decide) (by decide) (by (exact i4_)) (by (exact zo_831 gb.2.2.2.2.2 hc_7)) (zdal_p dlD_M_laysMarks_99 (i := 15) rfl) (fun N14_ hN14_ hsN14_ => ?_)
        have hf_N14_ : zFr [] [99] Mz N14_ := hf_N2_.tr hsN14_ (by decide) (by decide)
        have hb0_N14_ : zFr [] [99] Mz N14_ := hs3_.tr hsN14_ (by decide) (by decide)
        refine zr_iinc (pc := 26) (i := 1) (a := u1_) (n := 1) (L2 := [some (.ref 81), some (.int (Int32.ofInt (u1_ + 1)))]) rfl (by decide) rfl (zdal_p dlD_M_laysMarks_99 (i := 16) rfl) ?_
        refine zw_goto (pc := 29) (tgt := 2) (by decide) (zdal_p dlD_M_laysMarks_99 (i := 17) rfl) ?_
        exact ih_2 (u1_ + 1) (by (exact zo_74 i4_)) (by (exact zo_832 gb.2.2.2.2.2 hc_7)) N14_ hb0_N14_ (show 0 ≤ (u1_ + 1) by first | with_reducible assumption | (exact zo_76 i4_) | assumption) (by (exact zo_147 hc_7 hlt_2))
  exact lp_2 _ 0 (by decide) (by decide) Mz zFr.rf (show 0 ≤ (0 : Int) by first | with_reducible assumption | (decide) | assumption) (Nat.lt_succ_self _)
set_option maxHeartbeats 4000000 in
theorem c_M_is (l : Launch) (Mz : zMem) (hW : zMt Mz) (a0_ : Int) (ha0_a : -2147483648 ≤ a0_) (ha0_b : a0_ < 2147483648) (T : zGT) (hO : gOK T) (p0_ : zGB T Mz) : zC l m_M_is 0 0 [.ref 81, .int (Int32.ofInt a0_)] Mz (zpI [] [99] Mz (fun v N => True)) := by
  refine zC_of (L0 := [some (.ref 81), some (.int (Int32.ofInt a0_)), none, none, none, none, none, none]) md_M_is (Nat.le_of_ble_eq_true rfl) rfl ?_ zQ0
  have hf : zFr [] [99] Mz Mz := zFr.rf
  have r_26 := ze_r Mz 81 26
  have hG := hO.1
  have g24 := hG.2.1
  have g1 := hG.1
  have dv0 : zTab T Mz := p0_.1
  have dv1 : zB 85 144 0 5 Mz := p0_.2.1
  have dv2 : zJX T Mz := p0_.2.2.1
  have dv3 : zFirs T Mz := p0_.2.2.2.1
  have dv4 : zSSm T Mz := p0_.2.2.2.2.1
  have dv5 : zGD Mz := zGB.d hO p0_
  have gb := dv5.1
  have gn := dv0.1
  refine zw_iload_n (pc := 0) (n := 1) (x := Int32.ofInt a0_) rfl (zdal_p dlD_M_is_101 (i := 0) rfl) ?_
  refine zr_i2l (pc := 1) ⟨ha0_a, ha0_b⟩ (zdal_p dlD_M_is_101 (i := 1) rfl) ?_
  refine zw_lconst (pc := 2) (v := Int64.ofInt 0) (by decide) (zdal_p dlD_M_is_101 (i := 2) rfl) ?_
  refine zr_ldc2 (pc := 3) (n := 3) (by decide) k_M_479 (zdal_p dlD_M_is_101 (i := 3) rfl) ?_
  refine zr_callS hf.x (pc := 6) [.long (Int64.ofInt a0_), .long (Int64.ofInt 0), .long (Int64.ofInt 3)] [] l_M_131 (c_M_isIn l Mz (hf.w hW) a0_ (by (exact zo_282 ha0_a)) (by (exact zo_283 ha0_b)) 0 (by decide) (by decide) 3 (by decide) (by decide)) rfl rfl (by decide) (Nat.le_of_ble_eq_true rfl) (zdal_p dlD_M_is_101 (i := 4) rfl) ?_
  rintro _ N1_ ⟨v2_, rfl, ⟨hv2_a, hv2_b⟩, hsN1_, hp0_N1_⟩
  obtain rfl := hsN1_.eq.symm
  replace hp0_N1_ : ((v2_ = 1 ∧ 0 ≤ a0_ ∧ a0_ ≤ 3) ∨ (v2_ = 0 ∧ (a0_ < 0 ∨ 3 < a0_))) := hp0_N1_
  rcases hp0_N1_ with ⟨rfl, ha6_0_hp0_N1_, ha6_1_hp0_N1_⟩ | ⟨rfl, ha6_0_hp0_N1_⟩
  · skip
    show zW l m_M_is (zn Mz + 0, zw Mz + 0) Mz 9 [some (.ref 81), some (.int (Int32.ofInt a0_)), none, none, none, none, none, none] [.int (Int32.ofInt 1)] (zpI [] [99] Mz (fun v N => True))
    refine zr_if_ne (pc := 9) (tgt := 14) ⟨(by decide), (by decide)⟩ (by decide) (zdal_p dlD_M_is_101 (i := 5) rfl) (fun hc_9 => ?_) (fun hc_9 => ?_)
    · skip
      refine zw_aload_n (pc := 14) (n := 0) (x := 81) rfl (zdal_p dlD_M_is_101 (i := 8) rfl) ?_
      refine zr_callV (hf.w hW) hf.x (pc := 15) [] [] l_M_472 (c_M_laysMarks l Mz (hf.w hW) T hO p0_) rfl rfl rfl (by decide) (Nat.le_of_ble_eq_true rfl) (zdal_p dlD_M_is_101 (i := 9) rfl) ?_
      rintro _ N3_ ⟨rfl, hsN3_, -⟩
      have hf_N3_ : zFr [] [99] Mz N3_ := hf.tr hsN3_ (by decide) (by decide)
      have e26_N3_ : ze N3_ 81 26 = ze Mz 81 26 := hsN3_.e (by decide)
      show zW l m_M_is (zn Mz + 0, zw Mz + 0) N3_ 18 [some (.ref 81), some (.int (Int32.ofInt a0_)), none, none, none, none, none, none] [] (zpI [] [99] Mz (fun v N => True))
      refine zw_iconst (pc := 18) (v := Int32.ofInt 1) (by decide) (zdal_p dlD_M_is_101 (i := 10) rfl) ?_
      refine zw_istore_n (pc := 19) (i := 2) (L2 := [some (.ref 81), some (.int (Int32.ofInt a0_)), some (.int (Int32.ofInt 1)), none, none, none, none, none]) rfl (by decide) rfl (zdal_p dlD_M_is_101 (i := 11) rfl) ?_
      refine zw_iconst (pc := 20) (v := Int32.ofInt 0) (by decide) (zdal_p dlD_M_is_101 (i := 12) rfl) ?_
      refine zw_istore_n (pc := 21) (i := 3) (L2 := [some (.ref 81), some (.int (Int32.ofInt a0_)), some (.int (Int32.ofInt 1)), some (.int (Int32.ofInt 0)), none, none, none, none]) rfl (by decide) rfl (zdal_p dlD_M_is_101 (i := 13) rfl) ?_
      refine zw_iconst (pc := 22) (v := Int32.ofInt 0) (by decide) (zdal_p dlD_M_is_101 (i := 14) rfl) ?_
      refine zw_istore (pc := 23) (i := 4) (L2 := [some (.ref 81), some (.int (Int32.ofInt a0_)), some (.int (Int32.ofInt 1)), some (.int (Int32.ofInt 0)), some (.int (Int32.ofInt 0)), none, none, none]) (by decide) rfl (zdal_p dlD_M_is_101 (i := 15) rfl) ?_
      have lp_25 : ∀ (n : Nat) (u12_ : Int) (hu12_a : -2147483648 ≤ u12_) (hu12_b : u12_ < 2147483648) (hu12_z : u12_ = 0 ∨ u12_ = 1) (u13_ : Int) (hu13_a : -2147483648 ≤ u13_) (hu13_b : u13_ < 2147483648) (hu13_z : u13_ = 0 ∨ u13_ = 1) (u14_ : Int) (hu14_a : -2147483648 ≤ u14_) (hu14_b : u14_ < 2147483648) (i15_ : 0 ≤ u14_), (ze Mz 81 26 - u14_).toNat < n → zW l m_M_is (zn Mz + 0, zw Mz + 0) N3_ 25 [some (.ref 81), some (.int (Int32.ofInt a0_)), some (.int (Int32.ofInt u12_)), some (.int (Int32.ofInt u13_)), some (.int (Int32.ofInt u14_)), none, none, none] [] (zpI [] [99] Mz (fun v N => True)) := by
        intro n
        induction n with
        | zero =>
          intro u12_ hu12_a hu12_b hu12_z u13_ hu13_a hu13_b hu13_z u14_ hu14_a hu14_b i15_ h0
          exact absurd h0 (Nat.not_lt_zero _)
        | succ n ih_25 =>
          intro u12_ hu12_a hu12_b hu12_z u13_ hu13_a hu13_b hu13_z u14_ hu14_a hu14_b i15_ hlt_25
          refine zw_iload (pc := 25) (i := 4) (x := Int32.ofInt u14_) rfl (zdal_p dlD_M_is_101 (i := 16) rfl) ?_
          refine zw_aload_n (pc := 27) (n := 0) (x := 81) rfl (zdal_p dlD_M_is_101 (i := 17) rfl) ?_
          refine zr_getI0 hf_N3_ hW (pc := 28) (by decide) f_M_235 rfl (zdal_p dlD_M_is_101 (i := 18) rfl) ?_
          refine zr_icmp_ge (pc := 31) (tgt := 173) ⟨hu14_a, hu14_b⟩ ⟨(ze_r Mz 81 26).1, (ze_r Mz 81 26).2⟩ (by decide) (zdal_p dlD_M_is_101 (i := 19) rfl) (fun hc_31 => ?_) (fun hc_31 => ?_)
          · skip
            refine zw_iload_n (pc := 173) (n := 1) (x := Int32.ofInt a0_) rfl (zdal_p dlD_M_is_104 (i := 22) rfl) ?_
            refine zw_iconst (pc := 174) (v := Int32.ofInt 3) (by decide) (zdal_p dlD_M_is_104 (i := 23) rfl) ?_
            refine zr_icmp_ne (pc := 175) (tgt := 182) ⟨ha0_a, ha0_b⟩ ⟨(by decide), (by decide)⟩ (by decide) (zdal_p dlD_M_is_105 (i := 0) rfl) (fun hc_175 => ?_) (fun hc_175 => ?_)
            · skip
              refine zw_iload_n (pc := 182) (n := 2) (x := Int32.ofInt u12_) rfl (zdal_p dlD_M_is_105 (i := 3) rfl) ?_
              refine zr_callS hf_N3_.x (pc := 183) [.int (Int32.ofInt u12_)] [] l_M_256 (c_M_truth l N3_ (hf_N3_.w hW) u12_ hu12_a hu12_b (by (exact hu12_z))) rfl rfl (by decide) (Nat.le_of_ble_eq_true rfl) (zdal_p dlD_M_is_105 (i := 4) rfl) ?_
              rintro _ N16_ ⟨v17_, rfl, ⟨hv17_a, hv17_b⟩, hsN16_, hp0_N16_⟩
              obtain rfl := hsN16_.eq.symm
              replace hp0_N16_ : v17_ = u12_ := hp0_N16_
              show zW l m_M_is (zn Mz + 0, zw Mz + 0) N3_ 186 [some (.ref 81), some (.int (Int32.ofInt a0_)), some (.int (Int32.ofInt u12_)), some (.int (Int32.ofInt u13_)), some (.int (Int32.ofInt u14_)), none, none, none] [.int (Int32.ofInt v17_)] (zpI [] [99] Mz (fun v N => True))
              exact zr_iret (pc := 186) (ty := .int) rfl rfl ⟨by (exact hv17_a), by (exact hv17_b)⟩ hf_N3_ trivial (zdal_p dlD_M_is_105 (i := 5) rfl)
            · skip
              refine zw_iload_n (pc := 178) (n := 3) (x := Int32.ofInt u13_) rfl (zdal_p dlD_M_is_105 (i := 1) rfl) ?_
              refine zw_goto (pc := 179) (tgt := 183) (by decide) (zdal_p dlD_M_is_105 (i := 2) rfl) ?_
              refine zr_callS hf_N3_.x (pc := 183) [.int (Int32.ofInt u13_)] [] l_M_256 (c_M_truth l N3_ (hf_N3_.w hW) u13_ hu13_a hu13_b (by (exact hu13_z))) rfl rfl (by decide) (Nat.le_of_ble_eq_true rfl) (zdal_p dlD_M_is_105 (i := 4) rfl) ?_
              rintro _ N18_ ⟨v19_, rfl, ⟨hv19_a, hv19_b⟩, hsN18_, hp0_N18_⟩
              obtain rfl := hsN18_.eq.symm
              replace hp0_N18_ : v19_ = u13_ := hp0_N18_
              show zW l m_M_is (zn Mz + 0, zw Mz + 0) N3_ 186 [some (.ref 81), some (.int (Int32.ofInt a0_)), some (.int (Int32.ofInt u12_)), some (.int (Int32.ofInt u13_)), some (.int (Int32.ofInt u14_)), none, none, none] [.int (Int32.ofInt v19_)] (zpI [] [99] Mz (fun v N => True))
              exact zr_iret (pc := 186) (ty := .int) rfl rfl ⟨by (exact hv19_a), by (exact hv19_b)⟩ hf_N3_ trivial (zdal_p dlD_M_is_105 (i := 5) rfl)
          · skip
            refine zw_aload_n (pc := 34) (n := 0) (x := 81) rfl (zdal_p dlD_M_is_101 (i := 20) rfl) ?_
            refine zr_getF (r := 99) (hf_N3_.w hW) (pc := 35) f_M_69 rfl (zh_99 (hf_N3_.w hW)).1 (zdal_p dlD_M_is_101 (i := 21) rfl) ?_
            refine zw_iload (pc := 38) (i := 4) (x := Int32.ofInt u14_) rfl (zdal_p dlD_M_is_101 (i := 22) rfl) ?_
            refine zr_laldn (pc := 40) (zh_99 (hf_N3_.w hW)).2 (by decide) (by (exact i15_)) (by (exact zo_831 gb.2.2.2.2.2 hc_31)) (zdal_p dlD_M_is_101 (i := 23) rfl) (fun v20_ hv20_ hv20_a hv20_b => ?_)
            refine zw_lstore (pc := 41) (i := 5) (L2 := [some (.ref 81), some (.int (Int32.ofInt a0_)), some (.int (Int32.ofInt u12_)), some (.int (Int32.ofInt u13_)), some (.int (Int32.ofInt u14_)), some (.long (Int64.ofInt v20_)), none, none]) (by decide) rfl (zdal_p dlD_M_is_102 (i := 0) rfl) ?_
            refine zw_iload_n (pc := 43) (n := 1) (x := Int32.ofInt a0_) rfl (zdal_p dlD_M_is_102 (i := 1) rfl) ?_
            have j_135 : ∀ (u21_ : Int) (hu21_a : -2147483648 ≤ u21_) (hu21_b : u21_ < 2147483648) (hu21_z : u21_ = 0 ∨ u21_ = 1), zW l m_M_is (zn Mz + 0, zw Mz + 0) N3_ 135 [some (.ref 81), some (.int (Int32.ofInt a0_)), some (.int (Int32.ofInt u12_)), some (.int (Int32.ofInt u13_)), some (.int (Int32.ofInt u14_)), some (.long (Int64.ofInt v20_)), none, none] [.int (Int32.ofInt u21_)] (zpI [] [99] Mz (fun v N => True)) := by
              intro u21_ hu21_a hu21_b hu21_z
              refine zw_istore (pc := 135) (i := 7) (L2 := [some (.ref 81), some (.int (Int32.ofInt a0_)), some (.int (Int32.ofInt u12_)), some (.int (Int32.ofInt u13_)), some (.int (Int32.ofInt u14_)), some (.long (Int64.ofInt v20_)), none, some (.int (Int32.ofInt u21_))]) (by decide) rfl (zdal_p dlD_M_is_104 (i := 3) rfl) ?_
              refine zw_iload_n (pc := 137) (n := 2) (x := Int32.ofInt u12_) rfl (zdal_p dlD_M_is_104 (i := 4) rfl) ?_
              have j_151 : ∀ (u22_ : Int) (hu22_a : -2147483648 ≤ u22_) (hu22_b : u22_ < 2147483648) (hu22_z : u22_ = 0 ∨ u22_ = 1), zW l m_M_is (zn Mz + 0, zw Mz + 0) N3_ 151 [some (.ref 81), some (.int (Int32.ofInt a0_)), some (.int (Int32.ofInt u12_)), some (.int (Int32.ofInt u13_)), some (.int (Int32.ofInt u14_)), some (.long (Int64.ofInt v20_)), none, some (.int (Int32.ofInt u21_))] [.int (Int32.ofInt u22_)] (zpI [] [99] Mz (fun v N => True)) := by
                intro u22_ hu22_a hu22_b hu22_z
                refine zw_istore_n (pc := 151) (i := 2) (L2 := [some (.ref 81), some (.int (Int32.ofInt a0_)), some (.int (Int32.ofInt u22_)), some (.int (Int32.ofInt u13_)), some (.int (Int32.ofInt u14_)), some (.long (Int64.ofInt v20_)), none, some (.int (Int32.ofInt u21_))]) rfl (by decide) rfl (zdal_p dlD_M_is_104 (i := 11) rfl) ?_
                refine zw_iload_n (pc := 152) (n := 3) (x := Int32.ofInt u13_) rfl (zdal_p dlD_M_is_104 (i := 12) rfl) ?_
                have j_166 : ∀ (u23_ : Int) (hu23_a : -2147483648 ≤ u23_) (hu23_b : u23_ < 2147483648) (hu23_z : u23_ = 0 ∨ u23_ = 1), zW l m_M_is (zn Mz + 0, zw Mz + 0) N3_ 166 [some (.ref 81), some (.int (Int32.ofInt a0_)), some (.int (Int32.ofInt u22_)), some (.int (Int32.ofInt u13_)), some (.int (Int32.ofInt u14_)), some (.long (Int64.ofInt v20_)), none, some (.int (Int32.ofInt u21_))] [.int (Int32.ofInt u23_)] (zpI [] [99] Mz (fun v N => True)) := by
                  intro u23_ hu23_a hu23_b hu23_z
                  refine zw_istore_n (pc := 166) (i := 3) (L2 := [some (.ref 81), some (.int (Int32.ofInt a0_)), some (.int (Int32.ofInt u22_)), some (.int (Int32.ofInt u23_)), some (.int (Int32.ofInt u14_)), some (.long (Int64.ofInt v20_)), none, some (.int (Int32.ofInt u21_))]) rfl (by decide) rfl (zdal_p dlD_M_is_104 (i := 19) rfl) ?_
                  refine zr_iinc (pc := 167) (i := 4) (a := u14_) (n := 1) (L2 := [some (.ref 81), some (.int (Int32.ofInt a0_)), some (.int (Int32.ofInt u22_)), some (.int (Int32.ofInt u23_)), some (.int (Int32.ofInt (u14_ + 1))), some (.long (Int64.ofInt v20_)), none, some (.int (Int32.ofInt u21_))]) rfl (by decide) rfl (zdal_p dlD_M_is_104 (i := 20) rfl) ?_
                  refine zw_goto (pc := 170) (tgt := 25) (by decide) (zdal_p dlD_M_is_104 (i := 21) rfl) ?_
                  refine zW_le [some (.ref 81), some (.int (Int32.ofInt a0_)), some (.int (Int32.ofInt u22_)), some (.int (Int32.ofInt u23_)), some (.int (Int32.ofInt (u14_ + 1))), none, none, none] (⟨rfl, rfl, rfl, rfl, rfl, trivial⟩) ?_
                  exact ih_25 u22_ hu22_a hu22_b (by (exact hu22_z)) u23_ hu23_a hu23_b (by (exact hu23_z)) (u14_ + 1) (by (exact zo_74 i15_)) (by (exact zo_832 gb.2.2.2.2.2 hc_31)) (show 0 ≤ (u14_ + 1) by first | with_reducible assumption | (exact zo_76 i15_) | assumption) (by (exact zo_147 hc_31 hlt_25))
                refine zr_if_ne (pc := 153) (tgt := 161) ⟨hu13_a, hu13_b⟩ (by decide) (zdal_p dlD_M_is_104 (i := 13) rfl) (fun hc_153 => ?_) (fun hc_153 => ?_)
                · skip
                  refine zw_iconst (pc := 161) (v := Int32.ofInt 1) (by decide) (zdal_p dlD_M_is_104 (i := 16) rfl) ?_
                  refine zw_goto (pc := 162) (tgt := 166) (by decide) (zdal_p dlD_M_is_104 (i := 17) rfl) ?_
                  exact j_166 1 (by decide) (by decide) (by (decide))
                · skip
                  refine zw_iload (pc := 156) (i := 7) (x := Int32.ofInt u21_) rfl (zdal_p dlD_M_is_104 (i := 14) rfl) ?_
                  refine zr_if_eq (pc := 158) (tgt := 165) ⟨hu21_a, hu21_b⟩ (by decide) (zdal_p dlD_M_is_104 (i := 15) rfl) (fun hc_158 => ?_) (fun hc_158 => ?_)
                  · skip
                    refine zw_iconst (pc := 165) (v := Int32.ofInt 0) (by decide) (zdal_p dlD_M_is_104 (i := 18) rfl) ?_
                    exact j_166 0 (by decide) (by decide) (by (decide))
                  · skip
                    refine zw_iconst (pc := 161) (v := Int32.ofInt 1) (by decide) (zdal_p dlD_M_is_104 (i := 16) rfl) ?_
                    refine zw_goto (pc := 162) (tgt := 166) (by decide) (zdal_p dlD_M_is_104 (i := 17) rfl) ?_
                    exact j_166 1 (by decide) (by decide) (by (decide))
              refine zr_if_eq (pc := 138) (tgt := 150) ⟨hu12_a, hu12_b⟩ (by decide) (zdal_p dlD_M_is_104 (i := 5) rfl) (fun hc_138 => ?_) (fun hc_138 => ?_)
              · skip
                refine zw_iconst (pc := 150) (v := Int32.ofInt 0) (by decide) (zdal_p dlD_M_is_104 (i := 10) rfl) ?_
                exact j_151 0 (by decide) (by decide) (by (decide))
              · skip
                refine zw_iload (pc := 141) (i := 7) (x := Int32.ofInt u21_) rfl (zdal_p dlD_M_is_104 (i := 6) rfl) ?_
                refine zr_if_eq (pc := 143) (tgt := 150) ⟨hu21_a, hu21_b⟩ (by decide) (zdal_p dlD_M_is_104 (i := 7) rfl) (fun hc_143 => ?_) (fun hc_143 => ?_)
                · skip
                  refine zw_iconst (pc := 150) (v := Int32.ofInt 0) (by decide) (zdal_p dlD_M_is_104 (i := 10) rfl) ?_
                  exact j_151 0 (by decide) (by decide) (by (decide))
                · skip
                  refine zw_iconst (pc := 146) (v := Int32.ofInt 1) (by decide) (zdal_p dlD_M_is_104 (i := 8) rfl) ?_
                  refine zw_goto (pc := 147) (tgt := 151) (by decide) (zdal_p dlD_M_is_104 (i := 9) rfl) ?_
                  exact j_151 1 (by decide) (by decide) (by (decide))
            refine zr_if_ne (pc := 44) (tgt := 67) ⟨ha0_a, ha0_b⟩ (by decide) (zdal_p dlD_M_is_102 (i := 2) rfl) (fun hc_44 => ?_) (fun hc_44 => ?_)
            · skip
              refine zw_iload_n (pc := 67) (n := 1) (x := Int32.ofInt a0_) rfl (zdal_p dlD_M_is_102 (i := 14) rfl) ?_
              refine zw_iconst (pc := 68) (v := Int32.ofInt 1) (by decide) (zdal_p dlD_M_is_102 (i := 15) rfl) ?_
              refine zr_icmp_ne (pc := 69) (tgt := 94) ⟨ha0_a, ha0_b⟩ ⟨(by decide), (by decide)⟩ (by decide) (zdal_p dlD_M_is_102 (i := 16) rfl) (fun hc_69 => ?_) (fun hc_69 => ?_)
              · skip
                refine zw_iload_n (pc := 94) (n := 1) (x := Int32.ofInt a0_) rfl (zdal_p dlD_M_is_103 (i := 5) rfl) ?_
                refine zw_iconst (pc := 95) (v := Int32.ofInt 2) (by decide) (zdal_p dlD_M_is_103 (i := 6) rfl) ?_
                refine zr_icmp_ne (pc := 96) (tgt := 123) ⟨ha0_a, ha0_b⟩ ⟨(by decide), (by decide)⟩ (by decide) (zdal_p dlD_M_is_103 (i := 7) rfl) (fun hc_96 => ?_) (fun hc_96 => ?_)
                · skip
                  refine zw_lload (pc := 123) (i := 5) (x := Int64.ofInt v20_) rfl (zdal_p dlD_M_is_103 (i := 20) rfl) ?_
                  refine zw_lconst (pc := 125) (v := Int64.ofInt 0) (by decide) (zdal_p dlD_M_is_103 (i := 21) rfl) ?_
                  refine zr_lcmp (pc := 126) ⟨hv20_a, hv20_b⟩ ⟨(by decide), (by decide)⟩ (zdal_p dlD_M_is_103 (i := 22) rfl) ?_
                  have hr24_ := zcmp_s v20_ 0
                  refine zr_if_ne (pc := 127) (tgt := 134) ⟨(by (exact zo_71 hr24_)), (by (exact zo_72 hr24_))⟩ (by decide) (zdal_p dlD_M_is_103 (i := 23) rfl) (fun hc_127 => ?_) (fun hc_127 => ?_)
                  · skip
                    refine zw_iconst (pc := 134) (v := Int32.ofInt 0) (by decide) (zdal_p dlD_M_is_104 (i := 2) rfl) ?_
                    exact j_135 0 (by decide) (by decide) (by (decide))
                  · skip
                    refine zw_iconst (pc := 130) (v := Int32.ofInt 1) (by decide) (zdal_p dlD_M_is_104 (i := 0) rfl) ?_
                    refine zw_goto (pc := 131) (tgt := 135) (by decide) (zdal_p dlD_M_is_104 (i := 1) rfl) ?_
                    exact j_135 1 (by decide) (by decide) (by (decide))
                · skip
                  refine zw_lload (pc := 99) (i := 5) (x := Int64.ofInt v20_) rfl (zdal_p dlD_M_is_103 (i := 8) rfl) ?_
                  refine zw_lconst (pc := 101) (v := Int64.ofInt 1) (by decide) (zdal_p dlD_M_is_103 (i := 9) rfl) ?_
                  refine zr_lcmp (pc := 102) ⟨hv20_a, hv20_b⟩ ⟨(by decide), (by decide)⟩ (zdal_p dlD_M_is_103 (i := 10) rfl) ?_
                  have hr25_ := zcmp_s v20_ 1
                  refine zr_if_eq (pc := 103) (tgt := 115) ⟨(by (exact zo_2479 hr25_)), (by (exact zo_2480 hr25_))⟩ (by decide) (zdal_p dlD_M_is_103 (i := 11) rfl) (fun hc_103 => ?_) (fun hc_103 => ?_)
                  · skip
                    refine zw_iconst (pc := 115) (v := Int32.ofInt 1) (by decide) (zdal_p dlD_M_is_103 (i := 16) rfl) ?_
                    refine zw_goto (pc := 116) (tgt := 135) (by decide) (zdal_p dlD_M_is_103 (i := 17) rfl) ?_
                    exact j_135 1 (by decide) (by decide) (by (decide))
                  · skip
                    refine zw_lload (pc := 106) (i := 5) (x := Int64.ofInt v20_) rfl (zdal_p dlD_M_is_103 (i := 12) rfl) ?_
                    refine zr_ldc2 (pc := 108) (n := (-1)) (by decide) k_M_468 (zdal_p dlD_M_is_103 (i := 13) rfl) ?_
                    refine zr_lcmp (pc := 111) ⟨hv20_a, hv20_b⟩ ⟨(by decide), (by decide)⟩ (zdal_p dlD_M_is_103 (i := 14) rfl) ?_
                    have hr26_ := zcmp_s v20_ ((-1))
                    refine zr_if_ne (pc := 112) (tgt := 119) ⟨(by omega), (by omega)⟩ (by decide) (zdal_p dlD_M_is_103 (i := 15) rfl) (fun hc_112 => ?_) (fun hc_112 => ?_)
                    · skip
                      refine zw_iconst (pc := 119) (v := Int32.ofInt 0) (by decide) (zdal_p dlD_M_is_103 (i := 18) rfl) ?_
                      refine zw_goto (pc := 120) (tgt := 135) (by decide) (zdal_p dlD_M_is_103 (i := 19) rfl) ?_
                      exact j_135 0 (by decide) (by decide) (by (decide))
                    · skip
                      refine zw_iconst (pc := 115) (v := Int32.ofInt 1) (by decide) (zdal_p dlD_M_is_103 (i := 16) rfl) ?_
                      refine zw_goto (pc := 116) (tgt := 135) (by decide) (zdal_p dlD_M_is_103 (i := 17) rfl) ?_
                      exact j_135 1 (by decide) (by decide) (by (decide))
              · skip
                refine zw_lload (pc := 72) (i := 5) (x := Int64.ofInt v20_) rfl (zdal_p dlD_M_is_102 (i := 17) rfl) ?_
                refine zw_lconst (pc := 74) (v := Int64.ofInt 0) (by decide) (zdal_p dlD_M_is_102 (i := 18) rfl) ?_
                refine zr_lcmp (pc := 75) ⟨hv20_a, hv20_b⟩ ⟨(by decide), (by decide)⟩ (zdal_p dlD_M_is_102 (i := 19) rfl) ?_
                have hr27_ := zcmp_s v20_ 0
                refine zr_if_eq (pc := 76) (tgt := 86) ⟨(by (exact zo_71 hr27_)), (by (exact zo_72 hr27_))⟩ (by decide) (zdal_p dlD_M_is_102 (i := 20) rfl) (fun hc_76 => ?_) (fun hc_76 => ?_)
                · skip
                  refine zw_iconst (pc := 86) (v := Int32.ofInt 1) (by decide) (zdal_p dlD_M_is_103 (i := 1) rfl) ?_
                  refine zw_goto (pc := 87) (tgt := 135) (by decide) (zdal_p dlD_M_is_103 (i := 2) rfl) ?_
                  exact j_135 1 (by decide) (by decide) (by (decide))
                · skip
                  refine zw_lload (pc := 79) (i := 5) (x := Int64.ofInt v20_) rfl (zdal_p dlD_M_is_102 (i := 21) rfl) ?_
                  refine zw_lconst (pc := 81) (v := Int64.ofInt 1) (by decide) (zdal_p dlD_M_is_102 (i := 22) rfl) ?_
                  refine zr_lcmp (pc := 82) ⟨hv20_a, hv20_b⟩ ⟨(by decide), (by decide)⟩ (zdal_p dlD_M_is_102 (i := 23) rfl) ?_
                  have hr28_ := zcmp_s v20_ 1
                  refine zr_if_ne (pc := 83) (tgt := 90) ⟨(by (exact zo_2479 hr28_)), (by (exact zo_2480 hr28_))⟩ (by decide) (zdal_p dlD_M_is_103 (i := 0) rfl) (fun hc_83 => ?_) (fun hc_83 => ?_)
                  · skip
                    refine zw_iconst (pc := 90) (v := Int32.ofInt 0) (by decide) (zdal_p dlD_M_is_103 (i := 3) rfl) ?_
                    refine zw_goto (pc := 91) (tgt := 135) (by decide) (zdal_p dlD_M_is_103 (i := 4) rfl) ?_
                    exact j_135 0 (by decide) (by decide) (by (decide))
                  · skip
                    refine zw_iconst (pc := 86) (v := Int32.ofInt 1) (by decide) (zdal_p dlD_M_is_103 (i := 1) rfl) ?_
                    refine zw_goto (pc := 87) (tgt := 135) (by decide) (zdal_p dlD_M_is_103 (i := 2) rfl) ?_
                    exact j_135 1 (by decide) (by decide) (by (decide))
            · skip
              refine zw_aload_n (pc := 47) (n := 0) (x := 81) rfl (zdal_p dlD_M_is_102 (i := 3) rfl) ?_
              refine zr_getF (r := 98) (hf_N3_.w hW) (pc := 48) f_M_66 rfl (zh_98 (hf_N3_.w hW)).1 (zdal_p dlD_M_is_102 (i := 4) rfl) ?_
              refine zw_iload (pc := 51) (i := 4) (x := Int32.ofInt u14_) rfl (zdal_p dlD_M_is_102 (i := 5) rfl) ?_
              refine zr_laldn (pc := 53) (zh_98 (hf_N3_.w hW)).2 (by decide) (by (exact i15_)) (by (exact zo_831 gb.2.2.2.2.2 hc_31)) (zdal_p dlD_M_is_102 (i := 6) rfl) (fun v29_ hv29_ hv29_a hv29_b => ?_)
              rw [hf_N3_.jg (by decide) (by decide)] at hv29_
              refine zw_lconst (pc := 54) (v := Int64.ofInt 0) (by decide) (zdal_p dlD_M_is_102 (i := 7) rfl) ?_
              refine zr_lcmp (pc := 55) ⟨hv29_a, hv29_b⟩ ⟨(by decide), (by decide)⟩ (zdal_p dlD_M_is_102 (i := 8) rfl) ?_
              have hr30_ := zcmp_s v29_ 0
              refine zr_if_lt (pc := 56) (tgt := 63) ⟨(by (exact zo_71 hr30_)), (by (exact zo_72 hr30_))⟩ (by decide) (zdal_p dlD_M_is_102 (i := 9) rfl) (fun hc_56 => ?_) (fun hc_56 => ?_)
              · skip
                refine zw_iconst (pc := 63) (v := Int32.ofInt 0) (by decide) (zdal_p dlD_M_is_102 (i := 12) rfl) ?_
                refine zw_goto (pc := 64) (tgt := 135) (by decide) (zdal_p dlD_M_is_102 (i := 13) rfl) ?_
                exact j_135 0 (by decide) (by decide) (by (decide))
              · skip
                refine zw_iconst (pc := 59) (v := Int32.ofInt 1) (by decide) (zdal_p dlD_M_is_102 (i := 10) rfl) ?_
                refine zw_goto (pc := 60) (tgt := 135) (by decide) (zdal_p dlD_M_is_102 (i := 11) rfl) ?_
                exact j_135 1 (by decide) (by decide) (by (decide))
      exact lp_25 _ 1 (by decide) (by decide) (by (decide)) 0 (by decide) (by decide) (by (decide)) 0 (by decide) (by decide) (show 0 ≤ (0 : Int) by first | with_reducible assumption | (decide) | assumption) (Nat.lt_succ_self _)
    · skip
      exact absurd hc_9 (by decide)
  · skip
    show zW l m_M_is (zn Mz + 0, zw Mz + 0) Mz 9 [some (.ref 81), some (.int (Int32.ofInt a0_)), none, none, none, none, none, none] [.int (Int32.ofInt 0)] (zpI [] [99] Mz (fun v N => True))
    refine zr_if_ne (pc := 9) (tgt := 14) ⟨(by decide), (by decide)⟩ (by decide) (zdal_p dlD_M_is_101 (i := 5) rfl) (fun hc_9 => ?_) (fun hc_9 => ?_)
    · skip
      exact absurd hc_9 (by decide)
    · skip
      refine zw_iconst (pc := 12) (v := Int32.ofInt (-1)) (by decide) (zdal_p dlD_M_is_101 (i := 6) rfl) ?_
      exact zr_iret (pc := 13) (ty := .int) rfl rfl ⟨by (decide), by (decide)⟩ hf trivial (zdal_p dlD_M_is_101 (i := 7) rfl)
set_option maxHeartbeats 4000000 in
theorem c_M_fault (l : Launch) (Mz : zMem) (hW : zMt Mz) (a0_ : Int) (ha0_a : -2147483648 ≤ a0_) (ha0_b : a0_ < 2147483648) : zC l m_M_fault 0 0 [.ref 81, .int (Int32.ofInt a0_)] Mz (zpI [] [] Mz (fun v N => True)) := by
  refine zC_of (L0 := [some (.ref 81), some (.int (Int32.ofInt a0_))]) md_M_fault (Nat.le_of_ble_eq_true rfl) rfl ?_ zQ0
  have hf : zFr [] [] Mz Mz := zFr.rf
  have r_9 := ze_r Mz 81 9
  have r_10 := ze_r Mz 81 10
  refine zw_iload_n (pc := 0) (n := 1) (x := Int32.ofInt a0_) rfl (zdal_p dlC_M_fault_145 (i := 0) rfl) ?_
  refine zr_if_ne (pc := 1) (tgt := 11) ⟨ha0_a, ha0_b⟩ (by decide) (zdal_p dlC_M_fault_145 (i := 1) rfl) (fun hc_1 => ?_) (fun hc_1 => ?_)
  · skip
    refine zw_iload_n (pc := 11) (n := 1) (x := Int32.ofInt a0_) rfl (zdal_p dlC_M_fault_145 (i := 5) rfl) ?_
    refine zw_iconst (pc := 12) (v := Int32.ofInt 1) (by decide) (zdal_p dlC_M_fault_145 (i := 6) rfl) ?_
    refine zr_icmp_ne (pc := 13) (tgt := 23) ⟨ha0_a, ha0_b⟩ ⟨(by decide), (by decide)⟩ (by decide) (zdal_p dlC_M_fault_145 (i := 7) rfl) (fun hc_13 => ?_) (fun hc_13 => ?_)
    · skip
      refine zw_iconst (pc := 23) (v := Int32.ofInt (-1)) (by decide) (zdal_p dlC_M_fault_145 (i := 11) rfl) ?_
      exact zr_iret (pc := 24) (ty := .int) rfl rfl ⟨by (decide), by (decide)⟩ hf trivial (zdal_p dlC_M_fault_145 (i := 12) rfl)
    · skip
      refine zw_aload_n (pc := 16) (n := 0) (x := 81) rfl (zdal_p dlC_M_fault_145 (i := 8) rfl) ?_
      refine zr_getI0 hf hW (pc := 17) (by decide) f_M_17 rfl (zdal_p dlC_M_fault_145 (i := 9) rfl) ?_
      refine zw_goto (pc := 20) (tgt := 24) (by decide) (zdal_p dlC_M_fault_145 (i := 10) rfl) ?_
      exact zr_iret (pc := 24) (ty := .int) rfl rfl ⟨by (exact zo_284 r_10.1), by (exact zo_285 r_10.2)⟩ hf trivial (zdal_p dlC_M_fault_145 (i := 12) rfl)
  · skip
    refine zw_aload_n (pc := 4) (n := 0) (x := 81) rfl (zdal_p dlC_M_fault_145 (i := 2) rfl) ?_
    refine zr_getI0 hf hW (pc := 5) (by decide) f_M_379 rfl (zdal_p dlC_M_fault_145 (i := 3) rfl) ?_
    refine zw_goto (pc := 8) (tgt := 24) (by decide) (zdal_p dlC_M_fault_145 (i := 4) rfl) ?_
    exact zr_iret (pc := 24) (ty := .int) rfl rfl ⟨by (exact zo_284 r_9.1), by (exact zo_285 r_9.2)⟩ hf trivial (zdal_p dlC_M_fault_145 (i := 12) rfl)
set_option maxHeartbeats 4000000 in
theorem c_M_tells (l : Launch) (Mz : zMem) (hW : zMt Mz) : zC l m_M_tells 0 0 [.ref 81] Mz (zpV [9, 10] [] Mz (fun N => True)) := by
  refine zC_of (L0 := [some (.ref 81)]) md_M_tells (Nat.le_of_ble_eq_true rfl) rfl ?_ zQ0
  have hf : zFr [9, 10] [] Mz Mz := zFr.rf
  have r_7 := ze_r Mz 81 7
  have r_8 := ze_r Mz 81 8
  have r_9 := ze_r Mz 81 9
  have r_10 := ze_r Mz 81 10
  refine zw_aload_n (pc := 0) (n := 0) (x := 81) rfl (zdal_p dlC_M_tells_141 (i := 0) rfl) ?_
  refine zw_aload_n (pc := 1) (n := 0) (x := 81) rfl (zdal_p dlC_M_tells_141 (i := 1) rfl) ?_
  refine zr_getI0 hf hW (pc := 2) (by decide) f_M_172 rfl (zdal_p dlC_M_tells_141 (i := 2) rfl) ?_
  refine zr_putI (hf.w hW) (pc := 5) f_M_379 rfl rfl ⟨by (exact zo_284 r_7.1), by (exact zo_285 r_7.2)⟩ rfl rfl (zdal_p dlC_M_tells_141 (i := 3) rfl) (fun N1_ hsN1_ hvN1_ => ?_)
  have hf_N1_ : zFr [9, 10] [] Mz N1_ := hf.tr hsN1_ (by decide) (by decide)
  refine zw_aload_n (pc := 8) (n := 0) (x := 81) rfl (zdal_p dlC_M_tells_141 (i := 4) rfl) ?_
  refine zw_aload_n (pc := 9) (n := 0) (x := 81) rfl (zdal_p dlC_M_tells_141 (i := 5) rfl) ?_
  refine zr_getI0 hf_N1_ hW (pc := 10) (by decide) f_M_13 rfl (zdal_p dlC_M_tells_141 (i := 6) rfl) ?_
  refine zr_putI (hf_N1_.w hW) (pc := 13) f_M_17 rfl rfl ⟨by (exact zo_284 r_8.1), by (exact zo_285 r_8.2)⟩ rfl rfl (zdal_p dlC_M_tells_141 (i := 7) rfl) (fun N2_ hsN2_ hvN2_ => ?_)
  have hf_N2_ : zFr [9, 10] [] Mz N2_ := hf_N1_.tr hsN2_ (by decide) (by decide)
  exact zr_vret (pc := 16) rfl hf_N2_ trivial (zdal_p dlC_M_tells_141 (i := 8) rfl)
set_option maxHeartbeats 4000000 in
theorem c_M_uses (l : Launch) (Mz : zMem) (hW : zMt Mz) (a0_ : Int) (ha0_a : -2147483648 ≤ a0_) (ha0_b : a0_ < 2147483648) (T : zGT) (hO : gOK T) (p0_ : zGB T Mz) (p1_ : 0 ≤ ze Mz 81 18) (p2_ : ze Mz 81 18 ≤ 8) (p3_ : 0 ≤ ze Mz 81 60) (p4_ : ze Mz 81 60 ≤ 12) : zC l m_M_uses 0 0 [.ref 81, .int (Int32.ofInt a0_)] Mz (zpI [60] [98, 111] Mz (fun v N => 0 ≤ ze N 81 60 ∧ ze N 81 60 ≤ 12)) := by
  refine zC_of (L0 := [some (.ref 81), some (.int (Int32.ofInt a0_)), none]) md_M_uses (Nat.le_of_ble_eq_true rfl) rfl ?_ zQ0
  have hf : zFr [60] [98, 111] Mz Mz := zFr.rf
  have r_18 := ze_r Mz 81 18
  have r_26 := ze_r Mz 81 26
  have r_60 := ze_r Mz 81 60
  have hG := hO.1
  have g24 := hG.2.1
  have g1 := hG.1
  have dv0 : zTab T Mz := p0_.1
  have dv1 : zB 85 144 0 5 Mz := p0_.2.1
  have dv2 : zJX T Mz := p0_.2.2.1
  have dv3 : zFirs T Mz := p0_.2.2.2.1
  have dv4 : zSSm T Mz := p0_.2.2.2.2.1
  have dv5 : zGD Mz := zGB.d hO p0_
  have gb := dv5.1
  have gn := dv0.1
  refine zw_iload_n (pc := 0) (n := 1) (x := Int32.ofInt a0_) rfl (zdal_p dlD_M_uses_135 (i := 0) rfl) ?_
  refine zr_i2l (pc := 1) ⟨ha0_a, ha0_b⟩ (zdal_p dlD_M_uses_135 (i := 1) rfl) ?_
  refine zw_lconst (pc := 2) (v := Int64.ofInt 0) (by decide) (zdal_p dlD_M_uses_135 (i := 2) rfl) ?_
  refine zw_aload_n (pc := 3) (n := 0) (x := 81) rfl (zdal_p dlD_M_uses_135 (i := 3) rfl) ?_
  refine zr_getI0 hf hW (pc := 4) (by decide) f_M_388 rfl (zdal_p dlD_M_uses_135 (i := 4) rfl) ?_
  refine zw_iconst (pc := 7) (v := Int32.ofInt 1) (by decide) (zdal_p dlD_M_uses_135 (i := 5) rfl) ?_
  refine zr_isub (pc := 8) (zdal_p dlD_M_uses_135 (i := 6) rfl) ?_
  refine zr_i2l (pc := 9) ⟨(by (exact zo_600 p1_)), (by (exact zo_826 p2_))⟩ (zdal_p dlD_M_uses_135 (i := 7) rfl) ?_
  refine zr_callS hf.x (pc := 10) [.long (Int64.ofInt a0_), .long (Int64.ofInt 0), .long (Int64.ofInt ((ze Mz 81 18) - 1))] [] l_M_131 (c_M_isIn l Mz (hf.w hW) a0_ (by (exact zo_282 ha0_a)) (by (exact zo_283 ha0_b)) 0 (by decide) (by decide) ((ze Mz 81 18) - 1) (by (exact zo_827 p1_)) (by (exact zo_828 p2_))) rfl rfl (by decide) (Nat.le_of_ble_eq_true rfl) (zdal_p dlD_M_uses_135 (i := 8) rfl) ?_
  rintro _ N1_ ⟨v2_, rfl, ⟨hv2_a, hv2_b⟩, hsN1_, hp0_N1_⟩
  obtain rfl := hsN1_.eq.symm
  replace hp0_N1_ : ((v2_ = 1 ∧ 0 ≤ a0_ ∧ a0_ ≤ ((ze Mz 81 18) - 1)) ∨ (v2_ = 0 ∧ (a0_ < 0 ∨ ((ze Mz 81 18) - 1) < a0_))) := hp0_N1_
  rcases hp0_N1_ with ⟨rfl, ha10_0_hp0_N1_, ha10_1_hp0_N1_⟩ | ⟨rfl, ha10_0_hp0_N1_⟩
  · skip
    show zW l m_M_uses (zn Mz + 0, zw Mz + 0) Mz 13 [some (.ref 81), some (.int (Int32.ofInt a0_)), none] [.int (Int32.ofInt 1)] _
    refine zr_if_ne (pc := 13) (tgt := 18) ⟨(by decide), (by decide)⟩ (by decide) (zdal_p dlD_M_uses_135 (i := 9) rfl) (fun hc_13 => ?_) (fun hc_13 => ?_)
    · skip
      refine zw_aload_n (pc := 18) (n := 0) (x := 81) rfl (zdal_p dlD_M_uses_135 (i := 12) rfl) ?_
      refine zr_callV (hf.w hW) hf.x (pc := 19) [] [] l_M_481 (c_M_act l Mz (hf.w hW) (show 0 ≤ ze Mz 81 60 by first | with_reducible assumption | assumption | omega) (show ze Mz 81 60 ≤ 12 by first | with_reducible assumption | assumption | omega)) rfl rfl rfl (by decide) (Nat.le_of_ble_eq_true rfl) (zdal_p dlD_M_uses_135 (i := 13) rfl) ?_
      rintro _ N3_ ⟨rfl, hsN3_, ⟨hp0_N3_, hp1_N3_⟩⟩
      have hf_N3_ : zFr [60] [98, 111] Mz N3_ := hf.tr hsN3_ (by decide) (by decide)
      have c5_ : zGB T N3_ := zGB.fr hsN3_ p0_ (by decide) (by decide)
      show zW l m_M_uses (zn Mz + 0, zw Mz + 0) N3_ 22 [some (.ref 81), some (.int (Int32.ofInt a0_)), none] [] _
      refine zw_iconst (pc := 22) (v := Int32.ofInt 0) (by decide) (zdal_p dlD_M_uses_135 (i := 14) rfl) ?_
      refine zw_istore_n (pc := 23) (i := 2) (L2 := [some (.ref 81), some (.int (Int32.ofInt a0_)), some (.int (Int32.ofInt 0))]) rfl (by decide) rfl (zdal_p dlD_M_uses_135 (i := 15) rfl) ?_
      have lp_24 : ∀ (n : Nat) (u12_ : Int) (hu12_a : -2147483648 ≤ u12_) (hu12_b : u12_ < 2147483648) (N13_ : zMem) (hs14_ : zFr [] [98] N3_ N13_) (i15_ : 0 ≤ u12_), (ze Mz 81 26 - u12_).toNat < n → zW l m_M_uses (zn Mz + 0, zw Mz + 0) N13_ 24 [some (.ref 81), some (.int (Int32.ofInt a0_)), some (.int (Int32.ofInt u12_))] [] (zpI [60] [98, 111] Mz (fun v N => 0 ≤ ze N 81 60 ∧ ze N 81 60 ≤ 12)) := by
        intro n
        induction n with
        | zero =>
          intro u12_ hu12_a hu12_b N13_ hs14_ i15_ h0
          exact absurd h0 (Nat.not_lt_zero _)
        | succ n ih_24 =>
          intro u12_ hu12_a hu12_b N13_ hs14_ i15_ hlt_24
          have hf_N13_ : zFr [60] [98, 111] Mz N13_ := hf_N3_.tr hs14_ (by decide) (by decide)
          have e60_N13_ : ze N13_ 81 60 = ze N3_ 81 60 := hs14_.e (by decide)
          have c16_ : zGB T N13_ := zGB.fr hs14_ c5_ (by decide) (by decide)
          refine zw_iload_n (pc := 24) (n := 2) (x := Int32.ofInt u12_) rfl (zdal_p dlD_M_uses_135 (i := 16) rfl) ?_
          refine zw_aload_n (pc := 25) (n := 0) (x := 81) rfl (zdal_p dlD_M_uses_135 (i := 17) rfl) ?_
          refine zr_getI0 hf_N13_ hW (pc := 26) (by decide) f_M_235 rfl (zdal_p dlD_M_uses_135 (i := 18) rfl) ?_
          refine zr_icmp_ge (pc := 29) (tgt := 55) ⟨hu12_a, hu12_b⟩ ⟨(ze_r Mz 81 26).1, (ze_r Mz 81 26).2⟩ (by decide) (zdal_p dlD_M_uses_135 (i := 19) rfl) (fun hc_29 => ?_) (fun hc_29 => ?_)
          · skip
            refine zw_aload_n (pc := 55) (n := 0) (x := 81) rfl (zdal_p dlD_M_uses_136 (i := 10) rfl) ?_
            refine zr_callV (hf_N13_.w hW) hf_N13_.x (pc := 56) [] [] l_M_484 (c_M_parts l N13_ (hf_N13_.w hW) T hO c16_) rfl rfl rfl (by decide) (Nat.le_of_ble_eq_true rfl) (zdal_p dlD_M_uses_136 (i := 11) rfl) ?_
            rintro _ N23_ ⟨v24_, rfl, ⟨hv24_a, hv24_b⟩, hsN23_, -⟩
            obtain rfl := hsN23_.eq.symm
            show zW l m_M_uses (zn Mz + 0, zw Mz + 0) N13_ 59 [some (.ref 81), some (.int (Int32.ofInt a0_)), some (.int (Int32.ofInt u12_))] [.int (Int32.ofInt v24_)] _
            exact zr_iret (pc := 59) (ty := .int) rfl rfl ⟨by (exact hv24_a), by (exact hv24_b)⟩ hf_N13_ ⟨(show 0 ≤ ze N13_ 81 60 by first | with_reducible assumption | (exact zo_568 e60_N13_ hp0_N3_) | assumption), (show ze N13_ 81 60 ≤ 12 by first | with_reducible assumption | (exact zo_829 e60_N13_ hp1_N3_) | assumption)⟩ (zdal_p dlD_M_uses_136 (i := 12) rfl)
          · skip
            refine zw_aload_n (pc := 32) (n := 0) (x := 81) rfl (zdal_p dlD_M_uses_135 (i := 20) rfl) ?_
            refine zr_getF (r := 98) (hf_N13_.w hW) (pc := 33) f_M_66 rfl (zh_98 (hf_N13_.w hW)).1 (zdal_p dlD_M_uses_135 (i := 21) rfl) ?_
            refine zw_iload_n (pc := 36) (n := 2) (x := Int32.ofInt u12_) rfl (zdal_p dlD_M_uses_135 (i := 22) rfl) ?_
            refine zw_aload_n (pc := 37) (n := 0) (x := 81) rfl (zdal_p dlD_M_uses_135 (i := 23) rfl) ?_
            refine zr_getF (r := 104) (hf_N13_.w hW) (pc := 38) f_M_84 rfl (zh_104 (hf_N13_.w hW)).1 (zdal_p dlD_M_uses_136 (i := 0) rfl) ?_
            refine zw_bipush (pc := 41) (v := Int32.ofInt 64) (by decide) (zdal_p dlD_M_uses_136 (i := 1) rfl) ?_
            refine zw_iload_n (pc := 43) (n := 1) (x := Int32.ofInt a0_) rfl (zdal_p dlD_M_uses_136 (i := 2) rfl) ?_
            refine zr_imul (pc := 44) (zdal_p dlD_M_uses_136 (i := 3) rfl) ?_
            refine zw_iload_n (pc := 45) (n := 2) (x := Int32.ofInt u12_) rfl (zdal_p dlD_M_uses_136 (i := 4) rfl) ?_
            refine zr_iadd (pc := 46) (zdal_p dlD_M_uses_136 (i := 5) rfl) ?_
            refine zr_laldn (pc := 47) (zh_104 (hf_N13_.w hW)).2 (by decide) (by (exact zo_529 ha10_0_hp0_N1_ i15_)) (by (exact zo_830 gb.2.2.2.2.2 ha10_1_hp0_N1_ hc_29 p2_)) (zdal_p dlD_M_uses_136 (i := 6) rfl) (fun v25_ hv25_ hv25_a hv25_b => ?_)
            rw [hf_N13_.jg (by decide) (by decide)] at hv25_
            refine zr_last (pc := 48) (zh_98 (hf_N13_.w hW)).2 (by decide) (by decide) (by (exact i15_)) (by (exact zo_831 gb.2.2.2.2.2 hc_29)) (zdal_p dlD_M_uses_136 (i := 7) rfl) (fun N26_ hN26_ hsN26_ => ?_)
            have hf_N26_ : zFr [60] [98, 111] Mz N26_ := hf_N13_.tr hsN26_ (by decide) (by decide)
            have hb0_N26_ : zFr [] [98] N3_ N26_ := hs14_.tr hsN26_ (by decide) (by decide)
            refine zr_iinc (pc := 49) (i := 2) (a := u12_) (n := 1) (L2 := [some (.ref 81), some (.int (Int32.ofInt a0_)), some (.int (Int32.ofInt (u12_ + 1)))]) rfl (by decide) rfl (zdal_p dlD_M_uses_136 (i := 8) rfl) ?_
            refine zw_goto (pc := 52) (tgt := 24) (by decide) (zdal_p dlD_M_uses_136 (i := 9) rfl) ?_
            exact ih_24 (u12_ + 1) (by (exact zo_74 i15_)) (by (exact zo_832 gb.2.2.2.2.2 hc_29)) N26_ hb0_N26_ (show 0 ≤ (u12_ + 1) by first | with_reducible assumption | (exact zo_76 i15_) | assumption) (by (exact zo_147 hc_29 hlt_24))
      exact lp_24 _ 0 (by decide) (by decide) N3_ zFr.rf (show 0 ≤ (0 : Int) by first | with_reducible assumption | (decide) | assumption) (Nat.lt_succ_self _)
    · skip
      exact absurd hc_13 (by decide)
  · skip
    show zW l m_M_uses (zn Mz + 0, zw Mz + 0) Mz 13 [some (.ref 81), some (.int (Int32.ofInt a0_)), none] [.int (Int32.ofInt 0)] _
    refine zr_if_ne (pc := 13) (tgt := 18) ⟨(by decide), (by decide)⟩ (by decide) (zdal_p dlD_M_uses_135 (i := 9) rfl) (fun hc_13 => ?_) (fun hc_13 => ?_)
    · skip
      exact absurd hc_13 (by decide)
    · skip
      refine zw_iconst (pc := 16) (v := Int32.ofInt (-1)) (by decide) (zdal_p dlD_M_uses_135 (i := 10) rfl) ?_
      exact zr_iret (pc := 17) (ty := .int) rfl rfl ⟨by (decide), by (decide)⟩ hf ⟨(show 0 ≤ ze Mz 81 60 by first | with_reducible assumption | assumption | omega), (show ze Mz 81 60 ≤ 12 by first | with_reducible assumption | assumption | omega)⟩ (zdal_p dlD_M_uses_135 (i := 11) rfl)
set_option maxHeartbeats 4000000 in
theorem c_M_markAt_105 (l : Launch) (Mz : zMem) (hW : zMt Mz) (a1_ : Int) (ha1_a : -2147483648 ≤ a1_) (ha1_b : a1_ < 2147483648) (a2_ : Int) (ha2_a : -2147483648 ≤ a2_) (ha2_b : a2_ < 2147483648) (p0_ : zGD Mz) (p1_ : 0 ≤ a1_) (p2_ : a1_ ≤ 0) (p3_ : 0 ≤ a2_) (p4_ : a2_ ≤ 63) : zC l m_M_markAt 0 0 [.ref 81, .ref 105, .int (Int32.ofInt a1_), .int (Int32.ofInt a2_)] Mz (zpJ [] [] Mz (fun v N => True)) := by
  refine zC_of (L0 := [some (.ref 81), some (.ref 105), some (.int (Int32.ofInt a1_)), some (.int (Int32.ofInt a2_)), none, none, none]) md_M_markAt (Nat.le_of_ble_eq_true rfl) rfl ?_ zQ0
  have hf : zFr [] [] Mz Mz := zFr.rf
  have r_26 := ze_r Mz 81 26
  have gb := p0_.1
  refine zw_lconst (pc := 0) (v := Int64.ofInt 0) (by decide) (zdal_p dlC_M_markAt_114 (i := 0) rfl) ?_
  refine zw_lstore (pc := 1) (i := 4) (L2 := [some (.ref 81), some (.ref 105), some (.int (Int32.ofInt a1_)), some (.int (Int32.ofInt a2_)), some (.long (Int64.ofInt 0)), none, none]) (by decide) rfl (zdal_p dlC_M_markAt_114 (i := 1) rfl) ?_
  refine zw_iconst (pc := 3) (v := Int32.ofInt 0) (by decide) (zdal_p dlC_M_markAt_114 (i := 2) rfl) ?_
  refine zw_istore (pc := 4) (i := 6) (L2 := [some (.ref 81), some (.ref 105), some (.int (Int32.ofInt a1_)), some (.int (Int32.ofInt a2_)), some (.long (Int64.ofInt 0)), none, some (.int (Int32.ofInt 0))]) (by decide) rfl (zdal_p dlC_M_markAt_114 (i := 3) rfl) ?_
  have lp_6 : ∀ (n : Nat) (u1_ : Int) (hu1_a : -9223372036854775808 ≤ u1_) (hu1_b : u1_ < 9223372036854775808) (u2_ : Int) (hu2_a : -2147483648 ≤ u2_) (hu2_b : u2_ < 2147483648) (i3_ : 0 ≤ u2_), (ze Mz 81 26 - u2_).toNat < n → zW l m_M_markAt (zn Mz + 0, zw Mz + 0) Mz 6 [some (.ref 81), some (.ref 105), some (.int (Int32.ofInt a1_)), some (.int (Int32.ofInt a2_)), some (.long (Int64.ofInt u1_)), none, some (.int (Int32.ofInt u2_))] [] (zpJ [] [] Mz (fun v N => True)) := by
    intro n
    induction n with
    | zero =>
      intro u1_ hu1_a hu1_b u2_ hu2_a hu2_b i3_ h0
      exact absurd h0 (Nat.not_lt_zero _)
    | succ n ih_6 =>
      intro u1_ hu1_a hu1_b u2_ hu2_a hu2_b i3_ hlt_6
      refine zw_iload (pc := 6) (i := 6) (x := Int32.ofInt u2_) rfl (zdal_p dlC_M_markAt_114 (i := 4) rfl) ?_
      refine zw_aload_n (pc := 8) (n := 0) (x := 81) rfl (zdal_p dlC_M_markAt_114 (i := 5) rfl) ?_
      refine zr_getI0 hf hW (pc := 9) (by decide) f_M_235 rfl (zdal_p dlC_M_markAt_114 (i := 6) rfl) ?_
      refine zr_icmp_ge (pc := 12) (tgt := 46) ⟨hu2_a, hu2_b⟩ ⟨(ze_r Mz 81 26).1, (ze_r Mz 81 26).2⟩ (by decide) (zdal_p dlC_M_markAt_114 (i := 7) rfl) (fun hc_12 => ?_) (fun hc_12 => ?_)
      · skip
        refine zw_lload (pc := 46) (i := 4) (x := Int64.ofInt u1_) rfl (zdal_p dlC_M_markAt_115 (i := 4) rfl) ?_
        exact zr_lret (pc := 48) rfl ⟨by (exact hu1_a), by (exact hu1_b)⟩ hf trivial (zdal_p dlC_M_markAt_115 (i := 5) rfl)
      · skip
        refine zw_lload (pc := 15) (i := 4) (x := Int64.ofInt u1_) rfl (zdal_p dlC_M_markAt_114 (i := 8) rfl) ?_
        refine zw_aload_n (pc := 17) (n := 1) (x := 105) rfl (zdal_p dlC_M_markAt_114 (i := 9) rfl) ?_
        refine zw_iload_n (pc := 18) (n := 2) (x := Int32.ofInt a1_) rfl (zdal_p dlC_M_markAt_114 (i := 10) rfl) ?_
        refine zw_iload (pc := 19) (i := 6) (x := Int32.ofInt u2_) rfl (zdal_p dlC_M_markAt_114 (i := 11) rfl) ?_
        refine zr_iadd (pc := 21) (zdal_p dlC_M_markAt_114 (i := 12) rfl) ?_
        refine zr_laldn (pc := 22) (zh_105 (hf.w hW)).2 (by decide) (by (exact zo_833 i3_ p1_)) (by (exact zo_834 gb.2.2.2.2.2 hc_12 p2_)) (zdal_p dlC_M_markAt_114 (i := 13) rfl) (fun v4_ hv4_ hv4_a hv4_b => ?_)
        refine zw_aload_n (pc := 23) (n := 0) (x := 81) rfl (zdal_p dlC_M_markAt_114 (i := 14) rfl) ?_
        refine zr_getF (r := 93) (hf.w hW) (pc := 24) f_M_50 rfl (zh_93 (hf.w hW)).1 (zdal_p dlC_M_markAt_114 (i := 15) rfl) ?_
        refine zw_bipush (pc := 27) (v := Int32.ofInt 64) (by decide) (zdal_p dlC_M_markAt_114 (i := 16) rfl) ?_
        refine zw_iload (pc := 29) (i := 6) (x := Int32.ofInt u2_) rfl (zdal_p dlC_M_markAt_114 (i := 17) rfl) ?_
        refine zr_imul (pc := 31) (zdal_p dlC_M_markAt_114 (i := 18) rfl) ?_
        refine zw_iload_n (pc := 32) (n := 3) (x := Int32.ofInt a2_) rfl (zdal_p dlC_M_markAt_114 (i := 19) rfl) ?_
        refine zr_iadd (pc := 33) (zdal_p dlC_M_markAt_114 (i := 20) rfl) ?_
        refine zr_ialdn (pc := 34) (zh_93 (hf.w hW)).2 (by decide) (by (exact zo_529 i3_ p3_)) (by (exact zo_835 gb.2.2.2.2.2 hc_12 p4_)) (zdal_p dlC_M_markAt_114 (i := 21) rfl) (fun v5_ hv5_ hv5_a hv5_b => ?_)
        refine zr_i2l (pc := 35) ⟨hv5_a, hv5_b⟩ (zdal_p dlC_M_markAt_114 (i := 22) rfl) ?_
        refine zr_lmul (pc := 36) (zdal_p dlC_M_markAt_114 (i := 23) rfl) ?_
        refine zr_ladd (pc := 37) (zdal_p dlC_M_markAt_115 (i := 0) rfl) ?_
        refine zr_nmJ (fun v6_ hv6_ => ?_)
        obtain ⟨hv6_a, hv6_b⟩ := hv6_
        refine zw_lstore (pc := 38) (i := 4) (L2 := [some (.ref 81), some (.ref 105), some (.int (Int32.ofInt a1_)), some (.int (Int32.ofInt a2_)), some (.long (Int64.ofInt v6_)), none, some (.int (Int32.ofInt u2_))]) (by decide) rfl (zdal_p dlC_M_markAt_115 (i := 1) rfl) ?_
        refine zr_iinc (pc := 40) (i := 6) (a := u2_) (n := 1) (L2 := [some (.ref 81), some (.ref 105), some (.int (Int32.ofInt a1_)), some (.int (Int32.ofInt a2_)), some (.long (Int64.ofInt v6_)), none, some (.int (Int32.ofInt (u2_ + 1)))]) rfl (by decide) rfl (zdal_p dlC_M_markAt_115 (i := 2) rfl) ?_
        refine zw_goto (pc := 43) (tgt := 6) (by decide) (zdal_p dlC_M_markAt_115 (i := 3) rfl) ?_
        exact ih_6 v6_ hv6_a hv6_b (u2_ + 1) (by (exact zo_74 i3_)) (by (exact zo_832 gb.2.2.2.2.2 hc_12)) (show 0 ≤ (u2_ + 1) by first | with_reducible assumption | (exact zo_76 i3_) | assumption) (by (exact zo_147 hc_12 hlt_6))
  exact lp_6 _ 0 (by decide) (by decide) 0 (by decide) (by decide) (show 0 ≤ (0 : Int) by first | with_reducible assumption | (decide) | assumption) (Nat.lt_succ_self _)
set_option maxHeartbeats 4000000 in
theorem c_M_isFit_105 (l : Launch) (Mz : zMem) (hW : zMt Mz) (a1_ : Int) (ha1_a : -2147483648 ≤ a1_) (ha1_b : a1_ < 2147483648) (p0_ : zGD Mz) (p1_ : 0 ≤ a1_) (p2_ : a1_ ≤ 0) : zC l m_M_isFit 0 0 [.ref 81, .ref 105, .int (Int32.ofInt a1_)] Mz (zpI [] [] Mz (fun v N => ((v = 0 ∨ v = 1)))) := by
  refine zC_of (L0 := [some (.ref 81), some (.ref 105), some (.int (Int32.ofInt a1_)), none, none]) md_M_isFit (Nat.le_of_ble_eq_true rfl) rfl ?_ zQ0
  have hf : zFr [] [] Mz Mz := zFr.rf
  have r_26 := ze_r Mz 81 26
  have gb := p0_.1
  refine zw_iconst (pc := 0) (v := Int32.ofInt 1) (by decide) (zdal_p dlC_M_isFit_112 (i := 0) rfl) ?_
  refine zw_istore_n (pc := 1) (i := 3) (L2 := [some (.ref 81), some (.ref 105), some (.int (Int32.ofInt a1_)), some (.int (Int32.ofInt 1)), none]) rfl (by decide) rfl (zdal_p dlC_M_isFit_112 (i := 1) rfl) ?_
  refine zw_iconst (pc := 2) (v := Int32.ofInt 0) (by decide) (zdal_p dlC_M_isFit_112 (i := 2) rfl) ?_
  refine zw_istore (pc := 3) (i := 4) (L2 := [some (.ref 81), some (.ref 105), some (.int (Int32.ofInt a1_)), some (.int (Int32.ofInt 1)), some (.int (Int32.ofInt 0))]) (by decide) rfl (zdal_p dlC_M_isFit_112 (i := 3) rfl) ?_
  have lp_5 : ∀ (n : Nat) (u1_ : Int) (hu1_a : -2147483648 ≤ u1_) (hu1_b : u1_ < 2147483648) (hu1_z : u1_ = 0 ∨ u1_ = 1) (u2_ : Int) (hu2_a : -2147483648 ≤ u2_) (hu2_b : u2_ < 2147483648) (i3_ : 0 ≤ u2_), (ze Mz 81 26 - u2_).toNat < n → zW l m_M_isFit (zn Mz + 0, zw Mz + 0) Mz 5 [some (.ref 81), some (.ref 105), some (.int (Int32.ofInt a1_)), some (.int (Int32.ofInt u1_)), some (.int (Int32.ofInt u2_))] [] (zpI [] [] Mz (fun v N => ((v = 0 ∨ v = 1)))) := by
    intro n
    induction n with
    | zero =>
      intro u1_ hu1_a hu1_b hu1_z u2_ hu2_a hu2_b i3_ h0
      exact absurd h0 (Nat.not_lt_zero _)
    | succ n ih_5 =>
      intro u1_ hu1_a hu1_b hu1_z u2_ hu2_a hu2_b i3_ hlt_5
      refine zw_iload (pc := 5) (i := 4) (x := Int32.ofInt u2_) rfl (zdal_p dlC_M_isFit_112 (i := 4) rfl) ?_
      refine zw_aload_n (pc := 7) (n := 0) (x := 81) rfl (zdal_p dlC_M_isFit_112 (i := 5) rfl) ?_
      refine zr_getI0 hf hW (pc := 8) (by decide) f_M_235 rfl (zdal_p dlC_M_isFit_112 (i := 6) rfl) ?_
      refine zr_icmp_ge (pc := 11) (tgt := 48) ⟨hu2_a, hu2_b⟩ ⟨(ze_r Mz 81 26).1, (ze_r Mz 81 26).2⟩ (by decide) (zdal_p dlC_M_isFit_112 (i := 7) rfl) (fun hc_11 => ?_) (fun hc_11 => ?_)
      · skip
        refine zw_iconst (pc := 48) (v := Int32.ofInt 0) (by decide) (zdal_p dlC_M_isFit_113 (i := 1) rfl) ?_
        refine zw_istore (pc := 49) (i := 4) (L2 := [some (.ref 81), some (.ref 105), some (.int (Int32.ofInt a1_)), some (.int (Int32.ofInt u1_)), some (.int (Int32.ofInt 0))]) (by decide) rfl (zdal_p dlC_M_isFit_113 (i := 2) rfl) ?_
        have lp_51 : ∀ (n : Nat) (u4_ : Int) (hu4_a : -2147483648 ≤ u4_) (hu4_b : u4_ < 2147483648) (hu4_z : u4_ = 0 ∨ u4_ = 1) (u5_ : Int) (hu5_a : -2147483648 ≤ u5_) (hu5_b : u5_ < 2147483648) (i6_ : 0 ≤ u5_), (ze Mz 81 26 - u5_).toNat < n → zW l m_M_isFit (zn Mz + 0, zw Mz + 0) Mz 51 [some (.ref 81), some (.ref 105), some (.int (Int32.ofInt a1_)), some (.int (Int32.ofInt u4_)), some (.int (Int32.ofInt u5_))] [] (zpI [] [] Mz (fun v N => ((v = 0 ∨ v = 1)))) := by
          intro n
          induction n with
          | zero =>
            intro u4_ hu4_a hu4_b hu4_z u5_ hu5_a hu5_b i6_ h0
            exact absurd h0 (Nat.not_lt_zero _)
          | succ n ih_51 =>
            intro u4_ hu4_a hu4_b hu4_z u5_ hu5_a hu5_b i6_ hlt_51
            refine zw_iload (pc := 51) (i := 4) (x := Int32.ofInt u5_) rfl (zdal_p dlC_M_isFit_113 (i := 3) rfl) ?_
            refine zw_aload_n (pc := 53) (n := 0) (x := 81) rfl (zdal_p dlC_M_isFit_113 (i := 4) rfl) ?_
            refine zr_getI0 hf hW (pc := 54) (by decide) f_M_235 rfl (zdal_p dlC_M_isFit_113 (i := 5) rfl) ?_
            refine zr_icmp_ge (pc := 57) (tgt := 88) ⟨hu5_a, hu5_b⟩ ⟨(ze_r Mz 81 26).1, (ze_r Mz 81 26).2⟩ (by decide) (zdal_p dlC_M_isFit_113 (i := 6) rfl) (fun hc_57 => ?_) (fun hc_57 => ?_)
            · skip
              refine zw_iload_n (pc := 88) (n := 3) (x := Int32.ofInt u4_) rfl (zdal_p dlC_M_isFit_113 (i := 20) rfl) ?_
              exact zr_iret (pc := 89) (ty := .boolean) rfl (z_narB (by (exact hu4_z))) ⟨by (exact hu4_a), by (exact hu4_b)⟩ hf (show (u4_ = 0 ∨ u4_ = 1) by first | with_reducible assumption | assumption | omega) (zdal_p dlC_M_isFit_113 (i := 21) rfl)
            · skip
              refine zw_iload_n (pc := 60) (n := 3) (x := Int32.ofInt u4_) rfl (zdal_p dlC_M_isFit_113 (i := 7) rfl) ?_
              refine zr_if_eq (pc := 61) (tgt := 88) ⟨hu4_a, hu4_b⟩ (by decide) (zdal_p dlC_M_isFit_113 (i := 8) rfl) (fun hc_61 => ?_) (fun hc_61 => ?_)
              · skip
                refine zw_iload_n (pc := 88) (n := 3) (x := Int32.ofInt u4_) rfl (zdal_p dlC_M_isFit_113 (i := 20) rfl) ?_
                exact zr_iret (pc := 89) (ty := .boolean) rfl (z_narB (by (exact hu4_z))) ⟨by (exact hu4_a), by (exact hu4_b)⟩ hf (show (u4_ = 0 ∨ u4_ = 1) by first | with_reducible assumption | assumption | omega) (zdal_p dlC_M_isFit_113 (i := 21) rfl)
              · skip
                refine zw_aload_n (pc := 64) (n := 0) (x := 81) rfl (zdal_p dlC_M_isFit_113 (i := 9) rfl) ?_
                refine zw_aload_n (pc := 65) (n := 1) (x := 105) rfl (zdal_p dlC_M_isFit_113 (i := 10) rfl) ?_
                refine zw_iload_n (pc := 66) (n := 2) (x := Int32.ofInt a1_) rfl (zdal_p dlC_M_isFit_113 (i := 11) rfl) ?_
                refine zw_iload (pc := 67) (i := 4) (x := Int32.ofInt u5_) rfl (zdal_p dlC_M_isFit_113 (i := 12) rfl) ?_
                refine zr_callV (hf.w hW) hf.x (pc := 69) [.ref 105, .int (Int32.ofInt a1_), .int (Int32.ofInt u5_)] [] l_M_264 (c_M_markAt_105 l Mz (hf.w hW) a1_ ha1_a ha1_b u5_ hu5_a hu5_b p0_ (show 0 ≤ a1_ by first | with_reducible assumption | assumption | omega) (show a1_ ≤ 0 by first | with_reducible assumption | assumption | omega) (show 0 ≤ u5_ by first | with_reducible assumption | assumption | omega) (show u5_ ≤ 63 by first | with_reducible assumption | (exact zo_836 gb.2.2.2.2.2 hc_57) | assumption)) rfl rfl rfl (by decide) (Nat.le_of_ble_eq_true rfl) (zdal_p dlC_M_isFit_113 (i := 13) rfl) ?_
                rintro _ N7_ ⟨v8_, rfl, ⟨hv8_a, hv8_b⟩, hsN7_, -⟩
                obtain rfl := hsN7_.eq.symm
                show zW l m_M_isFit (zn Mz + 0, zw Mz + 0) Mz 72 [some (.ref 81), some (.ref 105), some (.int (Int32.ofInt a1_)), some (.int (Int32.ofInt u4_)), some (.int (Int32.ofInt u5_))] [.long (Int64.ofInt v8_)] _
                refine zr_ldc2 (pc := 72) (n := (-1000000000000)) (by decide) k_M_260 (zdal_p dlC_M_isFit_113 (i := 14) rfl) ?_
                refine zr_ldc2 (pc := 75) (n := 1000000000000) (by decide) k_M_262 (zdal_p dlC_M_isFit_113 (i := 15) rfl) ?_
                refine zr_callS hf.x (pc := 78) [.long (Int64.ofInt v8_), .long (Int64.ofInt ((-1000000000000))), .long (Int64.ofInt 1000000000000)] [] l_M_131 (c_M_isIn l Mz (hf.w hW) v8_ hv8_a hv8_b ((-1000000000000)) (by decide) (by decide) 1000000000000 (by decide) (by decide)) rfl rfl (by decide) (Nat.le_of_ble_eq_true rfl) (zdal_p dlC_M_isFit_113 (i := 16) rfl) ?_
                rintro _ N9_ ⟨v10_, rfl, ⟨hv10_a, hv10_b⟩, hsN9_, hp0_N9_⟩
                obtain rfl := hsN9_.eq.symm
                replace hp0_N9_ : ((v10_ = 1 ∧ ((-1000000000000)) ≤ v8_ ∧ v8_ ≤ 1000000000000) ∨ (v10_ = 0 ∧ (v8_ < ((-1000000000000)) ∨ 1000000000000 < v8_))) := hp0_N9_
                rcases hp0_N9_ with ⟨rfl, ha78_0_hp0_N9_, ha78_1_hp0_N9_⟩ | ⟨rfl, ha78_0_hp0_N9_⟩
                · skip
                  show zW l m_M_isFit (zn Mz + 0, zw Mz + 0) Mz 81 [some (.ref 81), some (.ref 105), some (.int (Int32.ofInt a1_)), some (.int (Int32.ofInt u4_)), some (.int (Int32.ofInt u5_))] [.int (Int32.ofInt 1)] _
                  refine zw_istore_n (pc := 81) (i := 3) (L2 := [some (.ref 81), some (.ref 105), some (.int (Int32.ofInt a1_)), some (.int (Int32.ofInt 1)), some (.int (Int32.ofInt u5_))]) rfl (by decide) rfl (zdal_p dlC_M_isFit_113 (i := 17) rfl) ?_
                  refine zr_iinc (pc := 82) (i := 4) (a := u5_) (n := 1) (L2 := [some (.ref 81), some (.ref 105), some (.int (Int32.ofInt a1_)), some (.int (Int32.ofInt 1)), some (.int (Int32.ofInt (u5_ + 1)))]) rfl (by decide) rfl (zdal_p dlC_M_isFit_113 (i := 18) rfl) ?_
                  refine zw_goto (pc := 85) (tgt := 51) (by decide) (zdal_p dlC_M_isFit_113 (i := 19) rfl) ?_
                  exact ih_51 1 (by decide) (by decide) (by (decide)) (u5_ + 1) (by (exact zo_74 i6_)) (by (exact zo_832 gb.2.2.2.2.2 hc_57)) (show 0 ≤ (u5_ + 1) by first | with_reducible assumption | (exact zo_76 i6_) | assumption) (by (exact zo_147 hc_57 hlt_51))
                · skip
                  show zW l m_M_isFit (zn Mz + 0, zw Mz + 0) Mz 81 [some (.ref 81), some (.ref 105), some (.int (Int32.ofInt a1_)), some (.int (Int32.ofInt u4_)), some (.int (Int32.ofInt u5_))] [.int (Int32.ofInt 0)] _
                  refine zw_istore_n (pc := 81) (i := 3) (L2 := [some (.ref 81), some (.ref 105), some (.int (Int32.ofInt a1_)), some (.int (Int32.ofInt 0)), some (.int (Int32.ofInt u5_))]) rfl (by decide) rfl (zdal_p dlC_M_isFit_113 (i := 17) rfl) ?_
                  refine zr_iinc (pc := 82) (i := 4) (a := u5_) (n := 1) (L2 := [some (.ref 81), some (.ref 105), some (.int (Int32.ofInt a1_)), some (.int (Int32.ofInt 0)), some (.int (Int32.ofInt (u5_ + 1)))]) rfl (by decide) rfl (zdal_p dlC_M_isFit_113 (i := 18) rfl) ?_
                  refine zw_goto (pc := 85) (tgt := 51) (by decide) (zdal_p dlC_M_isFit_113 (i := 19) rfl) ?_
                  exact ih_51 0 (by decide) (by decide) (by (decide)) (u5_ + 1) (by (exact zo_74 i6_)) (by (exact zo_832 gb.2.2.2.2.2 hc_57)) (show 0 ≤ (u5_ + 1) by first | with_reducible assumption | (exact zo_76 i6_) | assumption) (by (exact zo_147 hc_57 hlt_51))
        exact lp_51 _ u1_ hu1_a hu1_b (by (exact hu1_z)) 0 (by decide) (by decide) (show 0 ≤ (0 : Int) by first | with_reducible assumption | (decide) | assumption) (Nat.lt_succ_self _)
      · skip
        refine zw_iload_n (pc := 14) (n := 3) (x := Int32.ofInt u1_) rfl (zdal_p dlC_M_isFit_112 (i := 8) rfl) ?_
        refine zr_if_eq (pc := 15) (tgt := 40) ⟨hu1_a, hu1_b⟩ (by decide) (zdal_p dlC_M_isFit_112 (i := 9) rfl) (fun hc_15 => ?_) (fun hc_15 => ?_)
        · skip
          refine zw_iconst (pc := 40) (v := Int32.ofInt 0) (by decide) (zdal_p dlC_M_isFit_112 (i := 21) rfl) ?_
          refine zw_istore_n (pc := 41) (i := 3) (L2 := [some (.ref 81), some (.ref 105), some (.int (Int32.ofInt a1_)), some (.int (Int32.ofInt 0)), some (.int (Int32.ofInt u2_))]) rfl (by decide) rfl d_M_isFit_41 ?_
          refine zr_iinc (pc := 42) (i := 4) (a := u2_) (n := 1) (L2 := [some (.ref 81), some (.ref 105), some (.int (Int32.ofInt a1_)), some (.int (Int32.ofInt 0)), some (.int (Int32.ofInt (u2_ + 1)))]) rfl (by decide) rfl d_M_isFit_42 ?_
          refine zw_goto (pc := 45) (tgt := 5) (by decide) d_M_isFit_45 ?_
          exact ih_5 0 (by decide) (by decide) (by (decide)) (u2_ + 1) (by (exact zo_74 i3_)) (by (exact zo_832 gb.2.2.2.2.2 hc_11)) (show 0 ≤ (u2_ + 1) by first | with_reducible assumption | (exact zo_76 i3_) | assumption) (by (exact zo_147 hc_11 hlt_5))
        · skip
          refine zw_aload_n (pc := 18) (n := 1) (x := 105) rfl (zdal_p dlC_M_isFit_112 (i := 10) rfl) ?_
          refine zw_iload_n (pc := 19) (n := 2) (x := Int32.ofInt a1_) rfl (zdal_p dlC_M_isFit_112 (i := 11) rfl) ?_
          refine zw_iload (pc := 20) (i := 4) (x := Int32.ofInt u2_) rfl (zdal_p dlC_M_isFit_112 (i := 12) rfl) ?_
          refine zr_iadd (pc := 22) (zdal_p dlC_M_isFit_112 (i := 13) rfl) ?_
          refine zr_laldn (pc := 23) (zh_105 (hf.w hW)).2 (by decide) (by (exact zo_833 i3_ p1_)) (by (exact zo_834 gb.2.2.2.2.2 hc_11 p2_)) (zdal_p dlC_M_isFit_112 (i := 14) rfl) (fun v11_ hv11_ hv11_a hv11_b => ?_)
          refine zr_ldc2 (pc := 24) (n := (-1000000000000)) (by decide) k_M_260 (zdal_p dlC_M_isFit_112 (i := 15) rfl) ?_
          refine zr_ldc2 (pc := 27) (n := 1000000000000) (by decide) k_M_262 (zdal_p dlC_M_isFit_112 (i := 16) rfl) ?_
          refine zr_callS hf.x (pc := 30) [.long (Int64.ofInt v11_), .long (Int64.ofInt ((-1000000000000))), .long (Int64.ofInt 1000000000000)] [] l_M_131 (c_M_isIn l Mz (hf.w hW) v11_ hv11_a hv11_b ((-1000000000000)) (by decide) (by decide) 1000000000000 (by decide) (by decide)) rfl rfl (by decide) (Nat.le_of_ble_eq_true rfl) (zdal_p dlC_M_isFit_112 (i := 17) rfl) ?_
          rintro _ N12_ ⟨v13_, rfl, ⟨hv13_a, hv13_b⟩, hsN12_, hp0_N12_⟩
          obtain rfl := hsN12_.eq.symm
          replace hp0_N12_ : ((v13_ = 1 ∧ ((-1000000000000)) ≤ v11_ ∧ v11_ ≤ 1000000000000) ∨ (v13_ = 0 ∧ (v11_ < ((-1000000000000)) ∨ 1000000000000 < v11_))) := hp0_N12_
          rcases hp0_N12_ with ⟨rfl, ha30_0_hp0_N12_, ha30_1_hp0_N12_⟩ | ⟨rfl, ha30_0_hp0_N12_⟩
          · skip
            show zW l m_M_isFit (zn Mz + 0, zw Mz + 0) Mz 33 [some (.ref 81), some (.ref 105), some (.int (Int32.ofInt a1_)), some (.int (Int32.ofInt u1_)), some (.int (Int32.ofInt u2_))] [.int (Int32.ofInt 1)] _
            refine zr_if_eq (pc := 33) (tgt := 40) ⟨(by decide), (by decide)⟩ (by decide) (zdal_p dlC_M_isFit_112 (i := 18) rfl) (fun hc_33 => ?_) (fun hc_33 => ?_)
            · skip
              exact absurd hc_33 (by decide)
            · skip
              refine zw_iconst (pc := 36) (v := Int32.ofInt 1) (by decide) (zdal_p dlC_M_isFit_112 (i := 19) rfl) ?_
              refine zw_goto (pc := 37) (tgt := 41) (by decide) (zdal_p dlC_M_isFit_112 (i := 20) rfl) ?_
              refine zw_istore_n (pc := 41) (i := 3) (L2 := [some (.ref 81), some (.ref 105), some (.int (Int32.ofInt a1_)), some (.int (Int32.ofInt 1)), some (.int (Int32.ofInt u2_))]) rfl (by decide) rfl d_M_isFit_41 ?_
              refine zr_iinc (pc := 42) (i := 4) (a := u2_) (n := 1) (L2 := [some (.ref 81), some (.ref 105), some (.int (Int32.ofInt a1_)), some (.int (Int32.ofInt 1)), some (.int (Int32.ofInt (u2_ + 1)))]) rfl (by decide) rfl d_M_isFit_42 ?_
              refine zw_goto (pc := 45) (tgt := 5) (by decide) d_M_isFit_45 ?_
              exact ih_5 1 (by decide) (by decide) (by (decide)) (u2_ + 1) (by (exact zo_74 i3_)) (by (exact zo_832 gb.2.2.2.2.2 hc_11)) (show 0 ≤ (u2_ + 1) by first | with_reducible assumption | (exact zo_76 i3_) | assumption) (by (exact zo_147 hc_11 hlt_5))
          · skip
            show zW l m_M_isFit (zn Mz + 0, zw Mz + 0) Mz 33 [some (.ref 81), some (.ref 105), some (.int (Int32.ofInt a1_)), some (.int (Int32.ofInt u1_)), some (.int (Int32.ofInt u2_))] [.int (Int32.ofInt 0)] _
            refine zr_if_eq (pc := 33) (tgt := 40) ⟨(by decide), (by decide)⟩ (by decide) (zdal_p dlC_M_isFit_112 (i := 18) rfl) (fun hc_33 => ?_) (fun hc_33 => ?_)
            · skip
              refine zw_iconst (pc := 40) (v := Int32.ofInt 0) (by decide) (zdal_p dlC_M_isFit_112 (i := 21) rfl) ?_
              refine zw_istore_n (pc := 41) (i := 3) (L2 := [some (.ref 81), some (.ref 105), some (.int (Int32.ofInt a1_)), some (.int (Int32.ofInt 0)), some (.int (Int32.ofInt u2_))]) rfl (by decide) rfl d_M_isFit_41 ?_
              refine zr_iinc (pc := 42) (i := 4) (a := u2_) (n := 1) (L2 := [some (.ref 81), some (.ref 105), some (.int (Int32.ofInt a1_)), some (.int (Int32.ofInt 0)), some (.int (Int32.ofInt (u2_ + 1)))]) rfl (by decide) rfl d_M_isFit_42 ?_
              refine zw_goto (pc := 45) (tgt := 5) (by decide) d_M_isFit_45 ?_
              exact ih_5 0 (by decide) (by decide) (by (decide)) (u2_ + 1) (by (exact zo_74 i3_)) (by (exact zo_832 gb.2.2.2.2.2 hc_11)) (show 0 ≤ (u2_ + 1) by first | with_reducible assumption | (exact zo_76 i3_) | assumption) (by (exact zo_147 hc_11 hlt_5))
            · skip
              exact absurd hc_33 (by decide)
  exact lp_5 _ 1 (by decide) (by decide) (by (decide)) 0 (by decide) (by decide) (show 0 ≤ (0 : Int) by first | with_reducible assumption | (decide) | assumption) (Nat.lt_succ_self _)
set_option maxHeartbeats 4000000 in
theorem c_M_grows (l : Launch) (Mz : zMem) (hW : zMt Mz) (a0_ : Int) (ha0_a : -2147483648 ≤ a0_) (ha0_b : a0_ < 2147483648) (a1_ : Int) (ha1_a : -2147483648 ≤ a1_) (ha1_b : a1_ < 2147483648) (a2_ : Int) (ha2_a : -2147483648 ≤ a2_) (ha2_b : a2_ < 2147483648) (T : zGT) (hO : gOK T) (p0_ : zGB T Mz) (p1_ : 0 ≤ ze Mz 81 60) (p2_ : ze Mz 81 60 ≤ 12) : zC l m_M_grows 0 0 [.ref 81, .int (Int32.ofInt a0_), .int (Int32.ofInt a1_), .int (Int32.ofInt a2_)] Mz (zpJ [60] [98, 105, 111] Mz (fun v N => 0 ≤ ze N 81 60 ∧ ze N 81 60 ≤ 12)) := by
  refine zC_of (L0 := [some (.ref 81), some (.int (Int32.ofInt a0_)), some (.int (Int32.ofInt a1_)), some (.int (Int32.ofInt a2_)), none]) md_M_grows (Nat.le_of_ble_eq_true rfl) rfl ?_ zQ0
  have hf : zFr [60] [98, 105, 111] Mz Mz := zFr.rf
  have r_26 := ze_r Mz 81 26
  have r_60 := ze_r Mz 81 60
  have hG := hO.1
  have g24 := hG.2.1
  have g1 := hG.1
  have dv0 : zTab T Mz := p0_.1
  have dv1 : zB 85 144 0 5 Mz := p0_.2.1
  have dv2 : zJX T Mz := p0_.2.2.1
  have dv3 : zFirs T Mz := p0_.2.2.2.1
  have dv4 : zSSm T Mz := p0_.2.2.2.2.1
  have dv5 : zGD Mz := zGB.d hO p0_
  have gb := dv5.1
  have gn := dv0.1
  refine zw_aload_n (pc := 0) (n := 0) (x := 81) rfl (zdal_p dlD_M_grows_137 (i := 0) rfl) ?_
  refine zw_iload_n (pc := 1) (n := 3) (x := Int32.ofInt a2_) rfl (zdal_p dlD_M_grows_137 (i := 1) rfl) ?_
  refine zr_callV (hf.w hW) hf.x (pc := 2) [.int (Int32.ofInt a2_)] [] l_M_414 (c_M_isSort l Mz (hf.w hW) a2_ ha2_a ha2_b T hO p0_) rfl rfl rfl (by decide) (Nat.le_of_ble_eq_true rfl) (zdal_p dlD_M_grows_137 (i := 2) rfl) ?_
  rintro _ N1_ ⟨v2_, rfl, ⟨hv2_a, hv2_b⟩, hsN1_, hp0_N1_⟩
  obtain rfl := hsN1_.eq.symm
  replace hp0_N1_ : ((v2_ = 1 ∧ 0 ≤ a2_ ∧ a2_ < ze Mz 81 26) ∨ (v2_ = 0)) := hp0_N1_
  rcases hp0_N1_ with ⟨rfl, ha2_0_hp0_N1_, ha2_1_hp0_N1_⟩ | rfl
  · skip
    show zW l m_M_grows (zn Mz + 0, zw Mz + 0) Mz 5 [some (.ref 81), some (.int (Int32.ofInt a0_)), some (.int (Int32.ofInt a1_)), some (.int (Int32.ofInt a2_)), none] [.int (Int32.ofInt 1)] _
    refine zr_if_eq (pc := 5) (tgt := 36) ⟨(by decide), (by decide)⟩ (by decide) (zdal_p dlD_M_grows_137 (i := 3) rfl) (fun hc_5 => ?_) (fun hc_5 => ?_)
    · skip
      exact absurd hc_5 (by decide)
    · skip
      refine zw_iload_n (pc := 8) (n := 1) (x := Int32.ofInt a0_) rfl (zdal_p dlD_M_grows_137 (i := 4) rfl) ?_
      refine zr_i2l (pc := 9) ⟨ha0_a, ha0_b⟩ (zdal_p dlD_M_grows_137 (i := 5) rfl) ?_
      refine zr_ldc2 (pc := 10) (n := (-9)) (by decide) k_M_523 (zdal_p dlD_M_grows_137 (i := 6) rfl) ?_
      refine zr_ldc2 (pc := 13) (n := 9) (by decide) k_M_525 (zdal_p dlD_M_grows_137 (i := 7) rfl) ?_
      refine zr_callS hf.x (pc := 16) [.long (Int64.ofInt a0_), .long (Int64.ofInt ((-9))), .long (Int64.ofInt 9)] [] l_M_131 (c_M_isIn l Mz (hf.w hW) a0_ (by (exact zo_282 ha0_a)) (by (exact zo_283 ha0_b)) ((-9)) (by decide) (by decide) 9 (by decide) (by decide)) rfl rfl (by decide) (Nat.le_of_ble_eq_true rfl) (zdal_p dlD_M_grows_137 (i := 8) rfl) ?_
      rintro _ N3_ ⟨v4_, rfl, ⟨hv4_a, hv4_b⟩, hsN3_, hp0_N3_⟩
      obtain rfl := hsN3_.eq.symm
      replace hp0_N3_ : ((v4_ = 1 ∧ ((-9)) ≤ a0_ ∧ a0_ ≤ 9) ∨ (v4_ = 0 ∧ (a0_ < ((-9)) ∨ 9 < a0_))) := hp0_N3_
      rcases hp0_N3_ with ⟨rfl, ha16_0_hp0_N3_, ha16_1_hp0_N3_⟩ | ⟨rfl, ha16_0_hp0_N3_⟩
      · skip
        show zW l m_M_grows (zn Mz + 0, zw Mz + 0) Mz 19 [some (.ref 81), some (.int (Int32.ofInt a0_)), some (.int (Int32.ofInt a1_)), some (.int (Int32.ofInt a2_)), none] [.int (Int32.ofInt 1)] _
        refine zr_if_eq (pc := 19) (tgt := 36) ⟨(by decide), (by decide)⟩ (by decide) (zdal_p dlD_M_grows_137 (i := 9) rfl) (fun hc_19 => ?_) (fun hc_19 => ?_)
        · skip
          exact absurd hc_19 (by decide)
        · skip
          refine zw_iload_n (pc := 22) (n := 2) (x := Int32.ofInt a1_) rfl (zdal_p dlD_M_grows_137 (i := 10) rfl) ?_
          refine zr_i2l (pc := 23) ⟨ha1_a, ha1_b⟩ (zdal_p dlD_M_grows_137 (i := 11) rfl) ?_
          refine zr_ldc2 (pc := 24) (n := (-999)) (by decide) k_M_527 (zdal_p dlD_M_grows_137 (i := 12) rfl) ?_
          refine zr_ldc2 (pc := 27) (n := 999) (by decide) k_M_529 (zdal_p dlD_M_grows_137 (i := 13) rfl) ?_
          refine zr_callS hf.x (pc := 30) [.long (Int64.ofInt a1_), .long (Int64.ofInt ((-999))), .long (Int64.ofInt 999)] [] l_M_131 (c_M_isIn l Mz (hf.w hW) a1_ (by (exact zo_282 ha1_a)) (by (exact zo_283 ha1_b)) ((-999)) (by decide) (by decide) 999 (by decide) (by decide)) rfl rfl (by decide) (Nat.le_of_ble_eq_true rfl) (zdal_p dlD_M_grows_137 (i := 14) rfl) ?_
          rintro _ N5_ ⟨v6_, rfl, ⟨hv6_a, hv6_b⟩, hsN5_, hp0_N5_⟩
          obtain rfl := hsN5_.eq.symm
          replace hp0_N5_ : ((v6_ = 1 ∧ ((-999)) ≤ a1_ ∧ a1_ ≤ 999) ∨ (v6_ = 0 ∧ (a1_ < ((-999)) ∨ 999 < a1_))) := hp0_N5_
          rcases hp0_N5_ with ⟨rfl, ha30_0_hp0_N5_, ha30_1_hp0_N5_⟩ | ⟨rfl, ha30_0_hp0_N5_⟩
          · skip
            show zW l m_M_grows (zn Mz + 0, zw Mz + 0) Mz 33 [some (.ref 81), some (.int (Int32.ofInt a0_)), some (.int (Int32.ofInt a1_)), some (.int (Int32.ofInt a2_)), none] [.int (Int32.ofInt 1)] _
            refine zr_if_ne (pc := 33) (tgt := 40) ⟨(by decide), (by decide)⟩ (by decide) (zdal_p dlD_M_grows_137 (i := 15) rfl) (fun hc_33 => ?_) (fun hc_33 => ?_)
            · skip
              refine zw_iconst (pc := 40) (v := Int32.ofInt 0) (by decide) (zdal_p dlD_M_grows_137 (i := 18) rfl) ?_
              refine zw_istore (pc := 41) (i := 4) (L2 := [some (.ref 81), some (.int (Int32.ofInt a0_)), some (.int (Int32.ofInt a1_)), some (.int (Int32.ofInt a2_)), some (.int (Int32.ofInt 0))]) (by decide) rfl (zdal_p dlD_M_grows_137 (i := 19) rfl) ?_
              have lp_43 : ∀ (n : Nat) (u7_ : Int) (hu7_a : -2147483648 ≤ u7_) (hu7_b : u7_ < 2147483648) (N8_ : zMem) (hs9_ : zFr [] [105] Mz N8_) (i10_ : 0 ≤ u7_), (ze Mz 81 26 - u7_).toNat < n → zW l m_M_grows (zn Mz + 0, zw Mz + 0) N8_ 43 [some (.ref 81), some (.int (Int32.ofInt a0_)), some (.int (Int32.ofInt a1_)), some (.int (Int32.ofInt a2_)), some (.int (Int32.ofInt u7_))] [] (zpJ [60] [98, 105, 111] Mz (fun v N => 0 ≤ ze N 81 60 ∧ ze N 81 60 ≤ 12)) := by
                intro n
                induction n with
                | zero =>
                  intro u7_ hu7_a hu7_b N8_ hs9_ i10_ h0
                  exact absurd h0 (Nat.not_lt_zero _)
                | succ n ih_43 =>
                  intro u7_ hu7_a hu7_b N8_ hs9_ i10_ hlt_43
                  have hf_N8_ : zFr [60] [98, 105, 111] Mz N8_ := hf.tr hs9_ (by decide) (by decide)
                  have e60_N8_ : ze N8_ 81 60 = ze Mz 81 60 := hs9_.e (by decide)
                  have c17_ : zGD N8_ := zGD.fr hs9_ dv5 (by decide) (by decide)
                  refine zw_iload (pc := 43) (i := 4) (x := Int32.ofInt u7_) rfl (zdal_p dlD_M_grows_137 (i := 20) rfl) ?_
                  refine zw_aload_n (pc := 45) (n := 0) (x := 81) rfl (zdal_p dlD_M_grows_137 (i := 21) rfl) ?_
                  refine zr_getI0 hf_N8_ hW (pc := 46) (by decide) f_M_235 rfl (zdal_p dlD_M_grows_137 (i := 22) rfl) ?_
                  refine zr_icmp_ge (pc := 49) (tgt := 88) ⟨hu7_a, hu7_b⟩ ⟨(ze_r Mz 81 26).1, (ze_r Mz 81 26).2⟩ (by decide) (zdal_p dlD_M_grows_137 (i := 23) rfl) (fun hc_49 => ?_) (fun hc_49 => ?_)
                  · skip
                    refine zw_aload_n (pc := 88) (n := 0) (x := 81) rfl (zdal_p dlD_M_grows_138 (i := 21) rfl) ?_
                    refine zw_aload_n (pc := 89) (n := 0) (x := 81) rfl (zdal_p dlD_M_grows_138 (i := 22) rfl) ?_
                    refine zr_getF (r := 105) (hf_N8_.w hW) (pc := 90) f_M_87 rfl (zh_105 (hf_N8_.w hW)).1 (zdal_p dlD_M_grows_138 (i := 23) rfl) ?_
                    refine zw_iconst (pc := 93) (v := Int32.ofInt 0) (by decide) (zdal_p dlD_M_grows_139 (i := 0) rfl) ?_
                    refine zr_callV (hf_N8_.w hW) hf_N8_.x (pc := 94) [.ref 105, .int (Int32.ofInt 0)] [] l_M_271 (c_M_isFit_105 l N8_ (hf_N8_.w hW) 0 (by decide) (by decide) c17_ (show 0 ≤ 0 by first | with_reducible assumption | (decide) | assumption) (show 0 ≤ 0 by first | with_reducible assumption | (decide) | assumption)) rfl rfl rfl (by decide) (Nat.le_of_ble_eq_true rfl) (zdal_p dlD_M_grows_139 (i := 1) rfl) ?_
                    rintro _ N18_ ⟨v19_, rfl, ⟨hv19_a, hv19_b⟩, hsN18_, hp0_N18_⟩
                    obtain rfl := hsN18_.eq.symm
                    replace hp0_N18_ : (v19_ = 0 ∨ v19_ = 1) := hp0_N18_
                    show zW l m_M_grows (zn Mz + 0, zw Mz + 0) N8_ 97 [some (.ref 81), some (.int (Int32.ofInt a0_)), some (.int (Int32.ofInt a1_)), some (.int (Int32.ofInt a2_)), some (.int (Int32.ofInt u7_))] [.int (Int32.ofInt v19_)] _
                    refine zr_if_ne (pc := 97) (tgt := 104) ⟨hv19_a, hv19_b⟩ (by decide) (zdal_p dlD_M_grows_139 (i := 2) rfl) (fun hc_97 => ?_) (fun hc_97 => ?_)
                    · skip
                      refine zw_aload_n (pc := 104) (n := 0) (x := 81) rfl (zdal_p dlD_M_grows_139 (i := 5) rfl) ?_
                      refine zr_callV (hf_N8_.w hW) hf_N8_.x (pc := 105) [] [] l_M_481 (c_M_act l N8_ (hf_N8_.w hW) (show 0 ≤ ze N8_ 81 60 by first | with_reducible assumption | (exact zo_720 e60_N8_ p1_) | assumption) (show ze N8_ 81 60 ≤ 12 by first | with_reducible assumption | (exact zo_829 e60_N8_ p2_) | assumption)) rfl rfl rfl (by decide) (Nat.le_of_ble_eq_true rfl) (zdal_p dlD_M_grows_139 (i := 6) rfl) ?_
                      rintro _ N20_ ⟨rfl, hsN20_, ⟨hp0_N20_, hp1_N20_⟩⟩
                      have hf_N20_ : zFr [60] [98, 105, 111] Mz N20_ := hf_N8_.tr hsN20_ (by decide) (by decide)
                      show zW l m_M_grows (zn Mz + 0, zw Mz + 0) N20_ 108 [some (.ref 81), some (.int (Int32.ofInt a0_)), some (.int (Int32.ofInt a1_)), some (.int (Int32.ofInt a2_)), some (.int (Int32.ofInt u7_))] [] _
                      refine zw_iconst (pc := 108) (v := Int32.ofInt 0) (by decide) (zdal_p dlD_M_grows_139 (i := 7) rfl) ?_
                      refine zw_istore (pc := 109) (i := 4) (L2 := [some (.ref 81), some (.int (Int32.ofInt a0_)), some (.int (Int32.ofInt a1_)), some (.int (Int32.ofInt a2_)), some (.int (Int32.ofInt 0))]) (by decide) rfl (zdal_p dlD_M_grows_139 (i := 8) rfl) ?_
                      have lp_111 : ∀ (n : Nat) (u29_ : Int) (hu29_a : -2147483648 ≤ u29_) (hu29_b : u29_ < 2147483648) (N30_ : zMem) (hs31_ : zFr [] [98] N20_ N30_) (i32_ : 0 ≤ u29_), (ze Mz 81 26 - u29_).toNat < n → zW l m_M_grows (zn Mz + 0, zw Mz + 0) N30_ 111 [some (.ref 81), some (.int (Int32.ofInt a0_)), some (.int (Int32.ofInt a1_)), some (.int (Int32.ofInt a2_)), some (.int (Int32.ofInt u29_))] [] (zpJ [60] [98, 105, 111] Mz (fun v N => 0 ≤ ze N 81 60 ∧ ze N 81 60 ≤ 12)) := by
                        intro n
                        induction n with
                        | zero =>
                          intro u29_ hu29_a hu29_b N30_ hs31_ i32_ h0
                          exact absurd h0 (Nat.not_lt_zero _)
                        | succ n ih_111 =>
                          intro u29_ hu29_a hu29_b N30_ hs31_ i32_ hlt_111
                          have hf_N30_ : zFr [60] [98, 105, 111] Mz N30_ := hf_N20_.tr hs31_ (by decide) (by decide)
                          have e60_N30_ : ze N30_ 81 60 = ze N20_ 81 60 := hs31_.e (by decide)
                          refine zw_iload (pc := 111) (i := 4) (x := Int32.ofInt u29_) rfl (zdal_p dlD_M_grows_139 (i := 9) rfl) ?_
                          refine zw_aload_n (pc := 113) (n := 0) (x := 81) rfl (zdal_p dlD_M_grows_139 (i := 10) rfl) ?_
                          refine zr_getI0 hf_N30_ hW (pc := 114) (by decide) f_M_235 rfl (zdal_p dlD_M_grows_139 (i := 11) rfl) ?_
                          refine zr_icmp_ge (pc := 117) (tgt := 140) ⟨hu29_a, hu29_b⟩ ⟨(ze_r Mz 81 26).1, (ze_r Mz 81 26).2⟩ (by decide) (zdal_p dlD_M_grows_139 (i := 12) rfl) (fun hc_117 => ?_) (fun hc_117 => ?_)
                          · skip
                            refine zw_aload_n (pc := 140) (n := 0) (x := 81) rfl (zdal_p dlD_M_grows_139 (i := 23) rfl) ?_
                            refine zr_getF (r := 98) (hf_N30_.w hW) (pc := 141) f_M_66 rfl (zh_98 (hf_N30_.w hW)).1 (zdal_p dlD_M_grows_140 (i := 0) rfl) ?_
                            refine zw_iload_n (pc := 144) (n := 3) (x := Int32.ofInt a2_) rfl (zdal_p dlD_M_grows_140 (i := 1) rfl) ?_
                            refine zr_laldn (pc := 145) (zh_98 (hf_N30_.w hW)).2 (by decide) (by (exact ha2_0_hp0_N1_)) (by (exact zo_837 gb.2.2.2.2.2 ha2_1_hp0_N1_ ha2_b)) (zdal_p dlD_M_grows_140 (i := 2) rfl) (fun v40_ hv40_ hv40_a hv40_b => ?_)
                            exact zr_lret (pc := 146) rfl ⟨by (exact hv40_a), by (exact hv40_b)⟩ hf_N30_ ⟨(show 0 ≤ ze N30_ 81 60 by first | with_reducible assumption | (exact zo_568 e60_N30_ hp0_N20_) | assumption), (show ze N30_ 81 60 ≤ 12 by first | with_reducible assumption | (exact zo_829 e60_N30_ hp1_N20_) | assumption)⟩ (zdal_p dlD_M_grows_140 (i := 3) rfl)
                          · skip
                            refine zw_aload_n (pc := 120) (n := 0) (x := 81) rfl (zdal_p dlD_M_grows_139 (i := 13) rfl) ?_
                            refine zr_getF (r := 98) (hf_N30_.w hW) (pc := 121) f_M_66 rfl (zh_98 (hf_N30_.w hW)).1 (zdal_p dlD_M_grows_139 (i := 14) rfl) ?_
                            refine zw_iload (pc := 124) (i := 4) (x := Int32.ofInt u29_) rfl (zdal_p dlD_M_grows_139 (i := 15) rfl) ?_
                            refine zw_aload_n (pc := 126) (n := 0) (x := 81) rfl (zdal_p dlD_M_grows_139 (i := 16) rfl) ?_
                            refine zr_getF (r := 105) (hf_N30_.w hW) (pc := 127) f_M_87 rfl (zh_105 (hf_N30_.w hW)).1 (zdal_p dlD_M_grows_139 (i := 17) rfl) ?_
                            refine zw_iload (pc := 130) (i := 4) (x := Int32.ofInt u29_) rfl (zdal_p dlD_M_grows_139 (i := 18) rfl) ?_
                            refine zr_laldn (pc := 132) (zh_105 (hf_N30_.w hW)).2 (by decide) (by (exact i32_)) (by (exact zo_831 gb.2.2.2.2.2 hc_117)) (zdal_p dlD_M_grows_139 (i := 19) rfl) (fun v41_ hv41_ hv41_a hv41_b => ?_)
                            refine zr_last (pc := 133) (zh_98 (hf_N30_.w hW)).2 (by decide) (by decide) (by (exact i32_)) (by (exact zo_831 gb.2.2.2.2.2 hc_117)) (zdal_p dlD_M_grows_139 (i := 20) rfl) (fun N42_ hN42_ hsN42_ => ?_)
                            have hf_N42_ : zFr [60] [98, 105, 111] Mz N42_ := hf_N30_.tr hsN42_ (by decide) (by decide)
                            have hb0_N42_ : zFr [] [98] N20_ N42_ := hs31_.tr hsN42_ (by decide) (by decide)
                            refine zr_iinc (pc := 134) (i := 4) (a := u29_) (n := 1) (L2 := [some (.ref 81), some (.int (Int32.ofInt a0_)), some (.int (Int32.ofInt a1_)), some (.int (Int32.ofInt a2_)), some (.int (Int32.ofInt (u29_ + 1)))]) rfl (by decide) rfl (zdal_p dlD_M_grows_139 (i := 21) rfl) ?_
                            refine zw_goto (pc := 137) (tgt := 111) (by decide) (zdal_p dlD_M_grows_139 (i := 22) rfl) ?_
                            exact ih_111 (u29_ + 1) (by (exact zo_74 i32_)) (by (exact zo_832 gb.2.2.2.2.2 hc_117)) N42_ hb0_N42_ (show 0 ≤ (u29_ + 1) by first | with_reducible assumption | (exact zo_76 i32_) | assumption) (by (exact zo_147 hc_117 hlt_111))
                      exact lp_111 _ 0 (by decide) (by decide) N20_ zFr.rf (show 0 ≤ (0 : Int) by first | with_reducible assumption | (decide) | assumption) (Nat.lt_succ_self _)
                    · skip
                      refine zr_ldc2 (pc := 100) (n := (-9223372036854775808)) (by decide) k_M_470 (zdal_p dlD_M_grows_139 (i := 3) rfl) ?_
                      exact zr_lret (pc := 103) rfl ⟨by (decide), by (decide)⟩ hf_N8_ ⟨(show 0 ≤ ze N8_ 81 60 by first | with_reducible assumption | (exact zo_720 e60_N8_ p1_) | assumption), (show ze N8_ 81 60 ≤ 12 by first | with_reducible assumption | (exact zo_829 e60_N8_ p2_) | assumption)⟩ (zdal_p dlD_M_grows_139 (i := 4) rfl)
                  · skip
                    refine zw_aload_n (pc := 52) (n := 0) (x := 81) rfl (zdal_p dlD_M_grows_138 (i := 0) rfl) ?_
                    refine zr_getF (r := 105) (hf_N8_.w hW) (pc := 53) f_M_87 rfl (zh_105 (hf_N8_.w hW)).1 (zdal_p dlD_M_grows_138 (i := 1) rfl) ?_
                    refine zw_iload (pc := 56) (i := 4) (x := Int32.ofInt u7_) rfl (zdal_p dlD_M_grows_138 (i := 2) rfl) ?_
                    refine zw_iload_n (pc := 58) (n := 1) (x := Int32.ofInt a0_) rfl (zdal_p dlD_M_grows_138 (i := 3) rfl) ?_
                    refine zr_i2l (pc := 59) ⟨ha0_a, ha0_b⟩ (zdal_p dlD_M_grows_138 (i := 4) rfl) ?_
                    refine zw_aload_n (pc := 60) (n := 0) (x := 81) rfl (zdal_p dlD_M_grows_138 (i := 5) rfl) ?_
                    refine zr_getF (r := 98) (hf_N8_.w hW) (pc := 61) f_M_66 rfl (zh_98 (hf_N8_.w hW)).1 (zdal_p dlD_M_grows_138 (i := 6) rfl) ?_
                    refine zw_iload (pc := 64) (i := 4) (x := Int32.ofInt u7_) rfl (zdal_p dlD_M_grows_138 (i := 7) rfl) ?_
                    refine zr_laldn (pc := 66) (zh_98 (hf_N8_.w hW)).2 (by decide) (by (exact i10_)) (by (exact zo_831 gb.2.2.2.2.2 hc_49)) (zdal_p dlD_M_grows_138 (i := 8) rfl) (fun v50_ hv50_ hv50_a hv50_b => ?_)
                    refine zr_lmul (pc := 67) (zdal_p dlD_M_grows_138 (i := 9) rfl) ?_
                    refine zw_iload (pc := 68) (i := 4) (x := Int32.ofInt u7_) rfl (zdal_p dlD_M_grows_138 (i := 10) rfl) ?_
                    refine zw_iload_n (pc := 70) (n := 3) (x := Int32.ofInt a2_) rfl (zdal_p dlD_M_grows_138 (i := 11) rfl) ?_
                    refine zr_icmp_ne (pc := 71) (tgt := 78) ⟨hu7_a, hu7_b⟩ ⟨ha2_a, ha2_b⟩ (by decide) (zdal_p dlD_M_grows_138 (i := 12) rfl) (fun hc_71 => ?_) (fun hc_71 => ?_)
                    · skip
                      refine zw_iconst (pc := 78) (v := Int32.ofInt 0) (by decide) (zdal_p dlD_M_grows_138 (i := 15) rfl) ?_
                      refine zr_i2l (pc := 79) ⟨(by decide), (by decide)⟩ (zdal_p dlD_M_grows_138 (i := 16) rfl) ?_
                      refine zr_ladd (pc := 80) (zdal_p dlD_M_grows_138 (i := 17) rfl) ?_
                      refine zr_last (pc := 81) (zh_105 (hf_N8_.w hW)).2 (by decide) (by decide) (by (exact i10_)) (by (exact zo_831 gb.2.2.2.2.2 hc_49)) (zdal_p dlD_M_grows_138 (i := 18) rfl) (fun N51_ hN51_ hsN51_ => ?_)
                      have hf_N51_ : zFr [60] [98, 105, 111] Mz N51_ := hf_N8_.tr hsN51_ (by decide) (by decide)
                      have hb0_N51_ : zFr [] [105] Mz N51_ := hs9_.tr hsN51_ (by decide) (by decide)
                      refine zr_iinc (pc := 82) (i := 4) (a := u7_) (n := 1) (L2 := [some (.ref 81), some (.int (Int32.ofInt a0_)), some (.int (Int32.ofInt a1_)), some (.int (Int32.ofInt a2_)), some (.int (Int32.ofInt (u7_ + 1)))]) rfl (by decide) rfl (zdal_p dlD_M_grows_138 (i := 19) rfl) ?_
                      refine zw_goto (pc := 85) (tgt := 43) (by decide) (zdal_p dlD_M_grows_138 (i := 20) rfl) ?_
                      exact ih_43 (u7_ + 1) (by (exact zo_74 i10_)) (by (exact zo_832 gb.2.2.2.2.2 hc_49)) N51_ hb0_N51_ (show 0 ≤ (u7_ + 1) by first | with_reducible assumption | (exact zo_76 i10_) | assumption) (by (exact zo_147 hc_49 hlt_43))
                    · skip
                      refine zw_iload_n (pc := 74) (n := 2) (x := Int32.ofInt a1_) rfl (zdal_p dlD_M_grows_138 (i := 13) rfl) ?_
                      refine zw_goto (pc := 75) (tgt := 79) (by decide) (zdal_p dlD_M_grows_138 (i := 14) rfl) ?_
                      refine zr_i2l (pc := 79) ⟨ha1_a, ha1_b⟩ (zdal_p dlD_M_grows_138 (i := 16) rfl) ?_
                      refine zr_ladd (pc := 80) (zdal_p dlD_M_grows_138 (i := 17) rfl) ?_
                      refine zr_last (pc := 81) (zh_105 (hf_N8_.w hW)).2 (by decide) (by decide) (by (exact i10_)) (by (exact zo_831 gb.2.2.2.2.2 hc_49)) (zdal_p dlD_M_grows_138 (i := 18) rfl) (fun N59_ hN59_ hsN59_ => ?_)
                      have hf_N59_ : zFr [60] [98, 105, 111] Mz N59_ := hf_N8_.tr hsN59_ (by decide) (by decide)
                      have hb0_N59_ : zFr [] [105] Mz N59_ := hs9_.tr hsN59_ (by decide) (by decide)
                      refine zr_iinc (pc := 82) (i := 4) (a := u7_) (n := 1) (L2 := [some (.ref 81), some (.int (Int32.ofInt a0_)), some (.int (Int32.ofInt a1_)), some (.int (Int32.ofInt a2_)), some (.int (Int32.ofInt (u7_ + 1)))]) rfl (by decide) rfl (zdal_p dlD_M_grows_138 (i := 19) rfl) ?_
                      refine zw_goto (pc := 85) (tgt := 43) (by decide) (zdal_p dlD_M_grows_138 (i := 20) rfl) ?_
                      exact ih_43 (u7_ + 1) (by (exact zo_74 i10_)) (by (exact zo_832 gb.2.2.2.2.2 hc_49)) N59_ hb0_N59_ (show 0 ≤ (u7_ + 1) by first | with_reducible assumption | (exact zo_76 i10_) | assumption) (by (exact zo_147 hc_49 hlt_43))
              exact lp_43 _ 0 (by decide) (by decide) Mz zFr.rf (show 0 ≤ (0 : Int) by first | with_reducible assumption | (decide) | assumption) (Nat.lt_succ_self _)
            · skip
              exact absurd hc_33 (by decide)
          · skip
            show zW l m_M_grows (zn Mz + 0, zw Mz + 0) Mz 33 [some (.ref 81), some (.int (Int32.ofInt a0_)), some (.int (Int32.ofInt a1_)), some (.int (Int32.ofInt a2_)), none] [.int (Int32.ofInt 0)] _
            refine zr_if_ne (pc := 33) (tgt := 40) ⟨(by decide), (by decide)⟩ (by decide) (zdal_p dlD_M_grows_137 (i := 15) rfl) (fun hc_33 => ?_) (fun hc_33 => ?_)
            · skip
              exact absurd hc_33 (by decide)
            · skip
              refine zr_ldc2 (pc := 36) (n := (-9223372036854775808)) (by decide) k_M_470 (zdal_p dlD_M_grows_137 (i := 16) rfl) ?_
              exact zr_lret (pc := 39) rfl ⟨by (decide), by (decide)⟩ hf ⟨(show 0 ≤ ze Mz 81 60 by first | with_reducible assumption | assumption | omega), (show ze Mz 81 60 ≤ 12 by first | with_reducible assumption | assumption | omega)⟩ (zdal_p dlD_M_grows_137 (i := 17) rfl)
      · skip
        show zW l m_M_grows (zn Mz + 0, zw Mz + 0) Mz 19 [some (.ref 81), some (.int (Int32.ofInt a0_)), some (.int (Int32.ofInt a1_)), some (.int (Int32.ofInt a2_)), none] [.int (Int32.ofInt 0)] _
        refine zr_if_eq (pc := 19) (tgt := 36) ⟨(by decide), (by decide)⟩ (by decide) (zdal_p dlD_M_grows_137 (i := 9) rfl) (fun hc_19 => ?_) (fun hc_19 => ?_)
        · skip
          refine zr_ldc2 (pc := 36) (n := (-9223372036854775808)) (by decide) k_M_470 (zdal_p dlD_M_grows_137 (i := 16) rfl) ?_
          exact zr_lret (pc := 39) rfl ⟨by (decide), by (decide)⟩ hf ⟨(show 0 ≤ ze Mz 81 60 by first | with_reducible assumption | assumption | omega), (show ze Mz 81 60 ≤ 12 by first | with_reducible assumption | assumption | omega)⟩ (zdal_p dlD_M_grows_137 (i := 17) rfl)
        · skip
          exact absurd hc_19 (by decide)
  · skip
    show zW l m_M_grows (zn Mz + 0, zw Mz + 0) Mz 5 [some (.ref 81), some (.int (Int32.ofInt a0_)), some (.int (Int32.ofInt a1_)), some (.int (Int32.ofInt a2_)), none] [.int (Int32.ofInt 0)] _
    refine zr_if_eq (pc := 5) (tgt := 36) ⟨(by decide), (by decide)⟩ (by decide) (zdal_p dlD_M_grows_137 (i := 3) rfl) (fun hc_5 => ?_) (fun hc_5 => ?_)
    · skip
      refine zr_ldc2 (pc := 36) (n := (-9223372036854775808)) (by decide) k_M_470 (zdal_p dlD_M_grows_137 (i := 16) rfl) ?_
      exact zr_lret (pc := 39) rfl ⟨by (decide), by (decide)⟩ hf ⟨(show 0 ≤ ze Mz 81 60 by first | with_reducible assumption | assumption | omega), (show ze Mz 81 60 ≤ 12 by first | with_reducible assumption | assumption | omega)⟩ (zdal_p dlD_M_grows_137 (i := 17) rfl)
    · skip
      exact absurd hc_5 (by decide)
set_option maxHeartbeats 4000000 in
theorem c_M_isBlank (l : Launch) (Mz : zMem) (hW : zMt Mz) (a0_ : Int) (ha0_a : -2147483648 ≤ a0_) (ha0_b : a0_ < 2147483648) (p0_ : 0 ≤ ze Mz 81 64) (p1_ : a0_ ≤ 700) : zC l m_M_isBlank 0 0 [.ref 81, .int (Int32.ofInt a0_)] Mz (zpI [] [] Mz (fun v N => (((v = 1 ∧ ze Mz 81 64 < a0_) ∨ (v = 0))))) := by
  refine zC_of (L0 := [some (.ref 81), some (.int (Int32.ofInt a0_))]) md_M_isBlank (Nat.le_of_ble_eq_true rfl) rfl ?_ zQ0
  have hf : zFr [] [] Mz Mz := zFr.rf
  have r_64 := ze_r Mz 81 64
  refine zw_aload_n (pc := 0) (n := 0) (x := 81) rfl (zdal_p dlD_M_isBlank_130 (i := 0) rfl) ?_
  refine zr_getI0 hf hW (pc := 1) (by decide) f_M_504 rfl (zdal_p dlD_M_isBlank_130 (i := 1) rfl) ?_
  refine zw_iload_n (pc := 4) (n := 1) (x := Int32.ofInt a0_) rfl (zdal_p dlD_M_isBlank_130 (i := 2) rfl) ?_
  refine zr_icmp_ge (pc := 5) (tgt := 40) ⟨(ze_r Mz 81 64).1, (ze_r Mz 81 64).2⟩ ⟨ha0_a, ha0_b⟩ (by decide) (zdal_p dlD_M_isBlank_130 (i := 3) rfl) (fun hc_5 => ?_) (fun hc_5 => ?_)
  · skip
    refine zw_iconst (pc := 40) (v := Int32.ofInt 0) (by decide) (zdal_p dlD_M_isBlank_130 (i := 20) rfl) ?_
    exact zr_iret (pc := 41) (ty := .boolean) rfl (z_narB (by (decide))) ⟨by (decide), by (decide)⟩ hf (show ((0 = 1 ∧ ze Mz 81 64 < a0_) ∨ (0 = 0)) from Or.inr ((show 0 = 0 by first | with_reducible assumption | (decide) | assumption))) (zdal_p dlD_M_isBlank_130 (i := 21) rfl)
  · skip
    refine zw_aload_n (pc := 8) (n := 0) (x := 81) rfl (zdal_p dlD_M_isBlank_130 (i := 4) rfl) ?_
    refine zr_getF (r := 82) (hf.w hW) (pc := 9) f_M_7 rfl (zh_82 (hf.w hW)).1 (zdal_p dlD_M_isBlank_130 (i := 5) rfl) ?_
    refine zw_aload_n (pc := 12) (n := 0) (x := 81) rfl (zdal_p dlD_M_isBlank_130 (i := 6) rfl) ?_
    refine zr_getI0 hf hW (pc := 13) (by decide) f_M_504 rfl (zdal_p dlD_M_isBlank_130 (i := 7) rfl) ?_
    refine zr_ialdn (pc := 16) (zh_82 (hf.w hW)).2 (by decide) (by (exact p0_)) (by (exact zo_838 hc_5 p1_ r_64.2)) (zdal_p dlD_M_isBlank_130 (i := 8) rfl) (fun v1_ hv1_ hv1_a hv1_b => ?_)
    refine zw_bipush (pc := 17) (v := Int32.ofInt 32) (by decide) (zdal_p dlD_M_isBlank_130 (i := 9) rfl) ?_
    refine zr_icmp_eq (pc := 19) (tgt := 36) ⟨hv1_a, hv1_b⟩ ⟨(by decide), (by decide)⟩ (by decide) (zdal_p dlD_M_isBlank_130 (i := 10) rfl) (fun hc_19 => ?_) (fun hc_19 => ?_)
    · skip
      refine zw_iconst (pc := 36) (v := Int32.ofInt 1) (by decide) (zdal_p dlD_M_isBlank_130 (i := 18) rfl) ?_
      refine zw_goto (pc := 37) (tgt := 41) (by decide) (zdal_p dlD_M_isBlank_130 (i := 19) rfl) ?_
      exact zr_iret (pc := 41) (ty := .boolean) rfl (z_narB (by (decide))) ⟨by (decide), by (decide)⟩ hf (show ((1 = 1 ∧ ze Mz 81 64 < a0_) ∨ (1 = 0)) from Or.inl (⟨(show 1 = 1 by first | with_reducible assumption | (decide) | assumption), (show ze Mz 81 64 < a0_ by first | with_reducible assumption | assumption | omega)⟩)) (zdal_p dlD_M_isBlank_130 (i := 21) rfl)
    · skip
      refine zw_aload_n (pc := 22) (n := 0) (x := 81) rfl (zdal_p dlD_M_isBlank_130 (i := 11) rfl) ?_
      refine zr_getF (r := 82) (hf.w hW) (pc := 23) f_M_7 rfl (zh_82 (hf.w hW)).1 (zdal_p dlD_M_isBlank_130 (i := 12) rfl) ?_
      refine zw_aload_n (pc := 26) (n := 0) (x := 81) rfl (zdal_p dlD_M_isBlank_130 (i := 13) rfl) ?_
      refine zr_getI0 hf hW (pc := 27) (by decide) f_M_504 rfl (zdal_p dlD_M_isBlank_130 (i := 14) rfl) ?_
      refine zr_ialdn (pc := 30) (zh_82 (hf.w hW)).2 (by decide) (by (exact p0_)) (by (exact zo_838 hc_5 p1_ r_64.2)) (zdal_p dlD_M_isBlank_130 (i := 15) rfl) (fun v2_ hv2_ hv2_a hv2_b => ?_)
      refine zw_bipush (pc := 31) (v := Int32.ofInt 10) (by decide) (zdal_p dlD_M_isBlank_130 (i := 16) rfl) ?_
      refine zr_icmp_ne (pc := 33) (tgt := 40) ⟨hv2_a, hv2_b⟩ ⟨(by decide), (by decide)⟩ (by decide) (zdal_p dlD_M_isBlank_130 (i := 17) rfl) (fun hc_33 => ?_) (fun hc_33 => ?_)
      · skip
        refine zw_iconst (pc := 40) (v := Int32.ofInt 0) (by decide) (zdal_p dlD_M_isBlank_130 (i := 20) rfl) ?_
        exact zr_iret (pc := 41) (ty := .boolean) rfl (z_narB (by (decide))) ⟨by (decide), by (decide)⟩ hf (show ((0 = 1 ∧ ze Mz 81 64 < a0_) ∨ (0 = 0)) from Or.inr ((show 0 = 0 by first | with_reducible assumption | (decide) | assumption))) (zdal_p dlD_M_isBlank_130 (i := 21) rfl)
      · skip
        refine zw_iconst (pc := 36) (v := Int32.ofInt 1) (by decide) (zdal_p dlD_M_isBlank_130 (i := 18) rfl) ?_
        refine zw_goto (pc := 37) (tgt := 41) (by decide) (zdal_p dlD_M_isBlank_130 (i := 19) rfl) ?_
        exact zr_iret (pc := 41) (ty := .boolean) rfl (z_narB (by (decide))) ⟨by (decide), by (decide)⟩ hf (show ((1 = 1 ∧ ze Mz 81 64 < a0_) ∨ (1 = 0)) from Or.inl (⟨(show 1 = 1 by first | with_reducible assumption | (decide) | assumption), (show ze Mz 81 64 < a0_ by first | with_reducible assumption | assumption | omega)⟩)) (zdal_p dlD_M_isBlank_130 (i := 21) rfl)
set_option maxHeartbeats 4000000 in
theorem c_M_readsNumber (l : Launch) (Mz : zMem) (hW : zMt Mz) (a0_ : Int) (ha0_a : -2147483648 ≤ a0_) (ha0_b : a0_ < 2147483648) (T : zGT) (hO : gOK T) (p0_ : zGB T Mz) (p1_ : 0 ≤ ze Mz 81 64) (p2_ : ze Mz 81 64 ≤ a0_) (p3_ : a0_ ≤ 700) (p4_ : 0 ≤ ze Mz 81 65) (p5_ : ze Mz 81 65 ≤ ze Mz 81 26) : zC l m_M_readsNumber 0 0 [.ref 81, .int (Int32.ofInt a0_)] Mz (zpI [64, 65] [99] Mz (fun v N => 0 ≤ ze N 81 64 ∧ ze N 81 64 ≤ a0_ ∧ 0 ≤ ze N 81 65 ∧ ze N 81 65 ≤ ze Mz 81 26 ∧ (((v = 1 ∧ ze Mz 81 64 < ze N 81 64) ∨ (v = 0))))) := by
  refine zC_of (L0 := [some (.ref 81), some (.int (Int32.ofInt a0_)), none, none, none, none]) md_M_readsNumber (Nat.le_of_ble_eq_true rfl) rfl ?_ zQ0
  have hf : zFr [64, 65] [99] Mz Mz := zFr.rf
  have r_26 := ze_r Mz 81 26
  have r_64 := ze_r Mz 81 64
  have r_65 := ze_r Mz 81 65
  have hG := hO.1
  have g24 := hG.2.1
  have g1 := hG.1
  have dv0 : zTab T Mz := p0_.1
  have dv1 : zB 85 144 0 5 Mz := p0_.2.1
  have dv2 : zJX T Mz := p0_.2.2.1
  have dv3 : zFirs T Mz := p0_.2.2.2.1
  have dv4 : zSSm T Mz := p0_.2.2.2.2.1
  have dv5 : zGD Mz := zGB.d hO p0_
  have gb := dv5.1
  have gn := dv0.1
  have j_42 : ∀ (u1_ : Int) (hu1_a : -2147483648 ≤ u1_) (hu1_b : u1_ < 2147483648) (hu1_z : u1_ = 0 ∨ u1_ = 1) (N2_ : zMem) (hs3_ : zFr [64] [] Mz N2_) (i4_ : ze Mz 81 64 ≤ ze N2_ 81 64) (i5_ : ze N2_ 81 64 ≤ a0_), zW l m_M_readsNumber (zn Mz + 0, zw Mz + 0) N2_ 42 [some (.ref 81), some (.int (Int32.ofInt a0_)), some (.int (Int32.ofInt u1_)), none, none, none] [] (zpI [64, 65] [99] Mz (fun v N => 0 ≤ ze N 81 64 ∧ ze N 81 64 ≤ a0_ ∧ 0 ≤ ze N 81 65 ∧ ze N 81 65 ≤ ze Mz 81 26 ∧ (((v = 1 ∧ ze Mz 81 64 < ze N 81 64) ∨ (v = 0))))) := by
    intro u1_ hu1_a hu1_b hu1_z N2_ hs3_ i4_ i5_
    have hf_N2_ : zFr [64, 65] [99] Mz N2_ := hf.tr hs3_ (by decide) (by decide)
    have e26_N2_ : ze N2_ 81 26 = ze Mz 81 26 := hs3_.e (by decide)
    have r64_N2_ := ze_r N2_ 81 64
    have e65_N2_ : ze N2_ 81 65 = ze Mz 81 65 := hs3_.e (by decide)
    have j_114 : ∀ (u13_ : Int) (hu13_a : -9223372036854775808 ≤ u13_) (hu13_b : u13_ < 9223372036854775808) (u14_ : Int) (hu14_a : -2147483648 ≤ u14_) (hu14_b : u14_ < 2147483648) (N15_ : zMem) (hs16_ : zFr [64] [] N2_ N15_) (i17_ : ze Mz 81 64 ≤ ze N15_ 81 64) (i18_ : ze N15_ 81 64 ≤ a0_) (i19_ : 0 ≤ u14_) (i20_ : u14_ ≤ 7) (i21_ : u14_ ≤ ze N15_ 81 64 - ze Mz 81 64), zW l m_M_readsNumber (zn Mz + 0, zw Mz + 0) N15_ 114 [some (.ref 81), some (.int (Int32.ofInt a0_)), some (.int (Int32.ofInt u1_)), some (.long (Int64.ofInt u13_)), none, some (.int (Int32.ofInt u14_))] [] (zpI [64, 65] [99] Mz (fun v N => 0 ≤ ze N 81 64 ∧ ze N 81 64 ≤ a0_ ∧ 0 ≤ ze N 81 65 ∧ ze N 81 65 ≤ ze Mz 81 26 ∧ (((v = 1 ∧ ze Mz 81 64 < ze N 81 64) ∨ (v = 0))))) := by
      intro u13_ hu13_a hu13_b u14_ hu14_a hu14_b N15_ hs16_ i17_ i18_ i19_ i20_ i21_
      have hf_N15_ : zFr [64, 65] [99] Mz N15_ := hf_N2_.tr hs16_ (by decide) (by decide)
      have e26_N15_ : ze N15_ 81 26 = ze N2_ 81 26 := hs16_.e (by decide)
      have r64_N15_ := ze_r N15_ 81 64
      have e65_N15_ : ze N15_ 81 65 = ze N2_ 81 65 := hs16_.e (by decide)
      refine zw_iload (pc := 114) (i := 5) (x := Int32.ofInt u14_) rfl (zdal_p dlD_M_readsNumber_133 (i := 14) rfl) ?_
      refine zr_if_eq (pc := 116) (tgt := 137) ⟨hu14_a, hu14_b⟩ (by decide) (zdal_p dlD_M_readsNumber_133 (i := 15) rfl) (fun hc_116 => ?_) (fun hc_116 => ?_)
      · skip
        refine zw_iconst (pc := 137) (v := Int32.ofInt 0) (by decide) (zdal_p dlD_M_readsNumber_134 (i := 0) rfl) ?_
        exact zr_iret (pc := 138) (ty := .boolean) rfl (z_narB (by (decide))) ⟨by (decide), by (decide)⟩ hf_N15_ ⟨(show 0 ≤ ze N15_ 81 64 by first | with_reducible assumption | (exact zo_839 i17_ p1_ r64_N15_.1) | assumption), (show ze N15_ 81 64 ≤ a0_ by first | with_reducible assumption | assumption | omega), (show 0 ≤ ze N15_ 81 65 by first | with_reducible assumption | (exact zo_2720 e65_N15_ e65_N2_ p4_) | assumption), (show ze N15_ 81 65 ≤ ze Mz 81 26 by first | with_reducible assumption | (exact zo_866 e65_N15_ e65_N2_ p5_) | assumption), (show ((0 = 1 ∧ ze Mz 81 64 < ze N15_ 81 64) ∨ (0 = 0)) from Or.inr ((show 0 = 0 by first | with_reducible assumption | (decide) | assumption)))⟩ (zdal_p dlD_M_readsNumber_134 (i := 1) rfl)
      · skip
        refine zw_iload (pc := 119) (i := 5) (x := Int32.ofInt u14_) rfl (zdal_p dlD_M_readsNumber_133 (i := 16) rfl) ?_
        refine zw_bipush (pc := 121) (v := Int32.ofInt 6) (by decide) (zdal_p dlD_M_readsNumber_133 (i := 17) rfl) ?_
        refine zr_icmp_gt (pc := 123) (tgt := 137) ⟨hu14_a, hu14_b⟩ ⟨(by decide), (by decide)⟩ (by decide) (zdal_p dlD_M_readsNumber_133 (i := 18) rfl) (fun hc_123 => ?_) (fun hc_123 => ?_)
        · skip
          refine zw_iconst (pc := 137) (v := Int32.ofInt 0) (by decide) (zdal_p dlD_M_readsNumber_134 (i := 0) rfl) ?_
          exact zr_iret (pc := 138) (ty := .boolean) rfl (z_narB (by (decide))) ⟨by (decide), by (decide)⟩ hf_N15_ ⟨(show 0 ≤ ze N15_ 81 64 by first | with_reducible assumption | (exact zo_839 i17_ p1_ r64_N15_.1) | assumption), (show ze N15_ 81 64 ≤ a0_ by first | with_reducible assumption | assumption | omega), (show 0 ≤ ze N15_ 81 65 by first | with_reducible assumption | (exact zo_2720 e65_N15_ e65_N2_ p4_) | assumption), (show ze N15_ 81 65 ≤ ze Mz 81 26 by first | with_reducible assumption | (exact zo_866 e65_N15_ e65_N2_ p5_) | assumption), (show ((0 = 1 ∧ ze Mz 81 64 < ze N15_ 81 64) ∨ (0 = 0)) from Or.inr ((show 0 = 0 by first | with_reducible assumption | (decide) | assumption)))⟩ (zdal_p dlD_M_readsNumber_134 (i := 1) rfl)
        · skip
          refine zw_aload_n (pc := 126) (n := 0) (x := 81) rfl (zdal_p dlD_M_readsNumber_133 (i := 19) rfl) ?_
          refine zr_getI (hf_N15_.w hW) (pc := 127) f_M_511 rfl (zdal_p dlD_M_readsNumber_133 (i := 20) rfl) ?_
          refine zw_aload_n (pc := 130) (n := 0) (x := 81) rfl (zdal_p dlD_M_readsNumber_133 (i := 21) rfl) ?_
          refine zr_getI0 hf_N15_ hW (pc := 131) (by decide) f_M_235 rfl (zdal_p dlD_M_readsNumber_133 (i := 22) rfl) ?_
          refine zr_icmp_ne (pc := 134) (tgt := 139) ⟨(ze_r N15_ 81 65).1, (ze_r N15_ 81 65).2⟩ ⟨(ze_r Mz 81 26).1, (ze_r Mz 81 26).2⟩ (by decide) (zdal_p dlD_M_readsNumber_133 (i := 23) rfl) (fun hc_134 => ?_) (fun hc_134 => ?_)
          · skip
            refine zw_aload_n (pc := 139) (n := 0) (x := 81) rfl (zdal_p dlD_M_readsNumber_134 (i := 2) rfl) ?_
            refine zr_getF (r := 99) (hf_N15_.w hW) (pc := 140) f_M_69 rfl (zh_99 (hf_N15_.w hW)).1 (zdal_p dlD_M_readsNumber_134 (i := 3) rfl) ?_
            refine zw_aload_n (pc := 143) (n := 0) (x := 81) rfl (zdal_p dlD_M_readsNumber_134 (i := 4) rfl) ?_
            refine zr_getI (hf_N15_.w hW) (pc := 144) f_M_511 rfl (zdal_p dlD_M_readsNumber_134 (i := 5) rfl) ?_
            refine zw_iload_n (pc := 147) (n := 2) (x := Int32.ofInt u1_) rfl (zdal_p dlD_M_readsNumber_134 (i := 6) rfl) ?_
            refine zr_if_eq (pc := 148) (tgt := 156) ⟨hu1_a, hu1_b⟩ (by decide) (zdal_p dlD_M_readsNumber_134 (i := 7) rfl) (fun hc_148 => ?_) (fun hc_148 => ?_)
            · skip
              refine zw_lload_n (pc := 156) (n := 3) (x := Int64.ofInt u13_) rfl (zdal_p dlD_M_readsNumber_134 (i := 11) rfl) ?_
              refine zr_last (pc := 157) (zh_99 (hf_N15_.w hW)).2 (by decide) (by decide) (by (exact zo_2720 e65_N15_ e65_N2_ p4_)) (by (exact zo_2721 e65_N15_ e65_N2_ gb.2.2.2.2.2 p5_ hc_134)) (zdal_p dlD_M_readsNumber_134 (i := 12) rfl) (fun N29_ hN29_ hsN29_ => ?_)
              have hf_N29_ : zFr [64, 65] [99] Mz N29_ := hf_N15_.tr hsN29_ (by decide) (by decide)
              have e26_N29_ : ze N29_ 81 26 = ze N15_ 81 26 := hsN29_.e (by decide)
              have e64_N29_ : ze N29_ 81 64 = ze N15_ 81 64 := hsN29_.e (by decide)
              have e65_N29_ : ze N29_ 81 65 = ze N15_ 81 65 := hsN29_.e (by decide)
              refine zw_aload_n (pc := 158) (n := 0) (x := 81) rfl (zdal_p dlD_M_readsNumber_134 (i := 13) rfl) ?_
              refine zw_dup (pc := 159) rfl (zdal_p dlD_M_readsNumber_134 (i := 14) rfl) ?_
              refine zr_getI (hf_N29_.w hW) (pc := 160) f_M_511 rfl (zdal_p dlD_M_readsNumber_134 (i := 15) rfl) ?_
              refine zw_iconst (pc := 163) (v := Int32.ofInt 1) (by decide) (zdal_p dlD_M_readsNumber_134 (i := 16) rfl) ?_
              refine zr_iadd (pc := 164) (zdal_p dlD_M_readsNumber_134 (i := 17) rfl) ?_
              refine zr_putI (hf_N29_.w hW) (pc := 165) f_M_511 rfl rfl ⟨by (exact zo_1337 e65_N15_ e65_N29_ e65_N2_ p4_), by omega⟩ rfl rfl (zdal_p dlD_M_readsNumber_134 (i := 18) rfl) (fun N37_ hsN37_ hvN37_ => ?_)
              have hf_N37_ : zFr [64, 65] [99] Mz N37_ := hf_N29_.tr hsN37_ (by decide) (by decide)
              have e64_N37_ : ze N37_ 81 64 = ze N29_ 81 64 := hsN37_.e (by decide)
              have r65_N37_ := ze_r N37_ 81 65
              refine zw_iconst (pc := 168) (v := Int32.ofInt 1) (by decide) (zdal_p dlD_M_readsNumber_134 (i := 19) rfl) ?_
              exact zr_iret (pc := 169) (ty := .boolean) rfl (z_narB (by (decide))) ⟨by (decide), by (decide)⟩ hf_N37_ ⟨(show 0 ≤ ze N37_ 81 64 by first | with_reducible assumption | (exact zo_843 e64_N29_ e64_N37_ i17_ p1_ r64_N15_.1) | assumption), (show ze N37_ 81 64 ≤ a0_ by first | with_reducible assumption | (exact zo_844 e64_N29_ e64_N37_ i18_) | assumption), (show 0 ≤ ze N37_ 81 65 by first | with_reducible assumption | (exact zo_1344 e65_N15_ e65_N29_ e65_N2_ hvN37_ p4_ r65_N37_.1) | assumption), (show ze N37_ 81 65 ≤ ze Mz 81 26 by first | with_reducible assumption | assumption | omega), (show ((1 = 1 ∧ ze Mz 81 64 < ze N37_ 81 64) ∨ (1 = 0)) from Or.inl (⟨(show 1 = 1 by first | with_reducible assumption | (decide) | assumption), (show ze Mz 81 64 < ze N37_ 81 64 by first | with_reducible assumption | (exact zo_847 e64_N29_ e64_N37_ i17_ i19_ i21_ hc_116) | assumption)⟩))⟩ (zdal_p dlD_M_readsNumber_134 (i := 20) rfl)
            · skip
              refine zw_lload_n (pc := 151) (n := 3) (x := Int64.ofInt u13_) rfl (zdal_p dlD_M_readsNumber_134 (i := 8) rfl) ?_
              refine zr_lneg (pc := 152) (zdal_p dlD_M_readsNumber_134 (i := 9) rfl) ?_
              refine zw_goto (pc := 153) (tgt := 157) (by decide) (zdal_p dlD_M_readsNumber_134 (i := 10) rfl) ?_
              refine zr_last (pc := 157) (zh_99 (hf_N15_.w hW)).2 (by decide) (by decide) (by (exact zo_2720 e65_N15_ e65_N2_ p4_)) (by (exact zo_2721 e65_N15_ e65_N2_ gb.2.2.2.2.2 p5_ hc_134)) (zdal_p dlD_M_readsNumber_134 (i := 12) rfl) (fun N45_ hN45_ hsN45_ => ?_)
              have hf_N45_ : zFr [64, 65] [99] Mz N45_ := hf_N15_.tr hsN45_ (by decide) (by decide)
              have e26_N45_ : ze N45_ 81 26 = ze N15_ 81 26 := hsN45_.e (by decide)
              have e64_N45_ : ze N45_ 81 64 = ze N15_ 81 64 := hsN45_.e (by decide)
              have e65_N45_ : ze N45_ 81 65 = ze N15_ 81 65 := hsN45_.e (by decide)
              refine zw_aload_n (pc := 158) (n := 0) (x := 81) rfl (zdal_p dlD_M_readsNumber_134 (i := 13) rfl) ?_
              refine zw_dup (pc := 159) rfl (zdal_p dlD_M_readsNumber_134 (i := 14) rfl) ?_
              refine zr_getI (hf_N45_.w hW) (pc := 160) f_M_511 rfl (zdal_p dlD_M_readsNumber_134 (i := 15) rfl) ?_
              refine zw_iconst (pc := 163) (v := Int32.ofInt 1) (by decide) (zdal_p dlD_M_readsNumber_134 (i := 16) rfl) ?_
              refine zr_iadd (pc := 164) (zdal_p dlD_M_readsNumber_134 (i := 17) rfl) ?_
              refine zr_putI (hf_N45_.w hW) (pc := 165) f_M_511 rfl rfl ⟨by omega, by omega⟩ rfl rfl (zdal_p dlD_M_readsNumber_134 (i := 18) rfl) (fun N53_ hsN53_ hvN53_ => ?_)
              have hf_N53_ : zFr [64, 65] [99] Mz N53_ := hf_N45_.tr hsN53_ (by decide) (by decide)
              have e64_N53_ : ze N53_ 81 64 = ze N45_ 81 64 := hsN53_.e (by decide)
              refine zw_iconst (pc := 168) (v := Int32.ofInt 1) (by decide) (zdal_p dlD_M_readsNumber_134 (i := 19) rfl) ?_
              exact zr_iret (pc := 169) (ty := .boolean) rfl (z_narB (by (decide))) ⟨by (decide), by (decide)⟩ hf_N53_ ⟨(show 0 ≤ ze N53_ 81 64 by first | with_reducible assumption | (exact zo_843 e64_N45_ e64_N53_ i17_ p1_ r64_N15_.1) | assumption), (show ze N53_ 81 64 ≤ a0_ by first | with_reducible assumption | (exact zo_844 e64_N45_ e64_N53_ i18_) | assumption), (show 0 ≤ ze N53_ 81 65 by first | with_reducible assumption | assumption | omega), (show ze N53_ 81 65 ≤ ze Mz 81 26 by first | with_reducible assumption | assumption | omega), (show ((1 = 1 ∧ ze Mz 81 64 < ze N53_ 81 64) ∨ (1 = 0)) from Or.inl (⟨(show 1 = 1 by first | with_reducible assumption | (decide) | assumption), (show ze Mz 81 64 < ze N53_ 81 64 by first | with_reducible assumption | (exact zo_847 e64_N45_ e64_N53_ i17_ i19_ i21_ hc_116) | assumption)⟩))⟩ (zdal_p dlD_M_readsNumber_134 (i := 20) rfl)
          · skip
            refine zw_iconst (pc := 137) (v := Int32.ofInt 0) (by decide) (zdal_p dlD_M_readsNumber_134 (i := 0) rfl) ?_
            exact zr_iret (pc := 138) (ty := .boolean) rfl (z_narB (by (decide))) ⟨by (decide), by (decide)⟩ hf_N15_ ⟨(show 0 ≤ ze N15_ 81 64 by first | with_reducible assumption | (exact zo_839 i17_ p1_ r64_N15_.1) | assumption), (show ze N15_ 81 64 ≤ a0_ by first | with_reducible assumption | assumption | omega), (show 0 ≤ ze N15_ 81 65 by first | with_reducible assumption | (exact zo_848 gb.2.2.2.2.1 hc_134) | assumption), (show ze N15_ 81 65 ≤ ze Mz 81 26 by first | with_reducible assumption | (exact zo_849 hc_134) | assumption), (show ((0 = 1 ∧ ze Mz 81 64 < ze N15_ 81 64) ∨ (0 = 0)) from Or.inr ((show 0 = 0 by first | with_reducible assumption | (decide) | assumption)))⟩ (zdal_p dlD_M_readsNumber_134 (i := 1) rfl)
    refine zw_lconst (pc := 42) (v := Int64.ofInt 0) (by decide) (zdal_p dlD_M_readsNumber_131 (i := 23) rfl) ?_
    refine zw_lstore_n (pc := 43) (i := 3) (L2 := [some (.ref 81), some (.int (Int32.ofInt a0_)), some (.int (Int32.ofInt u1_)), some (.long (Int64.ofInt 0)), none, none]) rfl (by decide) rfl (zdal_p dlD_M_readsNumber_132 (i := 0) rfl) ?_
    refine zw_iconst (pc := 44) (v := Int32.ofInt 0) (by decide) (zdal_p dlD_M_readsNumber_132 (i := 1) rfl) ?_
    refine zw_istore (pc := 45) (i := 5) (L2 := [some (.ref 81), some (.int (Int32.ofInt a0_)), some (.int (Int32.ofInt u1_)), some (.long (Int64.ofInt 0)), none, some (.int (Int32.ofInt 0))]) (by decide) rfl (zdal_p dlD_M_readsNumber_132 (i := 2) rfl) ?_
    have lp_47 : ∀ (n : Nat) (u61_ : Int) (hu61_a : -9223372036854775808 ≤ u61_) (hu61_b : u61_ < 9223372036854775808) (u62_ : Int) (hu62_a : -2147483648 ≤ u62_) (hu62_b : u62_ < 2147483648) (N63_ : zMem) (hs64_ : zFr [64] [] N2_ N63_) (i65_ : ze Mz 81 64 ≤ ze N63_ 81 64) (i66_ : ze N63_ 81 64 ≤ a0_) (i67_ : 0 ≤ u62_) (i68_ : u62_ ≤ 7) (i69_ : u62_ ≤ ze N63_ 81 64 - ze Mz 81 64), (a0_ - ze N63_ 81 64).toNat < n → zW l m_M_readsNumber (zn Mz + 0, zw Mz + 0) N63_ 47 [some (.ref 81), some (.int (Int32.ofInt a0_)), some (.int (Int32.ofInt u1_)), some (.long (Int64.ofInt u61_)), none, some (.int (Int32.ofInt u62_))] [] (zpI [64, 65] [99] Mz (fun v N => 0 ≤ ze N 81 64 ∧ ze N 81 64 ≤ a0_ ∧ 0 ≤ ze N 81 65 ∧ ze N 81 65 ≤ ze Mz 81 26 ∧ (((v = 1 ∧ ze Mz 81 64 < ze N 81 64) ∨ (v = 0))))) := by
      intro n
      induction n with
      | zero =>
        intro u61_ hu61_a hu61_b u62_ hu62_a hu62_b N63_ hs64_ i65_ i66_ i67_ i68_ i69_ h0
        exact absurd h0 (Nat.not_lt_zero _)
      | succ n ih_47 =>
        intro u61_ hu61_a hu61_b u62_ hu62_a hu62_b N63_ hs64_ i65_ i66_ i67_ i68_ i69_ hlt_47
        have hf_N63_ : zFr [64, 65] [99] Mz N63_ := hf_N2_.tr hs64_ (by decide) (by decide)
        have hb0_N63_ : zFr [64] [] N2_ N63_ := zFr.rf.tr hs64_ (by decide) (by decide)
        have r64_N63_ := ze_r N63_ 81 64
        refine zw_aload_n (pc := 47) (n := 0) (x := 81) rfl (zdal_p dlD_M_readsNumber_132 (i := 3) rfl) ?_
        refine zr_getI (hf_N63_.w hW) (pc := 48) f_M_504 rfl (zdal_p dlD_M_readsNumber_132 (i := 4) rfl) ?_
        refine zw_iload_n (pc := 51) (n := 1) (x := Int32.ofInt a0_) rfl (zdal_p dlD_M_readsNumber_132 (i := 5) rfl) ?_
        refine zr_icmp_ge (pc := 52) (tgt := 114) ⟨(ze_r N63_ 81 64).1, (ze_r N63_ 81 64).2⟩ ⟨ha0_a, ha0_b⟩ (by decide) (zdal_p dlD_M_readsNumber_132 (i := 6) rfl) (fun hc_52 => ?_) (fun hc_52 => ?_)
        · skip
          exact j_114 u61_ hu61_a hu61_b u62_ hu62_a hu62_b N63_ hb0_N63_ (show ze Mz 81 64 ≤ ze N63_ 81 64 by first | with_reducible assumption | assumption | omega) (show ze N63_ 81 64 ≤ a0_ by first | with_reducible assumption | assumption | omega) (show 0 ≤ u62_ by first | with_reducible assumption | assumption | omega) (show u62_ ≤ 7 by first | with_reducible assumption | assumption | omega) (show u62_ ≤ ze N63_ 81 64 - ze Mz 81 64 by first | with_reducible assumption | assumption | omega)
        · skip
          refine zw_aload_n (pc := 55) (n := 0) (x := 81) rfl (zdal_p dlD_M_readsNumber_132 (i := 7) rfl) ?_
          refine zr_getF (r := 82) (hf_N63_.w hW) (pc := 56) f_M_7 rfl (zh_82 (hf_N63_.w hW)).1 (zdal_p dlD_M_readsNumber_132 (i := 8) rfl) ?_
          refine zw_aload_n (pc := 59) (n := 0) (x := 81) rfl (zdal_p dlD_M_readsNumber_132 (i := 9) rfl) ?_
          refine zr_getI (hf_N63_.w hW) (pc := 60) f_M_504 rfl (zdal_p dlD_M_readsNumber_132 (i := 10) rfl) ?_
          refine zr_ialdn (pc := 63) (zh_82 (hf_N63_.w hW)).2 (by decide) (by (exact zo_839 i65_ p1_ r64_N63_.1)) (by (exact zo_850 hc_52 p3_)) (zdal_p dlD_M_readsNumber_132 (i := 11) rfl) (fun v77_ hv77_ hv77_a hv77_b => ?_)
          rw [hf_N63_.ie (by decide) (by decide)] at hv77_
          refine zr_callS hf_N63_.x (pc := 64) [.int (Int32.ofInt v77_)] [] l_M_162 (c_M_isDigit l N63_ (hf_N63_.w hW) v77_ hv77_a hv77_b) rfl rfl (by decide) (Nat.le_of_ble_eq_true rfl) (zdal_p dlD_M_readsNumber_132 (i := 12) rfl) ?_
          rintro _ N78_ ⟨v79_, rfl, ⟨hv79_a, hv79_b⟩, hsN78_, hp0_N78_⟩
          obtain rfl := hsN78_.eq.symm
          replace hp0_N78_ : ((v79_ = 1 ∧ 48 ≤ v77_ ∧ v77_ ≤ 57) ∨ (v79_ = 0 ∧ (v77_ < 48 ∨ 57 < v77_))) := hp0_N78_
          rcases hp0_N78_ with ⟨rfl, ha64_0_hp0_N78_, ha64_1_hp0_N78_⟩ | ⟨rfl, ha64_0_hp0_N78_⟩
          · skip
            show zW l m_M_readsNumber (zn Mz + 0, zw Mz + 0) N63_ 67 [some (.ref 81), some (.int (Int32.ofInt a0_)), some (.int (Int32.ofInt u1_)), some (.long (Int64.ofInt u61_)), none, some (.int (Int32.ofInt u62_))] [.int (Int32.ofInt 1)] _
            refine zr_if_eq (pc := 67) (tgt := 114) ⟨(by decide), (by decide)⟩ (by decide) (zdal_p dlD_M_readsNumber_132 (i := 13) rfl) (fun hc_67 => ?_) (fun hc_67 => ?_)
            · skip
              exact absurd hc_67 (by decide)
            · skip
              refine zw_iload (pc := 70) (i := 5) (x := Int32.ofInt u62_) rfl (zdal_p dlD_M_readsNumber_132 (i := 14) rfl) ?_
              refine zw_bipush (pc := 72) (v := Int32.ofInt 6) (by decide) (zdal_p dlD_M_readsNumber_132 (i := 15) rfl) ?_
              refine zr_icmp_gt (pc := 74) (tgt := 114) ⟨hu62_a, hu62_b⟩ ⟨(by decide), (by decide)⟩ (by decide) (zdal_p dlD_M_readsNumber_132 (i := 16) rfl) (fun hc_74 => ?_) (fun hc_74 => ?_)
              · skip
                exact j_114 u61_ hu61_a hu61_b u62_ hu62_a hu62_b N63_ hb0_N63_ (show ze Mz 81 64 ≤ ze N63_ 81 64 by first | with_reducible assumption | assumption | omega) (show ze N63_ 81 64 ≤ a0_ by first | with_reducible assumption | assumption | omega) (show 0 ≤ u62_ by first | with_reducible assumption | assumption | omega) (show u62_ ≤ 7 by first | with_reducible assumption | assumption | omega) (show u62_ ≤ ze N63_ 81 64 - ze Mz 81 64 by first | with_reducible assumption | assumption | omega)
              · skip
                refine zr_ldc2 (pc := 77) (n := 10) (by decide) k_M_507 (zdal_p dlD_M_readsNumber_132 (i := 17) rfl) ?_
                refine zw_lload_n (pc := 80) (n := 3) (x := Int64.ofInt u61_) rfl (zdal_p dlD_M_readsNumber_132 (i := 18) rfl) ?_
                refine zr_lmul (pc := 81) (zdal_p dlD_M_readsNumber_132 (i := 19) rfl) ?_
                refine zw_aload_n (pc := 82) (n := 0) (x := 81) rfl (zdal_p dlD_M_readsNumber_132 (i := 20) rfl) ?_
                refine zr_getF (r := 82) (hf_N63_.w hW) (pc := 83) f_M_7 rfl (zh_82 (hf_N63_.w hW)).1 (zdal_p dlD_M_readsNumber_132 (i := 21) rfl) ?_
                refine zw_aload_n (pc := 86) (n := 0) (x := 81) rfl (zdal_p dlD_M_readsNumber_132 (i := 22) rfl) ?_
                refine zr_getI (hf_N63_.w hW) (pc := 87) f_M_504 rfl (zdal_p dlD_M_readsNumber_132 (i := 23) rfl) ?_
                refine zr_ialdn (pc := 90) (zh_82 (hf_N63_.w hW)).2 (by decide) (by (exact zo_839 i65_ p1_ r64_N63_.1)) (by (exact zo_850 hc_52 p3_)) (zdal_p dlD_M_readsNumber_133 (i := 0) rfl) (fun v80_ hv80_ hv80_a hv80_b => ?_)
                rw [hf_N63_.ie (by decide) (by decide)] at hv80_
                refine zr_i2l (pc := 91) ⟨hv80_a, hv80_b⟩ (zdal_p dlD_M_readsNumber_133 (i := 1) rfl) ?_
                refine zr_ladd (pc := 92) (zdal_p dlD_M_readsNumber_133 (i := 2) rfl) ?_
                refine zr_ldc2 (pc := 93) (n := 48) (by decide) k_M_509 (zdal_p dlD_M_readsNumber_133 (i := 3) rfl) ?_
                refine zr_lsub (pc := 96) (zdal_p dlD_M_readsNumber_133 (i := 4) rfl) ?_
                refine zr_nmJ (fun v81_ hv81_ => ?_)
                obtain ⟨hv81_a, hv81_b⟩ := hv81_
                refine zw_lstore_n (pc := 97) (i := 3) (L2 := [some (.ref 81), some (.int (Int32.ofInt a0_)), some (.int (Int32.ofInt u1_)), some (.long (Int64.ofInt v81_)), none, some (.int (Int32.ofInt u62_))]) rfl (by decide) rfl (zdal_p dlD_M_readsNumber_133 (i := 5) rfl) ?_
                refine zr_iinc (pc := 98) (i := 5) (a := u62_) (n := 1) (L2 := [some (.ref 81), some (.int (Int32.ofInt a0_)), some (.int (Int32.ofInt u1_)), some (.long (Int64.ofInt v81_)), none, some (.int (Int32.ofInt (u62_ + 1)))]) rfl (by decide) rfl (zdal_p dlD_M_readsNumber_133 (i := 6) rfl) ?_
                refine zw_aload_n (pc := 101) (n := 0) (x := 81) rfl (zdal_p dlD_M_readsNumber_133 (i := 7) rfl) ?_
                refine zw_dup (pc := 102) rfl (zdal_p dlD_M_readsNumber_133 (i := 8) rfl) ?_
                refine zr_getI (hf_N63_.w hW) (pc := 103) f_M_504 rfl (zdal_p dlD_M_readsNumber_133 (i := 9) rfl) ?_
                refine zw_iconst (pc := 106) (v := Int32.ofInt 1) (by decide) (zdal_p dlD_M_readsNumber_133 (i := 10) rfl) ?_
                refine zr_iadd (pc := 107) (zdal_p dlD_M_readsNumber_133 (i := 11) rfl) ?_
                refine zr_putI (hf_N63_.w hW) (pc := 108) f_M_504 rfl rfl ⟨by (exact zo_679 r64_N63_.1), by (exact zo_853 hc_52 p3_)⟩ rfl rfl (zdal_p dlD_M_readsNumber_133 (i := 12) rfl) (fun N82_ hsN82_ hvN82_ => ?_)
                have hf_N82_ : zFr [64, 65] [99] Mz N82_ := hf_N63_.tr hsN82_ (by decide) (by decide)
                have hb0_N82_ : zFr [64] [] N2_ N82_ := hb0_N63_.tr hsN82_ (by decide) (by decide)
                have hb1_N82_ : zFr [64] [] N2_ N82_ := hs64_.tr hsN82_ (by decide) (by decide)
                have r64_N82_ := ze_r N82_ 81 64
                refine zw_goto (pc := 111) (tgt := 47) (by decide) (zdal_p dlD_M_readsNumber_133 (i := 13) rfl) ?_
                exact ih_47 v81_ hv81_a hv81_b (u62_ + 1) (by (exact zo_74 i67_)) (by (exact zo_868 i68_)) N82_ hb1_N82_ (show ze Mz 81 64 ≤ ze N82_ 81 64 by first | with_reducible assumption | (exact zo_855 hvN82_ i65_ r64_N82_.1 r_64.2) | assumption) (show ze N82_ 81 64 ≤ a0_ by first | with_reducible assumption | (exact zo_856 hc_52 hvN82_) | assumption) (show 0 ≤ (u62_ + 1) by first | with_reducible assumption | (exact zo_76 i67_) | assumption) (show (u62_ + 1) ≤ 7 by first | with_reducible assumption | (exact zo_869 hc_74 i68_) | assumption) (show (u62_ + 1) ≤ ze N82_ 81 64 - ze Mz 81 64 by first | with_reducible assumption | (exact zo_858 hvN82_ i69_) | assumption) (by (exact zo_859 hc_52 hlt_47 hvN82_ p3_ r64_N82_.1))
          · skip
            show zW l m_M_readsNumber (zn Mz + 0, zw Mz + 0) N63_ 67 [some (.ref 81), some (.int (Int32.ofInt a0_)), some (.int (Int32.ofInt u1_)), some (.long (Int64.ofInt u61_)), none, some (.int (Int32.ofInt u62_))] [.int (Int32.ofInt 0)] _
            refine zr_if_eq (pc := 67) (tgt := 114) ⟨(by decide), (by decide)⟩ (by decide) (zdal_p dlD_M_readsNumber_132 (i := 13) rfl) (fun hc_67 => ?_) (fun hc_67 => ?_)
            · skip
              exact j_114 u61_ hu61_a hu61_b u62_ hu62_a hu62_b N63_ hb0_N63_ (show ze Mz 81 64 ≤ ze N63_ 81 64 by first | with_reducible assumption | assumption | omega) (show ze N63_ 81 64 ≤ a0_ by first | with_reducible assumption | assumption | omega) (show 0 ≤ u62_ by first | with_reducible assumption | assumption | omega) (show u62_ ≤ 7 by first | with_reducible assumption | assumption | omega) (show u62_ ≤ ze N63_ 81 64 - ze Mz 81 64 by first | with_reducible assumption | assumption | omega)
            · skip
              exact absurd hc_67 (by decide)
    exact lp_47 _ 0 (by decide) (by decide) 0 (by decide) (by decide) N2_ zFr.rf (show ze Mz 81 64 ≤ ze N2_ 81 64 by first | with_reducible assumption | assumption | omega) (show ze N2_ 81 64 ≤ a0_ by first | with_reducible assumption | assumption | omega) (show 0 ≤ (0 : Int) by first | with_reducible assumption | (decide) | assumption) (show (0 : Int) ≤ 7 by first | with_reducible assumption | (decide) | assumption) (show (0 : Int) ≤ ze N2_ 81 64 - ze Mz 81 64 by first | with_reducible assumption | assumption | omega) (Nat.lt_succ_self _)
  refine zw_aload_n (pc := 0) (n := 0) (x := 81) rfl (zdal_p dlD_M_readsNumber_131 (i := 0) rfl) ?_
  refine zr_getI (hf.w hW) (pc := 1) f_M_504 rfl (zdal_p dlD_M_readsNumber_131 (i := 1) rfl) ?_
  refine zw_iload_n (pc := 4) (n := 1) (x := Int32.ofInt a0_) rfl (zdal_p dlD_M_readsNumber_131 (i := 2) rfl) ?_
  refine zr_icmp_ge (pc := 5) (tgt := 26) ⟨(ze_r Mz 81 64).1, (ze_r Mz 81 64).2⟩ ⟨ha0_a, ha0_b⟩ (by decide) (zdal_p dlD_M_readsNumber_131 (i := 3) rfl) (fun hc_5 => ?_) (fun hc_5 => ?_)
  · skip
    refine zw_iconst (pc := 26) (v := Int32.ofInt 0) (by decide) (zdal_p dlD_M_readsNumber_131 (i := 13) rfl) ?_
    refine zw_istore_n (pc := 27) (i := 2) (L2 := [some (.ref 81), some (.int (Int32.ofInt a0_)), some (.int (Int32.ofInt 0)), none, none, none]) rfl (by decide) rfl (zdal_p dlD_M_readsNumber_131 (i := 14) rfl) ?_
    refine zw_iload_n (pc := 28) (n := 2) (x := Int32.ofInt 0) rfl (zdal_p dlD_M_readsNumber_131 (i := 15) rfl) ?_
    refine zr_if_eq (pc := 29) (tgt := 42) ⟨(by decide), (by decide)⟩ (by decide) (zdal_p dlD_M_readsNumber_131 (i := 16) rfl) (fun hc_29 => ?_) (fun hc_29 => ?_)
    · skip
      exact j_42 0 (by decide) (by decide) (by (decide)) Mz zFr.rf (show ze Mz 81 64 ≤ ze Mz 81 64 by first | with_reducible assumption | (exact zo_628) | assumption) (show ze Mz 81 64 ≤ a0_ by first | with_reducible assumption | assumption | omega)
    · skip
      exact absurd hc_29 (by decide)
  · skip
    refine zw_aload_n (pc := 8) (n := 0) (x := 81) rfl (zdal_p dlD_M_readsNumber_131 (i := 4) rfl) ?_
    refine zr_getF (r := 82) (hf.w hW) (pc := 9) f_M_7 rfl (zh_82 (hf.w hW)).1 (zdal_p dlD_M_readsNumber_131 (i := 5) rfl) ?_
    refine zw_aload_n (pc := 12) (n := 0) (x := 81) rfl (zdal_p dlD_M_readsNumber_131 (i := 6) rfl) ?_
    refine zr_getI (hf.w hW) (pc := 13) f_M_504 rfl (zdal_p dlD_M_readsNumber_131 (i := 7) rfl) ?_
    refine zr_ialdn (pc := 16) (zh_82 (hf.w hW)).2 (by decide) (by (exact p1_)) (by (exact zo_838 hc_5 p3_ r_64.2)) (zdal_p dlD_M_readsNumber_131 (i := 8) rfl) (fun v90_ hv90_ hv90_a hv90_b => ?_)
    refine zw_bipush (pc := 17) (v := Int32.ofInt 45) (by decide) (zdal_p dlD_M_readsNumber_131 (i := 9) rfl) ?_
    refine zr_icmp_ne (pc := 19) (tgt := 26) ⟨hv90_a, hv90_b⟩ ⟨(by decide), (by decide)⟩ (by decide) (zdal_p dlD_M_readsNumber_131 (i := 10) rfl) (fun hc_19 => ?_) (fun hc_19 => ?_)
    · skip
      refine zw_iconst (pc := 26) (v := Int32.ofInt 0) (by decide) (zdal_p dlD_M_readsNumber_131 (i := 13) rfl) ?_
      refine zw_istore_n (pc := 27) (i := 2) (L2 := [some (.ref 81), some (.int (Int32.ofInt a0_)), some (.int (Int32.ofInt 0)), none, none, none]) rfl (by decide) rfl (zdal_p dlD_M_readsNumber_131 (i := 14) rfl) ?_
      refine zw_iload_n (pc := 28) (n := 2) (x := Int32.ofInt 0) rfl (zdal_p dlD_M_readsNumber_131 (i := 15) rfl) ?_
      refine zr_if_eq (pc := 29) (tgt := 42) ⟨(by decide), (by decide)⟩ (by decide) (zdal_p dlD_M_readsNumber_131 (i := 16) rfl) (fun hc_29 => ?_) (fun hc_29 => ?_)
      · skip
        exact j_42 0 (by decide) (by decide) (by (decide)) Mz zFr.rf (show ze Mz 81 64 ≤ ze Mz 81 64 by first | with_reducible assumption | (exact zo_628) | assumption) (show ze Mz 81 64 ≤ a0_ by first | with_reducible assumption | assumption | omega)
      · skip
        exact absurd hc_29 (by decide)
    · skip
      refine zw_iconst (pc := 22) (v := Int32.ofInt 1) (by decide) (zdal_p dlD_M_readsNumber_131 (i := 11) rfl) ?_
      refine zw_goto (pc := 23) (tgt := 27) (by decide) (zdal_p dlD_M_readsNumber_131 (i := 12) rfl) ?_
      refine zw_istore_n (pc := 27) (i := 2) (L2 := [some (.ref 81), some (.int (Int32.ofInt a0_)), some (.int (Int32.ofInt 1)), none, none, none]) rfl (by decide) rfl (zdal_p dlD_M_readsNumber_131 (i := 14) rfl) ?_
      refine zw_iload_n (pc := 28) (n := 2) (x := Int32.ofInt 1) rfl (zdal_p dlD_M_readsNumber_131 (i := 15) rfl) ?_
      refine zr_if_eq (pc := 29) (tgt := 42) ⟨(by decide), (by decide)⟩ (by decide) (zdal_p dlD_M_readsNumber_131 (i := 16) rfl) (fun hc_29 => ?_) (fun hc_29 => ?_)
      · skip
        exact absurd hc_29 (by decide)
      · skip
        refine zw_aload_n (pc := 32) (n := 0) (x := 81) rfl (zdal_p dlD_M_readsNumber_131 (i := 17) rfl) ?_
        refine zw_dup (pc := 33) rfl (zdal_p dlD_M_readsNumber_131 (i := 18) rfl) ?_
        refine zr_getI (hf.w hW) (pc := 34) f_M_504 rfl (zdal_p dlD_M_readsNumber_131 (i := 19) rfl) ?_
        refine zw_iconst (pc := 37) (v := Int32.ofInt 1) (by decide) (zdal_p dlD_M_readsNumber_131 (i := 20) rfl) ?_
        refine zr_iadd (pc := 38) (zdal_p dlD_M_readsNumber_131 (i := 21) rfl) ?_
        refine zr_putI (hf.w hW) (pc := 39) f_M_504 rfl rfl ⟨by (exact zo_74 p1_), by (exact zo_870 hc_5 p3_ r_64.2)⟩ rfl rfl (zdal_p dlD_M_readsNumber_131 (i := 22) rfl) (fun N91_ hsN91_ hvN91_ => ?_)
        have hf_N91_ : zFr [64, 65] [99] Mz N91_ := hf.tr hsN91_ (by decide) (by decide)
        have hb0_N91_ : zFr [64] [] Mz N91_ := zFr.rf.tr hsN91_ (by decide) (by decide)
        exact j_42 1 (by decide) (by decide) (by (decide)) N91_ hb0_N91_ (show ze Mz 81 64 ≤ ze N91_ 81 64 by first | with_reducible assumption | (exact zo_878 hvN91_) | assumption) (show ze N91_ 81 64 ≤ a0_ by first | with_reducible assumption | (exact zo_856 hc_5 hvN91_) | assumption)
set_option maxHeartbeats 4000000 in
theorem c_M_readsMarks (l : Launch) (Mz : zMem) (hW : zMt Mz) (a0_ : Int) (ha0_a : -2147483648 ≤ a0_) (ha0_b : a0_ < 2147483648) (T : zGT) (hO : gOK T) (p0_ : zGB T Mz) (p1_ : 0 ≤ a0_) (p2_ : a0_ ≤ 700) : zC l m_M_readsMarks 0 0 [.ref 81, .int (Int32.ofInt a0_)] Mz (zpI [64, 65] [99] Mz (fun v N => ((v = 0 ∨ v = 1)))) := by
  refine zC_of (L0 := [some (.ref 81), some (.int (Int32.ofInt a0_))]) md_M_readsMarks (Nat.le_of_ble_eq_true rfl) rfl ?_ zQ0
  have hf : zFr [64, 65] [99] Mz Mz := zFr.rf
  have r_26 := ze_r Mz 81 26
  have r_64 := ze_r Mz 81 64
  have r_65 := ze_r Mz 81 65
  have hG := hO.1
  have g24 := hG.2.1
  have g1 := hG.1
  have dv0 : zTab T Mz := p0_.1
  have dv1 : zB 85 144 0 5 Mz := p0_.2.1
  have dv2 : zJX T Mz := p0_.2.2.1
  have dv3 : zFirs T Mz := p0_.2.2.2.1
  have dv4 : zSSm T Mz := p0_.2.2.2.2.1
  have dv5 : zGD Mz := zGB.d hO p0_
  have gb := dv5.1
  have gn := dv0.1
  refine zw_aload_n (pc := 0) (n := 0) (x := 81) rfl (zdal_p dlD_M_readsMarks_127 (i := 0) rfl) ?_
  refine zw_iconst (pc := 1) (v := Int32.ofInt 0) (by decide) (zdal_p dlD_M_readsMarks_127 (i := 1) rfl) ?_
  refine zr_putI (hf.w hW) (pc := 2) f_M_504 rfl rfl ⟨by (decide), by (decide)⟩ rfl rfl (zdal_p dlD_M_readsMarks_127 (i := 2) rfl) (fun N1_ hsN1_ hvN1_ => ?_)
  have hf_N1_ : zFr [64, 65] [99] Mz N1_ := hf.tr hsN1_ (by decide) (by decide)
  have e26_N1_ : ze N1_ 81 26 = ze Mz 81 26 := hsN1_.e (by decide)
  have c2_ : zGB T N1_ := zGB.fr hsN1_ p0_ (by decide) (by decide)
  refine zw_aload_n (pc := 5) (n := 0) (x := 81) rfl (zdal_p dlD_M_readsMarks_127 (i := 3) rfl) ?_
  refine zw_iconst (pc := 6) (v := Int32.ofInt 0) (by decide) (zdal_p dlD_M_readsMarks_127 (i := 4) rfl) ?_
  refine zr_putI (hf_N1_.w hW) (pc := 7) f_M_511 rfl rfl ⟨by (decide), by (decide)⟩ rfl rfl (zdal_p dlD_M_readsMarks_127 (i := 5) rfl) (fun N9_ hsN9_ hvN9_ => ?_)
  have hf_N9_ : zFr [64, 65] [99] Mz N9_ := hf_N1_.tr hsN9_ (by decide) (by decide)
  have e26_N9_ : ze N9_ 81 26 = ze N1_ 81 26 := hsN9_.e (by decide)
  have e64_N9_ : ze N9_ 81 64 = ze N1_ 81 64 := hsN9_.e (by decide)
  have c10_ : zGB T N9_ := zGB.fr hsN9_ c2_ (by decide) (by decide)
  have lp_10 : ∀ (n : Nat) (N17_ : zMem) (hs18_ : zFr [64] [] N9_ N17_) (i19_ : 0 ≤ ze N17_ 81 64) (i20_ : ze N17_ 81 64 ≤ a0_), (a0_ - ze N17_ 81 64).toNat < n → zW l m_M_readsMarks (zn Mz + 0, zw Mz + 0) N17_ 10 [some (.ref 81), some (.int (Int32.ofInt a0_))] [] (zpI [64, 65] [99] Mz (fun v N => ((v = 0 ∨ v = 1)))) := by
    intro n
    induction n with
    | zero =>
      intro N17_ hs18_ i19_ i20_ h0
      exact absurd h0 (Nat.not_lt_zero _)
    | succ n ih_10 =>
      intro N17_ hs18_ i19_ i20_ hlt_10
      have hf_N17_ : zFr [64, 65] [99] Mz N17_ := hf_N9_.tr hs18_ (by decide) (by decide)
      have e26_N17_ : ze N17_ 81 26 = ze N9_ 81 26 := hs18_.e (by decide)
      have e65_N17_ : ze N17_ 81 65 = ze N9_ 81 65 := hs18_.e (by decide)
      have c21_ : zGB T N17_ := zGB.fr hs18_ c10_ (by decide) (by decide)
      refine zw_aload_n (pc := 10) (n := 0) (x := 81) rfl (zdal_p dlD_M_readsMarks_127 (i := 6) rfl) ?_
      refine zw_iload_n (pc := 11) (n := 1) (x := Int32.ofInt a0_) rfl (zdal_p dlD_M_readsMarks_127 (i := 7) rfl) ?_
      refine zr_callV (hf_N17_.w hW) hf_N17_.x (pc := 12) [.int (Int32.ofInt a0_)] [] l_M_514 (c_M_isBlank l N17_ (hf_N17_.w hW) a0_ ha0_a ha0_b (show 0 ≤ ze N17_ 81 64 by first | with_reducible assumption | assumption | omega) (show a0_ ≤ 700 by first | with_reducible assumption | assumption | omega)) rfl rfl rfl (by decide) (Nat.le_of_ble_eq_true rfl) (zdal_p dlD_M_readsMarks_127 (i := 8) rfl) ?_
      rintro _ N28_ ⟨v29_, rfl, ⟨hv29_a, hv29_b⟩, hsN28_, hp0_N28_⟩
      obtain rfl := hsN28_.eq.symm
      replace hp0_N28_ : ((v29_ = 1 ∧ ze N17_ 81 64 < a0_) ∨ (v29_ = 0)) := hp0_N28_
      rcases hp0_N28_ with ⟨rfl, ha12_0_hp0_N28_⟩ | rfl
      · skip
        show zW l m_M_readsMarks (zn Mz + 0, zw Mz + 0) N17_ 15 [some (.ref 81), some (.int (Int32.ofInt a0_))] [.int (Int32.ofInt 1)] _
        refine zr_if_eq (pc := 15) (tgt := 31) ⟨(by decide), (by decide)⟩ (by decide) (zdal_p dlD_M_readsMarks_127 (i := 9) rfl) (fun hc_15 => ?_) (fun hc_15 => ?_)
        · skip
          exact absurd hc_15 (by decide)
        · skip
          refine zw_aload_n (pc := 18) (n := 0) (x := 81) rfl (zdal_p dlD_M_readsMarks_127 (i := 10) rfl) ?_
          refine zw_dup (pc := 19) rfl (zdal_p dlD_M_readsMarks_127 (i := 11) rfl) ?_
          refine zr_getI (hf_N17_.w hW) (pc := 20) f_M_504 rfl (zdal_p dlD_M_readsMarks_127 (i := 12) rfl) ?_
          refine zw_iconst (pc := 23) (v := Int32.ofInt 1) (by decide) (zdal_p dlD_M_readsMarks_127 (i := 13) rfl) ?_
          refine zr_iadd (pc := 24) (zdal_p dlD_M_readsMarks_127 (i := 14) rfl) ?_
          refine zr_putI (hf_N17_.w hW) (pc := 25) f_M_504 rfl rfl ⟨by (exact zo_74 i19_), by (exact zo_853 ha12_0_hp0_N28_ p2_)⟩ rfl rfl (zdal_p dlD_M_readsMarks_127 (i := 15) rfl) (fun N30_ hsN30_ hvN30_ => ?_)
          have hf_N30_ : zFr [64, 65] [99] Mz N30_ := hf_N17_.tr hsN30_ (by decide) (by decide)
          have hb0_N30_ : zFr [64] [] N9_ N30_ := hs18_.tr hsN30_ (by decide) (by decide)
          have r64_N30_ := ze_r N30_ 81 64
          refine zw_goto (pc := 28) (tgt := 10) (by decide) (zdal_p dlD_M_readsMarks_127 (i := 16) rfl) ?_
          exact ih_10 N30_ hb0_N30_ (show 0 ≤ ze N30_ 81 64 by first | with_reducible assumption | (exact zo_163 hvN30_ i19_ r64_N30_.1) | assumption) (show ze N30_ 81 64 ≤ a0_ by first | with_reducible assumption | (exact zo_856 ha12_0_hp0_N28_ hvN30_) | assumption) (by (exact zo_859 ha12_0_hp0_N28_ hlt_10 hvN30_ p2_ r64_N30_.1))
      · skip
        show zW l m_M_readsMarks (zn Mz + 0, zw Mz + 0) N17_ 15 [some (.ref 81), some (.int (Int32.ofInt a0_))] [.int (Int32.ofInt 0)] _
        refine zr_if_eq (pc := 15) (tgt := 31) ⟨(by decide), (by decide)⟩ (by decide) (zdal_p dlD_M_readsMarks_127 (i := 9) rfl) (fun hc_15 => ?_) (fun hc_15 => ?_)
        · skip
          have lp_31 : ∀ (n : Nat) (N38_ : zMem) (hs39_ : zFr [64, 65] [99] N17_ N38_) (i40_ : 0 ≤ ze N38_ 81 64) (i41_ : ze N38_ 81 64 ≤ a0_) (i42_ : 0 ≤ ze N38_ 81 65) (i43_ : ze N38_ 81 65 ≤ ze Mz 81 26), (a0_ - ze N38_ 81 64).toNat < n → zW l m_M_readsMarks (zn Mz + 0, zw Mz + 0) N38_ 31 [some (.ref 81), some (.int (Int32.ofInt a0_))] [] (zpI [64, 65] [99] Mz (fun v N => ((v = 0 ∨ v = 1)))) := by
            intro n
            induction n with
            | zero =>
              intro N38_ hs39_ i40_ i41_ i42_ i43_ h0
              exact absurd h0 (Nat.not_lt_zero _)
            | succ n ih_31 =>
              intro N38_ hs39_ i40_ i41_ i42_ i43_ hlt_31
              have hf_N38_ : zFr [64, 65] [99] Mz N38_ := hf_N17_.tr hs39_ (by decide) (by decide)
              have e26_N38_ : ze N38_ 81 26 = ze N17_ 81 26 := hs39_.e (by decide)
              have c44_ : zGB T N38_ := zGB.fr hs39_ c21_ (by decide) (by decide)
              refine zw_aload_n (pc := 31) (n := 0) (x := 81) rfl (zdal_p dlD_M_readsMarks_127 (i := 17) rfl) ?_
              refine zr_getI (hf_N38_.w hW) (pc := 32) f_M_504 rfl (zdal_p dlD_M_readsMarks_127 (i := 18) rfl) ?_
              refine zw_iload_n (pc := 35) (n := 1) (x := Int32.ofInt a0_) rfl (zdal_p dlD_M_readsMarks_127 (i := 19) rfl) ?_
              refine zr_icmp_ge (pc := 36) (tgt := 88) ⟨(ze_r N38_ 81 64).1, (ze_r N38_ 81 64).2⟩ ⟨ha0_a, ha0_b⟩ (by decide) (zdal_p dlD_M_readsMarks_127 (i := 20) rfl) (fun hc_36 => ?_) (fun hc_36 => ?_)
              · skip
                refine zw_aload_n (pc := 88) (n := 0) (x := 81) rfl (zdal_p dlD_M_readsMarks_129 (i := 0) rfl) ?_
                refine zr_getI (hf_N38_.w hW) (pc := 89) f_M_511 rfl (zdal_p dlD_M_readsMarks_129 (i := 1) rfl) ?_
                refine zw_aload_n (pc := 92) (n := 0) (x := 81) rfl (zdal_p dlD_M_readsMarks_129 (i := 2) rfl) ?_
                refine zr_getI0 hf_N38_ hW (pc := 93) (by decide) f_M_235 rfl (zdal_p dlD_M_readsMarks_129 (i := 3) rfl) ?_
                refine zr_icmp_ne (pc := 96) (tgt := 103) ⟨(ze_r N38_ 81 65).1, (ze_r N38_ 81 65).2⟩ ⟨(ze_r Mz 81 26).1, (ze_r Mz 81 26).2⟩ (by decide) (zdal_p dlD_M_readsMarks_129 (i := 4) rfl) (fun hc_96 => ?_) (fun hc_96 => ?_)
                · skip
                  refine zw_iconst (pc := 103) (v := Int32.ofInt 0) (by decide) (zdal_p dlD_M_readsMarks_129 (i := 7) rfl) ?_
                  exact zr_iret (pc := 104) (ty := .boolean) rfl (z_narB (by (decide))) ⟨by (exact hv29_a), by (exact hv29_b)⟩ hf_N38_ (show (0 = 0 ∨ 0 = 1) by first | with_reducible assumption | (decide) | assumption) (zdal_p dlD_M_readsMarks_129 (i := 8) rfl)
                · skip
                  refine zw_iconst (pc := 99) (v := Int32.ofInt 1) (by decide) (zdal_p dlD_M_readsMarks_129 (i := 5) rfl) ?_
                  refine zw_goto (pc := 100) (tgt := 104) (by decide) (zdal_p dlD_M_readsMarks_129 (i := 6) rfl) ?_
                  exact zr_iret (pc := 104) (ty := .boolean) rfl (z_narB (by (decide))) ⟨by (decide), by (decide)⟩ hf_N38_ (show (1 = 0 ∨ 1 = 1) by first | with_reducible assumption | (decide) | assumption) (zdal_p dlD_M_readsMarks_129 (i := 8) rfl)
              · skip
                refine zw_aload_n (pc := 39) (n := 0) (x := 81) rfl (zdal_p dlD_M_readsMarks_127 (i := 21) rfl) ?_
                refine zw_iload_n (pc := 40) (n := 1) (x := Int32.ofInt a0_) rfl (zdal_p dlD_M_readsMarks_127 (i := 22) rfl) ?_
                refine zr_callV (hf_N38_.w hW) hf_N38_.x (pc := 41) [.int (Int32.ofInt a0_)] [] l_M_517 (c_M_readsNumber l N38_ (hf_N38_.w hW) a0_ ha0_a ha0_b T hO c44_ (show 0 ≤ ze N38_ 81 64 by first | with_reducible assumption | assumption | omega) (show ze N38_ 81 64 ≤ a0_ by first | with_reducible assumption | assumption | omega) (show a0_ ≤ 700 by first | with_reducible assumption | assumption | omega) (show 0 ≤ ze N38_ 81 65 by first | with_reducible assumption | assumption | omega) (show ze N38_ 81 65 ≤ ze N38_ 81 26 by first | with_reducible assumption | (exact zo_880 e26_N17_ e26_N1_ e26_N38_ e26_N9_ i43_) | assumption)) rfl rfl rfl (by decide) (Nat.le_of_ble_eq_true rfl) (zdal_p dlD_M_readsMarks_127 (i := 23) rfl) ?_
                rintro _ N51_ ⟨v52_, rfl, ⟨hv52_a, hv52_b⟩, hsN51_, ⟨hp0_N51_, hp1_N51_, hp2_N51_, hp3_N51_, hp4_N51_⟩⟩
                have hf_N51_ : zFr [64, 65] [99] Mz N51_ := hf_N38_.tr hsN51_ (by decide) (by decide)
                have hb0_N51_ : zFr [64, 65] [99] N17_ N51_ := hs39_.tr hsN51_ (by decide) (by decide)
                have r65_N51_ := ze_r N51_ 81 65
                rcases hp4_N51_ with ⟨rfl, ha41_0_hp4_N51_⟩ | rfl
                · skip
                  show zW l m_M_readsMarks (zn Mz + 0, zw Mz + 0) N51_ 44 [some (.ref 81), some (.int (Int32.ofInt a0_))] [.int (Int32.ofInt 1)] _
                  refine zr_if_ne (pc := 44) (tgt := 49) ⟨(by decide), (by decide)⟩ (by decide) (zdal_p dlD_M_readsMarks_128 (i := 0) rfl) (fun hc_44 => ?_) (fun hc_44 => ?_)
                  · skip
                    refine zw_aload_n (pc := 49) (n := 0) (x := 81) rfl (zdal_p dlD_M_readsMarks_128 (i := 3) rfl) ?_
                    refine zr_getI (hf_N51_.w hW) (pc := 50) f_M_504 rfl (zdal_p dlD_M_readsMarks_128 (i := 4) rfl) ?_
                    refine zw_iload_n (pc := 53) (n := 1) (x := Int32.ofInt a0_) rfl (zdal_p dlD_M_readsMarks_128 (i := 5) rfl) ?_
                    refine zr_icmp_ge (pc := 54) (tgt := 67) ⟨(ze_r N51_ 81 64).1, (ze_r N51_ 81 64).2⟩ ⟨ha0_a, ha0_b⟩ (by decide) (zdal_p dlD_M_readsMarks_128 (i := 6) rfl) (fun hc_54 => ?_) (fun hc_54 => ?_)
                    · skip
                      have lp_67 : ∀ (n : Nat) (N60_ : zMem) (hs61_ : zFr [64] [] N51_ N60_) (i62_ : ze N38_ 81 64 < ze N60_ 81 64) (i63_ : ze N60_ 81 64 ≤ a0_), (a0_ - ze N60_ 81 64).toNat < n → zW l m_M_readsMarks (zn Mz + 0, zw Mz + 0) N60_ 67 [some (.ref 81), some (.int (Int32.ofInt a0_))] [] (zpI [64, 65] [99] Mz (fun v N => ((v = 0 ∨ v = 1)))) := by
                        intro n
                        induction n with
                        | zero =>
                          intro N60_ hs61_ i62_ i63_ h0
                          exact absurd h0 (Nat.not_lt_zero _)
                        | succ n ih_67 =>
                          intro N60_ hs61_ i62_ i63_ hlt_67
                          have hf_N60_ : zFr [64, 65] [99] Mz N60_ := hf_N51_.tr hs61_ (by decide) (by decide)
                          have hb0_N60_ : zFr [64, 65] [99] N17_ N60_ := hb0_N51_.tr hs61_ (by decide) (by decide)
                          have r64_N60_ := ze_r N60_ 81 64
                          have e65_N60_ : ze N60_ 81 65 = ze N51_ 81 65 := hs61_.e (by decide)
                          refine zw_aload_n (pc := 67) (n := 0) (x := 81) rfl (zdal_p dlD_M_readsMarks_128 (i := 13) rfl) ?_
                          refine zw_iload_n (pc := 68) (n := 1) (x := Int32.ofInt a0_) rfl (zdal_p dlD_M_readsMarks_128 (i := 14) rfl) ?_
                          refine zr_callV (hf_N60_.w hW) hf_N60_.x (pc := 69) [.int (Int32.ofInt a0_)] [] l_M_514 (c_M_isBlank l N60_ (hf_N60_.w hW) a0_ ha0_a ha0_b (show 0 ≤ ze N60_ 81 64 by first | with_reducible assumption | (exact zo_881 i40_ i62_ r64_N60_.1) | assumption) (show a0_ ≤ 700 by first | with_reducible assumption | assumption | omega)) rfl rfl rfl (by decide) (Nat.le_of_ble_eq_true rfl) (zdal_p dlD_M_readsMarks_128 (i := 15) rfl) ?_
                          rintro _ N71_ ⟨v72_, rfl, ⟨hv72_a, hv72_b⟩, hsN71_, hp0_N71_⟩
                          obtain rfl := hsN71_.eq.symm
                          replace hp0_N71_ : ((v72_ = 1 ∧ ze N60_ 81 64 < a0_) ∨ (v72_ = 0)) := hp0_N71_
                          rcases hp0_N71_ with ⟨rfl, ha69_0_hp0_N71_⟩ | rfl
                          · skip
                            show zW l m_M_readsMarks (zn Mz + 0, zw Mz + 0) N60_ 72 [some (.ref 81), some (.int (Int32.ofInt a0_))] [.int (Int32.ofInt 1)] _
                            refine zr_if_eq (pc := 72) (tgt := 31) ⟨(by decide), (by decide)⟩ (by decide) (zdal_p dlD_M_readsMarks_128 (i := 16) rfl) (fun hc_72 => ?_) (fun hc_72 => ?_)
                            · skip
                              exact absurd hc_72 (by decide)
                            · skip
                              refine zw_aload_n (pc := 75) (n := 0) (x := 81) rfl (zdal_p dlD_M_readsMarks_128 (i := 17) rfl) ?_
                              refine zw_dup (pc := 76) rfl (zdal_p dlD_M_readsMarks_128 (i := 18) rfl) ?_
                              refine zr_getI (hf_N60_.w hW) (pc := 77) f_M_504 rfl (zdal_p dlD_M_readsMarks_128 (i := 19) rfl) ?_
                              refine zw_iconst (pc := 80) (v := Int32.ofInt 1) (by decide) (zdal_p dlD_M_readsMarks_128 (i := 20) rfl) ?_
                              refine zr_iadd (pc := 81) (zdal_p dlD_M_readsMarks_128 (i := 21) rfl) ?_
                              refine zr_putI (hf_N60_.w hW) (pc := 82) f_M_504 rfl rfl ⟨by (exact zo_679 r64_N60_.1), by (exact zo_853 ha69_0_hp0_N71_ p2_)⟩ rfl rfl (zdal_p dlD_M_readsMarks_128 (i := 22) rfl) (fun N73_ hsN73_ hvN73_ => ?_)
                              have hf_N73_ : zFr [64, 65] [99] Mz N73_ := hf_N60_.tr hsN73_ (by decide) (by decide)
                              have hb0_N73_ : zFr [64, 65] [99] N17_ N73_ := hb0_N60_.tr hsN73_ (by decide) (by decide)
                              have hb1_N73_ : zFr [64] [] N51_ N73_ := hs61_.tr hsN73_ (by decide) (by decide)
                              have r64_N73_ := ze_r N73_ 81 64
                              refine zw_goto (pc := 85) (tgt := 67) (by decide) (zdal_p dlD_M_readsMarks_128 (i := 23) rfl) ?_
                              exact ih_67 N73_ hb1_N73_ (show ze N38_ 81 64 < ze N73_ 81 64 by first | with_reducible assumption | (exact zo_882 hc_36 hvN73_ i62_ p2_ r64_N73_.1) | assumption) (show ze N73_ 81 64 ≤ a0_ by first | with_reducible assumption | (exact zo_856 ha69_0_hp0_N71_ hvN73_) | assumption) (by (exact zo_859 ha69_0_hp0_N71_ hlt_67 hvN73_ p2_ r64_N73_.1))
                          · skip
                            show zW l m_M_readsMarks (zn Mz + 0, zw Mz + 0) N60_ 72 [some (.ref 81), some (.int (Int32.ofInt a0_))] [.int (Int32.ofInt 0)] _
                            refine zr_if_eq (pc := 72) (tgt := 31) ⟨(by decide), (by decide)⟩ (by decide) (zdal_p dlD_M_readsMarks_128 (i := 16) rfl) (fun hc_72 => ?_) (fun hc_72 => ?_)
                            · skip
                              exact ih_31 N60_ hb0_N60_ (show 0 ≤ ze N60_ 81 64 by first | with_reducible assumption | (exact zo_881 i40_ i62_ r64_N60_.1) | assumption) (show ze N60_ 81 64 ≤ a0_ by first | with_reducible assumption | assumption | omega) (show 0 ≤ ze N60_ 81 65 by first | with_reducible assumption | (exact zo_720 e65_N60_ hp2_N51_) | assumption) (show ze N60_ 81 65 ≤ ze Mz 81 26 by first | with_reducible assumption | (exact zo_883 e26_N17_ e26_N1_ e26_N38_ e26_N9_ e65_N60_ gb.2.2.2.2.1 hp3_N51_ r65_N51_.2) | assumption) (by (exact zo_884 hlt_31 i62_ i63_ p2_ r64_N60_.1))
                            · skip
                              exact absurd hc_72 (by decide)
                      exact lp_67 _ N51_ zFr.rf (show ze N38_ 81 64 < ze N51_ 81 64 by first | with_reducible assumption | assumption | omega) (show ze N51_ 81 64 ≤ a0_ by first | with_reducible assumption | assumption | omega) (Nat.lt_succ_self _)
                    · skip
                      refine zw_aload_n (pc := 57) (n := 0) (x := 81) rfl (zdal_p dlD_M_readsMarks_128 (i := 7) rfl) ?_
                      refine zw_iload_n (pc := 58) (n := 1) (x := Int32.ofInt a0_) rfl (zdal_p dlD_M_readsMarks_128 (i := 8) rfl) ?_
                      refine zr_callV (hf_N51_.w hW) hf_N51_.x (pc := 59) [.int (Int32.ofInt a0_)] [] l_M_514 (c_M_isBlank l N51_ (hf_N51_.w hW) a0_ ha0_a ha0_b (show 0 ≤ ze N51_ 81 64 by first | with_reducible assumption | assumption | omega) (show a0_ ≤ 700 by first | with_reducible assumption | assumption | omega)) rfl rfl rfl (by decide) (Nat.le_of_ble_eq_true rfl) (zdal_p dlD_M_readsMarks_128 (i := 9) rfl) ?_
                      rintro _ N81_ ⟨v82_, rfl, ⟨hv82_a, hv82_b⟩, hsN81_, hp0_N81_⟩
                      obtain rfl := hsN81_.eq.symm
                      replace hp0_N81_ : ((v82_ = 1 ∧ ze N51_ 81 64 < a0_) ∨ (v82_ = 0)) := hp0_N81_
                      rcases hp0_N81_ with ⟨rfl, ha59_0_hp0_N81_⟩ | rfl
                      · skip
                        show zW l m_M_readsMarks (zn Mz + 0, zw Mz + 0) N51_ 62 [some (.ref 81), some (.int (Int32.ofInt a0_))] [.int (Int32.ofInt 1)] _
                        refine zr_if_ne (pc := 62) (tgt := 67) ⟨(by decide), (by decide)⟩ (by decide) (zdal_p dlD_M_readsMarks_128 (i := 10) rfl) (fun hc_62 => ?_) (fun hc_62 => ?_)
                        · skip
                          have lp_67 : ∀ (n : Nat) (N83_ : zMem) (hs84_ : zFr [64] [] N51_ N83_) (i85_ : ze N38_ 81 64 < ze N83_ 81 64) (i86_ : ze N83_ 81 64 ≤ a0_), (a0_ - ze N83_ 81 64).toNat < n → zW l m_M_readsMarks (zn Mz + 0, zw Mz + 0) N83_ 67 [some (.ref 81), some (.int (Int32.ofInt a0_))] [] (zpI [64, 65] [99] Mz (fun v N => ((v = 0 ∨ v = 1)))) := by
                            intro n
                            induction n with
                            | zero =>
                              intro N83_ hs84_ i85_ i86_ h0
                              exact absurd h0 (Nat.not_lt_zero _)
                            | succ n ih_67 =>
                              intro N83_ hs84_ i85_ i86_ hlt_67
                              have hf_N83_ : zFr [64, 65] [99] Mz N83_ := hf_N51_.tr hs84_ (by decide) (by decide)
                              have hb0_N83_ : zFr [64, 65] [99] N17_ N83_ := hb0_N51_.tr hs84_ (by decide) (by decide)
                              have r64_N83_ := ze_r N83_ 81 64
                              have e65_N83_ : ze N83_ 81 65 = ze N51_ 81 65 := hs84_.e (by decide)
                              refine zw_aload_n (pc := 67) (n := 0) (x := 81) rfl (zdal_p dlD_M_readsMarks_128 (i := 13) rfl) ?_
                              refine zw_iload_n (pc := 68) (n := 1) (x := Int32.ofInt a0_) rfl (zdal_p dlD_M_readsMarks_128 (i := 14) rfl) ?_
                              refine zr_callV (hf_N83_.w hW) hf_N83_.x (pc := 69) [.int (Int32.ofInt a0_)] [] l_M_514 (c_M_isBlank l N83_ (hf_N83_.w hW) a0_ ha0_a ha0_b (show 0 ≤ ze N83_ 81 64 by first | with_reducible assumption | (exact zo_881 i40_ i85_ r64_N83_.1) | assumption) (show a0_ ≤ 700 by first | with_reducible assumption | assumption | omega)) rfl rfl rfl (by decide) (Nat.le_of_ble_eq_true rfl) (zdal_p dlD_M_readsMarks_128 (i := 15) rfl) ?_
                              rintro _ N94_ ⟨v95_, rfl, ⟨hv95_a, hv95_b⟩, hsN94_, hp0_N94_⟩
                              obtain rfl := hsN94_.eq.symm
                              replace hp0_N94_ : ((v95_ = 1 ∧ ze N83_ 81 64 < a0_) ∨ (v95_ = 0)) := hp0_N94_
                              rcases hp0_N94_ with ⟨rfl, ha69_0_hp0_N94_⟩ | rfl
                              · skip
                                show zW l m_M_readsMarks (zn Mz + 0, zw Mz + 0) N83_ 72 [some (.ref 81), some (.int (Int32.ofInt a0_))] [.int (Int32.ofInt 1)] _
                                refine zr_if_eq (pc := 72) (tgt := 31) ⟨(by decide), (by decide)⟩ (by decide) (zdal_p dlD_M_readsMarks_128 (i := 16) rfl) (fun hc_72 => ?_) (fun hc_72 => ?_)
                                · skip
                                  exact absurd hc_72 (by decide)
                                · skip
                                  refine zw_aload_n (pc := 75) (n := 0) (x := 81) rfl (zdal_p dlD_M_readsMarks_128 (i := 17) rfl) ?_
                                  refine zw_dup (pc := 76) rfl (zdal_p dlD_M_readsMarks_128 (i := 18) rfl) ?_
                                  refine zr_getI (hf_N83_.w hW) (pc := 77) f_M_504 rfl (zdal_p dlD_M_readsMarks_128 (i := 19) rfl) ?_
                                  refine zw_iconst (pc := 80) (v := Int32.ofInt 1) (by decide) (zdal_p dlD_M_readsMarks_128 (i := 20) rfl) ?_
                                  refine zr_iadd (pc := 81) (zdal_p dlD_M_readsMarks_128 (i := 21) rfl) ?_
                                  refine zr_putI (hf_N83_.w hW) (pc := 82) f_M_504 rfl rfl ⟨by (exact zo_679 r64_N83_.1), by (exact zo_853 ha69_0_hp0_N94_ p2_)⟩ rfl rfl (zdal_p dlD_M_readsMarks_128 (i := 22) rfl) (fun N96_ hsN96_ hvN96_ => ?_)
                                  have hf_N96_ : zFr [64, 65] [99] Mz N96_ := hf_N83_.tr hsN96_ (by decide) (by decide)
                                  have hb0_N96_ : zFr [64, 65] [99] N17_ N96_ := hb0_N83_.tr hsN96_ (by decide) (by decide)
                                  have hb1_N96_ : zFr [64] [] N51_ N96_ := hs84_.tr hsN96_ (by decide) (by decide)
                                  have r64_N96_ := ze_r N96_ 81 64
                                  refine zw_goto (pc := 85) (tgt := 67) (by decide) (zdal_p dlD_M_readsMarks_128 (i := 23) rfl) ?_
                                  exact ih_67 N96_ hb1_N96_ (show ze N38_ 81 64 < ze N96_ 81 64 by first | with_reducible assumption | (exact zo_882 hc_36 hvN96_ i85_ p2_ r64_N96_.1) | assumption) (show ze N96_ 81 64 ≤ a0_ by first | with_reducible assumption | (exact zo_856 ha69_0_hp0_N94_ hvN96_) | assumption) (by (exact zo_859 ha69_0_hp0_N94_ hlt_67 hvN96_ p2_ r64_N96_.1))
                              · skip
                                show zW l m_M_readsMarks (zn Mz + 0, zw Mz + 0) N83_ 72 [some (.ref 81), some (.int (Int32.ofInt a0_))] [.int (Int32.ofInt 0)] _
                                refine zr_if_eq (pc := 72) (tgt := 31) ⟨(by decide), (by decide)⟩ (by decide) (zdal_p dlD_M_readsMarks_128 (i := 16) rfl) (fun hc_72 => ?_) (fun hc_72 => ?_)
                                · skip
                                  exact ih_31 N83_ hb0_N83_ (show 0 ≤ ze N83_ 81 64 by first | with_reducible assumption | (exact zo_881 i40_ i85_ r64_N83_.1) | assumption) (show ze N83_ 81 64 ≤ a0_ by first | with_reducible assumption | assumption | omega) (show 0 ≤ ze N83_ 81 65 by first | with_reducible assumption | (exact zo_720 e65_N83_ hp2_N51_) | assumption) (show ze N83_ 81 65 ≤ ze Mz 81 26 by first | with_reducible assumption | (exact zo_883 e26_N17_ e26_N1_ e26_N38_ e26_N9_ e65_N83_ gb.2.2.2.2.1 hp3_N51_ r65_N51_.2) | assumption) (by (exact zo_884 hlt_31 i85_ i86_ p2_ r64_N83_.1))
                                · skip
                                  exact absurd hc_72 (by decide)
                          exact lp_67 _ N51_ zFr.rf (show ze N38_ 81 64 < ze N51_ 81 64 by first | with_reducible assumption | assumption | omega) (show ze N51_ 81 64 ≤ a0_ by first | with_reducible assumption | assumption | omega) (Nat.lt_succ_self _)
                        · skip
                          exact absurd hc_62 (by decide)
                      · skip
                        show zW l m_M_readsMarks (zn Mz + 0, zw Mz + 0) N51_ 62 [some (.ref 81), some (.int (Int32.ofInt a0_))] [.int (Int32.ofInt 0)] _
                        refine zr_if_ne (pc := 62) (tgt := 67) ⟨(by decide), (by decide)⟩ (by decide) (zdal_p dlD_M_readsMarks_128 (i := 10) rfl) (fun hc_62 => ?_) (fun hc_62 => ?_)
                        · skip
                          exact absurd hc_62 (by decide)
                        · skip
                          refine zw_iconst (pc := 65) (v := Int32.ofInt 0) (by decide) (zdal_p dlD_M_readsMarks_128 (i := 11) rfl) ?_
                          exact zr_iret (pc := 66) (ty := .boolean) rfl (z_narB (by (decide))) ⟨by (exact hv29_a), by (exact hv29_b)⟩ hf_N51_ (show (0 = 0 ∨ 0 = 1) by first | with_reducible assumption | (decide) | assumption) (zdal_p dlD_M_readsMarks_128 (i := 12) rfl)
                  · skip
                    exact absurd hc_44 (by decide)
                · skip
                  show zW l m_M_readsMarks (zn Mz + 0, zw Mz + 0) N51_ 44 [some (.ref 81), some (.int (Int32.ofInt a0_))] [.int (Int32.ofInt 0)] _
                  refine zr_if_ne (pc := 44) (tgt := 49) ⟨(by decide), (by decide)⟩ (by decide) (zdal_p dlD_M_readsMarks_128 (i := 0) rfl) (fun hc_44 => ?_) (fun hc_44 => ?_)
                  · skip
                    exact absurd hc_44 (by decide)
                  · skip
                    refine zw_iconst (pc := 47) (v := Int32.ofInt 0) (by decide) (zdal_p dlD_M_readsMarks_128 (i := 1) rfl) ?_
                    exact zr_iret (pc := 48) (ty := .boolean) rfl (z_narB (by (decide))) ⟨by (exact hv29_a), by (exact hv29_b)⟩ hf_N51_ (show (0 = 0 ∨ 0 = 1) by first | with_reducible assumption | (decide) | assumption) (zdal_p dlD_M_readsMarks_128 (i := 2) rfl)
          exact lp_31 _ N17_ zFr.rf (show 0 ≤ ze N17_ 81 64 by first | with_reducible assumption | assumption | omega) (show ze N17_ 81 64 ≤ a0_ by first | with_reducible assumption | assumption | omega) (show 0 ≤ ze N17_ 81 65 by first | with_reducible assumption | (exact zo_631 e65_N17_ hvN9_) | assumption) (show ze N17_ 81 65 ≤ ze Mz 81 26 by first | with_reducible assumption | (exact zo_885 e65_N17_ gb.2.2.2.2.1 hvN9_) | assumption) (Nat.lt_succ_self _)
        · skip
          exact absurd hc_15 (by decide)
  exact lp_10 _ N9_ zFr.rf (show 0 ≤ ze N9_ 81 64 by first | with_reducible assumption | (exact zo_631 e64_N9_ hvN1_) | assumption) (show ze N9_ 81 64 ≤ a0_ by first | with_reducible assumption | (exact zo_886 e64_N9_ hvN1_ p1_) | assumption) (Nat.lt_succ_self _)
