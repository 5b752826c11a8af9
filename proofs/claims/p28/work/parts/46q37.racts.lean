set_option maxHeartbeats 4000000 in
theorem c_M_act (l : Launch) (Mz : zMem) (hW : zMt Mz) (p0_ : 0 ≤ ze Mz 81 60) (p1_ : ze Mz 81 60 ≤ 12) : zC l m_M_act 0 0 [.ref 81] Mz (zpV [60] [111] Mz (fun N => 1 ≤ ze N 81 60 ∧ ze N 81 60 ≤ 12)) := by
  refine zC_of (L0 := [some (.ref 81), none]) md_M_act (Nat.le_of_ble_eq_true rfl) rfl ?_ zQ0
  have hf : zFr [60] [111] Mz Mz := zFr.rf
  have r_60 := ze_r Mz 81 60
  refine zw_aload_n (pc := 0) (n := 0) (x := 81) rfl (zdal_p dlD_M_act_109 (i := 0) rfl) ?_
  refine zr_getI (hf.w hW) (pc := 1) f_M_391 rfl (zdal_p dlD_M_act_109 (i := 1) rfl) ?_
  refine zw_bipush (pc := 4) (v := Int32.ofInt 12) (by decide) (zdal_p dlD_M_act_109 (i := 2) rfl) ?_
  refine zr_icmp_ne (pc := 6) (tgt := 50) ⟨(ze_r Mz 81 60).1, (ze_r Mz 81 60).2⟩ ⟨(by decide), (by decide)⟩ (by decide) (zdal_p dlD_M_act_109 (i := 3) rfl) (fun hc_6 => ?_) (fun hc_6 => ?_)
  · skip
    refine zw_iconst (pc := 50) (v := Int32.ofInt 0) (by decide) (zdal_p dlD_M_act_110 (i := 3) rfl) ?_
    refine zw_istore_n (pc := 51) (i := 1) (L2 := [some (.ref 81), some (.int (Int32.ofInt 0))]) rfl (by decide) rfl (zdal_p dlD_M_act_110 (i := 4) rfl) ?_
    have lp_52 : ∀ (n : Nat) (u1_ : Int) (hu1_a : -2147483648 ≤ u1_) (hu1_b : u1_ < 2147483648) (N2_ : zMem) (hs3_ : zFr [] [111] Mz N2_) (i4_ : 0 ≤ u1_), (64 - u1_).toNat < n → zW l m_M_act (zn Mz + 0, zw Mz + 0) N2_ 52 [some (.ref 81), some (.int (Int32.ofInt u1_))] [] (zpV [60] [111] Mz (fun N => 1 ≤ ze N 81 60 ∧ ze N 81 60 ≤ 12)) := by
      intro n
      induction n with
      | zero =>
        intro u1_ hu1_a hu1_b N2_ hs3_ i4_ h0
        exact absurd h0 (Nat.not_lt_zero _)
      | succ n ih_52 =>
        intro u1_ hu1_a hu1_b N2_ hs3_ i4_ hlt_52
        have hf_N2_ : zFr [60] [111] Mz N2_ := hf.tr hs3_ (by decide) (by decide)
        have e60_N2_ : ze N2_ 81 60 = ze Mz 81 60 := hs3_.e (by decide)
        refine zw_iload_n (pc := 52) (n := 1) (x := Int32.ofInt u1_) rfl (zdal_p dlD_M_act_110 (i := 5) rfl) ?_
        refine zw_bipush (pc := 53) (v := Int32.ofInt 64) (by decide) (zdal_p dlD_M_act_110 (i := 6) rfl) ?_
        refine zr_icmp_ge (pc := 55) (tgt := 84) ⟨hu1_a, hu1_b⟩ ⟨(by decide), (by decide)⟩ (by decide) (zdal_p dlD_M_act_110 (i := 7) rfl) (fun hc_55 => ?_) (fun hc_55 => ?_)
        · skip
          refine zw_aload_n (pc := 84) (n := 0) (x := 81) rfl (zdal_p dlD_M_act_110 (i := 23) rfl) ?_
          refine zw_dup (pc := 85) rfl (zdal_p dlD_M_act_111 (i := 0) rfl) ?_
          refine zr_getI (hf_N2_.w hW) (pc := 86) f_M_391 rfl (zdal_p dlD_M_act_111 (i := 1) rfl) ?_
          refine zw_iconst (pc := 89) (v := Int32.ofInt 1) (by decide) (zdal_p dlD_M_act_111 (i := 2) rfl) ?_
          refine zr_iadd (pc := 90) (zdal_p dlD_M_act_111 (i := 3) rfl) ?_
          refine zr_putI (hf_N2_.w hW) (pc := 91) f_M_391 rfl rfl ⟨by (exact zo_1205 e60_N2_ p0_), by omega⟩ rfl rfl (zdal_p dlD_M_act_111 (i := 4) rfl) (fun N5_ hsN5_ hvN5_ => ?_)
          have hf_N5_ : zFr [60] [111] Mz N5_ := hf_N2_.tr hsN5_ (by decide) (by decide)
          have r60_N5_ := ze_r N5_ 81 60
          exact zr_vret (pc := 94) rfl hf_N5_ ⟨(show 1 ≤ ze N5_ 81 60 by first | assumption | omega), (show ze N5_ 81 60 ≤ 12 by first | assumption | omega)⟩ (zdal_p dlD_M_act_111 (i := 5) rfl)
        · skip
          refine zw_aload_n (pc := 58) (n := 0) (x := 81) rfl (zdal_p dlD_M_act_110 (i := 8) rfl) ?_
          refine zr_getF (r := 111) (hf_N2_.w hW) (pc := 59) f_M_106 rfl (zh_111 (hf_N2_.w hW)).1 (zdal_p dlD_M_act_110 (i := 9) rfl) ?_
          refine zw_bipush (pc := 62) (v := Int32.ofInt 64) (by decide) (zdal_p dlD_M_act_110 (i := 10) rfl) ?_
          refine zw_aload_n (pc := 64) (n := 0) (x := 81) rfl (zdal_p dlD_M_act_110 (i := 11) rfl) ?_
          refine zr_getI (hf_N2_.w hW) (pc := 65) f_M_391 rfl (zdal_p dlD_M_act_110 (i := 12) rfl) ?_
          refine zr_imul (pc := 68) (zdal_p dlD_M_act_110 (i := 13) rfl) ?_
          refine zw_iload_n (pc := 69) (n := 1) (x := Int32.ofInt u1_) rfl (zdal_p dlD_M_act_110 (i := 14) rfl) ?_
          refine zr_iadd (pc := 70) (zdal_p dlD_M_act_110 (i := 15) rfl) ?_
          refine zw_aload_n (pc := 71) (n := 0) (x := 81) rfl (zdal_p dlD_M_act_110 (i := 16) rfl) ?_
          refine zr_getF (r := 98) (hf_N2_.w hW) (pc := 72) f_M_66 rfl (zh_98 (hf_N2_.w hW)).1 (zdal_p dlD_M_act_110 (i := 17) rfl) ?_
          refine zw_iload_n (pc := 75) (n := 1) (x := Int32.ofInt u1_) rfl (zdal_p dlD_M_act_110 (i := 18) rfl) ?_
          refine zr_laldn (pc := 76) (zh_98 (hf_N2_.w hW)).2 (by decide) (by (exact i4_)) (by (exact zo_2451 hc_55)) (zdal_p dlD_M_act_110 (i := 19) rfl) (fun v6_ hv6_ hv6_a hv6_b => ?_)
          rw [hf_N2_.jg (by decide) (by decide)] at hv6_
          refine zr_last (pc := 77) (zh_111 (hf_N2_.w hW)).2 (by decide) (by decide) (by (exact zo_2452 e60_N2_ i4_ p0_)) (by omega) (zdal_p dlD_M_act_110 (i := 20) rfl) (fun N7_ hN7_ hsN7_ => ?_)
          have hf_N7_ : zFr [60] [111] Mz N7_ := hf_N2_.tr hsN7_ (by decide) (by decide)
          have hb0_N7_ : zFr [] [111] Mz N7_ := hs3_.tr hsN7_ (by decide) (by decide)
          have e60_N7_ : ze N7_ 81 60 = ze N2_ 81 60 := hsN7_.e (by decide)
          refine zr_iinc (pc := 78) (i := 1) (a := u1_) (n := 1) (L2 := [some (.ref 81), some (.int (Int32.ofInt (u1_ + 1)))]) rfl (by decide) rfl (zdal_p dlD_M_act_110 (i := 21) rfl) ?_
          refine zw_goto (pc := 81) (tgt := 52) (by decide) (zdal_p dlD_M_act_110 (i := 22) rfl) ?_
          exact ih_52 (u1_ + 1) (by (exact zo_74 i4_)) (by (exact zo_2454 hc_55)) N7_ hb0_N7_ (show 0 ≤ (u1_ + 1) by first | assumption | (exact zo_76 i4_)) (by (exact zo_2455 hc_55 hlt_52 i4_))
    exact lp_52 _ 0 (by decide) (by decide) Mz zFr.rf (show 0 ≤ (0 : Int) by first | assumption | (decide)) (Nat.lt_succ_self _)
  · skip
    refine zw_bipush (pc := 9) (v := Int32.ofInt 64) (by decide) (zdal_p dlD_M_act_109 (i := 4) rfl) ?_
    refine zw_istore_n (pc := 11) (i := 1) (L2 := [some (.ref 81), some (.int (Int32.ofInt 64))]) rfl (by decide) rfl (zdal_p dlD_M_act_109 (i := 5) rfl) ?_
    have lp_12 : ∀ (n : Nat) (u8_ : Int) (hu8_a : -2147483648 ≤ u8_) (hu8_b : u8_ < 2147483648) (N9_ : zMem) (hs10_ : zFr [] [111] Mz N9_) (i11_ : 64 ≤ u8_), (768 - u8_).toNat < n → zW l m_M_act (zn Mz + 0, zw Mz + 0) N9_ 12 [some (.ref 81), some (.int (Int32.ofInt u8_))] [] (zpV [60] [111] Mz (fun N => 1 ≤ ze N 81 60 ∧ ze N 81 60 ≤ 12)) := by
      intro n
      induction n with
      | zero =>
        intro u8_ hu8_a hu8_b N9_ hs10_ i11_ h0
        exact absurd h0 (Nat.not_lt_zero _)
      | succ n ih_12 =>
        intro u8_ hu8_a hu8_b N9_ hs10_ i11_ hlt_12
        have hf_N9_ : zFr [60] [111] Mz N9_ := hf.tr hs10_ (by decide) (by decide)
        have e60_N9_ : ze N9_ 81 60 = ze Mz 81 60 := hs10_.e (by decide)
        refine zw_iload_n (pc := 12) (n := 1) (x := Int32.ofInt u8_) rfl (zdal_p dlD_M_act_109 (i := 6) rfl) ?_
        refine zw_sipush (pc := 13) (v := Int32.ofInt 768) (by decide) (zdal_p dlD_M_act_109 (i := 7) rfl) ?_
        refine zr_icmp_ge (pc := 16) (tgt := 40) ⟨hu8_a, hu8_b⟩ ⟨(by decide), (by decide)⟩ (by decide) (zdal_p dlD_M_act_109 (i := 8) rfl) (fun hc_16 => ?_) (fun hc_16 => ?_)
        · skip
          refine zw_aload_n (pc := 40) (n := 0) (x := 81) rfl (zdal_p dlD_M_act_109 (i := 21) rfl) ?_
          refine zw_dup (pc := 41) rfl (zdal_p dlD_M_act_109 (i := 22) rfl) ?_
          refine zr_getI (hf_N9_.w hW) (pc := 42) f_M_391 rfl (zdal_p dlD_M_act_109 (i := 23) rfl) ?_
          refine zw_iconst (pc := 45) (v := Int32.ofInt 1) (by decide) (zdal_p dlD_M_act_110 (i := 0) rfl) ?_
          refine zr_isub (pc := 46) (zdal_p dlD_M_act_110 (i := 1) rfl) ?_
          refine zr_putI (hf_N9_.w hW) (pc := 47) f_M_391 rfl rfl ⟨by omega, by omega⟩ rfl rfl (zdal_p dlD_M_act_110 (i := 2) rfl) (fun N12_ hsN12_ hvN12_ => ?_)
          have hf_N12_ : zFr [60] [111] Mz N12_ := hf_N9_.tr hsN12_ (by decide) (by decide)
          have r60_N12_ := ze_r N12_ 81 60
          refine zw_iconst (pc := 50) (v := Int32.ofInt 0) (by decide) (zdal_p dlD_M_act_110 (i := 3) rfl) ?_
          refine zw_istore_n (pc := 51) (i := 1) (L2 := [some (.ref 81), some (.int (Int32.ofInt 0))]) rfl (by decide) rfl (zdal_p dlD_M_act_110 (i := 4) rfl) ?_
          have lp_52 : ∀ (n : Nat) (u13_ : Int) (hu13_a : -2147483648 ≤ u13_) (hu13_b : u13_ < 2147483648) (N14_ : zMem) (hs15_ : zFr [] [111] N12_ N14_) (i16_ : 0 ≤ u13_), (64 - u13_).toNat < n → zW l m_M_act (zn Mz + 0, zw Mz + 0) N14_ 52 [some (.ref 81), some (.int (Int32.ofInt u13_))] [] (zpV [60] [111] Mz (fun N => 1 ≤ ze N 81 60 ∧ ze N 81 60 ≤ 12)) := by
            intro n
            induction n with
            | zero =>
              intro u13_ hu13_a hu13_b N14_ hs15_ i16_ h0
              exact absurd h0 (Nat.not_lt_zero _)
            | succ n ih_52 =>
              intro u13_ hu13_a hu13_b N14_ hs15_ i16_ hlt_52
              have hf_N14_ : zFr [60] [111] Mz N14_ := hf_N12_.tr hs15_ (by decide) (by decide)
              have e60_N14_ : ze N14_ 81 60 = ze N12_ 81 60 := hs15_.e (by decide)
              refine zw_iload_n (pc := 52) (n := 1) (x := Int32.ofInt u13_) rfl (zdal_p dlD_M_act_110 (i := 5) rfl) ?_
              refine zw_bipush (pc := 53) (v := Int32.ofInt 64) (by decide) (zdal_p dlD_M_act_110 (i := 6) rfl) ?_
              refine zr_icmp_ge (pc := 55) (tgt := 84) ⟨hu13_a, hu13_b⟩ ⟨(by decide), (by decide)⟩ (by decide) (zdal_p dlD_M_act_110 (i := 7) rfl) (fun hc_55 => ?_) (fun hc_55 => ?_)
              · skip
                refine zw_aload_n (pc := 84) (n := 0) (x := 81) rfl (zdal_p dlD_M_act_110 (i := 23) rfl) ?_
                refine zw_dup (pc := 85) rfl (zdal_p dlD_M_act_111 (i := 0) rfl) ?_
                refine zr_getI (hf_N14_.w hW) (pc := 86) f_M_391 rfl (zdal_p dlD_M_act_111 (i := 1) rfl) ?_
                refine zw_iconst (pc := 89) (v := Int32.ofInt 1) (by decide) (zdal_p dlD_M_act_111 (i := 2) rfl) ?_
                refine zr_iadd (pc := 90) (zdal_p dlD_M_act_111 (i := 3) rfl) ?_
                refine zr_putI (hf_N14_.w hW) (pc := 91) f_M_391 rfl rfl ⟨by (exact zo_1139 e60_N14_ r60_N12_.1), by omega⟩ rfl rfl (zdal_p dlD_M_act_111 (i := 4) rfl) (fun N17_ hsN17_ hvN17_ => ?_)
                have hf_N17_ : zFr [60] [111] Mz N17_ := hf_N14_.tr hsN17_ (by decide) (by decide)
                have r60_N17_ := ze_r N17_ 81 60
                exact zr_vret (pc := 94) rfl hf_N17_ ⟨(show 1 ≤ ze N17_ 81 60 by first | assumption | omega), (show ze N17_ 81 60 ≤ 12 by first | assumption | omega)⟩ (zdal_p dlD_M_act_111 (i := 5) rfl)
              · skip
                refine zw_aload_n (pc := 58) (n := 0) (x := 81) rfl (zdal_p dlD_M_act_110 (i := 8) rfl) ?_
                refine zr_getF (r := 111) (hf_N14_.w hW) (pc := 59) f_M_106 rfl (zh_111 (hf_N14_.w hW)).1 (zdal_p dlD_M_act_110 (i := 9) rfl) ?_
                refine zw_bipush (pc := 62) (v := Int32.ofInt 64) (by decide) (zdal_p dlD_M_act_110 (i := 10) rfl) ?_
                refine zw_aload_n (pc := 64) (n := 0) (x := 81) rfl (zdal_p dlD_M_act_110 (i := 11) rfl) ?_
                refine zr_getI (hf_N14_.w hW) (pc := 65) f_M_391 rfl (zdal_p dlD_M_act_110 (i := 12) rfl) ?_
                refine zr_imul (pc := 68) (zdal_p dlD_M_act_110 (i := 13) rfl) ?_
                refine zw_iload_n (pc := 69) (n := 1) (x := Int32.ofInt u13_) rfl (zdal_p dlD_M_act_110 (i := 14) rfl) ?_
                refine zr_iadd (pc := 70) (zdal_p dlD_M_act_110 (i := 15) rfl) ?_
                refine zw_aload_n (pc := 71) (n := 0) (x := 81) rfl (zdal_p dlD_M_act_110 (i := 16) rfl) ?_
                refine zr_getF (r := 98) (hf_N14_.w hW) (pc := 72) f_M_66 rfl (zh_98 (hf_N14_.w hW)).1 (zdal_p dlD_M_act_110 (i := 17) rfl) ?_
                refine zw_iload_n (pc := 75) (n := 1) (x := Int32.ofInt u13_) rfl (zdal_p dlD_M_act_110 (i := 18) rfl) ?_
                refine zr_laldn (pc := 76) (zh_98 (hf_N14_.w hW)).2 (by decide) (by (exact i16_)) (by (exact zo_2451 hc_55)) (zdal_p dlD_M_act_110 (i := 19) rfl) (fun v18_ hv18_ hv18_a hv18_b => ?_)
                rw [hf_N14_.jg (by decide) (by decide)] at hv18_
                refine zr_last (pc := 77) (zh_111 (hf_N14_.w hW)).2 (by decide) (by decide) (by omega) (by omega) (zdal_p dlD_M_act_110 (i := 20) rfl) (fun N19_ hN19_ hsN19_ => ?_)
                have hf_N19_ : zFr [60] [111] Mz N19_ := hf_N14_.tr hsN19_ (by decide) (by decide)
                have hb0_N19_ : zFr [] [111] N12_ N19_ := hs15_.tr hsN19_ (by decide) (by decide)
                have e60_N19_ : ze N19_ 81 60 = ze N14_ 81 60 := hsN19_.e (by decide)
                refine zr_iinc (pc := 78) (i := 1) (a := u13_) (n := 1) (L2 := [some (.ref 81), some (.int (Int32.ofInt (u13_ + 1)))]) rfl (by decide) rfl (zdal_p dlD_M_act_110 (i := 21) rfl) ?_
                refine zw_goto (pc := 81) (tgt := 52) (by decide) (zdal_p dlD_M_act_110 (i := 22) rfl) ?_
                exact ih_52 (u13_ + 1) (by (exact zo_74 i16_)) (by (exact zo_2454 hc_55)) N19_ hb0_N19_ (show 0 ≤ (u13_ + 1) by first | assumption | (exact zo_76 i16_)) (by (exact zo_2455 hc_55 hlt_52 i16_))
          exact lp_52 _ 0 (by decide) (by decide) N12_ zFr.rf (show 0 ≤ (0 : Int) by first | assumption | (decide)) (Nat.lt_succ_self _)
        · skip
          refine zw_aload_n (pc := 19) (n := 0) (x := 81) rfl (zdal_p dlD_M_act_109 (i := 9) rfl) ?_
          refine zr_getF (r := 111) (hf_N9_.w hW) (pc := 20) f_M_106 rfl (zh_111 (hf_N9_.w hW)).1 (zdal_p dlD_M_act_109 (i := 10) rfl) ?_
          refine zw_iload_n (pc := 23) (n := 1) (x := Int32.ofInt u8_) rfl (zdal_p dlD_M_act_109 (i := 11) rfl) ?_
          refine zw_bipush (pc := 24) (v := Int32.ofInt 64) (by decide) (zdal_p dlD_M_act_109 (i := 12) rfl) ?_
          refine zr_isub (pc := 26) (zdal_p dlD_M_act_109 (i := 13) rfl) ?_
          refine zw_aload_n (pc := 27) (n := 0) (x := 81) rfl (zdal_p dlD_M_act_109 (i := 14) rfl) ?_
          refine zr_getF (r := 111) (hf_N9_.w hW) (pc := 28) f_M_106 rfl (zh_111 (hf_N9_.w hW)).1 (zdal_p dlD_M_act_109 (i := 15) rfl) ?_
          refine zw_iload_n (pc := 31) (n := 1) (x := Int32.ofInt u8_) rfl (zdal_p dlD_M_act_109 (i := 16) rfl) ?_
          refine zr_laldn (pc := 32) (zh_111 (hf_N9_.w hW)).2 (by decide) (by omega) (by omega) (zdal_p dlD_M_act_109 (i := 17) rfl) (fun v20_ hv20_ hv20_a hv20_b => ?_)
          refine zr_last (pc := 33) (zh_111 (hf_N9_.w hW)).2 (by decide) (by decide) (by omega) (by omega) (zdal_p dlD_M_act_109 (i := 18) rfl) (fun N21_ hN21_ hsN21_ => ?_)
          have hf_N21_ : zFr [60] [111] Mz N21_ := hf_N9_.tr hsN21_ (by decide) (by decide)
          have hb0_N21_ : zFr [] [111] Mz N21_ := hs10_.tr hsN21_ (by decide) (by decide)
          have e60_N21_ : ze N21_ 81 60 = ze N9_ 81 60 := hsN21_.e (by decide)
          refine zr_iinc (pc := 34) (i := 1) (a := u8_) (n := 1) (L2 := [some (.ref 81), some (.int (Int32.ofInt (u8_ + 1)))]) rfl (by decide) rfl (zdal_p dlD_M_act_109 (i := 19) rfl) ?_
          refine zw_goto (pc := 37) (tgt := 12) (by decide) (zdal_p dlD_M_act_109 (i := 20) rfl) ?_
          exact ih_12 (u8_ + 1) (by omega) (by omega) N21_ hb0_N21_ (show 64 ≤ (u8_ + 1) by first | assumption | omega) (by omega)
    exact lp_12 _ 64 (by decide) (by decide) Mz zFr.rf (show 64 ≤ (64 : Int) by first | assumption | (decide)) (Nat.lt_succ_self _)
set_option maxHeartbeats 4000000 in
theorem c_M_undo (l : Launch) (Mz : zMem) (hW : zMt Mz) (p0_ : 0 ≤ ze Mz 81 60) (p1_ : ze Mz 81 60 ≤ 12) : zC l m_M_undo 0 0 [.ref 81] Mz (zpI [60] [98] Mz (fun v N => 0 ≤ ze N 81 60 ∧ ze N 81 60 ≤ 12)) := by
  refine zC_of (L0 := [some (.ref 81), none]) md_M_undo (Nat.le_of_ble_eq_true rfl) rfl ?_ zQ0
  have hf : zFr [60] [98] Mz Mz := zFr.rf
  have r_60 := ze_r Mz 81 60
  refine zw_aload_n (pc := 0) (n := 0) (x := 81) rfl (zdal_p dlD_M_undo_89 (i := 0) rfl) ?_
  refine zr_getI (hf.w hW) (pc := 1) f_M_391 rfl (zdal_p dlD_M_undo_89 (i := 1) rfl) ?_
  refine zr_if_ne (pc := 4) (tgt := 9) ⟨(ze_r Mz 81 60).1, (ze_r Mz 81 60).2⟩ (by decide) (zdal_p dlD_M_undo_89 (i := 2) rfl) (fun hc_4 => ?_) (fun hc_4 => ?_)
  · skip
    refine zw_aload_n (pc := 9) (n := 0) (x := 81) rfl (zdal_p dlD_M_undo_89 (i := 5) rfl) ?_
    refine zw_dup (pc := 10) rfl (zdal_p dlD_M_undo_89 (i := 6) rfl) ?_
    refine zr_getI (hf.w hW) (pc := 11) f_M_391 rfl (zdal_p dlD_M_undo_89 (i := 7) rfl) ?_
    refine zw_iconst (pc := 14) (v := Int32.ofInt 1) (by decide) (zdal_p dlD_M_undo_89 (i := 8) rfl) ?_
    refine zr_isub (pc := 15) (zdal_p dlD_M_undo_89 (i := 9) rfl) ?_
    refine zr_putI (hf.w hW) (pc := 16) f_M_391 rfl rfl ⟨by (exact zo_600 p0_), by omega⟩ rfl rfl (zdal_p dlD_M_undo_89 (i := 10) rfl) (fun N1_ hsN1_ hvN1_ => ?_)
    have hf_N1_ : zFr [60] [98] Mz N1_ := hf.tr hsN1_ (by decide) (by decide)
    have r60_N1_ := ze_r N1_ 81 60
    refine zw_iconst (pc := 19) (v := Int32.ofInt 0) (by decide) (zdal_p dlD_M_undo_89 (i := 11) rfl) ?_
    refine zw_istore_n (pc := 20) (i := 1) (L2 := [some (.ref 81), some (.int (Int32.ofInt 0))]) rfl (by decide) rfl (zdal_p dlD_M_undo_89 (i := 12) rfl) ?_
    have lp_21 : ∀ (n : Nat) (u2_ : Int) (hu2_a : -2147483648 ≤ u2_) (hu2_b : u2_ < 2147483648) (N3_ : zMem) (hs4_ : zFr [] [98] N1_ N3_) (i5_ : 0 ≤ u2_), (64 - u2_).toNat < n → zW l m_M_undo (zn Mz + 0, zw Mz + 0) N3_ 21 [some (.ref 81), some (.int (Int32.ofInt u2_))] [] (zpI [60] [98] Mz (fun v N => 0 ≤ ze N 81 60 ∧ ze N 81 60 ≤ 12)) := by
      intro n
      induction n with
      | zero =>
        intro u2_ hu2_a hu2_b N3_ hs4_ i5_ h0
        exact absurd h0 (Nat.not_lt_zero _)
      | succ n ih_21 =>
        intro u2_ hu2_a hu2_b N3_ hs4_ i5_ hlt_21
        have hf_N3_ : zFr [60] [98] Mz N3_ := hf_N1_.tr hs4_ (by decide) (by decide)
        have e60_N3_ : ze N3_ 81 60 = ze N1_ 81 60 := hs4_.e (by decide)
        refine zw_iload_n (pc := 21) (n := 1) (x := Int32.ofInt u2_) rfl (zdal_p dlD_M_undo_89 (i := 13) rfl) ?_
        refine zw_bipush (pc := 22) (v := Int32.ofInt 64) (by decide) (zdal_p dlD_M_undo_89 (i := 14) rfl) ?_
        refine zr_icmp_ge (pc := 24) (tgt := 53) ⟨hu2_a, hu2_b⟩ ⟨(by decide), (by decide)⟩ (by decide) (zdal_p dlD_M_undo_89 (i := 15) rfl) (fun hc_24 => ?_) (fun hc_24 => ?_)
        · skip
          refine zw_aload_n (pc := 53) (n := 0) (x := 81) rfl (zdal_p dlD_M_undo_90 (i := 7) rfl) ?_
          refine zr_getI (hf_N3_.w hW) (pc := 54) f_M_391 rfl (zdal_p dlD_M_undo_90 (i := 8) rfl) ?_
          exact zr_iret (pc := 57) (ty := .int) rfl rfl ⟨by (exact zo_289 e60_N3_ r60_N1_.1), by (exact zo_290 e60_N3_ r60_N1_.2)⟩ hf_N3_ ⟨(show 0 ≤ ze N3_ 81 60 by first | assumption | omega), (show ze N3_ 81 60 ≤ 12 by first | assumption | omega)⟩ (zdal_p dlD_M_undo_90 (i := 9) rfl)
        · skip
          refine zw_aload_n (pc := 27) (n := 0) (x := 81) rfl (zdal_p dlD_M_undo_89 (i := 16) rfl) ?_
          refine zr_getF (r := 98) (hf_N3_.w hW) (pc := 28) f_M_66 rfl (zh_98 (hf_N3_.w hW)).1 (zdal_p dlD_M_undo_89 (i := 17) rfl) ?_
          refine zw_iload_n (pc := 31) (n := 1) (x := Int32.ofInt u2_) rfl (zdal_p dlD_M_undo_89 (i := 18) rfl) ?_
          refine zw_aload_n (pc := 32) (n := 0) (x := 81) rfl (zdal_p dlD_M_undo_89 (i := 19) rfl) ?_
          refine zr_getF (r := 111) (hf_N3_.w hW) (pc := 33) f_M_106 rfl (zh_111 (hf_N3_.w hW)).1 (zdal_p dlD_M_undo_89 (i := 20) rfl) ?_
          refine zw_bipush (pc := 36) (v := Int32.ofInt 64) (by decide) (zdal_p dlD_M_undo_89 (i := 21) rfl) ?_
          refine zw_aload_n (pc := 38) (n := 0) (x := 81) rfl (zdal_p dlD_M_undo_89 (i := 22) rfl) ?_
          refine zr_getI (hf_N3_.w hW) (pc := 39) f_M_391 rfl (zdal_p dlD_M_undo_89 (i := 23) rfl) ?_
          refine zr_imul (pc := 42) (zdal_p dlD_M_undo_90 (i := 0) rfl) ?_
          refine zw_iload_n (pc := 43) (n := 1) (x := Int32.ofInt u2_) rfl (zdal_p dlD_M_undo_90 (i := 1) rfl) ?_
          refine zr_iadd (pc := 44) (zdal_p dlD_M_undo_90 (i := 2) rfl) ?_
          refine zr_laldn (pc := 45) (zh_111 (hf_N3_.w hW)).2 (by decide) (by omega) (by omega) (zdal_p dlD_M_undo_90 (i := 3) rfl) (fun v6_ hv6_ hv6_a hv6_b => ?_)
          rw [hf_N3_.jg (by decide) (by decide)] at hv6_
          refine zr_last (pc := 46) (zh_98 (hf_N3_.w hW)).2 (by decide) (by decide) (by (exact i5_)) (by (exact zo_2451 hc_24)) (zdal_p dlD_M_undo_90 (i := 4) rfl) (fun N7_ hN7_ hsN7_ => ?_)
          have hf_N7_ : zFr [60] [98] Mz N7_ := hf_N3_.tr hsN7_ (by decide) (by decide)
          have hb0_N7_ : zFr [] [98] N1_ N7_ := hs4_.tr hsN7_ (by decide) (by decide)
          have e60_N7_ : ze N7_ 81 60 = ze N3_ 81 60 := hsN7_.e (by decide)
          refine zr_iinc (pc := 47) (i := 1) (a := u2_) (n := 1) (L2 := [some (.ref 81), some (.int (Int32.ofInt (u2_ + 1)))]) rfl (by decide) rfl (zdal_p dlD_M_undo_90 (i := 5) rfl) ?_
          refine zw_goto (pc := 50) (tgt := 21) (by decide) (zdal_p dlD_M_undo_90 (i := 6) rfl) ?_
          exact ih_21 (u2_ + 1) (by (exact zo_74 i5_)) (by (exact zo_2454 hc_24)) N7_ hb0_N7_ (show 0 ≤ (u2_ + 1) by first | assumption | (exact zo_76 i5_)) (by (exact zo_2455 hc_24 hlt_21 i5_))
    exact lp_21 _ 0 (by decide) (by decide) N1_ zFr.rf (show 0 ≤ (0 : Int) by first | assumption | (decide)) (Nat.lt_succ_self _)
  · skip
    refine zw_iconst (pc := 7) (v := Int32.ofInt (-1)) (by decide) (zdal_p dlD_M_undo_89 (i := 3) rfl) ?_
    exact zr_iret (pc := 8) (ty := .int) rfl rfl ⟨by (decide), by (decide)⟩ hf ⟨(show 0 ≤ ze Mz 81 60 by first | assumption | omega), (show ze Mz 81 60 ≤ 12 by first | assumption | omega)⟩ (zdal_p dlD_M_undo_89 (i := 4) rfl)
set_option maxHeartbeats 4000000 in
theorem c_M_named (l : Launch) (Mz : zMem) (hW : zMt Mz) (a0_ : Int) (ha0_a : -2147483648 ≤ a0_) (ha0_b : a0_ < 2147483648) (a1_ : Int) (ha1_a : -2147483648 ≤ a1_) (ha1_b : a1_ < 2147483648) (T : zGT) (hO : gOK T) (p0_ : zGB T Mz) (p1_ : 0 ≤ ze Mz 81 18) (p2_ : ze Mz 81 18 ≤ 8) : zC l m_M_named 0 0 [.ref 81, .int (Int32.ofInt a0_), .int (Int32.ofInt a1_)] Mz (zpJ [] [] Mz (fun v N => True)) := by
  refine zC_of (L0 := [some (.ref 81), some (.int (Int32.ofInt a0_)), some (.int (Int32.ofInt a1_))]) md_M_named (Nat.le_of_ble_eq_true rfl) rfl ?_ zQ0
  have hf : zFr [] [] Mz Mz := zFr.rf
  have r_18 := ze_r Mz 81 18
  have r_26 := ze_r Mz 81 26
  have hG := hO.1
  have g24 := hG.2.1
  have g1 := hG.1
  have dv0 : zTab T Mz := p0_.1
  have dv1 : zB 85 144 0 5 Mz := p0_.2.1
  have dv2 : zJX T Mz := p0_.2.2.1
  have dv3 : zFirs T Mz := p0_.2.2.2.1
  have dv4 : zSSm T Mz := p0_.2.2.2.2.1
  have dv5 : zGD Mz := zGB.d hO p0_
  have gb := dv5.1
  have gn := dv0.1
  refine zw_iload_n (pc := 0) (n := 1) (x := Int32.ofInt a0_) rfl (zdal_p dlD_M_named_91 (i := 0) rfl) ?_
  refine zr_i2l (pc := 1) ⟨ha0_a, ha0_b⟩ (zdal_p dlD_M_named_91 (i := 1) rfl) ?_
  refine zw_lconst (pc := 2) (v := Int64.ofInt 0) (by decide) (zdal_p dlD_M_named_91 (i := 2) rfl) ?_
  refine zw_aload_n (pc := 3) (n := 0) (x := 81) rfl (zdal_p dlD_M_named_91 (i := 3) rfl) ?_
  refine zr_getI0 hf hW (pc := 4) (by decide) f_M_388 rfl (zdal_p dlD_M_named_91 (i := 4) rfl) ?_
  refine zw_iconst (pc := 7) (v := Int32.ofInt 1) (by decide) (zdal_p dlD_M_named_91 (i := 5) rfl) ?_
  refine zr_isub (pc := 8) (zdal_p dlD_M_named_91 (i := 6) rfl) ?_
  refine zr_i2l (pc := 9) ⟨(by (exact zo_600 p1_)), (by (exact zo_826 p2_))⟩ (zdal_p dlD_M_named_91 (i := 7) rfl) ?_
  refine zr_callS hf.x (pc := 10) [.long (Int64.ofInt a0_), .long (Int64.ofInt 0), .long (Int64.ofInt ((ze Mz 81 18) - 1))] [] l_M_131 (c_M_isIn l Mz (hf.w hW) a0_ (by (exact zo_282 ha0_a)) (by (exact zo_283 ha0_b)) 0 (by decide) (by decide) ((ze Mz 81 18) - 1) (by (exact zo_827 p1_)) (by (exact zo_828 p2_))) rfl rfl (by decide) (Nat.le_of_ble_eq_true rfl) (zdal_p dlD_M_named_91 (i := 8) rfl) ?_
  rintro _ N1_ ⟨v2_, rfl, ⟨hv2_a, hv2_b⟩, hsN1_, hp0_N1_⟩
  obtain rfl := hsN1_.eq.symm
  replace hp0_N1_ : ((v2_ = 1 ∧ 0 ≤ a0_ ∧ a0_ ≤ ((ze Mz 81 18) - 1)) ∨ (v2_ = 0 ∧ (a0_ < 0 ∨ ((ze Mz 81 18) - 1) < a0_))) := hp0_N1_
  rcases hp0_N1_ with ⟨rfl, ha10_0_hp0_N1_, ha10_1_hp0_N1_⟩ | ⟨rfl, ha10_0_hp0_N1_⟩
  · skip
    show zW l m_M_named (zn Mz + 0, zw Mz + 0) Mz 13 [some (.ref 81), some (.int (Int32.ofInt a0_)), some (.int (Int32.ofInt a1_))] [.int (Int32.ofInt 1)] (zpJ [] [] Mz (fun v N => True))
    refine zr_if_eq (pc := 13) (tgt := 38) ⟨(by decide), (by decide)⟩ (by decide) (zdal_p dlD_M_named_91 (i := 9) rfl) (fun hc_13 => ?_) (fun hc_13 => ?_)
    · skip
      exact absurd hc_13 (by decide)
    · skip
      refine zw_aload_n (pc := 16) (n := 0) (x := 81) rfl (zdal_p dlD_M_named_91 (i := 10) rfl) ?_
      refine zw_iload_n (pc := 17) (n := 2) (x := Int32.ofInt a1_) rfl (zdal_p dlD_M_named_91 (i := 11) rfl) ?_
      refine zr_callV (hf.w hW) hf.x (pc := 18) [.int (Int32.ofInt a1_)] [] l_M_414 (c_M_isSort l Mz (hf.w hW) a1_ ha1_a ha1_b T hO p0_) rfl rfl rfl (by decide) (Nat.le_of_ble_eq_true rfl) (zdal_p dlD_M_named_91 (i := 12) rfl) ?_
      rintro _ N3_ ⟨v4_, rfl, ⟨hv4_a, hv4_b⟩, hsN3_, hp0_N3_⟩
      obtain rfl := hsN3_.eq.symm
      replace hp0_N3_ : ((v4_ = 1 ∧ 0 ≤ a1_ ∧ a1_ < ze Mz 81 26) ∨ (v4_ = 0)) := hp0_N3_
      rcases hp0_N3_ with ⟨rfl, ha18_0_hp0_N3_, ha18_1_hp0_N3_⟩ | rfl
      · skip
        show zW l m_M_named (zn Mz + 0, zw Mz + 0) Mz 21 [some (.ref 81), some (.int (Int32.ofInt a0_)), some (.int (Int32.ofInt a1_))] [.int (Int32.ofInt 1)] (zpJ [] [] Mz (fun v N => True))
        refine zr_if_eq (pc := 21) (tgt := 38) ⟨(by decide), (by decide)⟩ (by decide) (zdal_p dlD_M_named_91 (i := 13) rfl) (fun hc_21 => ?_) (fun hc_21 => ?_)
        · skip
          exact absurd hc_21 (by decide)
        · skip
          refine zw_aload_n (pc := 24) (n := 0) (x := 81) rfl (zdal_p dlD_M_named_91 (i := 14) rfl) ?_
          refine zr_getF (r := 104) (hf.w hW) (pc := 25) f_M_84 rfl (zh_104 (hf.w hW)).1 (zdal_p dlD_M_named_91 (i := 15) rfl) ?_
          refine zw_bipush (pc := 28) (v := Int32.ofInt 64) (by decide) (zdal_p dlD_M_named_91 (i := 16) rfl) ?_
          refine zw_iload_n (pc := 30) (n := 1) (x := Int32.ofInt a0_) rfl (zdal_p dlD_M_named_91 (i := 17) rfl) ?_
          refine zr_imul (pc := 31) (zdal_p dlD_M_named_91 (i := 18) rfl) ?_
          refine zw_iload_n (pc := 32) (n := 2) (x := Int32.ofInt a1_) rfl (zdal_p dlD_M_named_91 (i := 19) rfl) ?_
          refine zr_iadd (pc := 33) (zdal_p dlD_M_named_91 (i := 20) rfl) ?_
          refine zr_laldn (pc := 34) (zh_104 (hf.w hW)).2 (by decide) (by (exact zo_529 ha10_0_hp0_N1_ ha18_0_hp0_N3_)) (by omega) (zdal_p dlD_M_named_91 (i := 21) rfl) (fun v5_ hv5_ hv5_a hv5_b => ?_)
          refine zw_goto (pc := 35) (tgt := 41) (by decide) (zdal_p dlD_M_named_91 (i := 22) rfl) ?_
          exact zr_lret (pc := 41) rfl ⟨by (exact hv5_a), by (exact hv5_b)⟩ hf trivial (zdal_p dlD_M_named_92 (i := 0) rfl)
      · skip
        show zW l m_M_named (zn Mz + 0, zw Mz + 0) Mz 21 [some (.ref 81), some (.int (Int32.ofInt a0_)), some (.int (Int32.ofInt a1_))] [.int (Int32.ofInt 0)] (zpJ [] [] Mz (fun v N => True))
        refine zr_if_eq (pc := 21) (tgt := 38) ⟨(by decide), (by decide)⟩ (by decide) (zdal_p dlD_M_named_91 (i := 13) rfl) (fun hc_21 => ?_) (fun hc_21 => ?_)
        · skip
          refine zr_ldc2 (pc := 38) (n := (-9223372036854775808)) (by decide) k_M_470 (zdal_p dlD_M_named_91 (i := 23) rfl) ?_
          exact zr_lret (pc := 41) rfl ⟨by (decide), by (decide)⟩ hf trivial (zdal_p dlD_M_named_92 (i := 0) rfl)
        · skip
          exact absurd hc_21 (by decide)
  · skip
    show zW l m_M_named (zn Mz + 0, zw Mz + 0) Mz 13 [some (.ref 81), some (.int (Int32.ofInt a0_)), some (.int (Int32.ofInt a1_))] [.int (Int32.ofInt 0)] (zpJ [] [] Mz (fun v N => True))
    refine zr_if_eq (pc := 13) (tgt := 38) ⟨(by decide), (by decide)⟩ (by decide) (zdal_p dlD_M_named_91 (i := 9) rfl) (fun hc_13 => ?_) (fun hc_13 => ?_)
    · skip
      refine zr_ldc2 (pc := 38) (n := (-9223372036854775808)) (by decide) k_M_470 (zdal_p dlD_M_named_91 (i := 23) rfl) ?_
      exact zr_lret (pc := 41) rfl ⟨by (decide), by (decide)⟩ hf trivial (zdal_p dlD_M_named_92 (i := 0) rfl)
    · skip
      exact absurd hc_13 (by decide)
set_option maxHeartbeats 4000000 in
theorem c_M_markAt_98 (l : Launch) (Mz : zMem) (hW : zMt Mz) (a1_ : Int) (ha1_a : -2147483648 ≤ a1_) (ha1_b : a1_ < 2147483648) (a2_ : Int) (ha2_a : -2147483648 ≤ a2_) (ha2_b : a2_ < 2147483648) (p0_ : zGD Mz) (p1_ : 0 ≤ a1_) (p2_ : a1_ ≤ 0) (p3_ : 0 ≤ a2_) (p4_ : a2_ ≤ 63) : zC l m_M_markAt 0 0 [.ref 81, .ref 98, .int (Int32.ofInt a1_), .int (Int32.ofInt a2_)] Mz (zpJ [] [] Mz (fun v N => True)) := by
  refine zC_of (L0 := [some (.ref 81), some (.ref 98), some (.int (Int32.ofInt a1_)), some (.int (Int32.ofInt a2_)), none, none, none]) md_M_markAt (Nat.le_of_ble_eq_true rfl) rfl ?_ zQ0
  have hf : zFr [] [] Mz Mz := zFr.rf
  have r_26 := ze_r Mz 81 26
  have gb := p0_.1
  refine zw_lconst (pc := 0) (v := Int64.ofInt 0) (by decide) (zdal_p dlC_M_markAt_114 (i := 0) rfl) ?_
  refine zw_lstore (pc := 1) (i := 4) (L2 := [some (.ref 81), some (.ref 98), some (.int (Int32.ofInt a1_)), some (.int (Int32.ofInt a2_)), some (.long (Int64.ofInt 0)), none, none]) (by decide) rfl (zdal_p dlC_M_markAt_114 (i := 1) rfl) ?_
  refine zw_iconst (pc := 3) (v := Int32.ofInt 0) (by decide) (zdal_p dlC_M_markAt_114 (i := 2) rfl) ?_
  refine zw_istore (pc := 4) (i := 6) (L2 := [some (.ref 81), some (.ref 98), some (.int (Int32.ofInt a1_)), some (.int (Int32.ofInt a2_)), some (.long (Int64.ofInt 0)), none, some (.int (Int32.ofInt 0))]) (by decide) rfl (zdal_p dlC_M_markAt_114 (i := 3) rfl) ?_
  have lp_6 : ∀ (n : Nat) (u1_ : Int) (hu1_a : -9223372036854775808 ≤ u1_) (hu1_b : u1_ < 9223372036854775808) (u2_ : Int) (hu2_a : -2147483648 ≤ u2_) (hu2_b : u2_ < 2147483648) (i3_ : 0 ≤ u2_), (ze Mz 81 26 - u2_).toNat < n → zW l m_M_markAt (zn Mz + 0, zw Mz + 0) Mz 6 [some (.ref 81), some (.ref 98), some (.int (Int32.ofInt a1_)), some (.int (Int32.ofInt a2_)), some (.long (Int64.ofInt u1_)), none, some (.int (Int32.ofInt u2_))] [] (zpJ [] [] Mz (fun v N => True)) := by
    intro n
    induction n with
    | zero =>
      intro u1_ hu1_a hu1_b u2_ hu2_a hu2_b i3_ h0
      exact absurd h0 (Nat.not_lt_zero _)
    | succ n ih_6 =>
      intro u1_ hu1_a hu1_b u2_ hu2_a hu2_b i3_ hlt_6
      refine zw_iload (pc := 6) (i := 6) (x := Int32.ofInt u2_) rfl (zdal_p dlC_M_markAt_114 (i := 4) rfl) ?_
      refine zw_aload_n (pc := 8) (n := 0) (x := 81) rfl (zdal_p dlC_M_markAt_114 (i := 5) rfl) ?_
      refine zr_getI0 hf hW (pc := 9) (by decide) f_M_235 rfl (zdal_p dlC_M_markAt_114 (i := 6) rfl) ?_
      refine zr_icmp_ge (pc := 12) (tgt := 46) ⟨hu2_a, hu2_b⟩ ⟨(ze_r Mz 81 26).1, (ze_r Mz 81 26).2⟩ (by decide) (zdal_p dlC_M_markAt_114 (i := 7) rfl) (fun hc_12 => ?_) (fun hc_12 => ?_)
      · skip
        refine zw_lload (pc := 46) (i := 4) (x := Int64.ofInt u1_) rfl (zdal_p dlC_M_markAt_115 (i := 4) rfl) ?_
        exact zr_lret (pc := 48) rfl ⟨by (exact hu1_a), by (exact hu1_b)⟩ hf trivial (zdal_p dlC_M_markAt_115 (i := 5) rfl)
      · skip
        refine zw_lload (pc := 15) (i := 4) (x := Int64.ofInt u1_) rfl (zdal_p dlC_M_markAt_114 (i := 8) rfl) ?_
        refine zw_aload_n (pc := 17) (n := 1) (x := 98) rfl (zdal_p dlC_M_markAt_114 (i := 9) rfl) ?_
        refine zw_iload_n (pc := 18) (n := 2) (x := Int32.ofInt a1_) rfl (zdal_p dlC_M_markAt_114 (i := 10) rfl) ?_
        refine zw_iload (pc := 19) (i := 6) (x := Int32.ofInt u2_) rfl (zdal_p dlC_M_markAt_114 (i := 11) rfl) ?_
        refine zr_iadd (pc := 21) (zdal_p dlC_M_markAt_114 (i := 12) rfl) ?_
        refine zr_laldn (pc := 22) (zh_98 (hf.w hW)).2 (by decide) (by (exact zo_833 i3_ p1_)) (by (exact zo_834 gb.2.2.2.2.2 hc_12 p2_)) (zdal_p dlC_M_markAt_114 (i := 13) rfl) (fun v4_ hv4_ hv4_a hv4_b => ?_)
        refine zw_aload_n (pc := 23) (n := 0) (x := 81) rfl (zdal_p dlC_M_markAt_114 (i := 14) rfl) ?_
        refine zr_getF (r := 93) (hf.w hW) (pc := 24) f_M_50 rfl (zh_93 (hf.w hW)).1 (zdal_p dlC_M_markAt_114 (i := 15) rfl) ?_
        refine zw_bipush (pc := 27) (v := Int32.ofInt 64) (by decide) (zdal_p dlC_M_markAt_114 (i := 16) rfl) ?_
        refine zw_iload (pc := 29) (i := 6) (x := Int32.ofInt u2_) rfl (zdal_p dlC_M_markAt_114 (i := 17) rfl) ?_
        refine zr_imul (pc := 31) (zdal_p dlC_M_markAt_114 (i := 18) rfl) ?_
        refine zw_iload_n (pc := 32) (n := 3) (x := Int32.ofInt a2_) rfl (zdal_p dlC_M_markAt_114 (i := 19) rfl) ?_
        refine zr_iadd (pc := 33) (zdal_p dlC_M_markAt_114 (i := 20) rfl) ?_
        refine zr_ialdn (pc := 34) (zh_93 (hf.w hW)).2 (by decide) (by (exact zo_529 i3_ p3_)) (by (exact zo_835 gb.2.2.2.2.2 hc_12 p4_)) (zdal_p dlC_M_markAt_114 (i := 21) rfl) (fun v5_ hv5_ hv5_a hv5_b => ?_)
        refine zr_i2l (pc := 35) ⟨hv5_a, hv5_b⟩ (zdal_p dlC_M_markAt_114 (i := 22) rfl) ?_
        refine zr_lmul (pc := 36) (zdal_p dlC_M_markAt_114 (i := 23) rfl) ?_
        refine zr_ladd (pc := 37) (zdal_p dlC_M_markAt_115 (i := 0) rfl) ?_
        refine zr_nmJ (fun v6_ hv6_ => ?_)
        obtain ⟨hv6_a, hv6_b⟩ := hv6_
        refine zw_lstore (pc := 38) (i := 4) (L2 := [some (.ref 81), some (.ref 98), some (.int (Int32.ofInt a1_)), some (.int (Int32.ofInt a2_)), some (.long (Int64.ofInt v6_)), none, some (.int (Int32.ofInt u2_))]) (by decide) rfl (zdal_p dlC_M_markAt_115 (i := 1) rfl) ?_
        refine zr_iinc (pc := 40) (i := 6) (a := u2_) (n := 1) (L2 := [some (.ref 81), some (.ref 98), some (.int (Int32.ofInt a1_)), some (.int (Int32.ofInt a2_)), some (.long (Int64.ofInt v6_)), none, some (.int (Int32.ofInt (u2_ + 1)))]) rfl (by decide) rfl (zdal_p dlC_M_markAt_115 (i := 2) rfl) ?_
        refine zw_goto (pc := 43) (tgt := 6) (by decide) (zdal_p dlC_M_markAt_115 (i := 3) rfl) ?_
        exact ih_6 v6_ hv6_a hv6_b (u2_ + 1) (by (exact zo_74 i3_)) (by (exact zo_832 gb.2.2.2.2.2 hc_12)) (show 0 ≤ (u2_ + 1) by first | assumption | (exact zo_76 i3_)) (by (exact zo_147 hc_12 hlt_6))
  exact lp_6 _ 0 (by decide) (by decide) 0 (by decide) (by decide) (show 0 ≤ (0 : Int) by first | assumption | (decide)) (Nat.lt_succ_self _)
set_option maxHeartbeats 4000000 in
theorem c_M_has (l : Launch) (Mz : zMem) (hW : zMt Mz) (a0_ : Int) (ha0_a : -2147483648 ≤ a0_) (ha0_b : a0_ < 2147483648) (T : zGT) (hO : gOK T) (p0_ : zGB T Mz) : zC l m_M_has 0 0 [.ref 81, .int (Int32.ofInt a0_)] Mz (zpJ [] [] Mz (fun v N => True)) := by
  refine zC_of (L0 := [some (.ref 81), some (.int (Int32.ofInt a0_))]) md_M_has (Nat.le_of_ble_eq_true rfl) rfl ?_ zQ0
  have hf : zFr [] [] Mz Mz := zFr.rf
  have r_26 := ze_r Mz 81 26
  have hG := hO.1
  have g24 := hG.2.1
  have g1 := hG.1
  have dv0 : zTab T Mz := p0_.1
  have dv1 : zB 85 144 0 5 Mz := p0_.2.1
  have dv2 : zJX T Mz := p0_.2.2.1
  have dv3 : zFirs T Mz := p0_.2.2.2.1
  have dv4 : zSSm T Mz := p0_.2.2.2.2.1
  have dv5 : zGD Mz := zGB.d hO p0_
  have gb := dv5.1
  have gn := dv0.1
  refine zw_aload_n (pc := 0) (n := 0) (x := 81) rfl (zdal_p dlD_M_has_93 (i := 0) rfl) ?_
  refine zw_iload_n (pc := 1) (n := 1) (x := Int32.ofInt a0_) rfl (zdal_p dlD_M_has_93 (i := 1) rfl) ?_
  refine zr_callV (hf.w hW) hf.x (pc := 2) [.int (Int32.ofInt a0_)] [] l_M_414 (c_M_isSort l Mz (hf.w hW) a0_ ha0_a ha0_b T hO p0_) rfl rfl rfl (by decide) (Nat.le_of_ble_eq_true rfl) (zdal_p dlD_M_has_93 (i := 2) rfl) ?_
  rintro _ N1_ ⟨v2_, rfl, ⟨hv2_a, hv2_b⟩, hsN1_, hp0_N1_⟩
  obtain rfl := hsN1_.eq.symm
  replace hp0_N1_ : ((v2_ = 1 ∧ 0 ≤ a0_ ∧ a0_ < ze Mz 81 26) ∨ (v2_ = 0)) := hp0_N1_
  rcases hp0_N1_ with ⟨rfl, ha2_0_hp0_N1_, ha2_1_hp0_N1_⟩ | rfl
  · skip
    show zW l m_M_has (zn Mz + 0, zw Mz + 0) Mz 5 [some (.ref 81), some (.int (Int32.ofInt a0_))] [.int (Int32.ofInt 1)] (zpJ [] [] Mz (fun v N => True))
    refine zr_if_eq (pc := 5) (tgt := 17) ⟨(by decide), (by decide)⟩ (by decide) (zdal_p dlD_M_has_93 (i := 3) rfl) (fun hc_5 => ?_) (fun hc_5 => ?_)
    · skip
      exact absurd hc_5 (by decide)
    · skip
      refine zw_aload_n (pc := 8) (n := 0) (x := 81) rfl (zdal_p dlD_M_has_93 (i := 4) rfl) ?_
      refine zr_getF (r := 98) (hf.w hW) (pc := 9) f_M_66 rfl (zh_98 (hf.w hW)).1 (zdal_p dlD_M_has_93 (i := 5) rfl) ?_
      refine zw_iload_n (pc := 12) (n := 1) (x := Int32.ofInt a0_) rfl (zdal_p dlD_M_has_93 (i := 6) rfl) ?_
      refine zr_laldn (pc := 13) (zh_98 (hf.w hW)).2 (by decide) (by (exact ha2_0_hp0_N1_)) (by (exact zo_906 gb.2.2.2.2.2 ha0_b ha2_1_hp0_N1_)) (zdal_p dlD_M_has_93 (i := 7) rfl) (fun v3_ hv3_ hv3_a hv3_b => ?_)
      refine zw_goto (pc := 14) (tgt := 20) (by decide) (zdal_p dlD_M_has_93 (i := 8) rfl) ?_
      exact zr_lret (pc := 20) rfl ⟨by (exact hv3_a), by (exact hv3_b)⟩ hf trivial (zdal_p dlD_M_has_93 (i := 10) rfl)
  · skip
    show zW l m_M_has (zn Mz + 0, zw Mz + 0) Mz 5 [some (.ref 81), some (.int (Int32.ofInt a0_))] [.int (Int32.ofInt 0)] (zpJ [] [] Mz (fun v N => True))
    refine zr_if_eq (pc := 5) (tgt := 17) ⟨(by decide), (by decide)⟩ (by decide) (zdal_p dlD_M_has_93 (i := 3) rfl) (fun hc_5 => ?_) (fun hc_5 => ?_)
    · skip
      refine zr_ldc2 (pc := 17) (n := (-9223372036854775808)) (by decide) k_M_470 (zdal_p dlD_M_has_93 (i := 9) rfl) ?_
      exact zr_lret (pc := 20) rfl ⟨by (decide), by (decide)⟩ hf trivial (zdal_p dlD_M_has_93 (i := 10) rfl)
    · skip
      exact absurd hc_5 (by decide)
set_option maxHeartbeats 4000000 in
theorem c_M_marked (l : Launch) (Mz : zMem) (hW : zMt Mz) (a0_ : Int) (ha0_a : -2147483648 ≤ a0_) (ha0_b : a0_ < 2147483648) (T : zGT) (hO : gOK T) (p0_ : zGB T Mz) : zC l m_M_marked 0 0 [.ref 81, .int (Int32.ofInt a0_)] Mz (zpJ [] [] Mz (fun v N => True)) := by
  refine zC_of (L0 := [some (.ref 81), some (.int (Int32.ofInt a0_))]) md_M_marked (Nat.le_of_ble_eq_true rfl) rfl ?_ zQ0
  have hf : zFr [] [] Mz Mz := zFr.rf
  have r_26 := ze_r Mz 81 26
  have hG := hO.1
  have g24 := hG.2.1
  have g1 := hG.1
  have dv0 : zTab T Mz := p0_.1
  have dv1 : zB 85 144 0 5 Mz := p0_.2.1
  have dv2 : zJX T Mz := p0_.2.2.1
  have dv3 : zFirs T Mz := p0_.2.2.2.1
  have dv4 : zSSm T Mz := p0_.2.2.2.2.1
  have dv5 : zGD Mz := zGB.d hO p0_
  have gb := dv5.1
  have gn := dv0.1
  refine zw_aload_n (pc := 0) (n := 0) (x := 81) rfl (zdal_p dlD_M_marked_94 (i := 0) rfl) ?_
  refine zw_iload_n (pc := 1) (n := 1) (x := Int32.ofInt a0_) rfl (zdal_p dlD_M_marked_94 (i := 1) rfl) ?_
  refine zr_callV (hf.w hW) hf.x (pc := 2) [.int (Int32.ofInt a0_)] [] l_M_414 (c_M_isSort l Mz (hf.w hW) a0_ ha0_a ha0_b T hO p0_) rfl rfl rfl (by decide) (Nat.le_of_ble_eq_true rfl) (zdal_p dlD_M_marked_94 (i := 2) rfl) ?_
  rintro _ N1_ ⟨v2_, rfl, ⟨hv2_a, hv2_b⟩, hsN1_, hp0_N1_⟩
  obtain rfl := hsN1_.eq.symm
  replace hp0_N1_ : ((v2_ = 1 ∧ 0 ≤ a0_ ∧ a0_ < ze Mz 81 26) ∨ (v2_ = 0)) := hp0_N1_
  rcases hp0_N1_ with ⟨rfl, ha2_0_hp0_N1_, ha2_1_hp0_N1_⟩ | rfl
  · skip
    show zW l m_M_marked (zn Mz + 0, zw Mz + 0) Mz 5 [some (.ref 81), some (.int (Int32.ofInt a0_))] [.int (Int32.ofInt 1)] (zpJ [] [] Mz (fun v N => True))
    refine zr_if_eq (pc := 5) (tgt := 21) ⟨(by decide), (by decide)⟩ (by decide) (zdal_p dlD_M_marked_94 (i := 3) rfl) (fun hc_5 => ?_) (fun hc_5 => ?_)
    · skip
      exact absurd hc_5 (by decide)
    · skip
      refine zw_aload_n (pc := 8) (n := 0) (x := 81) rfl (zdal_p dlD_M_marked_94 (i := 4) rfl) ?_
      refine zw_aload_n (pc := 9) (n := 0) (x := 81) rfl (zdal_p dlD_M_marked_94 (i := 5) rfl) ?_
      refine zr_getF (r := 98) (hf.w hW) (pc := 10) f_M_66 rfl (zh_98 (hf.w hW)).1 (zdal_p dlD_M_marked_94 (i := 6) rfl) ?_
      refine zw_iconst (pc := 13) (v := Int32.ofInt 0) (by decide) (zdal_p dlD_M_marked_94 (i := 7) rfl) ?_
      refine zw_iload_n (pc := 14) (n := 1) (x := Int32.ofInt a0_) rfl (zdal_p dlD_M_marked_94 (i := 8) rfl) ?_
      refine zr_callV (hf.w hW) hf.x (pc := 15) [.ref 98, .int (Int32.ofInt 0), .int (Int32.ofInt a0_)] [] l_M_264 (c_M_markAt_98 l Mz (hf.w hW) 0 (by decide) (by decide) a0_ ha0_a ha0_b dv5 (show 0 ≤ 0 by first | assumption | (decide)) (show 0 ≤ 0 by first | assumption | (decide)) (show 0 ≤ a0_ by first | assumption | omega) (show a0_ ≤ 63 by first | assumption | omega)) rfl rfl rfl (by decide) (Nat.le_of_ble_eq_true rfl) (zdal_p dlD_M_marked_94 (i := 9) rfl) ?_
      rintro _ N3_ ⟨v4_, rfl, ⟨hv4_a, hv4_b⟩, hsN3_, -⟩
      obtain rfl := hsN3_.eq.symm
      show zW l m_M_marked (zn Mz + 0, zw Mz + 0) Mz 18 [some (.ref 81), some (.int (Int32.ofInt a0_))] [.long (Int64.ofInt v4_)] (zpJ [] [] Mz (fun v N => True))
      refine zw_goto (pc := 18) (tgt := 24) (by decide) (zdal_p dlD_M_marked_94 (i := 10) rfl) ?_
      exact zr_lret (pc := 24) rfl ⟨by (exact hv4_a), by (exact hv4_b)⟩ hf trivial (zdal_p dlD_M_marked_94 (i := 12) rfl)
  · skip
    show zW l m_M_marked (zn Mz + 0, zw Mz + 0) Mz 5 [some (.ref 81), some (.int (Int32.ofInt a0_))] [.int (Int32.ofInt 0)] (zpJ [] [] Mz (fun v N => True))
    refine zr_if_eq (pc := 5) (tgt := 21) ⟨(by decide), (by decide)⟩ (by decide) (zdal_p dlD_M_marked_94 (i := 3) rfl) (fun hc_5 => ?_) (fun hc_5 => ?_)
    · skip
      refine zr_ldc2 (pc := 21) (n := (-9223372036854775808)) (by decide) k_M_470 (zdal_p dlD_M_marked_94 (i := 11) rfl) ?_
      exact zr_lret (pc := 24) rfl ⟨by (decide), by (decide)⟩ hf trivial (zdal_p dlD_M_marked_94 (i := 12) rfl)
    · skip
      exact absurd hc_5 (by decide)
set_option maxHeartbeats 4000000 in
theorem c_M_character (l : Launch) (Mz : zMem) (hW : zMt Mz) (a0_ : Int) (ha0_a : -2147483648 ≤ a0_) (ha0_b : a0_ < 2147483648) (T : zGT) (hO : gOK T) (p0_ : zGB T Mz) : zC l m_M_character 0 0 [.ref 81, .int (Int32.ofInt a0_)] Mz (zpJ [] [] Mz (fun v N => True)) := by
  refine zC_of (L0 := [some (.ref 81), some (.int (Int32.ofInt a0_))]) md_M_character (Nat.le_of_ble_eq_true rfl) rfl ?_ zQ0
  have hf : zFr [] [] Mz Mz := zFr.rf
  have r_20 := ze_r Mz 81 20
  have r_26 := ze_r Mz 81 26
  have hG := hO.1
  have g24 := hG.2.1
  have g1 := hG.1
  have dv0 : zTab T Mz := p0_.1
  have dv1 : zB 85 144 0 5 Mz := p0_.2.1
  have dv2 : zJX T Mz := p0_.2.2.1
  have dv3 : zFirs T Mz := p0_.2.2.2.1
  have dv4 : zSSm T Mz := p0_.2.2.2.2.1
  have dv5 : zGD Mz := zGB.d hO p0_
  have gb := dv5.1
  have gn := dv0.1
  refine zw_aload_n (pc := 0) (n := 0) (x := 81) rfl (zdal_p dlD_M_character_95 (i := 0) rfl) ?_
  refine zw_iload_n (pc := 1) (n := 1) (x := Int32.ofInt a0_) rfl (zdal_p dlD_M_character_95 (i := 1) rfl) ?_
  refine zr_callV (hf.w hW) hf.x (pc := 2) [.int (Int32.ofInt a0_)] [] l_M_400 (c_M_isMember l Mz (hf.w hW) a0_ ha0_a ha0_b T hO p0_) rfl rfl rfl (by decide) (Nat.le_of_ble_eq_true rfl) (zdal_p dlD_M_character_95 (i := 2) rfl) ?_
  rintro _ N1_ ⟨v2_, rfl, ⟨hv2_a, hv2_b⟩, hsN1_, hp0_N1_⟩
  obtain rfl := hsN1_.eq.symm
  replace hp0_N1_ : ((v2_ = 1 ∧ 0 ≤ a0_ ∧ a0_ < ze Mz 81 20) ∨ (v2_ = 0)) := hp0_N1_
  rcases hp0_N1_ with ⟨rfl, ha2_0_hp0_N1_, ha2_1_hp0_N1_⟩ | rfl
  · skip
    show zW l m_M_character (zn Mz + 0, zw Mz + 0) Mz 5 [some (.ref 81), some (.int (Int32.ofInt a0_))] [.int (Int32.ofInt 1)] (zpJ [] [] Mz (fun v N => True))
    refine zr_if_eq (pc := 5) (tgt := 31) ⟨(by decide), (by decide)⟩ (by decide) (zdal_p dlD_M_character_95 (i := 3) rfl) (fun hc_5 => ?_) (fun hc_5 => ?_)
    · skip
      exact absurd hc_5 (by decide)
    · skip
      refine zw_aload_n (pc := 8) (n := 0) (x := 81) rfl (zdal_p dlD_M_character_95 (i := 4) rfl) ?_
      refine zw_aload_n (pc := 9) (n := 0) (x := 81) rfl (zdal_p dlD_M_character_95 (i := 5) rfl) ?_
      refine zr_getF (r := 98) (hf.w hW) (pc := 10) f_M_66 rfl (zh_98 (hf.w hW)).1 (zdal_p dlD_M_character_95 (i := 6) rfl) ?_
      refine zw_iconst (pc := 13) (v := Int32.ofInt 0) (by decide) (zdal_p dlD_M_character_95 (i := 7) rfl) ?_
      refine zw_aload_n (pc := 14) (n := 0) (x := 81) rfl (zdal_p dlD_M_character_95 (i := 8) rfl) ?_
      refine zw_aload_n (pc := 15) (n := 0) (x := 81) rfl (zdal_p dlD_M_character_95 (i := 9) rfl) ?_
      refine zw_iconst (pc := 16) (v := Int32.ofInt 1) (by decide) (zdal_p dlD_M_character_95 (i := 10) rfl) ?_
      refine zw_iload_n (pc := 17) (n := 1) (x := Int32.ofInt a0_) rfl (zdal_p dlD_M_character_95 (i := 11) rfl) ?_
      refine zr_ishl (pc := 18) (zdal_p dlD_M_character_95 (i := 12) rfl) ?_
      have hr3_ := zshl_r 1 a0_
      have hsi := zshl_i hG (k := a0_) (by (exact ha2_0_hp0_N1_)) (by (exact zo_928 gb.2.1 gn ha2_1_hp0_N1_))
      refine zr_callV (hf.w hW) hf.x (pc := 19) [.int (Int32.ofInt (zshl 1 a0_))] [.ref 81, .int (Int32.ofInt 0), .ref 98, .ref 81] l_M_229 (c_M_closed l Mz (hf.w hW) (zshl 1 a0_) (by (exact zo_168 hsi.2.1)) (by (exact zo_285 hr3_.2)) T hG dv0 (show gIn T (zshl 1 a0_) by exact hsi.1)) rfl rfl rfl (by decide) (Nat.le_of_ble_eq_true rfl) (zdal_p dlD_M_character_95 (i := 13) rfl) ?_
      rintro _ N4_ ⟨v5_, rfl, ⟨hv5_a, hv5_b⟩, hsN4_, ⟨hp0_N4_, hp1_N4_, hp2_N4_⟩⟩
      obtain rfl := hsN4_.eq.symm
      show zW l m_M_character (zn Mz + 0, zw Mz + 0) Mz 22 [some (.ref 81), some (.int (Int32.ofInt a0_))] [.int (Int32.ofInt v5_), .ref 81, .int (Int32.ofInt 0), .ref 98, .ref 81] (zpJ [] [] Mz (fun v N => True))
      have hm_Mz := gMe_c hO hp0_N4_ (by (exact hp1_N4_))
      refine zr_callV (hf.w hW) hf.x (pc := 22) [.int (Int32.ofInt v5_)] [.int (Int32.ofInt 0), .ref 98, .ref 81] l_M_411 (c_M_sortOfSet l Mz (hf.w hW) v5_ hv5_a hv5_b T hO p0_ (show gMe T v5_ by assumption)) rfl rfl rfl (by decide) (Nat.le_of_ble_eq_true rfl) (zdal_p dlD_M_character_95 (i := 14) rfl) ?_
      rintro _ N6_ ⟨v7_, rfl, ⟨hv7_a, hv7_b⟩, hsN6_, ⟨hp0_N6_, hp1_N6_⟩⟩
      obtain rfl := hsN6_.eq.symm
      show zW l m_M_character (zn Mz + 0, zw Mz + 0) Mz 25 [some (.ref 81), some (.int (Int32.ofInt a0_))] [.int (Int32.ofInt v7_), .int (Int32.ofInt 0), .ref 98, .ref 81] (zpJ [] [] Mz (fun v N => True))
      refine zr_callV (hf.w hW) hf.x (pc := 25) [.ref 98, .int (Int32.ofInt 0), .int (Int32.ofInt v7_)] [] l_M_264 (c_M_markAt_98 l Mz (hf.w hW) 0 (by decide) (by decide) v7_ hv7_a hv7_b dv5 (show 0 ≤ 0 by first | assumption | (decide)) (show 0 ≤ 0 by first | assumption | (decide)) (show 0 ≤ v7_ by first | assumption | omega) (show v7_ ≤ 63 by first | assumption | omega)) rfl rfl rfl (by decide) (Nat.le_of_ble_eq_true rfl) (zdal_p dlD_M_character_95 (i := 15) rfl) ?_
      rintro _ N8_ ⟨v9_, rfl, ⟨hv9_a, hv9_b⟩, hsN8_, -⟩
      obtain rfl := hsN8_.eq.symm
      show zW l m_M_character (zn Mz + 0, zw Mz + 0) Mz 28 [some (.ref 81), some (.int (Int32.ofInt a0_))] [.long (Int64.ofInt v9_)] (zpJ [] [] Mz (fun v N => True))
      refine zw_goto (pc := 28) (tgt := 34) (by decide) (zdal_p dlD_M_character_95 (i := 16) rfl) ?_
      exact zr_lret (pc := 34) rfl ⟨by (exact hv9_a), by (exact hv9_b)⟩ hf trivial (zdal_p dlD_M_character_95 (i := 18) rfl)
  · skip
    show zW l m_M_character (zn Mz + 0, zw Mz + 0) Mz 5 [some (.ref 81), some (.int (Int32.ofInt a0_))] [.int (Int32.ofInt 0)] (zpJ [] [] Mz (fun v N => True))
    refine zr_if_eq (pc := 5) (tgt := 31) ⟨(by decide), (by decide)⟩ (by decide) (zdal_p dlD_M_character_95 (i := 3) rfl) (fun hc_5 => ?_) (fun hc_5 => ?_)
    · skip
      refine zr_ldc2 (pc := 31) (n := (-9223372036854775808)) (by decide) k_M_470 (zdal_p dlD_M_character_95 (i := 17) rfl) ?_
      exact zr_lret (pc := 34) rfl ⟨by (decide), by (decide)⟩ hf trivial (zdal_p dlD_M_character_95 (i := 18) rfl)
    · skip
      exact absurd hc_5 (by decide)
set_option maxHeartbeats 4000000 in
theorem c_M_parts (l : Launch) (Mz : zMem) (hW : zMt Mz) (T : zGT) (hO : gOK T) (p0_ : zGB T Mz) : zC l m_M_parts 0 0 [.ref 81] Mz (zpI [] [] Mz (fun v N => True)) := by
  refine zC_of (L0 := [some (.ref 81), none, none]) md_M_parts (Nat.le_of_ble_eq_true rfl) rfl ?_ zQ0
  have hf : zFr [] [] Mz Mz := zFr.rf
  have r_26 := ze_r Mz 81 26
  have hG := hO.1
  have g24 := hG.2.1
  have g1 := hG.1
  have dv0 : zTab T Mz := p0_.1
  have dv1 : zB 85 144 0 5 Mz := p0_.2.1
  have dv2 : zJX T Mz := p0_.2.2.1
  have dv3 : zFirs T Mz := p0_.2.2.2.1
  have dv4 : zSSm T Mz := p0_.2.2.2.2.1
  have dv5 : zGD Mz := zGB.d hO p0_
  have gb := dv5.1
  have gn := dv0.1
  refine zw_iconst (pc := 0) (v := Int32.ofInt 0) (by decide) (zdal_p dlD_M_parts_96 (i := 0) rfl) ?_
  refine zw_istore_n (pc := 1) (i := 1) (L2 := [some (.ref 81), some (.int (Int32.ofInt 0)), none]) rfl (by decide) rfl (zdal_p dlD_M_parts_96 (i := 1) rfl) ?_
  refine zw_iconst (pc := 2) (v := Int32.ofInt 0) (by decide) (zdal_p dlD_M_parts_96 (i := 2) rfl) ?_
  refine zw_istore_n (pc := 3) (i := 2) (L2 := [some (.ref 81), some (.int (Int32.ofInt 0)), some (.int (Int32.ofInt 0))]) rfl (by decide) rfl (zdal_p dlD_M_parts_96 (i := 3) rfl) ?_
  have lp_4 : ∀ (n : Nat) (u1_ : Int) (hu1_a : -2147483648 ≤ u1_) (hu1_b : u1_ < 2147483648) (u2_ : Int) (hu2_a : -2147483648 ≤ u2_) (hu2_b : u2_ < 2147483648) (i3_ : 0 ≤ u2_), (ze Mz 81 26 - u2_).toNat < n → zW l m_M_parts (zn Mz + 0, zw Mz + 0) Mz 4 [some (.ref 81), some (.int (Int32.ofInt u1_)), some (.int (Int32.ofInt u2_))] [] (zpI [] [] Mz (fun v N => True)) := by
    intro n
    induction n with
    | zero =>
      intro u1_ hu1_a hu1_b u2_ hu2_a hu2_b i3_ h0
      exact absurd h0 (Nat.not_lt_zero _)
    | succ n ih_4 =>
      intro u1_ hu1_a hu1_b u2_ hu2_a hu2_b i3_ hlt_4
      refine zw_iload_n (pc := 4) (n := 2) (x := Int32.ofInt u2_) rfl (zdal_p dlD_M_parts_96 (i := 4) rfl) ?_
      refine zw_aload_n (pc := 5) (n := 0) (x := 81) rfl (zdal_p dlD_M_parts_96 (i := 5) rfl) ?_
      refine zr_getI0 hf hW (pc := 6) (by decide) f_M_235 rfl (zdal_p dlD_M_parts_96 (i := 6) rfl) ?_
      refine zr_icmp_ge (pc := 9) (tgt := 40) ⟨hu2_a, hu2_b⟩ ⟨(ze_r Mz 81 26).1, (ze_r Mz 81 26).2⟩ (by decide) (zdal_p dlD_M_parts_96 (i := 7) rfl) (fun hc_9 => ?_) (fun hc_9 => ?_)
      · skip
        refine zw_iload_n (pc := 40) (n := 1) (x := Int32.ofInt u1_) rfl (zdal_p dlD_M_parts_97 (i := 0) rfl) ?_
        exact zr_iret (pc := 41) (ty := .int) rfl rfl ⟨by (exact hu1_a), by (exact hu1_b)⟩ hf trivial (zdal_p dlD_M_parts_97 (i := 1) rfl)
      · skip
        refine zw_iload_n (pc := 12) (n := 1) (x := Int32.ofInt u1_) rfl (zdal_p dlD_M_parts_96 (i := 8) rfl) ?_
        refine zw_aload_n (pc := 13) (n := 0) (x := 81) rfl (zdal_p dlD_M_parts_96 (i := 9) rfl) ?_
        refine zr_getF (r := 98) (hf.w hW) (pc := 14) f_M_66 rfl (zh_98 (hf.w hW)).1 (zdal_p dlD_M_parts_96 (i := 10) rfl) ?_
        refine zw_iload_n (pc := 17) (n := 2) (x := Int32.ofInt u2_) rfl (zdal_p dlD_M_parts_96 (i := 11) rfl) ?_
        refine zr_laldn (pc := 18) (zh_98 (hf.w hW)).2 (by decide) (by (exact i3_)) (by (exact zo_831 gb.2.2.2.2.2 hc_9)) (zdal_p dlD_M_parts_96 (i := 12) rfl) (fun v4_ hv4_ hv4_a hv4_b => ?_)
        refine zw_lconst (pc := 19) (v := Int64.ofInt 0) (by decide) (zdal_p dlD_M_parts_96 (i := 13) rfl) ?_
        refine zr_lcmp (pc := 20) ⟨hv4_a, hv4_b⟩ ⟨(by decide), (by decide)⟩ (zdal_p dlD_M_parts_96 (i := 14) rfl) ?_
        have hr5_ := zcmp_s v4_ 0
        refine zr_if_eq (pc := 21) (tgt := 28) ⟨(by (exact zo_71 hr5_)), (by (exact zo_72 hr5_))⟩ (by decide) (zdal_p dlD_M_parts_96 (i := 15) rfl) (fun hc_21 => ?_) (fun hc_21 => ?_)
        · skip
          refine zw_iconst (pc := 28) (v := Int32.ofInt 0) (by decide) (zdal_p dlD_M_parts_96 (i := 18) rfl) ?_
          refine zr_callS hf.x (pc := 29) [.int (Int32.ofInt 0)] [.int (Int32.ofInt u1_)] l_M_256 (c_M_truth l Mz (hf.w hW) 0 (by decide) (by decide) (by (decide))) rfl rfl (by decide) (Nat.le_of_ble_eq_true rfl) (zdal_p dlD_M_parts_96 (i := 19) rfl) ?_
          rintro _ N6_ ⟨v7_, rfl, ⟨hv7_a, hv7_b⟩, hsN6_, hp0_N6_⟩
          obtain rfl := hsN6_.eq.symm
          replace hp0_N6_ : v7_ = 0 := hp0_N6_
          show zW l m_M_parts (zn Mz + 0, zw Mz + 0) Mz 32 [some (.ref 81), some (.int (Int32.ofInt u1_)), some (.int (Int32.ofInt u2_))] [.int (Int32.ofInt v7_), .int (Int32.ofInt u1_)] (zpI [] [] Mz (fun v N => True))
          refine zr_iadd (pc := 32) (zdal_p dlD_M_parts_96 (i := 20) rfl) ?_
          refine zr_nmI (fun v8_ hv8_ => ?_)
          obtain ⟨hv8_a, hv8_b⟩ := hv8_
          refine zw_istore_n (pc := 33) (i := 1) (L2 := [some (.ref 81), some (.int (Int32.ofInt v8_)), some (.int (Int32.ofInt u2_))]) rfl (by decide) rfl (zdal_p dlD_M_parts_96 (i := 21) rfl) ?_
          refine zr_iinc (pc := 34) (i := 2) (a := u2_) (n := 1) (L2 := [some (.ref 81), some (.int (Int32.ofInt v8_)), some (.int (Int32.ofInt (u2_ + 1)))]) rfl (by decide) rfl (zdal_p dlD_M_parts_96 (i := 22) rfl) ?_
          refine zw_goto (pc := 37) (tgt := 4) (by decide) (zdal_p dlD_M_parts_96 (i := 23) rfl) ?_
          exact ih_4 v8_ hv8_a hv8_b (u2_ + 1) (by (exact zo_74 i3_)) (by (exact zo_832 gb.2.2.2.2.2 hc_9)) (show 0 ≤ (u2_ + 1) by first | assumption | (exact zo_76 i3_)) (by (exact zo_147 hc_9 hlt_4))
        · skip
          refine zw_iconst (pc := 24) (v := Int32.ofInt 1) (by decide) (zdal_p dlD_M_parts_96 (i := 16) rfl) ?_
          refine zw_goto (pc := 25) (tgt := 29) (by decide) (zdal_p dlD_M_parts_96 (i := 17) rfl) ?_
          refine zr_callS hf.x (pc := 29) [.int (Int32.ofInt 1)] [.int (Int32.ofInt u1_)] l_M_256 (c_M_truth l Mz (hf.w hW) 1 (by decide) (by decide) (by (decide))) rfl rfl (by decide) (Nat.le_of_ble_eq_true rfl) (zdal_p dlD_M_parts_96 (i := 19) rfl) ?_
          rintro _ N9_ ⟨v10_, rfl, ⟨hv10_a, hv10_b⟩, hsN9_, hp0_N9_⟩
          obtain rfl := hsN9_.eq.symm
          replace hp0_N9_ : v10_ = 1 := hp0_N9_
          show zW l m_M_parts (zn Mz + 0, zw Mz + 0) Mz 32 [some (.ref 81), some (.int (Int32.ofInt u1_)), some (.int (Int32.ofInt u2_))] [.int (Int32.ofInt v10_), .int (Int32.ofInt u1_)] (zpI [] [] Mz (fun v N => True))
          refine zr_iadd (pc := 32) (zdal_p dlD_M_parts_96 (i := 20) rfl) ?_
          refine zr_nmI (fun v11_ hv11_ => ?_)
          obtain ⟨hv11_a, hv11_b⟩ := hv11_
          refine zw_istore_n (pc := 33) (i := 1) (L2 := [some (.ref 81), some (.int (Int32.ofInt v11_)), some (.int (Int32.ofInt u2_))]) rfl (by decide) rfl (zdal_p dlD_M_parts_96 (i := 21) rfl) ?_
          refine zr_iinc (pc := 34) (i := 2) (a := u2_) (n := 1) (L2 := [some (.ref 81), some (.int (Int32.ofInt v11_)), some (.int (Int32.ofInt (u2_ + 1)))]) rfl (by decide) rfl (zdal_p dlD_M_parts_96 (i := 22) rfl) ?_
          refine zw_goto (pc := 37) (tgt := 4) (by decide) (zdal_p dlD_M_parts_96 (i := 23) rfl) ?_
          exact ih_4 v11_ hv11_a hv11_b (u2_ + 1) (by (exact zo_74 i3_)) (by (exact zo_832 gb.2.2.2.2.2 hc_9)) (show 0 ≤ (u2_ + 1) by first | assumption | (exact zo_76 i3_)) (by (exact zo_147 hc_9 hlt_4))
  exact lp_4 _ 0 (by decide) (by decide) 0 (by decide) (by decide) (show 0 ≤ (0 : Int) by first | assumption | (decide)) (Nat.lt_succ_self _)
set_option maxHeartbeats 4000000 in
theorem c_M_laysMarks (l : Launch) (Mz : zMem) (hW : zMt Mz) (T : zGT) (hO : gOK T) (p0_ : zGB T Mz) : zC l m_M_laysMarks 0 0 [.ref 81] Mz (zpV [] [99] Mz (fun N => True)) := by
  refine zC_of (L0 := [some (.ref 81), none]) md_M_laysMarks (Nat.le_of_ble_eq_true rfl) rfl ?_ zQ0
  have hf : zFr [] [99] Mz Mz := zFr.rf
  have r_26 := ze_r Mz 81 26
  have hG := hO.1
  have g24 := hG.2.1
  have g1 := hG.1
  have dv0 : zTab T Mz := p0_.1
  have dv1 : zB 85 144 0 5 Mz := p0_.2.1
  have dv2 : zJX T Mz := p0_.2.2.1
  have dv3 : zFirs T Mz := p0_.2.2.2.1
  have dv4 : zSSm T Mz := p0_.2.2.2.2.1
  have dv5 : zGD Mz := zGB.d hO p0_
  have gb := dv5.1
  have gn := dv0.1
  refine zw_iconst (pc := 0) (v := Int32.ofInt 0) (by decide) (zdal_p dlD_M_laysMarks_99 (i := 0) rfl) ?_
  refine zw_istore_n (pc := 1) (i := 1) (L2 := [some (.ref 81), some (.int (Int32.ofInt 0))]) rfl (by decide) rfl (zdal_p dlD_M_laysMarks_99 (i := 1) rfl) ?_
  have lp_2 : ∀ (n : Nat) (u1_ : Int) (hu1_a : -2147483648 ≤ u1_) (hu1_b : u1_ < 2147483648) (N2_ : zMem) (hs3_ : zFr [] [99] Mz N2_) (i4_ : 0 ≤ u1_), (ze Mz 81 26 - u1_).toNat < n → zW l m_M_laysMarks (zn Mz + 0, zw Mz + 0) N2_ 2 [some (.ref 81), some (.int (Int32.ofInt u1_))] [] (zpV [] [99] Mz (fun N => True)) := by
    intro n
    induction n with
    | zero =>
      intro u1_ hu1_a hu1_b N2_ hs3_ i4_ h0
      exact absurd h0 (Nat.not_lt_zero _)
    | succ n ih_2 =>
      intro u1_ hu1_a hu1_b N2_ hs3_ i4_ hlt_2
      have hf_N2_ : zFr [] [99] Mz N2_ := hf.tr hs3_ (by decide) (by decide)
      have e26_N2_ : ze N2_ 81 26 = ze Mz 81 26 := hs3_.e (by decide)
      have c5_ : zGB T N2_ := zGB.fr hs3_ p0_ (by decide) (by decide)
      have c6_ : zTab T N2_ := zTab.fr hs3_ dv0 (by decide) (by decide)
      have c7_ : zB 85 144 0 5 N2_ := zB.fr hs3_ dv1 (by decide) (by decide)
      have c8_ : zJX T N2_ := zJX.fr hs3_ dv2 (by decide) (by decide)
      have c9_ : zFirs T N2_ := zFirs.fr hs3_ dv3 (by decide) (by decide)
      have c10_ : zSSm T N2_ := zSSm.fr hs3_ dv4 (by decide) (by decide)
      have c11_ : zGD N2_ := zGD.fr hs3_ dv5 (by decide) (by decide)
      refine zw_iload_n (pc := 2) (n := 1) (x := Int32.ofInt u1_) rfl (zdal_p dlD_M_laysMarks_99 (i := 2) rfl) ?_
      refine zw_aload_n (pc := 3) (n := 0) (x := 81) rfl (zdal_p dlD_M_laysMarks_99 (i := 3) rfl) ?_
      refine zr_getI0 hf_N2_ hW (pc := 4) (by decide) f_M_235 rfl (zdal_p dlD_M_laysMarks_99 (i := 4) rfl) ?_
      refine zr_icmp_ge (pc := 7) (tgt := 32) ⟨hu1_a, hu1_b⟩ ⟨(ze_r Mz 81 26).1, (ze_r Mz 81 26).2⟩ (by decide) (zdal_p dlD_M_laysMarks_99 (i := 5) rfl) (fun hc_7 => ?_) (fun hc_7 => ?_)
      · skip
        exact zr_vret (pc := 32) rfl hf_N2_ trivial (zdal_p dlD_M_laysMarks_99 (i := 18) rfl)
      · skip
        refine zw_aload_n (pc := 10) (n := 0) (x := 81) rfl (zdal_p dlD_M_laysMarks_99 (i := 6) rfl) ?_
        refine zr_getF (r := 99) (hf_N2_.w hW) (pc := 11) f_M_69 rfl (zh_99 (hf_N2_.w hW)).1 (zdal_p dlD_M_laysMarks_99 (i := 7) rfl) ?_
        refine zw_iload_n (pc := 14) (n := 1) (x := Int32.ofInt u1_) rfl (zdal_p dlD_M_laysMarks_99 (i := 8) rfl) ?_
        refine zw_aload_n (pc := 15) (n := 0) (x := 81) rfl (zdal_p dlD_M_laysMarks_99 (i := 9) rfl) ?_
        refine zw_aload_n (pc := 16) (n := 0) (x := 81) rfl (zdal_p dlD_M_laysMarks_99 (i := 10) rfl) ?_
        refine zr_getF (r := 98) (hf_N2_.w hW) (pc := 17) f_M_66 rfl (zh_98 (hf_N2_.w hW)).1 (zdal_p dlD_M_laysMarks_99 (i := 11) rfl) ?_
        refine zw_iconst (pc := 20) (v := Int32.ofInt 0) (by decide) (zdal_p dlD_M_laysMarks_99 (i := 12) rfl) ?_
        refine zw_iload_n (pc := 21) (n := 1) (x := Int32.ofInt u1_) rfl (zdal_p dlD_M_laysMarks_99 (i := 13) rfl) ?_
        refine zr_callV (hf_N2_.w hW) hf_N2_.x (pc := 22) [.ref 98, .int (Int32.ofInt 0), .int (Int32.ofInt u1_)] [.int (Int32.ofInt u1_), .ref 99] l_M_264 (c_M_markAt_98 l N2_ (hf_N2_.w hW) 0 (by decide) (by decide) u1_ hu1_a hu1_b c11_ (show 0 ≤ 0 by first | assumption | (decide)) (show 0 ≤ 0 by first | assumption | (decide)) (show 0 ≤ u1_ by first | assumption | omega) (show u1_ ≤ 63 by first | assumption | (exact zo_836 gb.2.2.2.2.2 hc_7))) rfl rfl rfl (by decide) (Nat.le_of_ble_eq_true rfl) (zdal_p dlD_M_laysMarks_99 (i := 14) rfl) ?_
        rintro _ N12_ ⟨v13_, rfl, ⟨hv13_a, hv13_b⟩, hsN12_, -⟩
        obtain rfl := hsN12_.eq.symm
        show zW l m_M_laysMarks (zn Mz + 0, zw Mz + 0) N2_ 25 [some (.ref 81), some (.int (Int32.ofInt u1_))] [.long (Int64.ofInt v13_), .int (Int32.ofInt u1_), .ref 99] (zpV [] [99] Mz (fun N => True))
        refine zr_last (pc := 25) (zh_99 (hf_N2_.w hW)).2 (by decide) (by decide) (by (exact i4_)) (by (exact zo_831 gb.2.2.2.2.2 hc_7)) (zdal_p dlD_M_laysMarks_99 (i := 15) rfl) (fun N14_ hN14_ hsN14_ => ?_)
        have hf_N14_ : zFr [] [99] Mz N14_ := hf_N2_.tr hsN14_ (by decide) (by decide)
        have hb0_N14_ : zFr [] [99] Mz N14_ := hs3_.tr hsN14_ (by decide) (by decide)
        have e26_N14_ : ze N14_ 81 26 = ze N2_ 81 26 := hsN14_.e (by decide)
        have c15_ : zGB T N14_ := zGB.fr hsN14_ c5_ (by decide) (by decide)
        have c16_ : zTab T N14_ := zTab.fr hsN14_ c6_ (by decide) (by decide)
        have c17_ : zB 85 144 0 5 N14_ := zB.fr hsN14_ c7_ (by decide) (by decide)
        have c18_ : zJX T N14_ := zJX.fr hsN14_ c8_ (by decide) (by decide)
        have c19_ : zFirs T N14_ := zFirs.fr hsN14_ c9_ (by decide) (by decide)
        have c20_ : zSSm T N14_ := zSSm.fr hsN14_ c10_ (by decide) (by decide)
        have c21_ : zGD N14_ := zGD.fr hsN14_ c11_ (by decide) (by decide)
        refine zr_iinc (pc := 26) (i := 1) (a := u1_) (n := 1) (L2 := [some (.ref 81), some (.int (Int32.ofInt (u1_ + 1)))]) rfl (by decide) rfl (zdal_p dlD_M_laysMarks_99 (i := 16) rfl) ?_
        refine zw_goto (pc := 29) (tgt := 2) (by decide) (zdal_p dlD_M_laysMarks_99 (i := 17) rfl) ?_
        exact ih_2 (u1_ + 1) (by (exact zo_74 i4_)) (by (exact zo_832 gb.2.2.2.2.2 hc_7)) N14_ hb0_N14_ (show 0 ≤ (u1_ + 1) by first | assumption | (exact zo_76 i4_)) (by (exact zo_147 hc_7 hlt_2))
  exact lp_2 _ 0 (by decide) (by decide) Mz zFr.rf (show 0 ≤ (0 : Int) by first | assumption | (decide)) (Nat.lt_succ_self _)
set_option maxHeartbeats 4000000 in
theorem c_M_is (l : Launch) (Mz : zMem) (hW : zMt Mz) (a0_ : Int) (ha0_a : -2147483648 ≤ a0_) (ha0_b : a0_ < 2147483648) (T : zGT) (hO : gOK T) (p0_ : zGB T Mz) : zC l m_M_is 0 0 [.ref 81, .int (Int32.ofInt a0_)] Mz (zpI [] [99] Mz (fun v N => True)) := by
  refine zC_of (L0 := [some (.ref 81), some (.int (Int32.ofInt a0_)), none, none, none, none, none, none]) md_M_is (Nat.le_of_ble_eq_true rfl) rfl ?_ zQ0
  have hf : zFr [] [99] Mz Mz := zFr.rf
  have r_26 := ze_r Mz 81 26
  have hG := hO.1
  have g24 := hG.2.1
  have g1 := hG.1
  have dv0 : zTab T Mz := p0_.1
  have dv1 : zB 85 144 0 5 Mz := p0_.2.1
  have dv2 : zJX T Mz := p0_.2.2.1
  have dv3 : zFirs T Mz := p0_.2.2.2.1
  have dv4 : zSSm T Mz := p0_.2.2.2.2.1
  have dv5 : zGD Mz := zGB.d hO p0_
  have gb := dv5.1
  have gn := dv0.1
  refine zw_iload_n (pc := 0) (n := 1) (x := Int32.ofInt a0_) rfl (zdal_p dlD_M_is_101 (i := 0) rfl) ?_
  refine zr_i2l (pc := 1) ⟨ha0_a, ha0_b⟩ (zdal_p dlD_M_is_101 (i := 1) rfl) ?_
  refine zw_lconst (pc := 2) (v := Int64.ofInt 0) (by decide) (zdal_p dlD_M_is_101 (i := 2) rfl) ?_
  refine zr_ldc2 (pc := 3) (n := 3) (by decide) k_M_479 (zdal_p dlD_M_is_101 (i := 3) rfl) ?_
  refine zr_callS hf.x (pc := 6) [.long (Int64.ofInt a0_), .long (Int64.ofInt 0), .long (Int64.ofInt 3)] [] l_M_131 (c_M_isIn l Mz (hf.w hW) a0_ (by (exact zo_282 ha0_a)) (by (exact zo_283 ha0_b)) 0 (by decide) (by decide) 3 (by decide) (by decide)) rfl rfl (by decide) (Nat.le_of_ble_eq_true rfl) (zdal_p dlD_M_is_101 (i := 4) rfl) ?_
  rintro _ N1_ ⟨v2_, rfl, ⟨hv2_a, hv2_b⟩, hsN1_, hp0_N1_⟩
  obtain rfl := hsN1_.eq.symm
  replace hp0_N1_ : ((v2_ = 1 ∧ 0 ≤ a0_ ∧ a0_ ≤ 3) ∨ (v2_ = 0 ∧ (a0_ < 0 ∨ 3 < a0_))) := hp0_N1_
  rcases hp0_N1_ with ⟨rfl, ha6_0_hp0_N1_, ha6_1_hp0_N1_⟩ | ⟨rfl, ha6_0_hp0_N1_⟩
  · skip
    show zW l m_M_is (zn Mz + 0, zw Mz + 0) Mz 9 [some (.ref 81), some (.int (Int32.ofInt a0_)), none, none, none, none, none, none] [.int (Int32.ofInt 1)] (zpI [] [99] Mz (fun v N => True))
    refine zr_if_ne (pc := 9) (tgt := 14) ⟨(by decide), (by decide)⟩ (by decide) (zdal_p dlD_M_is_101 (i := 5) rfl) (fun hc_9 => ?_) (fun hc_9 => ?_)
    · skip
      refine zw_aload_n (pc := 14) (n := 0) (x := 81) rfl (zdal_p dlD_M_is_101 (i := 8) rfl) ?_
      refine zr_callV (hf.w hW) hf.x (pc := 15) [] [] l_M_472 (c_M_laysMarks l Mz (hf.w hW) T hO p0_) rfl rfl rfl (by decide) (Nat.le_of_ble_eq_true rfl) (zdal_p dlD_M_is_101 (i := 9) rfl) ?_
      rintro _ N3_ ⟨rfl, hsN3_, -⟩
      have hf_N3_ : zFr [] [99] Mz N3_ := hf.tr hsN3_ (by decide) (by decide)
      have e26_N3_ : ze N3_ 81 26 = ze Mz 81 26 := hsN3_.e (by decide)
      have c5_ : zGB T N3_ := zGB.fr hsN3_ p0_ (by decide) (by decide)
      have c6_ : zTab T N3_ := zTab.fr hsN3_ dv0 (by decide) (by decide)
      have c7_ : zB 85 144 0 5 N3_ := zB.fr hsN3_ dv1 (by decide) (by decide)
      have c8_ : zJX T N3_ := zJX.fr hsN3_ dv2 (by decide) (by decide)
      have c9_ : zFirs T N3_ := zFirs.fr hsN3_ dv3 (by decide) (by decide)
      have c10_ : zSSm T N3_ := zSSm.fr hsN3_ dv4 (by decide) (by decide)
      have c11_ : zGD N3_ := zGD.fr hsN3_ dv5 (by decide) (by decide)
      show zW l m_M_is (zn Mz + 0, zw Mz + 0) N3_ 18 [some (.ref 81), some (.int (Int32.ofInt a0_)), none, none, none, none, none, none] [] (zpI [] [99] Mz (fun v N => True))
      refine zw_iconst (pc := 18) (v := Int32.ofInt 1) (by decide) (zdal_p dlD_M_is_101 (i := 10) rfl) ?_
      refine zw_istore_n (pc := 19) (i := 2) (L2 := [some (.ref 81), some (.int (Int32.ofInt a0_)), some (.int (Int32.ofInt 1)), none, none, none, none, none]) rfl (by decide) rfl (zdal_p dlD_M_is_101 (i := 11) rfl) ?_
      refine zw_iconst (pc := 20) (v := Int32.ofInt 0) (by decide) (zdal_p dlD_M_is_101 (i := 12) rfl) ?_
      refine zw_istore_n (pc := 21) (i := 3) (L2 := [some (.ref 81), some (.int (Int32.ofInt a0_)), some (.int (Int32.ofInt 1)), some (.int (Int32.ofInt 0)), none, none, none, none]) rfl (by decide) rfl (zdal_p dlD_M_is_101 (i := 13) rfl) ?_
      refine zw_iconst (pc := 22) (v := Int32.ofInt 0) (by decide) (zdal_p dlD_M_is_101 (i := 14) rfl) ?_
      refine zw_istore (pc := 23) (i := 4) (L2 := [some (.ref 81), some (.int (Int32.ofInt a0_)), some (.int (Int32.ofInt 1)), some (.int (Int32.ofInt 0)), some (.int (Int32.ofInt 0)), none, none, none]) (by decide) rfl (zdal_p dlD_M_is_101 (i := 15) rfl) ?_
      have lp_25 : ∀ (n : Nat) (u12_ : Int) (hu12_a : -2147483648 ≤ u12_) (hu12_b : u12_ < 2147483648) (hu12_z : u12_ = 0 ∨ u12_ = 1) (u13_ : Int) (hu13_a : -2147483648 ≤ u13_) (hu13_b : u13_ < 2147483648) (hu13_z : u13_ = 0 ∨ u13_ = 1) (u14_ : Int) (hu14_a : -2147483648 ≤ u14_) (hu14_b : u14_ < 2147483648) (i15_ : 0 ≤ u14_), (ze Mz 81 26 - u14_).toNat < n → zW l m_M_is (zn Mz + 0, zw Mz + 0) N3_ 25 [some (.ref 81), some (.int (Int32.ofInt a0_)), some (.int (Int32.ofInt u12_)), some (.int (Int32.ofInt u13_)), some (.int (Int32.ofInt u14_)), none, none, none] [] (zpI [] [99] Mz (fun v N => True)) := by
        intro n
        induction n with
        | zero =>
          intro u12_ hu12_a hu12_b hu12_z u13_ hu13_a hu13_b hu13_z u14_ hu14_a hu14_b i15_ h0
          exact absurd h0 (Nat.not_lt_zero _)
        | succ n ih_25 =>
          intro u12_ hu12_a hu12_b hu12_z u13_ hu13_a hu13_b hu13_z u14_ hu14_a hu14_b i15_ hlt_25
          refine zw_iload (pc := 25) (i := 4) (x := Int32.ofInt u14_) rfl (zdal_p dlD_M_is_101 (i := 16) rfl) ?_
          refine zw_aload_n (pc := 27) (n := 0) (x := 81) rfl (zdal_p dlD_M_is_101 (i := 17) rfl) ?_
          refine zr_getI0 hf_N3_ hW (pc := 28) (by decide) f_M_235 rfl (zdal_p dlD_M_is_101 (i := 18) rfl) ?_
          refine zr_icmp_ge (pc := 31) (tgt := 173) ⟨hu14_a, hu14_b⟩ ⟨(ze_r Mz 81 26).1, (ze_r Mz 81 26).2⟩ (by decide) (zdal_p dlD_M_is_101 (i := 19) rfl) (fun hc_31 => ?_) (fun hc_31 => ?_)
          · skip
            refine zw_iload_n (pc := 173) (n := 1) (x := Int32.ofInt a0_) rfl (zdal_p dlD_M_is_104 (i := 22) rfl) ?_
            refine zw_iconst (pc := 174) (v := Int32.ofInt 3) (by decide) (zdal_p dlD_M_is_104 (i := 23) rfl) ?_
            refine zr_icmp_ne (pc := 175) (tgt := 182) ⟨ha0_a, ha0_b⟩ ⟨(by decide), (by decide)⟩ (by decide) (zdal_p dlD_M_is_105 (i := 0) rfl) (fun hc_175 => ?_) (fun hc_175 => ?_)
            · skip
              refine zw_iload_n (pc := 182) (n := 2) (x := Int32.ofInt u12_) rfl (zdal_p dlD_M_is_105 (i := 3) rfl) ?_
              refine zr_callS hf_N3_.x (pc := 183) [.int (Int32.ofInt u12_)] [] l_M_256 (c_M_truth l N3_ (hf_N3_.w hW) u12_ hu12_a hu12_b (by (exact hu12_z))) rfl rfl (by decide) (Nat.le_of_ble_eq_true rfl) (zdal_p dlD_M_is_105 (i := 4) rfl) ?_
              rintro _ N16_ ⟨v17_, rfl, ⟨hv17_a, hv17_b⟩, hsN16_, hp0_N16_⟩
              obtain rfl := hsN16_.eq.symm
              replace hp0_N16_ : v17_ = u12_ := hp0_N16_
              show zW l m_M_is (zn Mz + 0, zw Mz + 0) N3_ 186 [some (.ref 81), some (.int (Int32.ofInt a0_)), some (.int (Int32.ofInt u12_)), some (.int (Int32.ofInt u13_)), some (.int (Int32.ofInt u14_)), none, none, none] [.int (Int32.ofInt v17_)] (zpI [] [99] Mz (fun v N => True))
              exact zr_iret (pc := 186) (ty := .int) rfl rfl ⟨by (exact hv17_a), by (exact hv17_b)⟩ hf_N3_ trivial (zdal_p dlD_M_is_105 (i := 5) rfl)
            · skip
              refine zw_iload_n (pc := 178) (n := 3) (x := Int32.ofInt u13_) rfl (zdal_p dlD_M_is_105 (i := 1) rfl) ?_
              refine zw_goto (pc := 179) (tgt := 183) (by decide) (zdal_p dlD_M_is_105 (i := 2) rfl) ?_
              refine zr_callS hf_N3_.x (pc := 183) [.int (Int32.ofInt u13_)] [] l_M_256 (c_M_truth l N3_ (hf_N3_.w hW) u13_ hu13_a hu13_b (by (exact hu13_z))) rfl rfl (by decide) (Nat.le_of_ble_eq_true rfl) (zdal_p dlD_M_is_105 (i := 4) rfl) ?_
              rintro _ N18_ ⟨v19_, rfl, ⟨hv19_a, hv19_b⟩, hsN18_, hp0_N18_⟩
              obtain rfl := hsN18_.eq.symm
              replace hp0_N18_ : v19_ = u13_ := hp0_N18_
              show zW l m_M_is (zn Mz + 0, zw Mz + 0) N3_ 186 [some (.ref 81), some (.int (Int32.ofInt a0_)), some (.int (Int32.ofInt u12_)), some (.int (Int32.ofInt u13_)), some (.int (Int32.ofInt u14_)), none, none, none] [.int (Int32.ofInt v19_)] (zpI [] [99] Mz (fun v N => True))
              exact zr_iret (pc := 186) (ty := .int) rfl rfl ⟨by (exact hv19_a), by (exact hv19_b)⟩ hf_N3_ trivial (zdal_p dlD_M_is_105 (i := 5) rfl)
          · skip
            refine zw_aload_n (pc := 34) (n := 0) (x := 81) rfl (zdal_p dlD_M_is_101 (i := 20) rfl) ?_
            refine zr_getF (r := 99) (hf_N3_.w hW) (pc := 35) f_M_69 rfl (zh_99 (hf_N3_.w hW)).1 (zdal_p dlD_M_is_101 (i := 21) rfl) ?_
            refine zw_iload (pc := 38) (i := 4) (x := Int32.ofInt u14_) rfl (zdal_p dlD_M_is_101 (i := 22) rfl) ?_
            refine zr_laldn (pc := 40) (zh_99 (hf_N3_.w hW)).2 (by decide) (by (exact i15_)) (by (exact zo_831 gb.2.2.2.2.2 hc_31)) (zdal_p dlD_M_is_101 (i := 23) rfl) (fun v20_ hv20_ hv20_a hv20_b => ?_)
            refine zw_lstore (pc := 41) (i := 5) (L2 := [some (.ref 81), some (.int (Int32.ofInt a0_)), some (.int (Int32.ofInt u12_)), some (.int (Int32.ofInt u13_)), some (.int (Int32.ofInt u14_)), some (.long (Int64.ofInt v20_)), none, none]) (by decide) rfl (zdal_p dlD_M_is_102 (i := 0) rfl) ?_
            refine zw_iload_n (pc := 43) (n := 1) (x := Int32.ofInt a0_) rfl (zdal_p dlD_M_is_102 (i := 1) rfl) ?_
            refine zr_if_ne (pc := 44) (tgt := 67) ⟨ha0_a, ha0_b⟩ (by decide) (zdal_p dlD_M_is_102 (i := 2) rfl) (fun hc_44 => ?_) (fun hc_44 => ?_)
            · skip
              refine zw_iload_n (pc := 67) (n := 1) (x := Int32.ofInt a0_) rfl (zdal_p dlD_M_is_102 (i := 14) rfl) ?_
              refine zw_iconst (pc := 68) (v := Int32.ofInt 1) (by decide) (zdal_p dlD_M_is_102 (i := 15) rfl) ?_
              refine zr_icmp_ne (pc := 69) (tgt := 94) ⟨ha0_a, ha0_b⟩ ⟨(by decide), (by decide)⟩ (by decide) (zdal_p dlD_M_is_102 (i := 16) rfl) (fun hc_69 => ?_) (fun hc_69 => ?_)
              · skip
                refine zw_iload_n (pc := 94) (n := 1) (x := Int32.ofInt a0_) rfl (zdal_p dlD_M_is_103 (i := 5) rfl) ?_
                refine zw_iconst (pc := 95) (v := Int32.ofInt 2) (by decide) (zdal_p dlD_M_is_103 (i := 6) rfl) ?_
                refine zr_icmp_ne (pc := 96) (tgt := 123) ⟨ha0_a, ha0_b⟩ ⟨(by decide), (by decide)⟩ (by decide) (zdal_p dlD_M_is_103 (i := 7) rfl) (fun hc_96 => ?_) (fun hc_96 => ?_)
                · skip
                  refine zw_lload (pc := 123) (i := 5) (x := Int64.ofInt v20_) rfl (zdal_p dlD_M_is_103 (i := 20) rfl) ?_
                  refine zw_lconst (pc := 125) (v := Int64.ofInt 0) (by decide) (zdal_p dlD_M_is_103 (i := 21) rfl) ?_
                  refine zr_lcmp (pc := 126) ⟨hv20_a, hv20_b⟩ ⟨(by decide), (by decide)⟩ (zdal_p dlD_M_is_103 (i := 22) rfl) ?_
                  have hr21_ := zcmp_s v20_ 0
                  refine zr_if_ne (pc := 127) (tgt := 134) ⟨(by (exact zo_71 hr21_)), (by (exact zo_72 hr21_))⟩ (by decide) (zdal_p dlD_M_is_103 (i := 23) rfl) (fun hc_127 => ?_) (fun hc_127 => ?_)
                  · skip
                    refine zw_iconst (pc := 134) (v := Int32.ofInt 0) (by decide) (zdal_p dlD_M_is_104 (i := 2) rfl) ?_
                    refine zw_istore (pc := 135) (i := 7) (L2 := [some (.ref 81), some (.int (Int32.ofInt a0_)), some (.int (Int32.ofInt u12_)), some (.int (Int32.ofInt u13_)), some (.int (Int32.ofInt u14_)), some (.long (Int64.ofInt v20_)), none, some (.int (Int32.ofInt 0))]) (by decide) rfl d_M_is_135 ?_
                    refine zw_iload_n (pc := 137) (n := 2) (x := Int32.ofInt u12_) rfl d_M_is_137 ?_
                    refine zr_if_eq (pc := 138) (tgt := 150) ⟨hu12_a, hu12_b⟩ (by decide) d_M_is_138 (fun hc_138 => ?_) (fun hc_138 => ?_)
                    · skip
                      refine zw_iconst (pc := 150) (v := Int32.ofInt 0) (by decide) d_M_is_150 ?_
                      refine zw_istore_n (pc := 151) (i := 2) (L2 := [some (.ref 81), some (.int (Int32.ofInt a0_)), some (.int (Int32.ofInt 0)), some (.int (Int32.ofInt u13_)), some (.int (Int32.ofInt u14_)), some (.long (Int64.ofInt v20_)), none, some (.int (Int32.ofInt 0))]) rfl (by decide) rfl d_M_is_151 ?_
                      refine zw_iload_n (pc := 152) (n := 3) (x := Int32.ofInt u13_) rfl d_M_is_152 ?_
                      refine zr_if_ne (pc := 153) (tgt := 161) ⟨hu13_a, hu13_b⟩ (by decide) d_M_is_153 (fun hc_153 => ?_) (fun hc_153 => ?_)
                      · skip
                        refine zw_iconst (pc := 161) (v := Int32.ofInt 1) (by decide) d_M_is_161 ?_
                        refine zw_goto (pc := 162) (tgt := 166) (by decide) d_M_is_162 ?_
                        refine zw_istore_n (pc := 166) (i := 3) (L2 := [some (.ref 81), some (.int (Int32.ofInt a0_)), some (.int (Int32.ofInt 0)), some (.int (Int32.ofInt 1)), some (.int (Int32.ofInt u14_)), some (.long (Int64.ofInt v20_)), none, some (.int (Int32.ofInt 0))]) rfl (by decide) rfl d_M_is_166 ?_
                        refine zr_iinc (pc := 167) (i := 4) (a := u14_) (n := 1) (L2 := [some (.ref 81), some (.int (Int32.ofInt a0_)), some (.int (Int32.ofInt 0)), some (.int (Int32.ofInt 1)), some (.int (Int32.ofInt (u14_ + 1))), some (.long (Int64.ofInt v20_)), none, some (.int (Int32.ofInt 0))]) rfl (by decide) rfl d_M_is_167 ?_
                        refine zw_goto (pc := 170) (tgt := 25) (by decide) d_M_is_170 ?_
                        refine zW_le [some (.ref 81), some (.int (Int32.ofInt a0_)), some (.int (Int32.ofInt 0)), some (.int (Int32.ofInt 1)), some (.int (Int32.ofInt (u14_ + 1))), none, none, none] (⟨rfl, rfl, rfl, rfl, rfl, trivial⟩) ?_
                        exact ih_25 0 (by decide) (by decide) (by (decide)) 1 (by decide) (by decide) (by (decide)) (u14_ + 1) (by (exact zo_74 i15_)) (by (exact zo_832 gb.2.2.2.2.2 hc_31)) (show 0 ≤ (u14_ + 1) by first | assumption | (exact zo_76 i15_)) (by (exact zo_147 hc_31 hlt_25))
                      · skip
                        refine zw_iload (pc := 156) (i := 7) (x := Int32.ofInt 0) rfl d_M_is_156 ?_
                        refine zr_if_eq (pc := 158) (tgt := 165) ⟨(by decide), (by decide)⟩ (by decide) d_M_is_158 (fun hc_158 => ?_) (fun hc_158 => ?_)
                        · skip
                          refine zw_iconst (pc := 165) (v := Int32.ofInt 0) (by decide) d_M_is_165 ?_
                          refine zw_istore_n (pc := 166) (i := 3) (L2 := [some (.ref 81), some (.int (Int32.ofInt a0_)), some (.int (Int32.ofInt 0)), some (.int (Int32.ofInt 0)), some (.int (Int32.ofInt u14_)), some (.long (Int64.ofInt v20_)), none, some (.int (Int32.ofInt 0))]) rfl (by decide) rfl d_M_is_166 ?_
                          refine zr_iinc (pc := 167) (i := 4) (a := u14_) (n := 1) (L2 := [some (.ref 81), some (.int (Int32.ofInt a0_)), some (.int (Int32.ofInt 0)), some (.int (Int32.ofInt 0)), some (.int (Int32.ofInt (u14_ + 1))), some (.long (Int64.ofInt v20_)), none, some (.int (Int32.ofInt 0))]) rfl (by decide) rfl d_M_is_167 ?_
                          refine zw_goto (pc := 170) (tgt := 25) (by decide) d_M_is_170 ?_
                          refine zW_le [some (.ref 81), some (.int (Int32.ofInt a0_)), some (.int (Int32.ofInt 0)), some (.int (Int32.ofInt 0)), some (.int (Int32.ofInt (u14_ + 1))), none, none, none] (⟨rfl, rfl, rfl, rfl, rfl, trivial⟩) ?_
                          exact ih_25 0 (by decide) (by decide) (by (decide)) 0 (by decide) (by decide) (by (decide)) (u14_ + 1) (by (exact zo_74 i15_)) (by (exact zo_832 gb.2.2.2.2.2 hc_31)) (show 0 ≤ (u14_ + 1) by first | assumption | (exact zo_76 i15_)) (by (exact zo_147 hc_31 hlt_25))
                        · skip
                          exact absurd hc_158 (by decide)
                    · skip
                      refine zw_iload (pc := 141) (i := 7) (x := Int32.ofInt 0) rfl d_M_is_141 ?_
                      refine zr_if_eq (pc := 143) (tgt := 150) ⟨(by decide), (by decide)⟩ (by decide) d_M_is_143 (fun hc_143 => ?_) (fun hc_143 => ?_)
                      · skip
                        refine zw_iconst (pc := 150) (v := Int32.ofInt 0) (by decide) d_M_is_150 ?_
                        refine zw_istore_n (pc := 151) (i := 2) (L2 := [some (.ref 81), some (.int (Int32.ofInt a0_)), some (.int (Int32.ofInt 0)), some (.int (Int32.ofInt u13_)), some (.int (Int32.ofInt u14_)), some (.long (Int64.ofInt v20_)), none, some (.int (Int32.ofInt 0))]) rfl (by decide) rfl d_M_is_151 ?_
                        refine zw_iload_n (pc := 152) (n := 3) (x := Int32.ofInt u13_) rfl d_M_is_152 ?_
                        refine zr_if_ne (pc := 153) (tgt := 161) ⟨hu13_a, hu13_b⟩ (by decide) d_M_is_153 (fun hc_153 => ?_) (fun hc_153 => ?_)
                        · skip
                          refine zw_iconst (pc := 161) (v := Int32.ofInt 1) (by decide) d_M_is_161 ?_
                          refine zw_goto (pc := 162) (tgt := 166) (by decide) d_M_is_162 ?_
                          refine zw_istore_n (pc := 166) (i := 3) (L2 := [some (.ref 81), some (.int (Int32.ofInt a0_)), some (.int (Int32.ofInt 0)), some (.int (Int32.ofInt 1)), some (.int (Int32.ofInt u14_)), some (.long (Int64.ofInt v20_)), none, some (.int (Int32.ofInt 0))]) rfl (by decide) rfl d_M_is_166 ?_
                          refine zr_iinc (pc := 167) (i := 4) (a := u14_) (n := 1) (L2 := [some (.ref 81), some (.int (Int32.ofInt a0_)), some (.int (Int32.ofInt 0)), some (.int (Int32.ofInt 1)), some (.int (Int32.ofInt (u14_ + 1))), some (.long (Int64.ofInt v20_)), none, some (.int (Int32.ofInt 0))]) rfl (by decide) rfl d_M_is_167 ?_
                          refine zw_goto (pc := 170) (tgt := 25) (by decide) d_M_is_170 ?_
                          refine zW_le [some (.ref 81), some (.int (Int32.ofInt a0_)), some (.int (Int32.ofInt 0)), some (.int (Int32.ofInt 1)), some (.int (Int32.ofInt (u14_ + 1))), none, none, none] (⟨rfl, rfl, rfl, rfl, rfl, trivial⟩) ?_
                          exact ih_25 0 (by decide) (by decide) (by (decide)) 1 (by decide) (by decide) (by (decide)) (u14_ + 1) (by (exact zo_74 i15_)) (by (exact zo_832 gb.2.2.2.2.2 hc_31)) (show 0 ≤ (u14_ + 1) by first | assumption | (exact zo_76 i15_)) (by (exact zo_147 hc_31 hlt_25))
                        · skip
                          refine zw_iload (pc := 156) (i := 7) (x := Int32.ofInt 0) rfl d_M_is_156 ?_
                          refine zr_if_eq (pc := 158) (tgt := 165) ⟨(by decide), (by decide)⟩ (by decide) d_M_is_158 (fun hc_158 => ?_) (fun hc_158 => ?_)
                          · skip
                            refine zw_iconst (pc := 165) (v := Int32.ofInt 0) (by decide) d_M_is_165 ?_
                            refine zw_istore_n (pc := 166) (i := 3) (L2 := [some (.ref 81), some (.int (Int32.ofInt a0_)), some (.int (Int32.ofInt 0)), some (.int (Int32.ofInt 0)), some (.int (Int32.ofInt u14_)), some (.long (Int64.ofInt v20_)), none, some (.int (Int32.ofInt 0))]) rfl (by decide) rfl d_M_is_166 ?_
                            refine zr_iinc (pc := 167) (i := 4) (a := u14_) (n := 1) (L2 := [some (.ref 81), some (.int (Int32.ofInt a0_)), some (.int (Int32.ofInt 0)), some (.int (Int32.ofInt 0)), some (.int (Int32.ofInt (u14_ + 1))), some (.long (Int64.ofInt v20_)), none, some (.int (Int32.ofInt 0))]) rfl (by decide) rfl d_M_is_167 ?_
                            refine zw_goto (pc := 170) (tgt := 25) (by decide) d_M_is_170 ?_
                            refine zW_le [some (.ref 81), some (.int (Int32.ofInt a0_)), some (.int (Int32.ofInt 0)), some (.int (Int32.ofInt 0)), some (.int (Int32.ofInt (u14_ + 1))), none, none, none] (⟨rfl, rfl, rfl, rfl, rfl, trivial⟩) ?_
                            exact ih_25 0 (by decide) (by decide) (by (decide)) 0 (by decide) (by decide) (by (decide)) (u14_ + 1) (by (exact zo_74 i15_)) (by (exact zo_832 gb.2.2.2.2.2 hc_31)) (show 0 ≤ (u14_ + 1) by first | assumption | (exact zo_76 i15_)) (by (exact zo_147 hc_31 hlt_25))
                          · skip
                            exact absurd hc_158 (by decide)
                      · skip
                        exact absurd hc_143 (by decide)
                  · skip
                    refine zw_iconst (pc := 130) (v := Int32.ofInt 1) (by decide) (zdal_p dlD_M_is_104 (i := 0) rfl) ?_
                    refine zw_goto (pc := 131) (tgt := 135) (by decide) (zdal_p dlD_M_is_104 (i := 1) rfl) ?_
                    refine zw_istore (pc := 135) (i := 7) (L2 := [some (.ref 81), some (.int (Int32.ofInt a0_)), some (.int (Int32.ofInt u12_)), some (.int (Int32.ofInt u13_)), some (.int (Int32.ofInt u14_)), some (.long (Int64.ofInt v20_)), none, some (.int (Int32.ofInt 1))]) (by decide) rfl d_M_is_135 ?_
                    refine zw_iload_n (pc := 137) (n := 2) (x := Int32.ofInt u12_) rfl d_M_is_137 ?_
                    refine zr_if_eq (pc := 138) (tgt := 150) ⟨hu12_a, hu12_b⟩ (by decide) d_M_is_138 (fun hc_138 => ?_) (fun hc_138 => ?_)
                    · skip
                      refine zw_iconst (pc := 150) (v := Int32.ofInt 0) (by decide) d_M_is_150 ?_
                      refine zw_istore_n (pc := 151) (i := 2) (L2 := [some (.ref 81), some (.int (Int32.ofInt a0_)), some (.int (Int32.ofInt 0)), some (.int (Int32.ofInt u13_)), some (.int (Int32.ofInt u14_)), some (.long (Int64.ofInt v20_)), none, some (.int (Int32.ofInt 1))]) rfl (by decide) rfl d_M_is_151 ?_
                      refine zw_iload_n (pc := 152) (n := 3) (x := Int32.ofInt u13_) rfl d_M_is_152 ?_
                      refine zr_if_ne (pc := 153) (tgt := 161) ⟨hu13_a, hu13_b⟩ (by decide) d_M_is_153 (fun hc_153 => ?_) (fun hc_153 => ?_)
                      · skip
                        refine zw_iconst (pc := 161) (v := Int32.ofInt 1) (by decide) d_M_is_161 ?_
                        refine zw_goto (pc := 162) (tgt := 166) (by decide) d_M_is_162 ?_
                        refine zw_istore_n (pc := 166) (i := 3) (L2 := [some (.ref 81), some (.int (Int32.ofInt a0_)), some (.int (Int32.ofInt 0)), some (.int (Int32.ofInt 1)), some (.int (Int32.ofInt u14_)), some (.long (Int64.ofInt v20_)), none, some (.int (Int32.ofInt 1))]) rfl (by decide) rfl d_M_is_166 ?_
                        refine zr_iinc (pc := 167) (i := 4) (a := u14_) (n := 1) (L2 := [some (.ref 81), some (.int (Int32.ofInt a0_)), some (.int (Int32.ofInt 0)), some (.int (Int32.ofInt 1)), some (.int (Int32.ofInt (u14_ + 1))), some (.long (Int64.ofInt v20_)), none, some (.int (Int32.ofInt 1))]) rfl (by decide) rfl d_M_is_167 ?_
                        refine zw_goto (pc := 170) (tgt := 25) (by decide) d_M_is_170 ?_
                        refine zW_le [some (.ref 81), some (.int (Int32.ofInt a0_)), some (.int (Int32.ofInt 0)), some (.int (Int32.ofInt 1)), some (.int (Int32.ofInt (u14_ + 1))), none, none, none] (⟨rfl, rfl, rfl, rfl, rfl, trivial⟩) ?_
                        exact ih_25 0 (by decide) (by decide) (by (decide)) 1 (by decide) (by decide) (by (decide)) (u14_ + 1) (by (exact zo_74 i15_)) (by (exact zo_832 gb.2.2.2.2.2 hc_31)) (show 0 ≤ (u14_ + 1) by first | assumption | (exact zo_76 i15_)) (by (exact zo_147 hc_31 hlt_25))
                      · skip
                        refine zw_iload (pc := 156) (i := 7) (x := Int32.ofInt 1) rfl d_M_is_156 ?_
                        refine zr_if_eq (pc := 158) (tgt := 165) ⟨(by decide), (by decide)⟩ (by decide) d_M_is_158 (fun hc_158 => ?_) (fun hc_158 => ?_)
                        · skip
                          exact absurd hc_158 (by decide)
                        · skip
                          refine zw_iconst (pc := 161) (v := Int32.ofInt 1) (by decide) d_M_is_161 ?_
                          refine zw_goto (pc := 162) (tgt := 166) (by decide) d_M_is_162 ?_
                          refine zw_istore_n (pc := 166) (i := 3) (L2 := [some (.ref 81), some (.int (Int32.ofInt a0_)), some (.int (Int32.ofInt 0)), some (.int (Int32.ofInt 1)), some (.int (Int32.ofInt u14_)), some (.long (Int64.ofInt v20_)), none, some (.int (Int32.ofInt 1))]) rfl (by decide) rfl d_M_is_166 ?_
                          refine zr_iinc (pc := 167) (i := 4) (a := u14_) (n := 1) (L2 := [some (.ref 81), some (.int (Int32.ofInt a0_)), some (.int (Int32.ofInt 0)), some (.int (Int32.ofInt 1)), some (.int (Int32.ofInt (u14_ + 1))), some (.long (Int64.ofInt v20_)), none, some (.int (Int32.ofInt 1))]) rfl (by decide) rfl d_M_is_167 ?_
                          refine zw_goto (pc := 170) (tgt := 25) (by decide) d_M_is_170 ?_
                          refine zW_le [some (.ref 81), some (.int (Int32.ofInt a0_)), some (.int (Int32.ofInt 0)), some (.int (Int32.ofInt 1)), some (.int (Int32.ofInt (u14_ + 1))), none, none, none] (⟨rfl, rfl, rfl, rfl, rfl, trivial⟩) ?_
                          exact ih_25 0 (by decide) (by decide) (by (decide)) 1 (by decide) (by decide) (by (decide)) (u14_ + 1) (by (exact zo_74 i15_)) (by (exact zo_832 gb.2.2.2.2.2 hc_31)) (show 0 ≤ (u14_ + 1) by first | assumption | (exact zo_76 i15_)) (by (exact zo_147 hc_31 hlt_25))
                    · skip
                      refine zw_iload (pc := 141) (i := 7) (x := Int32.ofInt 1) rfl d_M_is_141 ?_
                      refine zr_if_eq (pc := 143) (tgt := 150) ⟨(by decide), (by decide)⟩ (by decide) d_M_is_143 (fun hc_143 => ?_) (fun hc_143 => ?_)
                      · skip
                        exact absurd hc_143 (by decide)
                      · skip
                        refine zw_iconst (pc := 146) (v := Int32.ofInt 1) (by decide) d_M_is_146 ?_
                        refine zw_goto (pc := 147) (tgt := 151) (by decide) d_M_is_147 ?_
                        refine zw_istore_n (pc := 151) (i := 2) (L2 := [some (.ref 81), some (.int (Int32.ofInt a0_)), some (.int (Int32.ofInt 1)), some (.int (Int32.ofInt u13_)), some (.int (Int32.ofInt u14_)), some (.long (Int64.ofInt v20_)), none, some (.int (Int32.ofInt 1))]) rfl (by decide) rfl d_M_is_151 ?_
                        refine zw_iload_n (pc := 152) (n := 3) (x := Int32.ofInt u13_) rfl d_M_is_152 ?_
                        refine zr_if_ne (pc := 153) (tgt := 161) ⟨hu13_a, hu13_b⟩ (by decide) d_M_is_153 (fun hc_153 => ?_) (fun hc_153 => ?_)
                        · skip
                          refine zw_iconst (pc := 161) (v := Int32.ofInt 1) (by decide) d_M_is_161 ?_
                          refine zw_goto (pc := 162) (tgt := 166) (by decide) d_M_is_162 ?_
                          refine zw_istore_n (pc := 166) (i := 3) (L2 := [some (.ref 81), some (.int (Int32.ofInt a0_)), some (.int (Int32.ofInt 1)), some (.int (Int32.ofInt 1)), some (.int (Int32.ofInt u14_)), some (.long (Int64.ofInt v20_)), none, some (.int (Int32.ofInt 1))]) rfl (by decide) rfl d_M_is_166 ?_
                          refine zr_iinc (pc := 167) (i := 4) (a := u14_) (n := 1) (L2 := [some (.ref 81), some (.int (Int32.ofInt a0_)), some (.int (Int32.ofInt 1)), some (.int (Int32.ofInt 1)), some (.int (Int32.ofInt (u14_ + 1))), some (.long (Int64.ofInt v20_)), none, some (.int (Int32.ofInt 1))]) rfl (by decide) rfl d_M_is_167 ?_
                          refine zw_goto (pc := 170) (tgt := 25) (by decide) d_M_is_170 ?_
                          refine zW_le [some (.ref 81), some (.int (Int32.ofInt a0_)), some (.int (Int32.ofInt 1)), some (.int (Int32.ofInt 1)), some (.int (Int32.ofInt (u14_ + 1))), none, none, none] (⟨rfl, rfl, rfl, rfl, rfl, trivial⟩) ?_
                          exact ih_25 1 (by decide) (by decide) (by (decide)) 1 (by decide) (by decide) (by (decide)) (u14_ + 1) (by (exact zo_74 i15_)) (by (exact zo_832 gb.2.2.2.2.2 hc_31)) (show 0 ≤ (u14_ + 1) by first | assumption | (exact zo_76 i15_)) (by (exact zo_147 hc_31 hlt_25))
                        · skip
                          refine zw_iload (pc := 156) (i := 7) (x := Int32.ofInt 1) rfl d_M_is_156 ?_
                          refine zr_if_eq (pc := 158) (tgt := 165) ⟨(by decide), (by decide)⟩ (by decide) d_M_is_158 (fun hc_158 => ?_) (fun hc_158 => ?_)
                          · skip
                            exact absurd hc_158 (by decide)
                          · skip
                            refine zw_iconst (pc := 161) (v := Int32.ofInt 1) (by decide) d_M_is_161 ?_
                            refine zw_goto (pc := 162) (tgt := 166) (by decide) d_M_is_162 ?_
                            refine zw_istore_n (pc := 166) (i := 3) (L2 := [some (.ref 81), some (.int (Int32.ofInt a0_)), some (.int (Int32.ofInt 1)), some (.int (Int32.ofInt 1)), some (.int (Int32.ofInt u14_)), some (.long (Int64.ofInt v20_)), none, some (.int (Int32.ofInt 1))]) rfl (by decide) rfl d_M_is_166 ?_
                            refine zr_iinc (pc := 167) (i := 4) (a := u14_) (n := 1) (L2 := [some (.ref 81), some (.int (Int32.ofInt a0_)), some (.int (Int32.ofInt 1)), some (.int (Int32.ofInt 1)), some (.int (Int32.ofInt (u14_ + 1))), some (.long (Int64.ofInt v20_)), none, some (.int (Int32.ofInt 1))]) rfl (by decide) rfl d_M_is_167 ?_
                            refine zw_goto (pc := 170) (tgt := 25) (by decide) d_M_is_170 ?_
                            refine zW_le [some (.ref 81), some (.int (Int32.ofInt a0_)), some (.int (Int32.ofInt 1)), some (.int (Int32.ofInt 1)), some (.int (Int32.ofInt (u14_ + 1))), none, none, none] (⟨rfl, rfl, rfl, rfl, rfl, trivial⟩) ?_
                            exact ih_25 1 (by decide) (by decide) (by (decide)) 1 (by decide) (by decide) (by (decide)) (u14_ + 1) (by (exact zo_74 i15_)) (by (exact zo_832 gb.2.2.2.2.2 hc_31)) (show 0 ≤ (u14_ + 1) by first | assumption | (exact zo_76 i15_)) (by (exact zo_147 hc_31 hlt_25))
                · skip
                  refine zw_lload (pc := 99) (i := 5) (x := Int64.ofInt v20_) rfl (zdal_p dlD_M_is_103 (i := 8) rfl) ?_
                  refine zw_lconst (pc := 101) (v := Int64.ofInt 1) (by decide) (zdal_p dlD_M_is_103 (i := 9) rfl) ?_
                  refine zr_lcmp (pc := 102) ⟨hv20_a, hv20_b⟩ ⟨(by decide), (by decide)⟩ (zdal_p dlD_M_is_103 (i := 10) rfl) ?_
                  have hr22_ := zcmp_s v20_ 1
                  refine zr_if_eq (pc := 103) (tgt := 115) ⟨(by omega), (by omega)⟩ (by decide) (zdal_p dlD_M_is_103 (i := 11) rfl) (fun hc_103 => ?_) (fun hc_103 => ?_)
                  · skip
                    refine zw_iconst (pc := 115) (v := Int32.ofInt 1) (by decide) (zdal_p dlD_M_is_103 (i := 16) rfl) ?_
                    refine zw_goto (pc := 116) (tgt := 135) (by decide) (zdal_p dlD_M_is_103 (i := 17) rfl) ?_
                    refine zw_istore (pc := 135) (i := 7) (L2 := [some (.ref 81), some (.int (Int32.ofInt a0_)), some (.int (Int32.ofInt u12_)), some (.int (Int32.ofInt u13_)), some (.int (Int32.ofInt u14_)), some (.long (Int64.ofInt v20_)), none, some (.int (Int32.ofInt 1))]) (by decide) rfl d_M_is_135 ?_
                    refine zw_iload_n (pc := 137) (n := 2) (x := Int32.ofInt u12_) rfl d_M_is_137 ?_
                    refine zr_if_eq (pc := 138) (tgt := 150) ⟨hu12_a, hu12_b⟩ (by decide) d_M_is_138 (fun hc_138 => ?_) (fun hc_138 => ?_)
                    · skip
                      refine zw_iconst (pc := 150) (v := Int32.ofInt 0) (by decide) d_M_is_150 ?_
                      refine zw_istore_n (pc := 151) (i := 2) (L2 := [some (.ref 81), some (.int (Int32.ofInt a0_)), some (.int (Int32.ofInt 0)), some (.int (Int32.ofInt u13_)), some (.int (Int32.ofInt u14_)), some (.long (Int64.ofInt v20_)), none, some (.int (Int32.ofInt 1))]) rfl (by decide) rfl d_M_is_151 ?_
                      refine zw_iload_n (pc := 152) (n := 3) (x := Int32.ofInt u13_) rfl d_M_is_152 ?_
                      refine zr_if_ne (pc := 153) (tgt := 161) ⟨hu13_a, hu13_b⟩ (by decide) d_M_is_153 (fun hc_153 => ?_) (fun hc_153 => ?_)
                      · skip
                        refine zw_iconst (pc := 161) (v := Int32.ofInt 1) (by decide) d_M_is_161 ?_
                        refine zw_goto (pc := 162) (tgt := 166) (by decide) d_M_is_162 ?_
                        refine zw_istore_n (pc := 166) (i := 3) (L2 := [some (.ref 81), some (.int (Int32.ofInt a0_)), some (.int (Int32.ofInt 0)), some (.int (Int32.ofInt 1)), some (.int (Int32.ofInt u14_)), some (.long (Int64.ofInt v20_)), none, some (.int (Int32.ofInt 1))]) rfl (by decide) rfl d_M_is_166 ?_
                        refine zr_iinc (pc := 167) (i := 4) (a := u14_) (n := 1) (L2 := [some (.ref 81), some (.int (Int32.ofInt a0_)), some (.int (Int32.ofInt 0)), some (.int (Int32.ofInt 1)), some (.int (Int32.ofInt (u14_ + 1))), some (.long (Int64.ofInt v20_)), none, some (.int (Int32.ofInt 1))]) rfl (by decide) rfl d_M_is_167 ?_
                        refine zw_goto (pc := 170) (tgt := 25) (by decide) d_M_is_170 ?_
                        refine zW_le [some (.ref 81), some (.int (Int32.ofInt a0_)), some (.int (Int32.ofInt 0)), some (.int (Int32.ofInt 1)), some (.int (Int32.ofInt (u14_ + 1))), none, none, none] (⟨rfl, rfl, rfl, rfl, rfl, trivial⟩) ?_
                        exact ih_25 0 (by decide) (by decide) (by (decide)) 1 (by decide) (by decide) (by (decide)) (u14_ + 1) (by (exact zo_74 i15_)) (by (exact zo_832 gb.2.2.2.2.2 hc_31)) (show 0 ≤ (u14_ + 1) by first | assumption | (exact zo_76 i15_)) (by (exact zo_147 hc_31 hlt_25))
                      · skip
                        refine zw_iload (pc := 156) (i := 7) (x := Int32.ofInt 1) rfl d_M_is_156 ?_
                        refine zr_if_eq (pc := 158) (tgt := 165) ⟨(by decide), (by decide)⟩ (by decide) d_M_is_158 (fun hc_158 => ?_) (fun hc_158 => ?_)
                        · skip
                          exact absurd hc_158 (by decide)
                        · skip
                          refine zw_iconst (pc := 161) (v := Int32.ofInt 1) (by decide) d_M_is_161 ?_
                          refine zw_goto (pc := 162) (tgt := 166) (by decide) d_M_is_162 ?_
                          refine zw_istore_n (pc := 166) (i := 3) (L2 := [some (.ref 81), some (.int (Int32.ofInt a0_)), some (.int (Int32.ofInt 0)), some (.int (Int32.ofInt 1)), some (.int (Int32.ofInt u14_)), some (.long (Int64.ofInt v20_)), none, some (.int (Int32.ofInt 1))]) rfl (by decide) rfl d_M_is_166 ?_
                          refine zr_iinc (pc := 167) (i := 4) (a := u14_) (n := 1) (L2 := [some (.ref 81), some (.int (Int32.ofInt a0_)), some (.int (Int32.ofInt 0)), some (.int (Int32.ofInt 1)), some (.int (Int32.ofInt (u14_ + 1))), some (.long (Int64.ofInt v20_)), none, some (.int (Int32.ofInt 1))]) rfl (by decide) rfl d_M_is_167 ?_
                          refine zw_goto (pc := 170) (tgt := 25) (by decide) d_M_is_170 ?_
                          refine zW_le [some (.ref 81), some (.int (Int32.ofInt a0_)), some (.int (Int32.ofInt 0)), some (.int (Int32.ofInt 1)), some (.int (Int32.ofInt (u14_ + 1))), none, none, none] (⟨rfl, rfl, rfl, rfl, rfl, trivial⟩) ?_
                          exact ih_25 0 (by decide) (by decide) (by (decide)) 1 (by decide) (by decide) (by (decide)) (u14_ + 1) (by (exact zo_74 i15_)) (by (exact zo_832 gb.2.2.2.2.2 hc_31)) (show 0 ≤ (u14_ + 1) by first | assumption | (exact zo_76 i15_)) (by (exact zo_147 hc_31 hlt_25))
                    · skip
                      refine zw_iload (pc := 141) (i := 7) (x := Int32.ofInt 1) rfl d_M_is_141 ?_
                      refine zr_if_eq (pc := 143) (tgt := 150) ⟨(by decide), (by decide)⟩ (by decide) d_M_is_143 (fun hc_143 => ?_) (fun hc_143 => ?_)
                      · skip
                        exact absurd hc_143 (by decide)
                      · skip
                        refine zw_iconst (pc := 146) (v := Int32.ofInt 1) (by decide) d_M_is_146 ?_
                        refine zw_goto (pc := 147) (tgt := 151) (by decide) d_M_is_147 ?_
                        refine zw_istore_n (pc := 151) (i := 2) (L2 := [some (.ref 81), some (.int (Int32.ofInt a0_)), some (.int (Int32.ofInt 1)), some (.int (Int32.ofInt u13_)), some (.int (Int32.ofInt u14_)), some (.long (Int64.ofInt v20_)), none, some (.int (Int32.ofInt 1))]) rfl (by decide) rfl d_M_is_151 ?_
                        refine zw_iload_n (pc := 152) (n := 3) (x := Int32.ofInt u13_) rfl d_M_is_152 ?_
                        refine zr_if_ne (pc := 153) (tgt := 161) ⟨hu13_a, hu13_b⟩ (by decide) d_M_is_153 (fun hc_153 => ?_) (fun hc_153 => ?_)
                        · skip
                          refine zw_iconst (pc := 161) (v := Int32.ofInt 1) (by decide) d_M_is_161 ?_
                          refine zw_goto (pc := 162) (tgt := 166) (by decide) d_M_is_162 ?_
                          refine zw_istore_n (pc := 166) (i := 3) (L2 := [some (.ref 81), some (.int (Int32.ofInt a0_)), some (.int (Int32.ofInt 1)), some (.int (Int32.ofInt 1)), some (.int (Int32.ofInt u14_)), some (.long (Int64.ofInt v20_)), none, some (.int (Int32.ofInt 1))]) rfl (by decide) rfl d_M_is_166 ?_
                          refine zr_iinc (pc := 167) (i := 4) (a := u14_) (n := 1) (L2 := [some (.ref 81), some (.int (Int32.ofInt a0_)), some (.int (Int32.ofInt 1)), some (.int (Int32.ofInt 1)), some (.int (Int32.ofInt (u14_ + 1))), some (.long (Int64.ofInt v20_)), none, some (.int (Int32.ofInt 1))]) rfl (by decide) rfl d_M_is_167 ?_
                          refine zw_goto (pc := 170) (tgt := 25) (by decide) d_M_is_170 ?_
                          refine zW_le [some (.ref 81), some (.int (Int32.ofInt a0_)), some (.int (Int32.ofInt 1)), some (.int (Int32.ofInt 1)), some (.int (Int32.ofInt (u14_ + 1))), none, none, none] (⟨rfl, rfl, rfl, rfl, rfl, trivial⟩) ?_
                          exact ih_25 1 (by decide) (by decide) (by (decide)) 1 (by decide) (by decide) (by (decide)) (u14_ + 1) (by (exact zo_74 i15_)) (by (exact zo_832 gb.2.2.2.2.2 hc_31)) (show 0 ≤ (u14_ + 1) by first | assumption | (exact zo_76 i15_)) (by (exact zo_147 hc_31 hlt_25))
                        · skip
                          refine zw_iload (pc := 156) (i := 7) (x := Int32.ofInt 1) rfl d_M_is_156 ?_
                          refine zr_if_eq (pc := 158) (tgt := 165) ⟨(by decide), (by decide)⟩ (by decide) d_M_is_158 (fun hc_158 => ?_) (fun hc_158 => ?_)
                          · skip
                            exact absurd hc_158 (by decide)
                          · skip
                            refine zw_iconst (pc := 161) (v := Int32.ofInt 1) (by decide) d_M_is_161 ?_
                            refine zw_goto (pc := 162) (tgt := 166) (by decide) d_M_is_162 ?_
                            refine zw_istore_n (pc := 166) (i := 3) (L2 := [some (.ref 81), some (.int (Int32.ofInt a0_)), some (.int (Int32.ofInt 1)), some (.int (Int32.ofInt 1)), some (.int (Int32.ofInt u14_)), some (.long (Int64.ofInt v20_)), none, some (.int (Int32.ofInt 1))]) rfl (by decide) rfl d_M_is_166 ?_
                            refine zr_iinc (pc := 167) (i := 4) (a := u14_) (n := 1) (L2 := [some (.ref 81), some (.int (Int32.ofInt a0_)), some (.int (Int32.ofInt 1)), some (.int (Int32.ofInt 1)), some (.int (Int32.ofInt (u14_ + 1))), some (.long (Int64.ofInt v20_)), none, some (.int (Int32.ofInt 1))]) rfl (by decide) rfl d_M_is_167 ?_
                            refine zw_goto (pc := 170) (tgt := 25) (by decide) d_M_is_170 ?_
                            refine zW_le [some (.ref 81), some (.int (Int32.ofInt a0_)), some (.int (Int32.ofInt 1)), some (.int (Int32.ofInt 1)), some (.int (Int32.ofInt (u14_ + 1))), none, none, none] (⟨rfl, rfl, rfl, rfl, rfl, trivial⟩) ?_
                            exact ih_25 1 (by decide) (by decide) (by (decide)) 1 (by decide) (by decide) (by (decide)) (u14_ + 1) (by (exact zo_74 i15_)) (by (exact zo_832 gb.2.2.2.2.2 hc_31)) (show 0 ≤ (u14_ + 1) by first | assumption | (exact zo_76 i15_)) (by (exact zo_147 hc_31 hlt_25))
                  · skip
                    refine zw_lload (pc := 106) (i := 5) (x := Int64.ofInt v20_) rfl (zdal_p dlD_M_is_103 (i := 12) rfl) ?_
                    refine zr_ldc2 (pc := 108) (n := (-1)) (by decide) k_M_468 (zdal_p dlD_M_is_103 (i := 13) rfl) ?_
                    refine zr_lcmp (pc := 111) ⟨hv20_a, hv20_b⟩ ⟨(by decide), (by decide)⟩ (zdal_p dlD_M_is_103 (i := 14) rfl) ?_
                    have hr23_ := zcmp_s v20_ ((-1))
                    refine zr_if_ne (pc := 112) (tgt := 119) ⟨(by omega), (by omega)⟩ (by decide) (zdal_p dlD_M_is_103 (i := 15) rfl) (fun hc_112 => ?_) (fun hc_112 => ?_)
                    · skip
                      refine zw_iconst (pc := 119) (v := Int32.ofInt 0) (by decide) (zdal_p dlD_M_is_103 (i := 18) rfl) ?_
                      refine zw_goto (pc := 120) (tgt := 135) (by decide) (zdal_p dlD_M_is_103 (i := 19) rfl) ?_
                      refine zw_istore (pc := 135) (i := 7) (L2 := [some (.ref 81), some (.int (Int32.ofInt a0_)), some (.int (Int32.ofInt u12_)), some (.int (Int32.ofInt u13_)), some (.int (Int32.ofInt u14_)), some (.long (Int64.ofInt v20_)), none, some (.int (Int32.ofInt 0))]) (by decide) rfl d_M_is_135 ?_
                      refine zw_iload_n (pc := 137) (n := 2) (x := Int32.ofInt u12_) rfl d_M_is_137 ?_
                      refine zr_if_eq (pc := 138) (tgt := 150) ⟨hu12_a, hu12_b⟩ (by decide) d_M_is_138 (fun hc_138 => ?_) (fun hc_138 => ?_)
                      · skip
                        refine zw_iconst (pc := 150) (v := Int32.ofInt 0) (by decide) d_M_is_150 ?_
                        refine zw_istore_n (pc := 151) (i := 2) (L2 := [some (.ref 81), some (.int (Int32.ofInt a0_)), some (.int (Int32.ofInt 0)), some (.int (Int32.ofInt u13_)), some (.int (Int32.ofInt u14_)), some (.long (Int64.ofInt v20_)), none, some (.int (Int32.ofInt 0))]) rfl (by decide) rfl d_M_is_151 ?_
                        refine zw_iload_n (pc := 152) (n := 3) (x := Int32.ofInt u13_) rfl d_M_is_152 ?_
                        refine zr_if_ne (pc := 153) (tgt := 161) ⟨hu13_a, hu13_b⟩ (by decide) d_M_is_153 (fun hc_153 => ?_) (fun hc_153 => ?_)
                        · skip
                          refine zw_iconst (pc := 161) (v := Int32.ofInt 1) (by decide) d_M_is_161 ?_
                          refine zw_goto (pc := 162) (tgt := 166) (by decide) d_M_is_162 ?_
                          refine zw_istore_n (pc := 166) (i := 3) (L2 := [some (.ref 81), some (.int (Int32.ofInt a0_)), some (.int (Int32.ofInt 0)), some (.int (Int32.ofInt 1)), some (.int (Int32.ofInt u14_)), some (.long (Int64.ofInt v20_)), none, some (.int (Int32.ofInt 0))]) rfl (by decide) rfl d_M_is_166 ?_
                          refine zr_iinc (pc := 167) (i := 4) (a := u14_) (n := 1) (L2 := [some (.ref 81), some (.int (Int32.ofInt a0_)), some (.int (Int32.ofInt 0)), some (.int (Int32.ofInt 1)), some (.int (Int32.ofInt (u14_ + 1))), some (.long (Int64.ofInt v20_)), none, some (.int (Int32.ofInt 0))]) rfl (by decide) rfl d_M_is_167 ?_
                          refine zw_goto (pc := 170) (tgt := 25) (by decide) d_M_is_170 ?_
                          refine zW_le [some (.ref 81), some (.int (Int32.ofInt a0_)), some (.int (Int32.ofInt 0)), some (.int (Int32.ofInt 1)), some (.int (Int32.ofInt (u14_ + 1))), none, none, none] (⟨rfl, rfl, rfl, rfl, rfl, trivial⟩) ?_
                          exact ih_25 0 (by decide) (by decide) (by (decide)) 1 (by decide) (by decide) (by (decide)) (u14_ + 1) (by (exact zo_74 i15_)) (by (exact zo_832 gb.2.2.2.2.2 hc_31)) (show 0 ≤ (u14_ + 1) by first | assumption | (exact zo_76 i15_)) (by (exact zo_147 hc_31 hlt_25))
                        · skip
                          refine zw_iload (pc := 156) (i := 7) (x := Int32.ofInt 0) rfl d_M_is_156 ?_
                          refine zr_if_eq (pc := 158) (tgt := 165) ⟨(by decide), (by decide)⟩ (by decide) d_M_is_158 (fun hc_158 => ?_) (fun hc_158 => ?_)
                          · skip
                            refine zw_iconst (pc := 165) (v := Int32.ofInt 0) (by decide) d_M_is_165 ?_
                            refine zw_istore_n (pc := 166) (i := 3) (L2 := [some (.ref 81), some (.int (Int32.ofInt a0_)), some (.int (Int32.ofInt 0)), some (.int (Int32.ofInt 0)), some (.int (Int32.ofInt u14_)), some (.long (Int64.ofInt v20_)), none, some (.int (Int32.ofInt 0))]) rfl (by decide) rfl d_M_is_166 ?_
                            refine zr_iinc (pc := 167) (i := 4) (a := u14_) (n := 1) (L2 := [some (.ref 81), some (.int (Int32.ofInt a0_)), some (.int (Int32.ofInt 0)), some (.int (Int32.ofInt 0)), some (.int (Int32.ofInt (u14_ + 1))), some (.long (Int64.ofInt v20_)), none, some (.int (Int32.ofInt 0))]) rfl (by decide) rfl d_M_is_167 ?_
                            refine zw_goto (pc := 170) (tgt := 25) (by decide) d_M_is_170 ?_
                            refine zW_le [some (.ref 81), some (.int (Int32.ofInt a0_)), some (.int (Int32.ofInt 0)), some (.int (Int32.ofInt 0)), some (.int (Int32.ofInt (u14_ + 1))), none, none, none] (⟨rfl, rfl, rfl, rfl, rfl, trivial⟩) ?_
                            exact ih_25 0 (by decide) (by decide) (by (decide)) 0 (by decide) (by decide) (by (decide)) (u14_ + 1) (by (exact zo_74 i15_)) (by (exact zo_832 gb.2.2.2.2.2 hc_31)) (show 0 ≤ (u14_ + 1) by first | assumption | (exact zo_76 i15_)) (by (exact zo_147 hc_31 hlt_25))
                          · skip
                            exact absurd hc_158 (by decide)
                      · skip
                        refine zw_iload (pc := 141) (i := 7) (x := Int32.ofInt 0) rfl d_M_is_141 ?_
                        refine zr_if_eq (pc := 143) (tgt := 150) ⟨(by decide), (by decide)⟩ (by decide) d_M_is_143 (fun hc_143 => ?_) (fun hc_143 => ?_)
                        · skip
                          refine zw_iconst (pc := 150) (v := Int32.ofInt 0) (by decide) d_M_is_150 ?_
                          refine zw_istore_n (pc := 151) (i := 2) (L2 := [some (.ref 81), some (.int (Int32.ofInt a0_)), some (.int (Int32.ofInt 0)), some (.int (Int32.ofInt u13_)), some (.int (Int32.ofInt u14_)), some (.long (Int64.ofInt v20_)), none, some (.int (Int32.ofInt 0))]) rfl (by decide) rfl d_M_is_151 ?_
                          refine zw_iload_n (pc := 152) (n := 3) (x := Int32.ofInt u13_) rfl d_M_is_152 ?_
                          refine zr_if_ne (pc := 153) (tgt := 161) ⟨hu13_a, hu13_b⟩ (by decide) d_M_is_153 (fun hc_153 => ?_) (fun hc_153 => ?_)
                          · skip
                            refine zw_iconst (pc := 161) (v := Int32.ofInt 1) (by decide) d_M_is_161 ?_
                            refine zw_goto (pc := 162) (tgt := 166) (by decide) d_M_is_162 ?_
                            refine zw_istore_n (pc := 166) (i := 3) (L2 := [some (.ref 81), some (.int (Int32.ofInt a0_)), some (.int (Int32.ofInt 0)), some (.int (Int32.ofInt 1)), some (.int (Int32.ofInt u14_)), some (.long (Int64.ofInt v20_)), none, some (.int (Int32.ofInt 0))]) rfl (by decide) rfl d_M_is_166 ?_
                            refine zr_iinc (pc := 167) (i := 4) (a := u14_) (n := 1) (L2 := [some (.ref 81), some (.int (Int32.ofInt a0_)), some (.int (Int32.ofInt 0)), some (.int (Int32.ofInt 1)), some (.int (Int32.ofInt (u14_ + 1))), some (.long (Int64.ofInt v20_)), none, some (.int (Int32.ofInt 0))]) rfl (by decide) rfl d_M_is_167 ?_
                            refine zw_goto (pc := 170) (tgt := 25) (by decide) d_M_is_170 ?_
                            refine zW_le [some (.ref 81), some (.int (Int32.ofInt a0_)), some (.int (Int32.ofInt 0)), some (.int (Int32.ofInt 1)), some (.int (Int32.ofInt (u14_ + 1))), none, none, none] (⟨rfl, rfl, rfl, rfl, rfl, trivial⟩) ?_
                            exact ih_25 0 (by decide) (by decide) (by (decide)) 1 (by decide) (by decide) (by (decide)) (u14_ + 1) (by (exact zo_74 i15_)) (by (exact zo_832 gb.2.2.2.2.2 hc_31)) (show 0 ≤ (u14_ + 1) by first | assumption | (exact zo_76 i15_)) (by (exact zo_147 hc_31 hlt_25))
                          · skip
                            refine zw_iload (pc := 156) (i := 7) (x := Int32.ofInt 0) rfl d_M_is_156 ?_
                            refine zr_if_eq (pc := 158) (tgt := 165) ⟨(by decide), (by decide)⟩ (by decide) d_M_is_158 (fun hc_158 => ?_) (fun hc_158 => ?_)
                            · skip
                              refine zw_iconst (pc := 165) (v := Int32.ofInt 0) (by decide) d_M_is_165 ?_
                              refine zw_istore_n (pc := 166) (i := 3) (L2 := [some (.ref 81), some (.int (Int32.ofInt a0_)), some (.int (Int32.ofInt 0)), some (.int (Int32.ofInt 0)), some (.int (Int32.ofInt u14_)), some (.long (Int64.ofInt v20_)), none, some (.int (Int32.ofInt 0))]) rfl (by decide) rfl d_M_is_166 ?_
                              refine zr_iinc (pc := 167) (i := 4) (a := u14_) (n := 1) (L2 := [some (.ref 81), some (.int (Int32.ofInt a0_)), some (.int (Int32.ofInt 0)), some (.int (Int32.ofInt 0)), some (.int (Int32.ofInt (u14_ + 1))), some (.long (Int64.ofInt v20_)), none, some (.int (Int32.ofInt 0))]) rfl (by decide) rfl d_M_is_167 ?_
                              refine zw_goto (pc := 170) (tgt := 25) (by decide) d_M_is_170 ?_
                              refine zW_le [some (.ref 81), some (.int (Int32.ofInt a0_)), some (.int (Int32.ofInt 0)), some (.int (Int32.ofInt 0)), some (.int (Int32.ofInt (u14_ + 1))), none, none, none] (⟨rfl, rfl, rfl, rfl, rfl, trivial⟩) ?_
                              exact ih_25 0 (by decide) (by decide) (by (decide)) 0 (by decide) (by decide) (by (decide)) (u14_ + 1) (by (exact zo_74 i15_)) (by (exact zo_832 gb.2.2.2.2.2 hc_31)) (show 0 ≤ (u14_ + 1) by first | assumption | (exact zo_76 i15_)) (by (exact zo_147 hc_31 hlt_25))
                            · skip
                              exact absurd hc_158 (by decide)
                        · skip
                          exact absurd hc_143 (by decide)
                    · skip
                      refine zw_iconst (pc := 115) (v := Int32.ofInt 1) (by decide) (zdal_p dlD_M_is_103 (i := 16) rfl) ?_
                      refine zw_goto (pc := 116) (tgt := 135) (by decide) (zdal_p dlD_M_is_103 (i := 17) rfl) ?_
                      refine zw_istore (pc := 135) (i := 7) (L2 := [some (.ref 81), some (.int (Int32.ofInt a0_)), some (.int (Int32.ofInt u12_)), some (.int (Int32.ofInt u13_)), some (.int (Int32.ofInt u14_)), some (.long (Int64.ofInt v20_)), none, some (.int (Int32.ofInt 1))]) (by decide) rfl d_M_is_135 ?_
                      refine zw_iload_n (pc := 137) (n := 2) (x := Int32.ofInt u12_) rfl d_M_is_137 ?_
                      refine zr_if_eq (pc := 138) (tgt := 150) ⟨hu12_a, hu12_b⟩ (by decide) d_M_is_138 (fun hc_138 => ?_) (fun hc_138 => ?_)
                      · skip
                        refine zw_iconst (pc := 150) (v := Int32.ofInt 0) (by decide) d_M_is_150 ?_
                        refine zw_istore_n (pc := 151) (i := 2) (L2 := [some (.ref 81), some (.int (Int32.ofInt a0_)), some (.int (Int32.ofInt 0)), some (.int (Int32.ofInt u13_)), some (.int (Int32.ofInt u14_)), some (.long (Int64.ofInt v20_)), none, some (.int (Int32.ofInt 1))]) rfl (by decide) rfl d_M_is_151 ?_
                        refine zw_iload_n (pc := 152) (n := 3) (x := Int32.ofInt u13_) rfl d_M_is_152 ?_
                        refine zr_if_ne (pc := 153) (tgt := 161) ⟨hu13_a, hu13_b⟩ (by decide) d_M_is_153 (fun hc_153 => ?_) (fun hc_153 => ?_)
                        · skip
                          refine zw_iconst (pc := 161) (v := Int32.ofInt 1) (by decide) d_M_is_161 ?_
                          refine zw_goto (pc := 162) (tgt := 166) (by decide) d_M_is_162 ?_
                          refine zw_istore_n (pc := 166) (i := 3) (L2 := [some (.ref 81), some (.int (Int32.ofInt a0_)), some (.int (Int32.ofInt 0)), some (.int (Int32.ofInt 1)), some (.int (Int32.ofInt u14_)), some (.long (Int64.ofInt v20_)), none, some (.int (Int32.ofInt 1))]) rfl (by decide) rfl d_M_is_166 ?_
                          refine zr_iinc (pc := 167) (i := 4) (a := u14_) (n := 1) (L2 := [some (.ref 81), some (.int (Int32.ofInt a0_)), some (.int (Int32.ofInt 0)), some (.int (Int32.ofInt 1)), some (.int (Int32.ofInt (u14_ + 1))), some (.long (Int64.ofInt v20_)), none, some (.int (Int32.ofInt 1))]) rfl (by decide) rfl d_M_is_167 ?_
                          refine zw_goto (pc := 170) (tgt := 25) (by decide) d_M_is_170 ?_
                          refine zW_le [some (.ref 81), some (.int (Int32.ofInt a0_)), some (.int (Int32.ofInt 0)), some (.int (Int32.ofInt 1)), some (.int (Int32.ofInt (u14_ + 1))), none, none, none] (⟨rfl, rfl, rfl, rfl, rfl, trivial⟩) ?_
                          exact ih_25 0 (by decide) (by decide) (by (decide)) 1 (by decide) (by decide) (by (decide)) (u14_ + 1) (by (exact zo_74 i15_)) (by (exact zo_832 gb.2.2.2.2.2 hc_31)) (show 0 ≤ (u14_ + 1) by first | assumption | (exact zo_76 i15_)) (by (exact zo_147 hc_31 hlt_25))
                        · skip
                          refine zw_iload (pc := 156) (i := 7) (x := Int32.ofInt 1) rfl d_M_is_156 ?_
                          refine zr_if_eq (pc := 158) (tgt := 165) ⟨(by decide), (by decide)⟩ (by decide) d_M_is_158 (fun hc_158 => ?_) (fun hc_158 => ?_)
                          · skip
                            exact absurd hc_158 (by decide)
                          · skip
                            refine zw_iconst (pc := 161) (v := Int32.ofInt 1) (by decide) d_M_is_161 ?_
                            refine zw_goto (pc := 162) (tgt := 166) (by decide) d_M_is_162 ?_
                            refine zw_istore_n (pc := 166) (i := 3) (L2 := [some (.ref 81), some (.int (Int32.ofInt a0_)), some (.int (Int32.ofInt 0)), some (.int (Int32.ofInt 1)), some (.int (Int32.ofInt u14_)), some (.long (Int64.ofInt v20_)), none, some (.int (Int32.ofInt 1))]) rfl (by decide) rfl d_M_is_166 ?_
                            refine zr_iinc (pc := 167) (i := 4) (a := u14_) (n := 1) (L2 := [some (.ref 81), some (.int (Int32.ofInt a0_)), some (.int (Int32.ofInt 0)), some (.int (Int32.ofInt 1)), some (.int (Int32.ofInt (u14_ + 1))), some (.long (Int64.ofInt v20_)), none, some (.int (Int32.ofInt 1))]) rfl (by decide) rfl d_M_is_167 ?_
                            refine zw_goto (pc := 170) (tgt := 25) (by decide) d_M_is_170 ?_
                            refine zW_le [some (.ref 81), some (.int (Int32.ofInt a0_)), some (.int (Int32.ofInt 0)), some (.int (Int32.ofInt 1)), some (.int (Int32.ofInt (u14_ + 1))), none, none, none] (⟨rfl, rfl, rfl, rfl, rfl, trivial⟩) ?_
                            exact ih_25 0 (by decide) (by decide) (by (decide)) 1 (by decide) (by decide) (by (decide)) (u14_ + 1) (by (exact zo_74 i15_)) (by (exact zo_832 gb.2.2.2.2.2 hc_31)) (show 0 ≤ (u14_ + 1) by first | assumption | (exact zo_76 i15_)) (by (exact zo_147 hc_31 hlt_25))
                      · skip
                        refine zw_iload (pc := 141) (i := 7) (x := Int32.ofInt 1) rfl d_M_is_141 ?_
                        refine zr_if_eq (pc := 143) (tgt := 150) ⟨(by decide), (by decide)⟩ (by decide) d_M_is_143 (fun hc_143 => ?_) (fun hc_143 => ?_)
                        · skip
                          exact absurd hc_143 (by decide)
                        · skip
                          refine zw_iconst (pc := 146) (v := Int32.ofInt 1) (by decide) d_M_is_146 ?_
                          refine zw_goto (pc := 147) (tgt := 151) (by decide) d_M_is_147 ?_
                          refine zw_istore_n (pc := 151) (i := 2) (L2 := [some (.ref 81), some (.int (Int32.ofInt a0_)), some (.int (Int32.ofInt 1)), some (.int (Int32.ofInt u13_)), some (.int (Int32.ofInt u14_)), some (.long (Int64.ofInt v20_)), none, some (.int (Int32.ofInt 1))]) rfl (by decide) rfl d_M_is_151 ?_
                          refine zw_iload_n (pc := 152) (n := 3) (x := Int32.ofInt u13_) rfl d_M_is_152 ?_
                          refine zr_if_ne (pc := 153) (tgt := 161) ⟨hu13_a, hu13_b⟩ (by decide) d_M_is_153 (fun hc_153 => ?_) (fun hc_153 => ?_)
                          · skip
                            refine zw_iconst (pc := 161) (v := Int32.ofInt 1) (by decide) d_M_is_161 ?_
                            refine zw_goto (pc := 162) (tgt := 166) (by decide) d_M_is_162 ?_
                            refine zw_istore_n (pc := 166) (i := 3) (L2 := [some (.ref 81), some (.int (Int32.ofInt a0_)), some (.int (Int32.ofInt 1)), some (.int (Int32.ofInt 1)), some (.int (Int32.ofInt u14_)), some (.long (Int64.ofInt v20_)), none, some (.int (Int32.ofInt 1))]) rfl (by decide) rfl d_M_is_166 ?_
                            refine zr_iinc (pc := 167) (i := 4) (a := u14_) (n := 1) (L2 := [some (.ref 81), some (.int (Int32.ofInt a0_)), some (.int (Int32.ofInt 1)), some (.int (Int32.ofInt 1)), some (.int (Int32.ofInt (u14_ + 1))), some (.long (Int64.ofInt v20_)), none, some (.int (Int32.ofInt 1))]) rfl (by decide) rfl d_M_is_167 ?_
                            refine zw_goto (pc := 170) (tgt := 25) (by decide) d_M_is_170 ?_
                            refine zW_le [some (.ref 81), some (.int (Int32.ofInt a0_)), some (.int (Int32.ofInt 1)), some (.int (Int32.ofInt 1)), some (.int (Int32.ofInt (u14_ + 1))), none, none, none] (⟨rfl, rfl, rfl, rfl, rfl, trivial⟩) ?_
                            exact ih_25 1 (by decide) (by decide) (by (decide)) 1 (by decide) (by decide) (by (decide)) (u14_ + 1) (by (exact zo_74 i15_)) (by (exact zo_832 gb.2.2.2.2.2 hc_31)) (show 0 ≤ (u14_ + 1) by first | assumption | (exact zo_76 i15_)) (by (exact zo_147 hc_31 hlt_25))
                          · skip
                            refine zw_iload (pc := 156) (i := 7) (x := Int32.ofInt 1) rfl d_M_is_156 ?_
                            refine zr_if_eq (pc := 158) (tgt := 165) ⟨(by decide), (by decide)⟩ (by decide) d_M_is_158 (fun hc_158 => ?_) (fun hc_158 => ?_)
                            · skip
                              exact absurd hc_158 (by decide)
                            · skip
                              refine zw_iconst (pc := 161) (v := Int32.ofInt 1) (by decide) d_M_is_161 ?_
                              refine zw_goto (pc := 162) (tgt := 166) (by decide) d_M_is_162 ?_
                              refine zw_istore_n (pc := 166) (i := 3) (L2 := [some (.ref 81), some (.int (Int32.ofInt a0_)), some (.int (Int32.ofInt 1)), some (.int (Int32.ofInt 1)), some (.int (Int32.ofInt u14_)), some (.long (Int64.ofInt v20_)), none, some (.int (Int32.ofInt 1))]) rfl (by decide) rfl d_M_is_166 ?_
                              refine zr_iinc (pc := 167) (i := 4) (a := u14_) (n := 1) (L2 := [some (.ref 81), some (.int (Int32.ofInt a0_)), some (.int (Int32.ofInt 1)), some (.int (Int32.ofInt 1)), some (.int (Int32.ofInt (u14_ + 1))), some (.long (Int64.ofInt v20_)), none, some (.int (Int32.ofInt 1))]) rfl (by decide) rfl d_M_is_167 ?_
                              refine zw_goto (pc := 170) (tgt := 25) (by decide) d_M_is_170 ?_
                              refine zW_le [some (.ref 81), some (.int (Int32.ofInt a0_)), some (.int (Int32.ofInt 1)), some (.int (Int32.ofInt 1)), some (.int (Int32.ofInt (u14_ + 1))), none, none, none] (⟨rfl, rfl, rfl, rfl, rfl, trivial⟩) ?_
                              exact ih_25 1 (by decide) (by decide) (by (decide)) 1 (by decide) (by decide) (by (decide)) (u14_ + 1) (by (exact zo_74 i15_)) (by (exact zo_832 gb.2.2.2.2.2 hc_31)) (show 0 ≤ (u14_ + 1) by first | assumption | (exact zo_76 i15_)) (by (exact zo_147 hc_31 hlt_25))
              · skip
                refine zw_lload (pc := 72) (i := 5) (x := Int64.ofInt v20_) rfl (zdal_p dlD_M_is_102 (i := 17) rfl) ?_
                refine zw_lconst (pc := 74) (v := Int64.ofInt 0) (by decide) (zdal_p dlD_M_is_102 (i := 18) rfl) ?_
                refine zr_lcmp (pc := 75) ⟨hv20_a, hv20_b⟩ ⟨(by decide), (by decide)⟩ (zdal_p dlD_M_is_102 (i := 19) rfl) ?_
                have hr24_ := zcmp_s v20_ 0
                refine zr_if_eq (pc := 76) (tgt := 86) ⟨(by (exact zo_71 hr24_)), (by (exact zo_72 hr24_))⟩ (by decide) (zdal_p dlD_M_is_102 (i := 20) rfl) (fun hc_76 => ?_) (fun hc_76 => ?_)
                · skip
                  refine zw_iconst (pc := 86) (v := Int32.ofInt 1) (by decide) (zdal_p dlD_M_is_103 (i := 1) rfl) ?_
                  refine zw_goto (pc := 87) (tgt := 135) (by decide) (zdal_p dlD_M_is_103 (i := 2) rfl) ?_
                  refine zw_istore (pc := 135) (i := 7) (L2 := [some (.ref 81), some (.int (Int32.ofInt a0_)), some (.int (Int32.ofInt u12_)), some (.int (Int32.ofInt u13_)), some (.int (Int32.ofInt u14_)), some (.long (Int64.ofInt v20_)), none, some (.int (Int32.ofInt 1))]) (by decide) rfl d_M_is_135 ?_
                  refine zw_iload_n (pc := 137) (n := 2) (x := Int32.ofInt u12_) rfl d_M_is_137 ?_
                  refine zr_if_eq (pc := 138) (tgt := 150) ⟨hu12_a, hu12_b⟩ (by decide) d_M_is_138 (fun hc_138 => ?_) (fun hc_138 => ?_)
                  · skip
                    refine zw_iconst (pc := 150) (v := Int32.ofInt 0) (by decide) d_M_is_150 ?_
                    refine zw_istore_n (pc := 151) (i := 2) (L2 := [some (.ref 81), some (.int (Int32.ofInt a0_)), some (.int (Int32.ofInt 0)), some (.int (Int32.ofInt u13_)), some (.int (Int32.ofInt u14_)), some (.long (Int64.ofInt v20_)), none, some (.int (Int32.ofInt 1))]) rfl (by decide) rfl d_M_is_151 ?_
                    refine zw_iload_n (pc := 152) (n := 3) (x := Int32.ofInt u13_) rfl d_M_is_152 ?_
                    refine zr_if_ne (pc := 153) (tgt := 161) ⟨hu13_a, hu13_b⟩ (by decide) d_M_is_153 (fun hc_153 => ?_) (fun hc_153 => ?_)
                    · skip
                      refine zw_iconst (pc := 161) (v := Int32.ofInt 1) (by decide) d_M_is_161 ?_
                      refine zw_goto (pc := 162) (tgt := 166) (by decide) d_M_is_162 ?_
                      refine zw_istore_n (pc := 166) (i := 3) (L2 := [some (.ref 81), some (.int (Int32.ofInt a0_)), some (.int (Int32.ofInt 0)), some (.int (Int32.ofInt 1)), some (.int (Int32.ofInt u14_)), some (.long (Int64.ofInt v20_)), none, some (.int (Int32.ofInt 1))]) rfl (by decide) rfl d_M_is_166 ?_
                      refine zr_iinc (pc := 167) (i := 4) (a := u14_) (n := 1) (L2 := [some (.ref 81), some (.int (Int32.ofInt a0_)), some (.int (Int32.ofInt 0)), some (.int (Int32.ofInt 1)), some (.int (Int32.ofInt (u14_ + 1))), some (.long (Int64.ofInt v20_)), none, some (.int (Int32.ofInt 1))]) rfl (by decide) rfl d_M_is_167 ?_
                      refine zw_goto (pc := 170) (tgt := 25) (by decide) d_M_is_170 ?_
                      refine zW_le [some (.ref 81), some (.int (Int32.ofInt a0_)), some (.int (Int32.ofInt 0)), some (.int (Int32.ofInt 1)), some (.int (Int32.ofInt (u14_ + 1))), none, none, none] (⟨rfl, rfl, rfl, rfl, rfl, trivial⟩) ?_
                      exact ih_25 0 (by decide) (by decide) (by (decide)) 1 (by decide) (by decide) (by (decide)) (u14_ + 1) (by (exact zo_74 i15_)) (by (exact zo_832 gb.2.2.2.2.2 hc_31)) (show 0 ≤ (u14_ + 1) by first | assumption | (exact zo_76 i15_)) (by (exact zo_147 hc_31 hlt_25))
                    · skip
                      refine zw_iload (pc := 156) (i := 7) (x := Int32.ofInt 1) rfl d_M_is_156 ?_
                      refine zr_if_eq (pc := 158) (tgt := 165) ⟨(by decide), (by decide)⟩ (by decide) d_M_is_158 (fun hc_158 => ?_) (fun hc_158 => ?_)
                      · skip
                        exact absurd hc_158 (by decide)
                      · skip
                        refine zw_iconst (pc := 161) (v := Int32.ofInt 1) (by decide) d_M_is_161 ?_
                        refine zw_goto (pc := 162) (tgt := 166) (by decide) d_M_is_162 ?_
                        refine zw_istore_n (pc := 166) (i := 3) (L2 := [some (.ref 81), some (.int (Int32.ofInt a0_)), some (.int (Int32.ofInt 0)), some (.int (Int32.ofInt 1)), some (.int (Int32.ofInt u14_)), some (.long (Int64.ofInt v20_)), none, some (.int (Int32.ofInt 1))]) rfl (by decide) rfl d_M_is_166 ?_
                        refine zr_iinc (pc := 167) (i := 4) (a := u14_) (n := 1) (L2 := [some (.ref 81), some (.int (Int32.ofInt a0_)), some (.int (Int32.ofInt 0)), some (.int (Int32.ofInt 1)), some (.int (Int32.ofInt (u14_ + 1))), some (.long (Int64.ofInt v20_)), none, some (.int (Int32.ofInt 1))]) rfl (by decide) rfl d_M_is_167 ?_
                        refine zw_goto (pc := 170) (tgt := 25) (by decide) d_M_is_170 ?_
                        refine zW_le [some (.ref 81), some (.int (Int32.ofInt a0_)), some (.int (Int32.ofInt 0)), some (.int (Int32.ofInt 1)), some (.int (Int32.ofInt (u14_ + 1))), none, none, none] (⟨rfl, rfl, rfl, rfl, rfl, trivial⟩) ?_
                        exact ih_25 0 (by decide) (by decide) (by (decide)) 1 (by decide) (by decide) (by (decide)) (u14_ + 1) (by (exact zo_74 i15_)) (by (exact zo_832 gb.2.2.2.2.2 hc_31)) (show 0 ≤ (u14_ + 1) by first | assumption | (exact zo_76 i15_)) (by (exact zo_147 hc_31 hlt_25))
                  · skip
                    refine zw_iload (pc := 141) (i := 7) (x := Int32.ofInt 1) rfl d_M_is_141 ?_
                    refine zr_if_eq (pc := 143) (tgt := 150) ⟨(by decide), (by decide)⟩ (by decide) d_M_is_143 (fun hc_143 => ?_) (fun hc_143 => ?_)
                    · skip
                      exact absurd hc_143 (by decide)
                    · skip
                      refine zw_iconst (pc := 146) (v := Int32.ofInt 1) (by decide) d_M_is_146 ?_
                      refine zw_goto (pc := 147) (tgt := 151) (by decide) d_M_is_147 ?_
                      refine zw_istore_n (pc := 151) (i := 2) (L2 := [some (.ref 81), some (.int (Int32.ofInt a0_)), some (.int (Int32.ofInt 1)), some (.int (Int32.ofInt u13_)), some (.int (Int32.ofInt u14_)), some (.long (Int64.ofInt v20_)), none, some (.int (Int32.ofInt 1))]) rfl (by decide) rfl d_M_is_151 ?_
                      refine zw_iload_n (pc := 152) (n := 3) (x := Int32.ofInt u13_) rfl d_M_is_152 ?_
                      refine zr_if_ne (pc := 153) (tgt := 161) ⟨hu13_a, hu13_b⟩ (by decide) d_M_is_153 (fun hc_153 => ?_) (fun hc_153 => ?_)
                      · skip
                        refine zw_iconst (pc := 161) (v := Int32.ofInt 1) (by decide) d_M_is_161 ?_
                        refine zw_goto (pc := 162) (tgt := 166) (by decide) d_M_is_162 ?_
                        refine zw_istore_n (pc := 166) (i := 3) (L2 := [some (.ref 81), some (.int (Int32.ofInt a0_)), some (.int (Int32.ofInt 1)), some (.int (Int32.ofInt 1)), some (.int (Int32.ofInt u14_)), some (.long (Int64.ofInt v20_)), none, some (.int (Int32.ofInt 1))]) rfl (by decide) rfl d_M_is_166 ?_
                        refine zr_iinc (pc := 167) (i := 4) (a := u14_) (n := 1) (L2 := [some (.ref 81), some (.int (Int32.ofInt a0_)), some (.int (Int32.ofInt 1)), some (.int (Int32.ofInt 1)), some (.int (Int32.ofInt (u14_ + 1))), some (.long (Int64.ofInt v20_)), none, some (.int (Int32.ofInt 1))]) rfl (by decide) rfl d_M_is_167 ?_
                        refine zw_goto (pc := 170) (tgt := 25) (by decide) d_M_is_170 ?_
                        refine zW_le [some (.ref 81), some (.int (Int32.ofInt a0_)), some (.int (Int32.ofInt 1)), some (.int (Int32.ofInt 1)), some (.int (Int32.ofInt (u14_ + 1))), none, none, none] (⟨rfl, rfl, rfl, rfl, rfl, trivial⟩) ?_
                        exact ih_25 1 (by decide) (by decide) (by (decide)) 1 (by decide) (by decide) (by (decide)) (u14_ + 1) (by (exact zo_74 i15_)) (by (exact zo_832 gb.2.2.2.2.2 hc_31)) (show 0 ≤ (u14_ + 1) by first | assumption | (exact zo_76 i15_)) (by (exact zo_147 hc_31 hlt_25))
                      · skip
                        refine zw_iload (pc := 156) (i := 7) (x := Int32.ofInt 1) rfl d_M_is_156 ?_
                        refine zr_if_eq (pc := 158) (tgt := 165) ⟨(by decide), (by decide)⟩ (by decide) d_M_is_158 (fun hc_158 => ?_) (fun hc_158 => ?_)
                        · skip
                          exact absurd hc_158 (by decide)
                        · skip
                          refine zw_iconst (pc := 161) (v := Int32.ofInt 1) (by decide) d_M_is_161 ?_
                          refine zw_goto (pc := 162) (tgt := 166) (by decide) d_M_is_162 ?_
                          refine zw_istore_n (pc := 166) (i := 3) (L2 := [some (.ref 81), some (.int (Int32.ofInt a0_)), some (.int (Int32.ofInt 1)), some (.int (Int32.ofInt 1)), some (.int (Int32.ofInt u14_)), some (.long (Int64.ofInt v20_)), none, some (.int (Int32.ofInt 1))]) rfl (by decide) rfl d_M_is_166 ?_
                          refine zr_iinc (pc := 167) (i := 4) (a := u14_) (n := 1) (L2 := [some (.ref 81), some (.int (Int32.ofInt a0_)), some (.int (Int32.ofInt 1)), some (.int (Int32.ofInt 1)), some (.int (Int32.ofInt (u14_ + 1))), some (.long (Int64.ofInt v20_)), none, some (.int (Int32.ofInt 1))]) rfl (by decide) rfl d_M_is_167 ?_
                          refine zw_goto (pc := 170) (tgt := 25) (by decide) d_M_is_170 ?_
                          refine zW_le [some (.ref 81), some (.int (Int32.ofInt a0_)), some (.int (Int32.ofInt 1)), some (.int (Int32.ofInt 1)), some (.int (Int32.ofInt (u14_ + 1))), none, none, none] (⟨rfl, rfl, rfl, rfl, rfl, trivial⟩) ?_
                          exact ih_25 1 (by decide) (by decide) (by (decide)) 1 (by decide) (by decide) (by (decide)) (u14_ + 1) (by (exact zo_74 i15_)) (by (exact zo_832 gb.2.2.2.2.2 hc_31)) (show 0 ≤ (u14_ + 1) by first | assumption | (exact zo_76 i15_)) (by (exact zo_147 hc_31 hlt_25))
                · skip
                  refine zw_lload (pc := 79) (i := 5) (x := Int64.ofInt v20_) rfl (zdal_p dlD_M_is_102 (i := 21) rfl) ?_
                  refine zw_lconst (pc := 81) (v := Int64.ofInt 1) (by decide) (zdal_p dlD_M_is_102 (i := 22) rfl) ?_
                  refine zr_lcmp (pc := 82) ⟨hv20_a, hv20_b⟩ ⟨(by decide), (by decide)⟩ (zdal_p dlD_M_is_102 (i := 23) rfl) ?_
                  have hr25_ := zcmp_s v20_ 1
                  refine zr_if_ne (pc := 83) (tgt := 90) ⟨(by omega), (by omega)⟩ (by decide) (zdal_p dlD_M_is_103 (i := 0) rfl) (fun hc_83 => ?_) (fun hc_83 => ?_)
                  · skip
                    refine zw_iconst (pc := 90) (v := Int32.ofInt 0) (by decide) (zdal_p dlD_M_is_103 (i := 3) rfl) ?_
                    refine zw_goto (pc := 91) (tgt := 135) (by decide) (zdal_p dlD_M_is_103 (i := 4) rfl) ?_
                    refine zw_istore (pc := 135) (i := 7) (L2 := [some (.ref 81), some (.int (Int32.ofInt a0_)), some (.int (Int32.ofInt u12_)), some (.int (Int32.ofInt u13_)), some (.int (Int32.ofInt u14_)), some (.long (Int64.ofInt v20_)), none, some (.int (Int32.ofInt 0))]) (by decide) rfl d_M_is_135 ?_
                    refine zw_iload_n (pc := 137) (n := 2) (x := Int32.ofInt u12_) rfl d_M_is_137 ?_
                    refine zr_if_eq (pc := 138) (tgt := 150) ⟨hu12_a, hu12_b⟩ (by decide) d_M_is_138 (fun hc_138 => ?_) (fun hc_138 => ?_)
                    · skip
                      refine zw_iconst (pc := 150) (v := Int32.ofInt 0) (by decide) d_M_is_150 ?_
                      refine zw_istore_n (pc := 151) (i := 2) (L2 := [some (.ref 81), some (.int (Int32.ofInt a0_)), some (.int (Int32.ofInt 0)), some (.int (Int32.ofInt u13_)), some (.int (Int32.ofInt u14_)), some (.long (Int64.ofInt v20_)), none, some (.int (Int32.ofInt 0))]) rfl (by decide) rfl d_M_is_151 ?_
                      refine zw_iload_n (pc := 152) (n := 3) (x := Int32.ofInt u13_) rfl d_M_is_152 ?_
                      refine zr_if_ne (pc := 153) (tgt := 161) ⟨hu13_a, hu13_b⟩ (by decide) d_M_is_153 (fun hc_153 => ?_) (fun hc_153 => ?_)
                      · skip
                        refine zw_iconst (pc := 161) (v := Int32.ofInt 1) (by decide) d_M_is_161 ?_
                        refine zw_goto (pc := 162) (tgt := 166) (by decide) d_M_is_162 ?_
                        refine zw_istore_n (pc := 166) (i := 3) (L2 := [some (.ref 81), some (.int (Int32.ofInt a0_)), some (.int (Int32.ofInt 0)), some (.int (Int32.ofInt 1)), some (.int (Int32.ofInt u14_)), some (.long (Int64.ofInt v20_)), none, some (.int (Int32.ofInt 0))]) rfl (by decide) rfl d_M_is_166 ?_
                        refine zr_iinc (pc := 167) (i := 4) (a := u14_) (n := 1) (L2 := [some (.ref 81), some (.int (Int32.ofInt a0_)), some (.int (Int32.ofInt 0)), some (.int (Int32.ofInt 1)), some (.int (Int32.ofInt (u14_ + 1))), some (.long (Int64.ofInt v20_)), none, some (.int (Int32.ofInt 0))]) rfl (by decide) rfl d_M_is_167 ?_
                        refine zw_goto (pc := 170) (tgt := 25) (by decide) d_M_is_170 ?_
                        refine zW_le [some (.ref 81), some (.int (Int32.ofInt a0_)), some (.int (Int32.ofInt 0)), some (.int (Int32.ofInt 1)), some (.int (Int32.ofInt (u14_ + 1))), none, none, none] (⟨rfl, rfl, rfl, rfl, rfl, trivial⟩) ?_
                        exact ih_25 0 (by decide) (by decide) (by (decide)) 1 (by decide) (by decide) (by (decide)) (u14_ + 1) (by (exact zo_74 i15_)) (by (exact zo_832 gb.2.2.2.2.2 hc_31)) (show 0 ≤ (u14_ + 1) by first | assumption | (exact zo_76 i15_)) (by (exact zo_147 hc_31 hlt_25))
                      · skip
                        refine zw_iload (pc := 156) (i := 7) (x := Int32.ofInt 0) rfl d_M_is_156 ?_
                        refine zr_if_eq (pc := 158) (tgt := 165) ⟨(by decide), (by decide)⟩ (by decide) d_M_is_158 (fun hc_158 => ?_) (fun hc_158 => ?_)
                        · skip
                          refine zw_iconst (pc := 165) (v := Int32.ofInt 0) (by decide) d_M_is_165 ?_
                          refine zw_istore_n (pc := 166) (i := 3) (L2 := [some (.ref 81), some (.int (Int32.ofInt a0_)), some (.int (Int32.ofInt 0)), some (.int (Int32.ofInt 0)), some (.int (Int32.ofInt u14_)), some (.long (Int64.ofInt v20_)), none, some (.int (Int32.ofInt 0))]) rfl (by decide) rfl d_M_is_166 ?_
                          refine zr_iinc (pc := 167) (i := 4) (a := u14_) (n := 1) (L2 := [some (.ref 81), some (.int (Int32.ofInt a0_)), some (.int (Int32.ofInt 0)), some (.int (Int32.ofInt 0)), some (.int (Int32.ofInt (u14_ + 1))), some (.long (Int64.ofInt v20_)), none, some (.int (Int32.ofInt 0))]) rfl (by decide) rfl d_M_is_167 ?_
                          refine zw_goto (pc := 170) (tgt := 25) (by decide) d_M_is_170 ?_
                          refine zW_le [some (.ref 81), some (.int (Int32.ofInt a0_)), some (.int (Int32.ofInt 0)), some (.int (Int32.ofInt 0)), some (.int (Int32.ofInt (u14_ + 1))), none, none, none] (⟨rfl, rfl, rfl, rfl, rfl, trivial⟩) ?_
                          exact ih_25 0 (by decide) (by decide) (by (decide)) 0 (by decide) (by decide) (by (decide)) (u14_ + 1) (by (exact zo_74 i15_)) (by (exact zo_832 gb.2.2.2.2.2 hc_31)) (show 0 ≤ (u14_ + 1) by first | assumption | (exact zo_76 i15_)) (by (exact zo_147 hc_31 hlt_25))
                        · skip
                          exact absurd hc_158 (by decide)
                    · skip
                      refine zw_iload (pc := 141) (i := 7) (x := Int32.ofInt 0) rfl d_M_is_141 ?_
                      refine zr_if_eq (pc := 143) (tgt := 150) ⟨(by decide), (by decide)⟩ (by decide) d_M_is_143 (fun hc_143 => ?_) (fun hc_143 => ?_)
                      · skip
                        refine zw_iconst (pc := 150) (v := Int32.ofInt 0) (by decide) d_M_is_150 ?_
                        refine zw_istore_n (pc := 151) (i := 2) (L2 := [some (.ref 81), some (.int (Int32.ofInt a0_)), some (.int (Int32.ofInt 0)), some (.int (Int32.ofInt u13_)), some (.int (Int32.ofInt u14_)), some (.long (Int64.ofInt v20_)), none, some (.int (Int32.ofInt 0))]) rfl (by decide) rfl d_M_is_151 ?_
                        refine zw_iload_n (pc := 152) (n := 3) (x := Int32.ofInt u13_) rfl d_M_is_152 ?_
                        refine zr_if_ne (pc := 153) (tgt := 161) ⟨hu13_a, hu13_b⟩ (by decide) d_M_is_153 (fun hc_153 => ?_) (fun hc_153 => ?_)
                        · skip
                          refine zw_iconst (pc := 161) (v := Int32.ofInt 1) (by decide) d_M_is_161 ?_
                          refine zw_goto (pc := 162) (tgt := 166) (by decide) d_M_is_162 ?_
                          refine zw_istore_n (pc := 166) (i := 3) (L2 := [some (.ref 81), some (.int (Int32.ofInt a0_)), some (.int (Int32.ofInt 0)), some (.int (Int32.ofInt 1)), some (.int (Int32.ofInt u14_)), some (.long (Int64.ofInt v20_)), none, some (.int (Int32.ofInt 0))]) rfl (by decide) rfl d_M_is_166 ?_
                          refine zr_iinc (pc := 167) (i := 4) (a := u14_) (n := 1) (L2 := [some (.ref 81), some (.int (Int32.ofInt a0_)), some (.int (Int32.ofInt 0)), some (.int (Int32.ofInt 1)), some (.int (Int32.ofInt (u14_ + 1))), some (.long (Int64.ofInt v20_)), none, some (.int (Int32.ofInt 0))]) rfl (by decide) rfl d_M_is_167 ?_
                          refine zw_goto (pc := 170) (tgt := 25) (by decide) d_M_is_170 ?_
                          refine zW_le [some (.ref 81), some (.int (Int32.ofInt a0_)), some (.int (Int32.ofInt 0)), some (.int (Int32.ofInt 1)), some (.int (Int32.ofInt (u14_ + 1))), none, none, none] (⟨rfl, rfl, rfl, rfl, rfl, trivial⟩) ?_
                          exact ih_25 0 (by decide) (by decide) (by (decide)) 1 (by decide) (by decide) (by (decide)) (u14_ + 1) (by (exact zo_74 i15_)) (by (exact zo_832 gb.2.2.2.2.2 hc_31)) (show 0 ≤ (u14_ + 1) by first | assumption | (exact zo_76 i15_)) (by (exact zo_147 hc_31 hlt_25))
                        · skip
                          refine zw_iload (pc := 156) (i := 7) (x := Int32.ofInt 0) rfl d_M_is_156 ?_
                          refine zr_if_eq (pc := 158) (tgt := 165) ⟨(by decide), (by decide)⟩ (by decide) d_M_is_158 (fun hc_158 => ?_) (fun hc_158 => ?_)
                          · skip
                            refine zw_iconst (pc := 165) (v := Int32.ofInt 0) (by decide) d_M_is_165 ?_
                            refine zw_istore_n (pc := 166) (i := 3) (L2 := [some (.ref 81), some (.int (Int32.ofInt a0_)), some (.int (Int32.ofInt 0)), some (.int (Int32.ofInt 0)), some (.int (Int32.ofInt u14_)), some (.long (Int64.ofInt v20_)), none, some (.int (Int32.ofInt 0))]) rfl (by decide) rfl d_M_is_166 ?_
                            refine zr_iinc (pc := 167) (i := 4) (a := u14_) (n := 1) (L2 := [some (.ref 81), some (.int (Int32.ofInt a0_)), some (.int (Int32.ofInt 0)), some (.int (Int32.ofInt 0)), some (.int (Int32.ofInt (u14_ + 1))), some (.long (Int64.ofInt v20_)), none, some (.int (Int32.ofInt 0))]) rfl (by decide) rfl d_M_is_167 ?_
                            refine zw_goto (pc := 170) (tgt := 25) (by decide) d_M_is_170 ?_
                            refine zW_le [some (.ref 81), some (.int (Int32.ofInt a0_)), some (.int (Int32.ofInt 0)), some (.int (Int32.ofInt 0)), some (.int (Int32.ofInt (u14_ + 1))), none, none, none] (⟨rfl, rfl, rfl, rfl, rfl, trivial⟩) ?_
                            exact ih_25 0 (by decide) (by decide) (by (decide)) 0 (by decide) (by decide) (by (decide)) (u14_ + 1) (by (exact zo_74 i15_)) (by (exact zo_832 gb.2.2.2.2.2 hc_31)) (show 0 ≤ (u14_ + 1) by first | assumption | (exact zo_76 i15_)) (by (exact zo_147 hc_31 hlt_25))
                          · skip
                            exact absurd hc_158 (by decide)
                      · skip
                        exact absurd hc_143 (by decide)
                  · skip
                    refine zw_iconst (pc := 86) (v := Int32.ofInt 1) (by decide) (zdal_p dlD_M_is_103 (i := 1) rfl) ?_
                    refine zw_goto (pc := 87) (tgt := 135) (by decide) (zdal_p dlD_M_is_103 (i := 2) rfl) ?_
                    refine zw_istore (pc := 135) (i := 7) (L2 := [some (.ref 81), some (.int (Int32.ofInt a0_)), some (.int (Int32.ofInt u12_)), some (.int (Int32.ofInt u13_)), some (.int (Int32.ofInt u14_)), some (.long (Int64.ofInt v20_)), none, some (.int (Int32.ofInt 1))]) (by decide) rfl d_M_is_135 ?_
                    refine zw_iload_n (pc := 137) (n := 2) (x := Int32.ofInt u12_) rfl d_M_is_137 ?_
                    refine zr_if_eq (pc := 138) (tgt := 150) ⟨hu12_a, hu12_b⟩ (by decide) d_M_is_138 (fun hc_138 => ?_) (fun hc_138 => ?_)
                    · skip
                      refine zw_iconst (pc := 150) (v := Int32.ofInt 0) (by decide) d_M_is_150 ?_
                      refine zw_istore_n (pc := 151) (i := 2) (L2 := [some (.ref 81), some (.int (Int32.ofInt a0_)), some (.int (Int32.ofInt 0)), some (.int (Int32.ofInt u13_)), some (.int (Int32.ofInt u14_)), some (.long (Int64.ofInt v20_)), none, some (.int (Int32.ofInt 1))]) rfl (by decide) rfl d_M_is_151 ?_
                      refine zw_iload_n (pc := 152) (n := 3) (x := Int32.ofInt u13_) rfl d_M_is_152 ?_
                      refine zr_if_ne (pc := 153) (tgt := 161) ⟨hu13_a, hu13_b⟩ (by decide) d_M_is_153 (fun hc_153 => ?_) (fun hc_153 => ?_)
                      · skip
                        refine zw_iconst (pc := 161) (v := Int32.ofInt 1) (by decide) d_M_is_161 ?_
                        refine zw_goto (pc := 162) (tgt := 166) (by decide) d_M_is_162 ?_
                        refine zw_istore_n (pc := 166) (i := 3) (L2 := [some (.ref 81), some (.int (Int32.ofInt a0_)), some (.int (Int32.ofInt 0)), some (.int (Int32.ofInt 1)), some (.int (Int32.ofInt u14_)), some (.long (Int64.ofInt v20_)), none, some (.int (Int32.ofInt 1))]) rfl (by decide) rfl d_M_is_166 ?_
                        refine zr_iinc (pc := 167) (i := 4) (a := u14_) (n := 1) (L2 := [some (.ref 81), some (.int (Int32.ofInt a0_)), some (.int (Int32.ofInt 0)), some (.int (Int32.ofInt 1)), some (.int (Int32.ofInt (u14_ + 1))), some (.long (Int64.ofInt v20_)), none, some (.int (Int32.ofInt 1))]) rfl (by decide) rfl d_M_is_167 ?_
                        refine zw_goto (pc := 170) (tgt := 25) (by decide) d_M_is_170 ?_
                        refine zW_le [some (.ref 81), some (.int (Int32.ofInt a0_)), some (.int (Int32.ofInt 0)), some (.int (Int32.ofInt 1)), some (.int (Int32.ofInt (u14_ + 1))), none, none, none] (⟨rfl, rfl, rfl, rfl, rfl, trivial⟩) ?_
                        exact ih_25 0 (by decide) (by decide) (by (decide)) 1 (by decide) (by decide) (by (decide)) (u14_ + 1) (by (exact zo_74 i15_)) (by (exact zo_832 gb.2.2.2.2.2 hc_31)) (show 0 ≤ (u14_ + 1) by first | assumption | (exact zo_76 i15_)) (by (exact zo_147 hc_31 hlt_25))
                      · skip
                        refine zw_iload (pc := 156) (i := 7) (x := Int32.ofInt 1) rfl d_M_is_156 ?_
                        refine zr_if_eq (pc := 158) (tgt := 165) ⟨(by decide), (by decide)⟩ (by decide) d_M_is_158 (fun hc_158 => ?_) (fun hc_158 => ?_)
                        · skip
                          exact absurd hc_158 (by decide)
                        · skip
                          refine zw_iconst (pc := 161) (v := Int32.ofInt 1) (by decide) d_M_is_161 ?_
                          refine zw_goto (pc := 162) (tgt := 166) (by decide) d_M_is_162 ?_
                          refine zw_istore_n (pc := 166) (i := 3) (L2 := [some (.ref 81), some (.int (Int32.ofInt a0_)), some (.int (Int32.ofInt 0)), some (.int (Int32.ofInt 1)), some (.int (Int32.ofInt u14_)), some (.long (Int64.ofInt v20_)), none, some (.int (Int32.ofInt 1))]) rfl (by decide) rfl d_M_is_166 ?_
                          refine zr_iinc (pc := 167) (i := 4) (a := u14_) (n := 1) (L2 := [some (.ref 81), some (.int (Int32.ofInt a0_)), some (.int (Int32.ofInt 0)), some (.int (Int32.ofInt 1)), some (.int (Int32.ofInt (u14_ + 1))), some (.long (Int64.ofInt v20_)), none, some (.int (Int32.ofInt 1))]) rfl (by decide) rfl d_M_is_167 ?_
                          refine zw_goto (pc := 170) (tgt := 25) (by decide) d_M_is_170 ?_
                          refine zW_le [some (.ref 81), some (.int (Int32.ofInt a0_)), some (.int (Int32.ofInt 0)), some (.int (Int32.ofInt 1)), some (.int (Int32.ofInt (u14_ + 1))), none, none, none] (⟨rfl, rfl, rfl, rfl, rfl, trivial⟩) ?_
                          exact ih_25 0 (by decide) (by decide) (by (decide)) 1 (by decide) (by decide) (by (decide)) (u14_ + 1) (by (exact zo_74 i15_)) (by (exact zo_832 gb.2.2.2.2.2 hc_31)) (show 0 ≤ (u14_ + 1) by first | assumption | (exact zo_76 i15_)) (by (exact zo_147 hc_31 hlt_25))
                    · skip
                      refine zw_iload (pc := 141) (i := 7) (x := Int32.ofInt 1) rfl d_M_is_141 ?_
                      refine zr_if_eq (pc := 143) (tgt := 150) ⟨(by decide), (by decide)⟩ (by decide) d_M_is_143 (fun hc_143 => ?_) (fun hc_143 => ?_)
                      · skip
                        exact absurd hc_143 (by decide)
                      · skip
                        refine zw_iconst (pc := 146) (v := Int32.ofInt 1) (by decide) d_M_is_146 ?_
                        refine zw_goto (pc := 147) (tgt := 151) (by decide) d_M_is_147 ?_
                        refine zw_istore_n (pc := 151) (i := 2) (L2 := [some (.ref 81), some (.int (Int32.ofInt a0_)), some (.int (Int32.ofInt 1)), some (.int (Int32.ofInt u13_)), some (.int (Int32.ofInt u14_)), some (.long (Int64.ofInt v20_)), none, some (.int (Int32.ofInt 1))]) rfl (by decide) rfl d_M_is_151 ?_
                        refine zw_iload_n (pc := 152) (n := 3) (x := Int32.ofInt u13_) rfl d_M_is_152 ?_
                        refine zr_if_ne (pc := 153) (tgt := 161) ⟨hu13_a, hu13_b⟩ (by decide) d_M_is_153 (fun hc_153 => ?_) (fun hc_153 => ?_)
                        · skip
                          refine zw_iconst (pc := 161) (v := Int32.ofInt 1) (by decide) d_M_is_161 ?_
                          refine zw_goto (pc := 162) (tgt := 166) (by decide) d_M_is_162 ?_
                          refine zw_istore_n (pc := 166) (i := 3) (L2 := [some (.ref 81), some (.int (Int32.ofInt a0_)), some (.int (Int32.ofInt 1)), some (.int (Int32.ofInt 1)), some (.int (Int32.ofInt u14_)), some (.long (Int64.ofInt v20_)), none, some (.int (Int32.ofInt 1))]) rfl (by decide) rfl d_M_is_166 ?_
                          refine zr_iinc (pc := 167) (i := 4) (a := u14_) (n := 1) (L2 := [some (.ref 81), some (.int (Int32.ofInt a0_)), some (.int (Int32.ofInt 1)), some (.int (Int32.ofInt 1)), some (.int (Int32.ofInt (u14_ + 1))), some (.long (Int64.ofInt v20_)), none, some (.int (Int32.ofInt 1))]) rfl (by decide) rfl d_M_is_167 ?_
                          refine zw_goto (pc := 170) (tgt := 25) (by decide) d_M_is_170 ?_
                          refine zW_le [some (.ref 81), some (.int (Int32.ofInt a0_)), some (.int (Int32.ofInt 1)), some (.int (Int32.ofInt 1)), some (.int (Int32.ofInt (u14_ + 1))), none, none, none] (⟨rfl, rfl, rfl, rfl, rfl, trivial⟩) ?_
                          exact ih_25 1 (by decide) (by decide) (by (decide)) 1 (by decide) (by decide) (by (decide)) (u14_ + 1) (by (exact zo_74 i15_)) (by (exact zo_832 gb.2.2.2.2.2 hc_31)) (show 0 ≤ (u14_ + 1) by first | assumption | (exact zo_76 i15_)) (by (exact zo_147 hc_31 hlt_25))
                        · skip
                          refine zw_iload (pc := 156) (i := 7) (x := Int32.ofInt 1) rfl d_M_is_156 ?_
                          refine zr_if_eq (pc := 158) (tgt := 165) ⟨(by decide), (by decide)⟩ (by decide) d_M_is_158 (fun hc_158 => ?_) (fun hc_158 => ?_)
                          · skip
                            exact absurd hc_158 (by decide)
                          · skip
                            refine zw_iconst (pc := 161) (v := Int32.ofInt 1) (by decide) d_M_is_161 ?_
                            refine zw_goto (pc := 162) (tgt := 166) (by decide) d_M_is_162 ?_
                            refine zw_istore_n (pc := 166) (i := 3) (L2 := [some (.ref 81), some (.int (Int32.ofInt a0_)), some (.int (Int32.ofInt 1)), some (.int (Int32.ofInt 1)), some (.int (Int32.ofInt u14_)), some (.long (Int64.ofInt v20_)), none, some (.int (Int32.ofInt 1))]) rfl (by decide) rfl d_M_is_166 ?_
                            refine zr_iinc (pc := 167) (i := 4) (a := u14_) (n := 1) (L2 := [some (.ref 81), some (.int (Int32.ofInt a0_)), some (.int (Int32.ofInt 1)), some (.int (Int32.ofInt 1)), some (.int (Int32.ofInt (u14_ + 1))), some (.long (Int64.ofInt v20_)), none, some (.int (Int32.ofInt 1))]) rfl (by decide) rfl d_M_is_167 ?_
                            refine zw_goto (pc := 170) (tgt := 25) (by decide) d_M_is_170 ?_
                            refine zW_le [some (.ref 81), some (.int (Int32.ofInt a0_)), some (.int (Int32.ofInt 1)), some (.int (Int32.ofInt 1)), some (.int (Int32.ofInt (u14_ + 1))), none, none, none] (⟨rfl, rfl, rfl, rfl, rfl, trivial⟩) ?_
                            exact ih_25 1 (by decide) (by decide) (by (decide)) 1 (by decide) (by decide) (by (decide)) (u14_ + 1) (by (exact zo_74 i15_)) (by (exact zo_832 gb.2.2.2.2.2 hc_31)) (show 0 ≤ (u14_ + 1) by first | assumption | (exact zo_76 i15_)) (by (exact zo_147 hc_31 hlt_25))
            · skip
              refine zw_aload_n (pc := 47) (n := 0) (x := 81) rfl (zdal_p dlD_M_is_102 (i := 3) rfl) ?_
              refine zr_getF (r := 98) (hf_N3_.w hW) (pc := 48) f_M_66 rfl (zh_98 (hf_N3_.w hW)).1 (zdal_p dlD_M_is_102 (i := 4) rfl) ?_
              refine zw_iload (pc := 51) (i := 4) (x := Int32.ofInt u14_) rfl (zdal_p dlD_M_is_102 (i := 5) rfl) ?_
              refine zr_laldn (pc := 53) (zh_98 (hf_N3_.w hW)).2 (by decide) (by (exact i15_)) (by (exact zo_831 gb.2.2.2.2.2 hc_31)) (zdal_p dlD_M_is_102 (i := 6) rfl) (fun v26_ hv26_ hv26_a hv26_b => ?_)
              rw [hf_N3_.jg (by decide) (by decide)] at hv26_
              refine zw_lconst (pc := 54) (v := Int64.ofInt 0) (by decide) (zdal_p dlD_M_is_102 (i := 7) rfl) ?_
              refine zr_lcmp (pc := 55) ⟨hv26_a, hv26_b⟩ ⟨(by decide), (by decide)⟩ (zdal_p dlD_M_is_102 (i := 8) rfl) ?_
              have hr27_ := zcmp_s v26_ 0
              refine zr_if_lt (pc := 56) (tgt := 63) ⟨(by (exact zo_71 hr27_)), (by (exact zo_72 hr27_))⟩ (by decide) (zdal_p dlD_M_is_102 (i := 9) rfl) (fun hc_56 => ?_) (fun hc_56 => ?_)
              · skip
                refine zw_iconst (pc := 63) (v := Int32.ofInt 0) (by decide) (zdal_p dlD_M_is_102 (i := 12) rfl) ?_
                refine zw_goto (pc := 64) (tgt := 135) (by decide) (zdal_p dlD_M_is_102 (i := 13) rfl) ?_
                refine zw_istore (pc := 135) (i := 7) (L2 := [some (.ref 81), some (.int (Int32.ofInt a0_)), some (.int (Int32.ofInt u12_)), some (.int (Int32.ofInt u13_)), some (.int (Int32.ofInt u14_)), some (.long (Int64.ofInt v20_)), none, some (.int (Int32.ofInt 0))]) (by decide) rfl d_M_is_135 ?_
                refine zw_iload_n (pc := 137) (n := 2) (x := Int32.ofInt u12_) rfl d_M_is_137 ?_
                refine zr_if_eq (pc := 138) (tgt := 150) ⟨hu12_a, hu12_b⟩ (by decide) d_M_is_138 (fun hc_138 => ?_) (fun hc_138 => ?_)
                · skip
                  refine zw_iconst (pc := 150) (v := Int32.ofInt 0) (by decide) d_M_is_150 ?_
                  refine zw_istore_n (pc := 151) (i := 2) (L2 := [some (.ref 81), some (.int (Int32.ofInt a0_)), some (.int (Int32.ofInt 0)), some (.int (Int32.ofInt u13_)), some (.int (Int32.ofInt u14_)), some (.long (Int64.ofInt v20_)), none, some (.int (Int32.ofInt 0))]) rfl (by decide) rfl d_M_is_151 ?_
                  refine zw_iload_n (pc := 152) (n := 3) (x := Int32.ofInt u13_) rfl d_M_is_152 ?_
                  refine zr_if_ne (pc := 153) (tgt := 161) ⟨hu13_a, hu13_b⟩ (by decide) d_M_is_153 (fun hc_153 => ?_) (fun hc_153 => ?_)
                  · skip
                    refine zw_iconst (pc := 161) (v := Int32.ofInt 1) (by decide) d_M_is_161 ?_
                    refine zw_goto (pc := 162) (tgt := 166) (by decide) d_M_is_162 ?_
                    refine zw_istore_n (pc := 166) (i := 3) (L2 := [some (.ref 81), some (.int (Int32.ofInt a0_)), some (.int (Int32.ofInt 0)), some (.int (Int32.ofInt 1)), some (.int (Int32.ofInt u14_)), some (.long (Int64.ofInt v20_)), none, some (.int (Int32.ofInt 0))]) rfl (by decide) rfl d_M_is_166 ?_
                    refine zr_iinc (pc := 167) (i := 4) (a := u14_) (n := 1) (L2 := [some (.ref 81), some (.int (Int32.ofInt a0_)), some (.int (Int32.ofInt 0)), some (.int (Int32.ofInt 1)), some (.int (Int32.ofInt (u14_ + 1))), some (.long (Int64.ofInt v20_)), none, some (.int (Int32.ofInt 0))]) rfl (by decide) rfl d_M_is_167 ?_
                    refine zw_goto (pc := 170) (tgt := 25) (by decide) d_M_is_170 ?_
                    refine zW_le [some (.ref 81), some (.int (Int32.ofInt a0_)), some (.int (Int32.ofInt 0)), some (.int (Int32.ofInt 1)), some (.int (Int32.ofInt (u14_ + 1))), none, none, none] (⟨rfl, rfl, rfl, rfl, rfl, trivial⟩) ?_
                    exact ih_25 0 (by decide) (by decide) (by (decide)) 1 (by decide) (by decide) (by (decide)) (u14_ + 1) (by (exact zo_74 i15_)) (by (exact zo_832 gb.2.2.2.2.2 hc_31)) (show 0 ≤ (u14_ + 1) by first | assumption | (exact zo_76 i15_)) (by (exact zo_147 hc_31 hlt_25))
                  · skip
                    refine zw_iload (pc := 156) (i := 7) (x := Int32.ofInt 0) rfl d_M_is_156 ?_
                    refine zr_if_eq (pc := 158) (tgt := 165) ⟨(by decide), (by decide)⟩ (by decide) d_M_is_158 (fun hc_158 => ?_) (fun hc_158 => ?_)
                    · skip
                      refine zw_iconst (pc := 165) (v := Int32.ofInt 0) (by decide) d_M_is_165 ?_
                      refine zw_istore_n (pc := 166) (i := 3) (L2 := [some (.ref 81), some (.int (Int32.ofInt a0_)), some (.int (Int32.ofInt 0)), some (.int (Int32.ofInt 0)), some (.int (Int32.ofInt u14_)), some (.long (Int64.ofInt v20_)), none, some (.int (Int32.ofInt 0))]) rfl (by decide) rfl d_M_is_166 ?_
                      refine zr_iinc (pc := 167) (i := 4) (a := u14_) (n := 1) (L2 := [some (.ref 81), some (.int (Int32.ofInt a0_)), some (.int (Int32.ofInt 0)), some (.int (Int32.ofInt 0)), some (.int (Int32.ofInt (u14_ + 1))), some (.long (Int64.ofInt v20_)), none, some (.int (Int32.ofInt 0))]) rfl (by decide) rfl d_M_is_167 ?_
                      refine zw_goto (pc := 170) (tgt := 25) (by decide) d_M_is_170 ?_
                      refine zW_le [some (.ref 81), some (.int (Int32.ofInt a0_)), some (.int (Int32.ofInt 0)), some (.int (Int32.ofInt 0)), some (.int (Int32.ofInt (u14_ + 1))), none, none, none] (⟨rfl, rfl, rfl, rfl, rfl, trivial⟩) ?_
                      exact ih_25 0 (by decide) (by decide) (by (decide)) 0 (by decide) (by decide) (by (decide)) (u14_ + 1) (by (exact zo_74 i15_)) (by (exact zo_832 gb.2.2.2.2.2 hc_31)) (show 0 ≤ (u14_ + 1) by first | assumption | (exact zo_76 i15_)) (by (exact zo_147 hc_31 hlt_25))
                    · skip
                      exact absurd hc_158 (by decide)
                · skip
                  refine zw_iload (pc := 141) (i := 7) (x := Int32.ofInt 0) rfl d_M_is_141 ?_
                  refine zr_if_eq (pc := 143) (tgt := 150) ⟨(by decide), (by decide)⟩ (by decide) d_M_is_143 (fun hc_143 => ?_) (fun hc_143 => ?_)
                  · skip
                    refine zw_iconst (pc := 150) (v := Int32.ofInt 0) (by decide) d_M_is_150 ?_
                    refine zw_istore_n (pc := 151) (i := 2) (L2 := [some (.ref 81), some (.int (Int32.ofInt a0_)), some (.int (Int32.ofInt 0)), some (.int (Int32.ofInt u13_)), some (.int (Int32.ofInt u14_)), some (.long (Int64.ofInt v20_)), none, some (.int (Int32.ofInt 0))]) rfl (by decide) rfl d_M_is_151 ?_
                    refine zw_iload_n (pc := 152) (n := 3) (x := Int32.ofInt u13_) rfl d_M_is_152 ?_
                    refine zr_if_ne (pc := 153) (tgt := 161) ⟨hu13_a, hu13_b⟩ (by decide) d_M_is_153 (fun hc_153 => ?_) (fun hc_153 => ?_)
                    · skip
                      refine zw_iconst (pc := 161) (v := Int32.ofInt 1) (by decide) d_M_is_161 ?_
                      refine zw_goto (pc := 162) (tgt := 166) (by decide) d_M_is_162 ?_
                      refine zw_istore_n (pc := 166) (i := 3) (L2 := [some (.ref 81), some (.int (Int32.ofInt a0_)), some (.int (Int32.ofInt 0)), some (.int (Int32.ofInt 1)), some (.int (Int32.ofInt u14_)), some (.long (Int64.ofInt v20_)), none, some (.int (Int32.ofInt 0))]) rfl (by decide) rfl d_M_is_166 ?_
                      refine zr_iinc (pc := 167) (i := 4) (a := u14_) (n := 1) (L2 := [some (.ref 81), some (.int (Int32.ofInt a0_)), some (.int (Int32.ofInt 0)), some (.int (Int32.ofInt 1)), some (.int (Int32.ofInt (u14_ + 1))), some (.long (Int64.ofInt v20_)), none, some (.int (Int32.ofInt 0))]) rfl (by decide) rfl d_M_is_167 ?_
                      refine zw_goto (pc := 170) (tgt := 25) (by decide) d_M_is_170 ?_
                      refine zW_le [some (.ref 81), some (.int (Int32.ofInt a0_)), some (.int (Int32.ofInt 0)), some (.int (Int32.ofInt 1)), some (.int (Int32.ofInt (u14_ + 1))), none, none, none] (⟨rfl, rfl, rfl, rfl, rfl, trivial⟩) ?_
                      exact ih_25 0 (by decide) (by decide) (by (decide)) 1 (by decide) (by decide) (by (decide)) (u14_ + 1) (by (exact zo_74 i15_)) (by (exact zo_832 gb.2.2.2.2.2 hc_31)) (show 0 ≤ (u14_ + 1) by first | assumption | (exact zo_76 i15_)) (by (exact zo_147 hc_31 hlt_25))
                    · skip
                      refine zw_iload (pc := 156) (i := 7) (x := Int32.ofInt 0) rfl d_M_is_156 ?_
                      refine zr_if_eq (pc := 158) (tgt := 165) ⟨(by decide), (by decide)⟩ (by decide) d_M_is_158 (fun hc_158 => ?_) (fun hc_158 => ?_)
                      · skip
                        refine zw_iconst (pc := 165) (v := Int32.ofInt 0) (by decide) d_M_is_165 ?_
                        refine zw_istore_n (pc := 166) (i := 3) (L2 := [some (.ref 81), some (.int (Int32.ofInt a0_)), some (.int (Int32.ofInt 0)), some (.int (Int32.ofInt 0)), some (.int (Int32.ofInt u14_)), some (.long (Int64.ofInt v20_)), none, some (.int (Int32.ofInt 0))]) rfl (by decide) rfl d_M_is_166 ?_
                        refine zr_iinc (pc := 167) (i := 4) (a := u14_) (n := 1) (L2 := [some (.ref 81), some (.int (Int32.ofInt a0_)), some (.int (Int32.ofInt 0)), some (.int (Int32.ofInt 0)), some (.int (Int32.ofInt (u14_ + 1))), some (.long (Int64.ofInt v20_)), none, some (.int (Int32.ofInt 0))]) rfl (by decide) rfl d_M_is_167 ?_
                        refine zw_goto (pc := 170) (tgt := 25) (by decide) d_M_is_170 ?_
                        refine zW_le [some (.ref 81), some (.int (Int32.ofInt a0_)), some (.int (Int32.ofInt 0)), some (.int (Int32.ofInt 0)), some (.int (Int32.ofInt (u14_ + 1))), none, none, none] (⟨rfl, rfl, rfl, rfl, rfl, trivial⟩) ?_
                        exact ih_25 0 (by decide) (by decide) (by (decide)) 0 (by decide) (by decide) (by (decide)) (u14_ + 1) (by (exact zo_74 i15_)) (by (exact zo_832 gb.2.2.2.2.2 hc_31)) (show 0 ≤ (u14_ + 1) by first | assumption | (exact zo_76 i15_)) (by (exact zo_147 hc_31 hlt_25))
                      · skip
                        exact absurd hc_158 (by decide)
                  · skip
                    exact absurd hc_143 (by decide)
              · skip
                refine zw_iconst (pc := 59) (v := Int32.ofInt 1) (by decide) (zdal_p dlD_M_is_102 (i := 10) rfl) ?_
                refine zw_goto (pc := 60) (tgt := 135) (by decide) (zdal_p dlD_M_is_102 (i := 11) rfl) ?_
                refine zw_istore (pc := 135) (i := 7) (L2 := [some (.ref 81), some (.int (Int32.ofInt a0_)), some (.int (Int32.ofInt u12_)), some (.int (Int32.ofInt u13_)), some (.int (Int32.ofInt u14_)), some (.long (Int64.ofInt v20_)), none, some (.int (Int32.ofInt 1))]) (by decide) rfl d_M_is_135 ?_
                refine zw_iload_n (pc := 137) (n := 2) (x := Int32.ofInt u12_) rfl d_M_is_137 ?_
                refine zr_if_eq (pc := 138) (tgt := 150) ⟨hu12_a, hu12_b⟩ (by decide) d_M_is_138 (fun hc_138 => ?_) (fun hc_138 => ?_)
                · skip
                  refine zw_iconst (pc := 150) (v := Int32.ofInt 0) (by decide) d_M_is_150 ?_
                  refine zw_istore_n (pc := 151) (i := 2) (L2 := [some (.ref 81), some (.int (Int32.ofInt a0_)), some (.int (Int32.ofInt 0)), some (.int (Int32.ofInt u13_)), some (.int (Int32.ofInt u14_)), some (.long (Int64.ofInt v20_)), none, some (.int (Int32.ofInt 1))]) rfl (by decide) rfl d_M_is_151 ?_
                  refine zw_iload_n (pc := 152) (n := 3) (x := Int32.ofInt u13_) rfl d_M_is_152 ?_
                  refine zr_if_ne (pc := 153) (tgt := 161) ⟨hu13_a, hu13_b⟩ (by decide) d_M_is_153 (fun hc_153 => ?_) (fun hc_153 => ?_)
                  · skip
                    refine zw_iconst (pc := 161) (v := Int32.ofInt 1) (by decide) d_M_is_161 ?_
                    refine zw_goto (pc := 162) (tgt := 166) (by decide) d_M_is_162 ?_
                    refine zw_istore_n (pc := 166) (i := 3) (L2 := [some (.ref 81), some (.int (Int32.ofInt a0_)), some (.int (Int32.ofInt 0)), some (.int (Int32.ofInt 1)), some (.int (Int32.ofInt u14_)), some (.long (Int64.ofInt v20_)), none, some (.int (Int32.ofInt 1))]) rfl (by decide) rfl d_M_is_166 ?_
                    refine zr_iinc (pc := 167) (i := 4) (a := u14_) (n := 1) (L2 := [some (.ref 81), some (.int (Int32.ofInt a0_)), some (.int (Int32.ofInt 0)), some (.int (Int32.ofInt 1)), some (.int (Int32.ofInt (u14_ + 1))), some (.long (Int64.ofInt v20_)), none, some (.int (Int32.ofInt 1))]) rfl (by decide) rfl d_M_is_167 ?_
                    refine zw_goto (pc := 170) (tgt := 25) (by decide) d_M_is_170 ?_
                    refine zW_le [some (.ref 81), some (.int (Int32.ofInt a0_)), some (.int (Int32.ofInt 0)), some (.int (Int32.ofInt 1)), some (.int (Int32.ofInt (u14_ + 1))), none, none, none] (⟨rfl, rfl, rfl, rfl, rfl, trivial⟩) ?_
                    exact ih_25 0 (by decide) (by decide) (by (decide)) 1 (by decide) (by decide) (by (decide)) (u14_ + 1) (by (exact zo_74 i15_)) (by (exact zo_832 gb.2.2.2.2.2 hc_31)) (show 0 ≤ (u14_ + 1) by first | assumption | (exact zo_76 i15_)) (by (exact zo_147 hc_31 hlt_25))
                  · skip
                    refine zw_iload (pc := 156) (i := 7) (x := Int32.ofInt 1) rfl d_M_is_156 ?_
                    refine zr_if_eq (pc := 158) (tgt := 165) ⟨(by decide), (by decide)⟩ (by decide) d_M_is_158 (fun hc_158 => ?_) (fun hc_158 => ?_)
                    · skip
                      exact absurd hc_158 (by decide)
                    · skip
                      refine zw_iconst (pc := 161) (v := Int32.ofInt 1) (by decide) d_M_is_161 ?_
                      refine zw_goto (pc := 162) (tgt := 166) (by decide) d_M_is_162 ?_
                      refine zw_istore_n (pc := 166) (i := 3) (L2 := [some (.ref 81), some (.int (Int32.ofInt a0_)), some (.int (Int32.ofInt 0)), some (.int (Int32.ofInt 1)), some (.int (Int32.ofInt u14_)), some (.long (Int64.ofInt v20_)), none, some (.int (Int32.ofInt 1))]) rfl (by decide) rfl d_M_is_166 ?_
                      refine zr_iinc (pc := 167) (i := 4) (a := u14_) (n := 1) (L2 := [some (.ref 81), some (.int (Int32.ofInt a0_)), some (.int (Int32.ofInt 0)), some (.int (Int32.ofInt 1)), some (.int (Int32.ofInt (u14_ + 1))), some (.long (Int64.ofInt v20_)), none, some (.int (Int32.ofInt 1))]) rfl (by decide) rfl d_M_is_167 ?_
                      refine zw_goto (pc := 170) (tgt := 25) (by decide) d_M_is_170 ?_
                      refine zW_le [some (.ref 81), some (.int (Int32.ofInt a0_)), some (.int (Int32.ofInt 0)), some (.int (Int32.ofInt 1)), some (.int (Int32.ofInt (u14_ + 1))), none, none, none] (⟨rfl, rfl, rfl, rfl, rfl, trivial⟩) ?_
                      exact ih_25 0 (by decide) (by decide) (by (decide)) 1 (by decide) (by decide) (by (decide)) (u14_ + 1) (by (exact zo_74 i15_)) (by (exact zo_832 gb.2.2.2.2.2 hc_31)) (show 0 ≤ (u14_ + 1) by first | assumption | (exact zo_76 i15_)) (by (exact zo_147 hc_31 hlt_25))
                · skip
                  refine zw_iload (pc := 141) (i := 7) (x := Int32.ofInt 1) rfl d_M_is_141 ?_
                  refine zr_if_eq (pc := 143) (tgt := 150) ⟨(by decide), (by decide)⟩ (by decide) d_M_is_143 (fun hc_143 => ?_) (fun hc_143 => ?_)
                  · skip
                    exact absurd hc_143 (by decide)
                  · skip
                    refine zw_iconst (pc := 146) (v := Int32.ofInt 1) (by decide) d_M_is_146 ?_
                    refine zw_goto (pc := 147) (tgt := 151) (by decide) d_M_is_147 ?_
                    refine zw_istore_n (pc := 151) (i := 2) (L2 := [some (.ref 81), some (.int (Int32.ofInt a0_)), some (.int (Int32.ofInt 1)), some (.int (Int32.ofInt u13_)), some (.int (Int32.ofInt u14_)), some (.long (Int64.ofInt v20_)), none, some (.int (Int32.ofInt 1))]) rfl (by decide) rfl d_M_is_151 ?_
                    refine zw_iload_n (pc := 152) (n := 3) (x := Int32.ofInt u13_) rfl d_M_is_152 ?_
                    refine zr_if_ne (pc := 153) (tgt := 161) ⟨hu13_a, hu13_b⟩ (by decide) d_M_is_153 (fun hc_153 => ?_) (fun hc_153 => ?_)
                    · skip
                      refine zw_iconst (pc := 161) (v := Int32.ofInt 1) (by decide) d_M_is_161 ?_
                      refine zw_goto (pc := 162) (tgt := 166) (by decide) d_M_is_162 ?_
                      refine zw_istore_n (pc := 166) (i := 3) (L2 := [some (.ref 81), some (.int (Int32.ofInt a0_)), some (.int (Int32.ofInt 1)), some (.int (Int32.ofInt 1)), some (.int (Int32.ofInt u14_)), some (.long (Int64.ofInt v20_)), none, some (.int (Int32.ofInt 1))]) rfl (by decide) rfl d_M_is_166 ?_
                      refine zr_iinc (pc := 167) (i := 4) (a := u14_) (n := 1) (L2 := [some (.ref 81), some (.int (Int32.ofInt a0_)), some (.int (Int32.ofInt 1)), some (.int (Int32.ofInt 1)), some (.int (Int32.ofInt (u14_ + 1))), some (.long (Int64.ofInt v20_)), none, some (.int (Int32.ofInt 1))]) rfl (by decide) rfl d_M_is_167 ?_
                      refine zw_goto (pc := 170) (tgt := 25) (by decide) d_M_is_170 ?_
                      refine zW_le [some (.ref 81), some (.int (Int32.ofInt a0_)), some (.int (Int32.ofInt 1)), some (.int (Int32.ofInt 1)), some (.int (Int32.ofInt (u14_ + 1))), none, none, none] (⟨rfl, rfl, rfl, rfl, rfl, trivial⟩) ?_
                      exact ih_25 1 (by decide) (by decide) (by (decide)) 1 (by decide) (by decide) (by (decide)) (u14_ + 1) (by (exact zo_74 i15_)) (by (exact zo_832 gb.2.2.2.2.2 hc_31)) (show 0 ≤ (u14_ + 1) by first | assumption | (exact zo_76 i15_)) (by (exact zo_147 hc_31 hlt_25))
                    · skip
                      refine zw_iload (pc := 156) (i := 7) (x := Int32.ofInt 1) rfl d_M_is_156 ?_
                      refine zr_if_eq (pc := 158) (tgt := 165) ⟨(by decide), (by decide)⟩ (by decide) d_M_is_158 (fun hc_158 => ?_) (fun hc_158 => ?_)
                      · skip
                        exact absurd hc_158 (by decide)
                      · skip
                        refine zw_iconst (pc := 161) (v := Int32.ofInt 1) (by decide) d_M_is_161 ?_
                        refine zw_goto (pc := 162) (tgt := 166) (by decide) d_M_is_162 ?_
                        refine zw_istore_n (pc := 166) (i := 3) (L2 := [some (.ref 81), some (.int (Int32.ofInt a0_)), some (.int (Int32.ofInt 1)), some (.int (Int32.ofInt 1)), some (.int (Int32.ofInt u14_)), some (.long (Int64.ofInt v20_)), none, some (.int (Int32.ofInt 1))]) rfl (by decide) rfl d_M_is_166 ?_
                        refine zr_iinc (pc := 167) (i := 4) (a := u14_) (n := 1) (L2 := [some (.ref 81), some (.int (Int32.ofInt a0_)), some (.int (Int32.ofInt 1)), some (.int (Int32.ofInt 1)), some (.int (Int32.ofInt (u14_ + 1))), some (.long (Int64.ofInt v20_)), none, some (.int (Int32.ofInt 1))]) rfl (by decide) rfl d_M_is_167 ?_
                        refine zw_goto (pc := 170) (tgt := 25) (by decide) d_M_is_170 ?_
                        refine zW_le [some (.ref 81), some (.int (Int32.ofInt a0_)), some (.int (Int32.ofInt 1)), some (.int (Int32.ofInt 1)), some (.int (Int32.ofInt (u14_ + 1))), none, none, none] (⟨rfl, rfl, rfl, rfl, rfl, trivial⟩) ?_
                        exact ih_25 1 (by decide) (by decide) (by (decide)) 1 (by decide) (by decide) (by (decide)) (u14_ + 1) (by (exact zo_74 i15_)) (by (exact zo_832 gb.2.2.2.2.2 hc_31)) (show 0 ≤ (u14_ + 1) by first | assumption | (exact zo_76 i15_)) (by (exact zo_147 hc_31 hlt_25))
      exact lp_25 _ 1 (by decide) (by decide) (by (decide)) 0 (by decide) (by decide) (by (decide)) 0 (by decide) (by decide) (show 0 ≤ (0 : Int) by first | assumption | (decide)) (Nat.lt_succ_self _)
    · skip
      exact absurd hc_9 (by decide)
  · skip
    show zW l m_M_is (zn Mz + 0, zw Mz + 0) Mz 9 [some (.ref 81), some (.int (Int32.ofInt a0_)), none, none, none, none, none, none] [.int (Int32.ofInt 0)] (zpI [] [99] Mz (fun v N => True))
    refine zr_if_ne (pc := 9) (tgt := 14) ⟨(by decide), (by decide)⟩ (by decide) (zdal_p dlD_M_is_101 (i := 5) rfl) (fun hc_9 => ?_) (fun hc_9 => ?_)
    · skip
      exact absurd hc_9 (by decide)
    · skip
      refine zw_iconst (pc := 12) (v := Int32.ofInt (-1)) (by decide) (zdal_p dlD_M_is_101 (i := 6) rfl) ?_
      exact zr_iret (pc := 13) (ty := .int) rfl rfl ⟨by (decide), by (decide)⟩ hf trivial (zdal_p dlD_M_is_101 (i := 7) rfl)
