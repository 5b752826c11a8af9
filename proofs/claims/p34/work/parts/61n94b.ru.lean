set_option maxHeartbeats 4000000 in
theorem c_M_unitsS (l : Launch) (Mz : zMem) (hW : zMt Mz) (T : zGT) (hO : gOK T) (hX : gEx T) (hT : T ∈ gTabs) (hGr : gGr T) (p0_ : zGB T Mz) (p1_ : zB 110 65536 0 2147483647 Mz) (p2_ : 0 ≤ ze Mz 81 57) (p3_ : ze Mz 81 57 ≤ 65536) (p4_ : zyW T Mz) : zC l m_M_units 0 0 [.ref 81] Mz (zpI [55, 57, 58] [109, 110] Mz (fun v N => zB 110 65536 0 2147483647 N ∧ 0 ≤ ze N 81 57 ∧ ze N 81 57 ≤ 65536 ∧ v = ze N 81 57 ∧ ze N 81 58 = 1 ∧ (zyO T N (gF T).length (ze N 81 57)))) := by
  refine zC_of (L0 := [some (.ref 81)]) md_M_units (Nat.le_of_ble_eq_true rfl) rfl ?_ zQ0
  have hf : zFr [55, 57, 58] [109, 110] Mz Mz := zFr.rf
  have r_57 := ze_r Mz 81 57
  have r_58 := ze_r Mz 81 58
  have hG := hO.1
  have g24 := hG.2.1
  have g1 := hG.1
  have dv0 : zTab T Mz := p0_.1
  have dv1 : zB 85 144 0 5 Mz := p0_.2.1
  have dv2 : zJX T Mz := p0_.2.2.1
  have dv3 : zFirs T Mz := p0_.2.2.2.1
  have dv4 : zSSm T Mz := p0_.2.2.2.2.1
  have dv5 : zGD Mz := zGB.d hO p0_
  have gb := dv5.1
  have gn := dv0.1
  refine zw_aload_n (pc := 0) (n := 0) (x := 81) rfl (zdal_p dlD_M_units_75 (i := 0) rfl) ?_
  refine zr_callV (hf.w hW) hf.x (pc := 1) [] [] l_M_465 (c_M_laysUnitsS l Mz (hf.w hW) T hO hX hT hGr p0_ p1_ (show 0 ≤ ze Mz 81 57 by first | with_reducible assumption | assumption | omega) (show ze Mz 81 57 ≤ 65536 by first | with_reducible assumption | assumption | omega) p4_) rfl rfl rfl (by decide) (Nat.le_of_ble_eq_true rfl) (zdal_p dlD_M_units_75 (i := 1) rfl) ?_
  rintro _ N1_ ⟨rfl, hsN1_, ⟨hp0_N1_, hp1_N1_, hp2_N1_, hp3_N1_, hp4_N1_⟩⟩
  have hf_N1_ : zFr [55, 57, 58] [109, 110] Mz N1_ := hf.tr hsN1_ (by decide) (by decide)
  have r57_N1_ := ze_r N1_ 81 57
  have r58_N1_ := ze_r N1_ 81 58
  have c3_ : zGB T N1_ := zGB.fr hsN1_ p0_ (by decide) (by decide)
  have c4_ : zTab T N1_ := zTab.fr hsN1_ dv0 (by decide) (by decide)
  have c5_ : zB 85 144 0 5 N1_ := zB.fr hsN1_ dv1 (by decide) (by decide)
  have c6_ : zJX T N1_ := zJX.fr hsN1_ dv2 (by decide) (by decide)
  have c7_ : zFirs T N1_ := zFirs.fr hsN1_ dv3 (by decide) (by decide)
  have c8_ : zSSm T N1_ := zSSm.fr hsN1_ dv4 (by decide) (by decide)
  have c9_ : zGD N1_ := zGD.fr hsN1_ dv5 (by decide) (by decide)
  show zW l m_M_units (zn Mz + 0, zw Mz + 0) N1_ 4 [some (.ref 81)] [] _
  have hl0_ := hp3_N1_
  have hl1_ := hp4_N1_
  refine zw_aload_n (pc := 4) (n := 0) (x := 81) rfl (zdal_p dlD_M_units_75 (i := 2) rfl) ?_
  refine zr_getI (hf_N1_.w hW) (pc := 5) f_M_459 rfl (zdal_p dlD_M_units_75 (i := 3) rfl) ?_
  exact zr_iret (pc := 8) (ty := .int) rfl rfl ⟨by omega, by omega⟩ hf_N1_ ⟨hp0_N1_, (show 0 ≤ ze N1_ 81 57 by first | with_reducible assumption | assumption | omega), (show ze N1_ 81 57 ≤ 65536 by first | with_reducible assumption | assumption | omega), (show (ze N1_ 81 57) = ze N1_ 81 57 by first | with_reducible assumption | assumption | omega), (show ze N1_ 81 58 = 1 by first | with_reducible assumption | assumption | omega), (show (zyO T N1_ (gF T).length (ze N1_ 81 57)) by exact hl1_)⟩ (zdal_p dlD_M_units_75 (i := 4) rfl)
set_option maxHeartbeats 4000000 in
theorem c_M_numbers_96_105S (l : Launch) (Mz : zMem) (hW : zMt Mz) (a2_ : Int) (ha2_a : -2147483648 ≤ a2_) (ha2_b : a2_ < 2147483648) (F_ : Nat) (K_ : Nat → Nat → Int) (hA_ : zTA F_ K_) (p0_ : zRmk F_ K_ Mz) (p1_ : 0 ≤ a2_) (p2_ : a2_ ≤ 0) (p3_ : (∀ j : Nat, j < F_ → -1000000 ≤ zg Mz 96 j ∧ zg Mz 96 j ≤ 1000000)) : zC l m_M_numbers 0 0 [.ref 81, .ref 96, .ref 105, .int (Int32.ofInt a2_)] Mz (zpV [] [105] Mz (fun N => (∀ k : Nat, k < F_ → zg N 105 k = (zsq F_ K_ (fun j_ => zg Mz 96 j_)) k))) := by
  refine zC_of (L0 := [some (.ref 81), some (.ref 96), some (.ref 105), some (.int (Int32.ofInt a2_)), none, none, none, none]) md_M_numbers (Nat.le_of_ble_eq_true rfl) rfl ?_ zQ0
  have hf : zFr [] [105] Mz Mz := zFr.rf
  have r_26 := ze_r Mz 81 26
  obtain ⟨⟨hF1_, hF27_⟩, hAr_⟩ := id hA_
  obtain ⟨hFc_, hKt_⟩ := id p0_
  refine zw_aload_n (pc := 0) (n := 0) (x := 81) rfl d_M_numbers_0 ?_
  refine zr_getI0 hf hW (pc := 1) (by decide) f_M_235 rfl d_M_numbers_1 ?_
  refine zw_iconst (pc := 4) (v := Int32.ofInt 1) (by decide) d_M_numbers_4 ?_
  refine zr_isub (pc := 5) d_M_numbers_5 ?_
  refine zw_istore (pc := 6) (i := 4) (L2 := [some (.ref 81), some (.ref 96), some (.ref 105), some (.int (Int32.ofInt a2_)), some (.int (Int32.ofInt ((ze Mz 81 26) - 1))), none, none, none]) (by decide) rfl d_M_numbers_6 ?_
  have lp_8 : ∀ (n : Nat) (u1_ : Int) (hu1_a : -2147483648 ≤ u1_) (hu1_b : u1_ < 2147483648) (N2_ : zMem) (hs3_ : zFr [] [105] Mz N2_) (i4_ : u1_ < F_) (i5_ : -1 ≤ u1_) (i6_ : zUw 105 F_ N2_ (zsq F_ K_ (fun j_ => zg Mz 96 j_)) u1_), (u1_ + 1).toNat < n → zW l m_M_numbers (zn Mz + 0, zw Mz + 0) N2_ 8 [some (.ref 81), some (.ref 96), some (.ref 105), some (.int (Int32.ofInt a2_)), some (.int (Int32.ofInt u1_)), none, none, none] [] (zpV [] [105] Mz (fun N => (∀ k : Nat, k < F_ → zg N 105 k = (zsq F_ K_ (fun j_ => zg Mz 96 j_)) k))) := by
    intro n
    induction n with
    | zero =>
      intro u1_ hu1_a hu1_b N2_ hs3_ i4_ i5_ i6_ h0
      exact absurd h0 (Nat.not_lt_zero _)
    | succ n ih_8 =>
      intro u1_ hu1_a hu1_b N2_ hs3_ i4_ i5_ i6_ hlt_8
      have hf_N2_ : zFr [] [105] Mz N2_ := hf.tr hs3_ (by decide) (by decide)
      have e26_N2_ : ze N2_ 81 26 = ze Mz 81 26 := hs3_.e (by decide)
      have c7_ : zRmk F_ K_ N2_ := zRmk.fr hs3_ p0_ (by decide) (by decide)
      refine zw_iload (pc := 8) (i := 4) (x := Int32.ofInt u1_) rfl d_M_numbers_8 ?_
      refine zr_if_lt (pc := 10) (tgt := 95) ⟨hu1_a, hu1_b⟩ (by decide) d_M_numbers_10 (fun hc_10 => ?_) (fun hc_10 => ?_)
      · skip
        exact zr_vret (pc := 95) rfl hf_N2_ (show (∀ k : Nat, k < F_ → zg N2_ 105 k = (zsq F_ K_ (fun j_ => zg Mz 96 j_)) k) by exact fun k_ hk_ => (show zUw 105 F_ N2_ (zsq F_ K_ (fun j_ => zg Mz 96 j_)) u1_ by first | with_reducible assumption | assumption) k_ (by omega) (by omega)) d_M_numbers_95
      · skip
        refine zw_aload_n (pc := 13) (n := 1) (x := 96) rfl d_M_numbers_13 ?_
        refine zw_iload (pc := 14) (i := 4) (x := Int32.ofInt u1_) rfl d_M_numbers_14 ?_
        refine zr_laldn (pc := 16) (zh_96 (hf_N2_.w hW)).2 (by decide) (by omega) (by omega) d_M_numbers_16 (fun v8_ hv8_ hv8_a hv8_b => ?_)
        rw [hf_N2_.jg (by decide) (by decide)] at hv8_
        have hr0_ := hv8_
        refine zw_lstore (pc := 17) (i := 5) (L2 := [some (.ref 81), some (.ref 96), some (.ref 105), some (.int (Int32.ofInt a2_)), some (.int (Int32.ofInt u1_)), some (.long (Int64.ofInt v8_)), none, none]) (by decide) rfl d_M_numbers_17 ?_
        refine zw_iload (pc := 19) (i := 4) (x := Int32.ofInt u1_) rfl d_M_numbers_19 ?_
        refine zw_iconst (pc := 21) (v := Int32.ofInt 1) (by decide) d_M_numbers_21 ?_
        refine zr_iadd (pc := 22) d_M_numbers_22 ?_
        refine zw_istore (pc := 23) (i := 7) (L2 := [some (.ref 81), some (.ref 96), some (.ref 105), some (.int (Int32.ofInt a2_)), some (.int (Int32.ofInt u1_)), some (.long (Int64.ofInt v8_)), none, some (.int (Int32.ofInt (u1_ + 1)))]) (by decide) rfl d_M_numbers_23 ?_
        have hup_ := (show zUw 105 F_ N2_ (zsq F_ K_ (fun j_ => zg Mz 96 j_)) u1_ by first | with_reducible assumption | assumption)
        have lp_25 : ∀ (n : Nat) (u9_ : Int) (hu9_a : -9223372036854775808 ≤ u9_) (hu9_b : u9_ < 9223372036854775808) (u10_ : Int) (hu10_a : -2147483648 ≤ u10_) (hu10_b : u10_ < 2147483648) (i11_ : u1_ < u10_) (i12_ : u10_ ≤ F_) (i13_ : zrX F_ K_ (fun j_ => zg Mz 96 j_) u9_ u1_ u10_), (F_ - u10_).toNat < n → zW l m_M_numbers (zn Mz + 0, zw Mz + 0) N2_ 25 [some (.ref 81), some (.ref 96), some (.ref 105), some (.int (Int32.ofInt a2_)), some (.int (Int32.ofInt u1_)), some (.long (Int64.ofInt u9_)), none, some (.int (Int32.ofInt u10_))] [] (zpV [] [105] Mz (fun N => (∀ k : Nat, k < F_ → zg N 105 k = (zsq F_ K_ (fun j_ => zg Mz 96 j_)) k))) := by
          intro n
          induction n with
          | zero =>
            intro u9_ hu9_a hu9_b u10_ hu10_a hu10_b i11_ i12_ i13_ h0
            exact absurd h0 (Nat.not_lt_zero _)
          | succ n ih_25 =>
            intro u9_ hu9_a hu9_b u10_ hu10_a hu10_b i11_ i12_ i13_ hlt_25
            have hxi_ := (show zrX F_ K_ (fun j_ => zg Mz 96 j_) u9_ u1_ u10_ by first | with_reducible assumption | assumption)
            refine zw_iload (pc := 25) (i := 7) (x := Int32.ofInt u10_) rfl d_M_numbers_25 ?_
            refine zw_aload_n (pc := 27) (n := 0) (x := 81) rfl d_M_numbers_27 ?_
            refine zr_getI0 hf_N2_ hW (pc := 28) (by decide) f_M_235 rfl d_M_numbers_28 ?_
            refine zr_icmp_ge (pc := 31) (tgt := 66) ⟨hu10_a, hu10_b⟩ ⟨(ze_r Mz 81 26).1, (ze_r Mz 81 26).2⟩ (by decide) d_M_numbers_31 (fun hc_31 => ?_) (fun hc_31 => ?_)
            · skip
              refine zw_aload_n (pc := 66) (n := 2) (x := 105) rfl d_M_numbers_66 ?_
              refine zw_iload_n (pc := 67) (n := 3) (x := Int32.ofInt a2_) rfl d_M_numbers_67 ?_
              refine zw_iload (pc := 68) (i := 4) (x := Int32.ofInt u1_) rfl d_M_numbers_68 ?_
              refine zr_iadd (pc := 70) d_M_numbers_70 ?_
              refine zw_lload (pc := 71) (i := 5) (x := Int64.ofInt u9_) rfl d_M_numbers_71 ?_
              refine zw_aload_n (pc := 73) (n := 0) (x := 81) rfl d_M_numbers_73 ?_
              refine zr_getF (r := 93) (hf_N2_.w hW) (pc := 74) f_M_50 rfl (zh_93 (hf_N2_.w hW)).1 d_M_numbers_74 ?_
              refine zw_bipush (pc := 77) (v := Int32.ofInt 64) (by decide) d_M_numbers_77 ?_
              refine zw_iload (pc := 79) (i := 4) (x := Int32.ofInt u1_) rfl d_M_numbers_79 ?_
              refine zr_imul (pc := 81) d_M_numbers_81 ?_
              refine zw_iload (pc := 82) (i := 4) (x := Int32.ofInt u1_) rfl d_M_numbers_82 ?_
              refine zr_iadd (pc := 84) d_M_numbers_84 ?_
              refine zr_ialdn (pc := 85) (zh_93 (hf_N2_.w hW)).2 (by decide) (by omega) (by omega) d_M_numbers_85 (fun v14_ hv14_ hv14_a hv14_b => ?_)
              rw [hf_N2_.ie (by decide) (by decide)] at hv14_
              have hm_ := p0_.k (by omega) (by omega) (by omega) (by omega) hv14_
              have hm1_ := hAr_.2.2.1 (u1_).toNat (by omega)
              refine zr_i2l (pc := 86) ⟨hv14_a, hv14_b⟩ d_M_numbers_86 ?_
              refine zr_ldiv (pc := 87) ⟨by omega, by omega⟩ (by omega) d_M_numbers_87 ?_
              have hr15_ := zlquo_r u9_ v14_
              obtain ⟨q_, hq_⟩ : ∃ q, q = (zlquo u9_ v14_) := ⟨_, rfl⟩
              have hqu_ := zrX_e hA_ p3_ hxi_ (by omega) ⟨by omega, by omega⟩ (by omega) (by omega) hm_ hq_
              refine zr_last (pc := 88) (zh_105 (hf_N2_.w hW)).2 (by decide) (by decide) (by omega) (by omega) d_M_numbers_88 (fun N16_ hN16_ hsN16_ => ?_)
              have hf_N16_ : zFr [] [105] Mz N16_ := hf_N2_.tr hsN16_ (by decide) (by decide)
              have hb0_N16_ : zFr [] [105] Mz N16_ := hs3_.tr hsN16_ (by decide) (by decide)
              have e26_N16_ : ze N16_ 81 26 = ze N2_ 81 26 := hsN16_.e (by decide)
              have c17_ : zRmk F_ K_ N16_ := zRmk.fr hsN16_ c7_ (by decide) (by decide)
              have hN_ := hN16_
              rw [show (a2_ + u1_).toNat = (u1_).toNat by omega] at hN_
              have hu1_ := zUw_s hup_ hN_ ⟨by omega, by omega⟩ (by omega) (by rw [← hq_]; exact hqu_)
              refine zr_iinc (pc := 89) (i := 4) (a := u1_) (n := -1) (L2 := [some (.ref 81), some (.ref 96), some (.ref 105), some (.int (Int32.ofInt a2_)), some (.int (Int32.ofInt (u1_ + (-1)))), some (.long (Int64.ofInt u9_)), none, some (.int (Int32.ofInt u10_))]) rfl (by decide) rfl d_M_numbers_89 ?_
              refine zw_goto (pc := 92) (tgt := 8) (by decide) d_M_numbers_92 ?_
              refine zW_le [some (.ref 81), some (.ref 96), some (.ref 105), some (.int (Int32.ofInt a2_)), some (.int (Int32.ofInt (u1_ + (-1)))), none, none, none] (⟨rfl, rfl, rfl, rfl, rfl, trivial⟩) ?_
              exact ih_8 (u1_ + (-1)) (by omega) (by omega) N16_ hb0_N16_ (show (u1_ + (-1)) < F_ by first | with_reducible assumption | assumption | omega) (show -1 ≤ (u1_ + (-1)) by first | with_reducible assumption | assumption | omega) (show zUw 105 F_ N16_ (zsq F_ K_ (fun j_ => zg Mz 96 j_)) (u1_ + (-1)) by exact hu1_) (by omega)
            · skip
              refine zw_lload (pc := 34) (i := 5) (x := Int64.ofInt u9_) rfl d_M_numbers_34 ?_
              refine zw_aload_n (pc := 36) (n := 2) (x := 105) rfl d_M_numbers_36 ?_
              refine zw_iload_n (pc := 37) (n := 3) (x := Int32.ofInt a2_) rfl d_M_numbers_37 ?_
              refine zw_iload (pc := 38) (i := 7) (x := Int32.ofInt u10_) rfl d_M_numbers_38 ?_
              refine zr_iadd (pc := 40) d_M_numbers_40 ?_
              refine zr_laldn (pc := 41) (zh_105 (hf_N2_.w hW)).2 (by decide) (by omega) (by omega) d_M_numbers_41 (fun v18_ hv18_ hv18_a hv18_b => ?_)
              have hx_ := hv18_
              rw [show (a2_ + u10_).toNat = (u10_).toNat by omega] at hx_
              have hx2_ := hx_.trans (hup_ (u10_).toNat (by omega) (by omega))
              refine zw_aload_n (pc := 42) (n := 0) (x := 81) rfl d_M_numbers_42 ?_
              refine zr_getF (r := 93) (hf_N2_.w hW) (pc := 43) f_M_50 rfl (zh_93 (hf_N2_.w hW)).1 d_M_numbers_43 ?_
              refine zw_bipush (pc := 46) (v := Int32.ofInt 64) (by decide) d_M_numbers_46 ?_
              refine zw_iload (pc := 48) (i := 7) (x := Int32.ofInt u10_) rfl d_M_numbers_48 ?_
              refine zr_imul (pc := 50) d_M_numbers_50 ?_
              refine zw_iload (pc := 51) (i := 4) (x := Int32.ofInt u1_) rfl d_M_numbers_51 ?_
              refine zr_iadd (pc := 53) d_M_numbers_53 ?_
              refine zr_ialdn (pc := 54) (zh_93 (hf_N2_.w hW)).2 (by decide) (by omega) (by omega) d_M_numbers_54 (fun v19_ hv19_ hv19_a hv19_b => ?_)
              rw [hf_N2_.ie (by decide) (by decide)] at hv19_
              have hy_ := p0_.k (by omega) (by omega) (by omega) (by omega) hv19_
              refine zr_i2l (pc := 55) ⟨hv19_a, hv19_b⟩ d_M_numbers_55 ?_
              refine zr_lmul (pc := 56) d_M_numbers_56 ?_
              refine zr_lsub (pc := 57) d_M_numbers_57 ?_
              refine zk_nmJ (fun v20_ hv20_ hv20_e => ?_)
              obtain ⟨hv20_a, hv20_b⟩ := hv20_
              have hz_ := zrX_s hxi_ hv20_e (by omega) (by omega) (by omega) hx2_ hy_
              refine zw_lstore (pc := 58) (i := 5) (L2 := [some (.ref 81), some (.ref 96), some (.ref 105), some (.int (Int32.ofInt a2_)), some (.int (Int32.ofInt u1_)), some (.long (Int64.ofInt v20_)), none, some (.int (Int32.ofInt u10_))]) (by decide) rfl d_M_numbers_58 ?_
              refine zr_iinc (pc := 60) (i := 7) (a := u10_) (n := 1) (L2 := [some (.ref 81), some (.ref 96), some (.ref 105), some (.int (Int32.ofInt a2_)), some (.int (Int32.ofInt u1_)), some (.long (Int64.ofInt v20_)), none, some (.int (Int32.ofInt (u10_ + 1)))]) rfl (by decide) rfl d_M_numbers_60 ?_
              refine zw_goto (pc := 63) (tgt := 25) (by decide) d_M_numbers_63 ?_
              exact ih_25 v20_ hv20_a hv20_b (u10_ + 1) (by omega) (by omega) (show u1_ < (u10_ + 1) by first | with_reducible assumption | assumption | omega) (show (u10_ + 1) ≤ F_ by first | with_reducible assumption | assumption | omega) (show zrX F_ K_ (fun j_ => zg Mz 96 j_) v20_ u1_ (u10_ + 1) by exact hz_) (by omega)
        exact lp_25 _ v8_ hv8_a hv8_b (u1_ + 1) (by omega) (by omega) (show u1_ < (u1_ + 1) by first | with_reducible assumption | assumption | omega) (show (u1_ + 1) ≤ F_ by first | with_reducible assumption | assumption | omega) (show zrX F_ K_ (fun j_ => zg Mz 96 j_) v8_ u1_ (u1_ + 1) by exact zrX_0 hr0_) (Nat.lt_succ_self _)
  exact lp_8 _ ((ze Mz 81 26) - 1) (by omega) (by omega) Mz zFr.rf (show ((ze Mz 81 26) - 1) < F_ by first | with_reducible assumption | assumption | omega) (show -1 ≤ ((ze Mz 81 26) - 1) by first | with_reducible assumption | assumption | omega) (show zUw 105 F_ Mz (zsq F_ K_ (fun j_ => zg Mz 96 j_)) ((ze Mz 81 26) - 1) by exact zUw_0 (by omega)) (Nat.lt_succ_self _)
set_option maxHeartbeats 4000000 in
theorem c_M_unitS (l : Launch) (Mz : zMem) (hW : zMt Mz) (a0_ : Int) (ha0_a : -2147483648 ≤ a0_) (ha0_b : a0_ < 2147483648) (a1_ : Int) (ha1_a : -2147483648 ≤ a1_) (ha1_b : a1_ < 2147483648) (T : zGT) (hO : gOK T) (hX : gEx T) (hT : T ∈ gTabs) (hGr : gGr T) (p0_ : zGB T Mz) (p1_ : zB 110 65536 0 2147483647 Mz) (p2_ : 0 ≤ ze Mz 81 57) (p3_ : ze Mz 81 57 ≤ 65536) (p4_ : zyW T Mz) : zC l m_M_unit 0 0 [.ref 81, .int (Int32.ofInt a0_), .int (Int32.ofInt a1_)] Mz (zpI [55, 57, 58] [96, 105, 109, 110] Mz (fun v N => zB 110 65536 0 2147483647 N ∧ 0 ≤ ze N 81 57 ∧ ze N 81 57 ≤ 65536 ∧ ((((0 ≤ a0_ ∧ a0_ < ze N 81 57) ∧ 0 ≤ a1_ ∧ a1_ < ((gF T).length : Int)) ∧ z32w v ((zsq (gF T).length (gmkI T) (zyg T (zuw N (a0_).toNat))) (a1_).toNat)) ∨ (¬ ((0 ≤ a0_ ∧ a0_ < ze N 81 57) ∧ 0 ≤ a1_ ∧ a1_ < ((gF T).length : Int)) ∧ v = (-1000000 : Int))) ∧ ((ze N 81 58 = 0 ∨ (ze N 81 58 = 1 ∧ zyO T N (gF T).length (ze N 81 57)))) ∧ (((¬ (0 ≤ a1_ ∧ a1_ < ((gF T).length : Int))) ∨ (ze N 81 58 = 1 ∧ zyO T N (gF T).length (ze N 81 57)))))) := by
  refine zC_of (L0 := [some (.ref 81), some (.int (Int32.ofInt a0_)), some (.int (Int32.ofInt a1_)), none]) md_M_unit (Nat.le_of_ble_eq_true rfl) rfl ?_ zQ0
  have hf : zFr [55, 57, 58] [96, 105, 109, 110] Mz Mz := zFr.rf
  have r_26 := ze_r Mz 81 26
  have r_57 := ze_r Mz 81 57
  have r_58 := ze_r Mz 81 58
  have hG := hO.1
  have g24 := hG.2.1
  have g1 := hG.1
  have dv0 : zTab T Mz := p0_.1
  have dv1 : zB 85 144 0 5 Mz := p0_.2.1
  have dv2 : zJX T Mz := p0_.2.2.1
  have dv3 : zFirs T Mz := p0_.2.2.2.1
  have dv4 : zSSm T Mz := p0_.2.2.2.2.1
  have dv5 : zGD Mz := zGB.d hO p0_
  have dv6 : zRmk (gF T).length (gmkI T) Mz := p0_.rm
  have gb := dv5.1
  have gn := dv0.1
  have hTA_ := gT_zTA hT
  obtain ⟨⟨hF1_, hF27_⟩, hAr_⟩ := id hTA_
  have hfl_ := dv3.1
  have hyw_ : ze Mz 81 58 = 0 ∨ (ze Mz 81 58 = 1 ∧ zyO T Mz (gF T).length (ze Mz 81 57)) := by rcases (show ze Mz 81 58 = 0 ∨ (ze Mz 81 58 = 1 ∧ (0 ≤ ze Mz 81 57 ∧ ze Mz 81 57 ≤ 65536) ∧ zyO T Mz (gF T).length (ze Mz 81 57)) from p4_) with q_ | q_; exact Or.inl q_; exact Or.inr ⟨q_.1, q_.2.2⟩
  refine zw_aload_n (pc := 0) (n := 0) (x := 81) rfl (zdal_p dlD_M_unit_86 (i := 0) rfl) ?_
  refine zw_iload_n (pc := 1) (n := 2) (x := Int32.ofInt a1_) rfl (zdal_p dlD_M_unit_86 (i := 1) rfl) ?_
  refine zr_callV (hf.w hW) hf.x (pc := 2) [.int (Int32.ofInt a1_)] [] l_M_414 (c_M_isSortG l Mz (hf.w hW) a1_ ha1_a ha1_b T hO p0_) rfl rfl rfl (by decide) (Nat.le_of_ble_eq_true rfl) (zdal_p dlD_M_unit_86 (i := 2) rfl) ?_
  rintro _ N1_ ⟨v2_, rfl, ⟨hv2_a, hv2_b⟩, hsN1_, hp0_N1_⟩
  obtain rfl := hsN1_.eq.symm
  replace hp0_N1_ : ((v2_ = 1 ∧ 0 ≤ a1_ ∧ a1_ < ze Mz 81 26) ∨ (v2_ = 0 ∧ (a1_ < 0 ∨ ze Mz 81 26 ≤ a1_))) := hp0_N1_
  rcases hp0_N1_ with ⟨rfl, ha2_0_hp0_N1_, ha2_1_hp0_N1_⟩ | ⟨rfl, ha2_0_hp0_N1_⟩
  · skip
    show zW l m_M_unit (zn Mz + 0, zw Mz + 0) Mz 5 [some (.ref 81), some (.int (Int32.ofInt a0_)), some (.int (Int32.ofInt a1_)), none] [.int (Int32.ofInt 1)] _
    refine zr_if_ne (pc := 5) (tgt := 12) ⟨(by decide), (by decide)⟩ (by decide) (zdal_p dlD_M_unit_86 (i := 3) rfl) (fun hc_5 => ?_) (fun hc_5 => ?_)
    · skip
      refine zw_aload_n (pc := 12) (n := 0) (x := 81) rfl (zdal_p dlD_M_unit_86 (i := 6) rfl) ?_
      refine zr_callV (hf.w hW) hf.x (pc := 13) [] [] l_M_465 (c_M_laysUnitsS l Mz (hf.w hW) T hO hX hT hGr p0_ p1_ (show 0 ≤ ze Mz 81 57 by first | with_reducible assumption | assumption | omega) (show ze Mz 81 57 ≤ 65536 by first | with_reducible assumption | assumption | omega) p4_) rfl rfl rfl (by decide) (Nat.le_of_ble_eq_true rfl) (zdal_p dlD_M_unit_86 (i := 7) rfl) ?_
      rintro _ N3_ ⟨rfl, hsN3_, ⟨hp0_N3_, hp1_N3_, hp2_N3_, hp3_N3_, hp4_N3_⟩⟩
      have hf_N3_ : zFr [55, 57, 58] [96, 105, 109, 110] Mz N3_ := hf.tr hsN3_ (by decide) (by decide)
      have e26_N3_ : ze N3_ 81 26 = ze Mz 81 26 := hsN3_.e (by decide)
      have r57_N3_ := ze_r N3_ 81 57
      have r58_N3_ := ze_r N3_ 81 58
      have c5_ : zGB T N3_ := zGB.fr hsN3_ p0_ (by decide) (by decide)
      have c6_ : zTab T N3_ := zTab.fr hsN3_ dv0 (by decide) (by decide)
      have c7_ : zB 85 144 0 5 N3_ := zB.fr hsN3_ dv1 (by decide) (by decide)
      have c8_ : zJX T N3_ := zJX.fr hsN3_ dv2 (by decide) (by decide)
      have c9_ : zFirs T N3_ := zFirs.fr hsN3_ dv3 (by decide) (by decide)
      have c10_ : zSSm T N3_ := zSSm.fr hsN3_ dv4 (by decide) (by decide)
      have c11_ : zGD N3_ := zGD.fr hsN3_ dv5 (by decide) (by decide)
      have c12_ : zRmk (gF T).length (gmkI T) N3_ := zRmk.fr hsN3_ dv6 (by decide) (by decide)
      show zW l m_M_unit (zn Mz + 0, zw Mz + 0) N3_ 16 [some (.ref 81), some (.int (Int32.ofInt a0_)), some (.int (Int32.ofInt a1_)), none] [] _
      have hl58_ := hp3_N3_
      have hyo_ := hp4_N3_
      refine zw_iload_n (pc := 16) (n := 1) (x := Int32.ofInt a0_) rfl (zdal_p dlD_M_unit_86 (i := 8) rfl) ?_
      refine zr_i2l (pc := 17) ⟨ha0_a, ha0_b⟩ (zdal_p dlD_M_unit_86 (i := 9) rfl) ?_
      refine zw_lconst (pc := 18) (v := Int64.ofInt 0) (by decide) (zdal_p dlD_M_unit_86 (i := 10) rfl) ?_
      refine zw_aload_n (pc := 19) (n := 0) (x := 81) rfl (zdal_p dlD_M_unit_86 (i := 11) rfl) ?_
      refine zr_getI (hf_N3_.w hW) (pc := 20) f_M_459 rfl (zdal_p dlD_M_unit_86 (i := 12) rfl) ?_
      refine zw_iconst (pc := 23) (v := Int32.ofInt 1) (by decide) (zdal_p dlD_M_unit_86 (i := 13) rfl) ?_
      refine zr_isub (pc := 24) (zdal_p dlD_M_unit_86 (i := 14) rfl) ?_
      refine zr_i2l (pc := 25) ⟨(by omega), (by omega)⟩ (zdal_p dlD_M_unit_86 (i := 15) rfl) ?_
      refine zr_callS hf_N3_.x (pc := 26) [.long (Int64.ofInt a0_), .long (Int64.ofInt 0), .long (Int64.ofInt ((ze N3_ 81 57) - 1))] [] l_M_131 (c_M_isIn l N3_ (hf_N3_.w hW) a0_ (by omega) (by omega) 0 (by decide) (by decide) ((ze N3_ 81 57) - 1) (by omega) (by omega)) rfl rfl (by decide) (Nat.le_of_ble_eq_true rfl) (zdal_p dlD_M_unit_86 (i := 16) rfl) ?_
      rintro _ N13_ ⟨v14_, rfl, ⟨hv14_a, hv14_b⟩, hsN13_, hp0_N13_⟩
      obtain rfl := hsN13_.eq.symm
      replace hp0_N13_ : ((v14_ = 1 ∧ 0 ≤ a0_ ∧ a0_ ≤ ((ze N3_ 81 57) - 1)) ∨ (v14_ = 0 ∧ (a0_ < 0 ∨ ((ze N3_ 81 57) - 1) < a0_))) := hp0_N13_
      rcases hp0_N13_ with ⟨rfl, ha26_0_hp0_N13_, ha26_1_hp0_N13_⟩ | ⟨rfl, ha26_0_hp0_N13_⟩
      · skip
        show zW l m_M_unit (zn Mz + 0, zw Mz + 0) N3_ 29 [some (.ref 81), some (.int (Int32.ofInt a0_)), some (.int (Int32.ofInt a1_)), none] [.int (Int32.ofInt 1)] _
        refine zr_if_ne (pc := 29) (tgt := 36) ⟨(by decide), (by decide)⟩ (by decide) (zdal_p dlD_M_unit_86 (i := 17) rfl) (fun hc_29 => ?_) (fun hc_29 => ?_)
        · skip
          refine zw_iconst (pc := 36) (v := Int32.ofInt 0) (by decide) (zdal_p dlD_M_unit_86 (i := 20) rfl) ?_
          refine zw_istore_n (pc := 37) (i := 3) (L2 := [some (.ref 81), some (.int (Int32.ofInt a0_)), some (.int (Int32.ofInt a1_)), some (.int (Int32.ofInt 0))]) rfl (by decide) rfl (zdal_p dlD_M_unit_86 (i := 21) rfl) ?_
          have lp_38 : ∀ (n : Nat) (u15_ : Int) (hu15_a : -2147483648 ≤ u15_) (hu15_b : u15_ < 2147483648) (N16_ : zMem) (hs17_ : zFr [] [96] N3_ N16_) (i18_ : 0 ≤ u15_) (i19_ : u15_ ≤ ((gF T).length : Int)) (i20_ : (∀ j : Nat, (j : Int) < u15_ → zg N16_ 96 j = zyg T (zuw N16_ (a0_).toNat) j)) (i21_ : (zyO T N16_ (gF T).length (ze N16_ 81 57))), (((gF T).length : Int) - u15_).toNat < n → zW l m_M_unit (zn Mz + 0, zw Mz + 0) N16_ 38 [some (.ref 81), some (.int (Int32.ofInt a0_)), some (.int (Int32.ofInt a1_)), some (.int (Int32.ofInt u15_))] [] (zpI [55, 57, 58] [96, 105, 109, 110] Mz (fun v N => zB 110 65536 0 2147483647 N ∧ 0 ≤ ze N 81 57 ∧ ze N 81 57 ≤ 65536 ∧ ((((0 ≤ a0_ ∧ a0_ < ze N 81 57) ∧ 0 ≤ a1_ ∧ a1_ < ((gF T).length : Int)) ∧ z32w v ((zsq (gF T).length (gmkI T) (zyg T (zuw N (a0_).toNat))) (a1_).toNat)) ∨ (¬ ((0 ≤ a0_ ∧ a0_ < ze N 81 57) ∧ 0 ≤ a1_ ∧ a1_ < ((gF T).length : Int)) ∧ v = (-1000000 : Int))) ∧ ((ze N 81 58 = 0 ∨ (ze N 81 58 = 1 ∧ zyO T N (gF T).length (ze N 81 57)))) ∧ (((¬ (0 ≤ a1_ ∧ a1_ < ((gF T).length : Int))) ∨ (ze N 81 58 = 1 ∧ zyO T N (gF T).length (ze N 81 57)))))) := by
            intro n
            induction n with
            | zero =>
              intro u15_ hu15_a hu15_b N16_ hs17_ i18_ i19_ i20_ i21_ h0
              exact absurd h0 (Nat.not_lt_zero _)
            | succ n ih_38 =>
              intro u15_ hu15_a hu15_b N16_ hs17_ i18_ i19_ i20_ i21_ hlt_38
              have hf_N16_ : zFr [55, 57, 58] [96, 105, 109, 110] Mz N16_ := hf_N3_.tr hs17_ (by decide) (by decide)
              have e26_N16_ : ze N16_ 81 26 = ze N3_ 81 26 := hs17_.e (by decide)
              have e57_N16_ : ze N16_ 81 57 = ze N3_ 81 57 := hs17_.e (by decide)
              have e58_N16_ : ze N16_ 81 58 = ze N3_ 81 58 := hs17_.e (by decide)
              have c22_ : zGB T N16_ := zGB.fr hs17_ c5_ (by decide) (by decide)
              have c23_ : zTab T N16_ := zTab.fr hs17_ c6_ (by decide) (by decide)
              have c24_ : zB 85 144 0 5 N16_ := zB.fr hs17_ c7_ (by decide) (by decide)
              have c25_ : zJX T N16_ := zJX.fr hs17_ c8_ (by decide) (by decide)
              have c26_ : zFirs T N16_ := zFirs.fr hs17_ c9_ (by decide) (by decide)
              have c27_ : zSSm T N16_ := zSSm.fr hs17_ c10_ (by decide) (by decide)
              have c28_ : zGD N16_ := zGD.fr hs17_ c11_ (by decide) (by decide)
              have c29_ : zRmk (gF T).length (gmkI T) N16_ := zRmk.fr hs17_ c12_ (by decide) (by decide)
              have c30_ : zB 110 65536 0 2147483647 N16_ := zB.fr hs17_ hp0_N3_ (by decide) (by decide)
              have hmu_ := (show (∀ j : Nat, (j : Int) < u15_ → zg N16_ 96 j = zyg T (zuw N16_ (a0_).toNat) j) by first | with_reducible assumption | assumption)
              have hyo38_ := (show (zyO T N16_ (gF T).length (ze N16_ 81 57)) by first | with_reducible assumption | assumption)
              refine zw_iload_n (pc := 38) (n := 3) (x := Int32.ofInt u15_) rfl (zdal_p dlD_M_unit_86 (i := 22) rfl) ?_
              refine zw_aload_n (pc := 39) (n := 0) (x := 81) rfl (zdal_p dlD_M_unit_86 (i := 23) rfl) ?_
              refine zr_getI0 hf_N16_ hW (pc := 40) (by decide) f_M_235 rfl (zdal_p dlD_M_unit_87 (i := 0) rfl) ?_
              refine zr_icmp_ge (pc := 43) (tgt := 85) ⟨hu15_a, hu15_b⟩ ⟨(ze_r Mz 81 26).1, (ze_r Mz 81 26).2⟩ (by decide) (zdal_p dlD_M_unit_87 (i := 1) rfl) (fun hc_43 => ?_) (fun hc_43 => ?_)
              · skip
                refine zw_aload_n (pc := 85) (n := 0) (x := 81) rfl (zdal_p dlD_M_unit_87 (i := 23) rfl) ?_
                refine zw_aload_n (pc := 86) (n := 0) (x := 81) rfl (zdal_p dlD_M_unit_88 (i := 0) rfl) ?_
                refine zr_getF (r := 96) (hf_N16_.w hW) (pc := 87) f_M_60 rfl (zh_96 (hf_N16_.w hW)).1 (zdal_p dlD_M_unit_88 (i := 1) rfl) ?_
                refine zw_aload_n (pc := 90) (n := 0) (x := 81) rfl (zdal_p dlD_M_unit_88 (i := 2) rfl) ?_
                refine zr_getF (r := 105) (hf_N16_.w hW) (pc := 91) f_M_87 rfl (zh_105 (hf_N16_.w hW)).1 (zdal_p dlD_M_unit_88 (i := 3) rfl) ?_
                refine zw_iconst (pc := 94) (v := Int32.ofInt 0) (by decide) (zdal_p dlD_M_unit_88 (i := 4) rfl) ?_
                refine zr_callV (hf_N16_.w hW) hf_N16_.x (pc := 95) [.ref 96, .ref 105, .int (Int32.ofInt 0)] [] l_M_289 (c_M_numbers_96_105S l N16_ (hf_N16_.w hW) 0 (by decide) (by decide) (gF T).length (gmkI T) hTA_ c29_ (show 0 ≤ 0 by first | with_reducible assumption | assumption | omega) (show 0 ≤ 0 by first | with_reducible assumption | assumption | omega) (show (∀ j : Nat, j < (gF T).length → -1000000 ≤ zg N16_ 96 j ∧ zg N16_ 96 j ≤ 1000000) by exact fun j_ hj_ => by rw [hmu_ j_ (by omega)]; unfold zyg; split <;> omega)) rfl rfl rfl (by decide) (Nat.le_of_ble_eq_true rfl) (zdal_p dlD_M_unit_88 (i := 5) rfl) ?_
                rintro _ N31_ ⟨rfl, hsN31_, hp0_N31_⟩
                replace hp0_N31_ : (∀ k : Nat, k < (gF T).length → zg N31_ 105 k = (zsq (gF T).length (gmkI T) (fun j_ => zg N16_ 96 j_)) k) := hp0_N31_
                have hf_N31_ : zFr [55, 57, 58] [96, 105, 109, 110] Mz N31_ := hf_N16_.tr hsN31_ (by decide) (by decide)
                have e26_N31_ : ze N31_ 81 26 = ze N16_ 81 26 := hsN31_.e (by decide)
                have e57_N31_ : ze N31_ 81 57 = ze N16_ 81 57 := hsN31_.e (by decide)
                have e58_N31_ : ze N31_ 81 58 = ze N16_ 81 58 := hsN31_.e (by decide)
                have c33_ : zGB T N31_ := zGB.fr hsN31_ c22_ (by decide) (by decide)
                have c34_ : zTab T N31_ := zTab.fr hsN31_ c23_ (by decide) (by decide)
                have c35_ : zB 85 144 0 5 N31_ := zB.fr hsN31_ c24_ (by decide) (by decide)
                have c36_ : zJX T N31_ := zJX.fr hsN31_ c25_ (by decide) (by decide)
                have c37_ : zFirs T N31_ := zFirs.fr hsN31_ c26_ (by decide) (by decide)
                have c38_ : zSSm T N31_ := zSSm.fr hsN31_ c27_ (by decide) (by decide)
                have c39_ : zGD N31_ := zGD.fr hsN31_ c28_ (by decide) (by decide)
                have c40_ : zRmk (gF T).length (gmkI T) N31_ := zRmk.fr hsN31_ c29_ (by decide) (by decide)
                have c41_ : zB 110 65536 0 2147483647 N31_ := zB.fr hsN31_ c30_ (by decide) (by decide)
                show zW l m_M_unit (zn Mz + 0, zw Mz + 0) N31_ 98 [some (.ref 81), some (.int (Int32.ofInt a0_)), some (.int (Int32.ofInt a1_)), some (.int (Int32.ofInt u15_))] [] _
                have hnu_ := hp0_N31_
                have hzw2_ : zuw N31_ (a0_).toNat = zuw N16_ (a0_).toNat := by unfold zuw; rw [(hsN31_).ie (by decide) (by decide) _]
                have hyo2_ : zyO T N31_ (gF T).length (ze N31_ 81 57) := by rw [show ze N31_ 81 57 = ze N16_ 81 57 by omega]; exact zyO_c hyo38_ (fun i_ => (hsN31_).ie (by decide) (by decide) i_)
                refine zw_aload_n (pc := 98) (n := 0) (x := 81) rfl (zdal_p dlD_M_unit_88 (i := 6) rfl) ?_
                refine zr_getF (r := 105) (hf_N31_.w hW) (pc := 99) f_M_87 rfl (zh_105 (hf_N31_.w hW)).1 (zdal_p dlD_M_unit_88 (i := 7) rfl) ?_
                refine zw_iload_n (pc := 102) (n := 2) (x := Int32.ofInt a1_) rfl (zdal_p dlD_M_unit_88 (i := 8) rfl) ?_
                refine zr_laldn (pc := 103) (zh_105 (hf_N31_.w hW)).2 (by decide) (by omega) (by omega) (zdal_p dlD_M_unit_88 (i := 9) rfl) (fun v42_ hv42_ hv42_a hv42_b => ?_)
                have hv_ := (hv42_).trans ((hnu_ _ (by omega)).trans (zsq_cc (m' := zyg T (zuw N31_ (a0_).toNat)) (fun j_ hj_ => by rw [hzw2_]; exact hmu_ j_ (by omega)) _ (by omega)))
                refine zr_l2i (pc := 104) (zdal_p dlD_M_unit_88 (i := 10) rfl) ?_
                refine zk_nmW (fun v43_ hv43_ hv43_w => ?_)
                obtain ⟨hv43_a, hv43_b⟩ := hv43_
                have hzv_ := z32w_e hv43_w hv_
                exact zr_iret (pc := 105) (ty := .int) rfl rfl ⟨by omega, by omega⟩ hf_N31_ ⟨c41_, (show 0 ≤ ze N31_ 81 57 by first | with_reducible assumption | assumption | omega), (show ze N31_ 81 57 ≤ 65536 by first | with_reducible assumption | assumption | omega), (show (((0 ≤ a0_ ∧ a0_ < ze N31_ 81 57) ∧ 0 ≤ a1_ ∧ a1_ < ((gF T).length : Int)) ∧ z32w v43_ ((zsq (gF T).length (gmkI T) (zyg T (zuw N31_ (a0_).toNat))) (a1_).toNat)) ∨ (¬ ((0 ≤ a0_ ∧ a0_ < ze N31_ 81 57) ∧ 0 ≤ a1_ ∧ a1_ < ((gF T).length : Int)) ∧ v43_ = (-1000000 : Int)) by first | exact Or.inr ⟨by omega, rfl⟩ | exact Or.inl ⟨by omega, hzv_⟩), (show (ze N31_ 81 58 = 0 ∨ (ze N31_ 81 58 = 1 ∧ zyO T N31_ (gF T).length (ze N31_ 81 57))) by first | exact Or.inr ⟨by omega, hyo2_⟩ | exact Or.inr ⟨by omega, hyo_⟩ | exact hyw_), (show ((¬ (0 ≤ a1_ ∧ a1_ < ((gF T).length : Int))) ∨ (ze N31_ 81 58 = 1 ∧ zyO T N31_ (gF T).length (ze N31_ 81 57))) by first | exact Or.inr ⟨by omega, hyo2_⟩ | exact Or.inr ⟨by omega, hyo_⟩ | exact Or.inl (by omega))⟩ (zdal_p dlD_M_unit_88 (i := 11) rfl)
              · skip
                refine zw_aload_n (pc := 46) (n := 0) (x := 81) rfl (zdal_p dlD_M_unit_87 (i := 2) rfl) ?_
                refine zr_getF (r := 96) (hf_N16_.w hW) (pc := 47) f_M_60 rfl (zh_96 (hf_N16_.w hW)).1 (zdal_p dlD_M_unit_87 (i := 3) rfl) ?_
                refine zw_iload_n (pc := 50) (n := 3) (x := Int32.ofInt u15_) rfl (zdal_p dlD_M_unit_87 (i := 4) rfl) ?_
                refine zw_aload_n (pc := 51) (n := 0) (x := 81) rfl (zdal_p dlD_M_unit_87 (i := 5) rfl) ?_
                refine zr_getF (r := 110) (hf_N16_.w hW) (pc := 52) f_M_103 rfl (zh_110 (hf_N16_.w hW)).1 (zdal_p dlD_M_unit_87 (i := 6) rfl) ?_
                refine zw_iload_n (pc := 55) (n := 1) (x := Int32.ofInt a0_) rfl (zdal_p dlD_M_unit_87 (i := 7) rfl) ?_
                refine zr_ialdn (pc := 56) (zh_110 (hf_N16_.w hW)).2 (by decide) (by omega) (by omega) (zdal_p dlD_M_unit_87 (i := 8) rfl) (fun v44_ hv44_ hv44_a hv44_b => ?_)
                have hr45_ := c30_.g (e := a0_) (by omega) (by omega)
                rw [← hv44_] at hr45_
                have hsv_ := hv44_
                have hzb_ := c30_ (a0_).toNat (by omega)
                refine zw_aload_n (pc := 57) (n := 0) (x := 81) rfl (zdal_p dlD_M_unit_87 (i := 9) rfl) ?_
                refine zr_getI0 hf_N16_ hW (pc := 58) (by decide) f_M_235 rfl (zdal_p dlD_M_unit_87 (i := 10) rfl) ?_
                refine zw_iconst (pc := 61) (v := Int32.ofInt 1) (by decide) (zdal_p dlD_M_unit_87 (i := 11) rfl) ?_
                refine zr_isub (pc := 62) (zdal_p dlD_M_unit_87 (i := 12) rfl) ?_
                refine zw_iload_n (pc := 63) (n := 3) (x := Int32.ofInt u15_) rfl (zdal_p dlD_M_unit_87 (i := 13) rfl) ?_
                refine zr_isub (pc := 64) (zdal_p dlD_M_unit_87 (i := 14) rfl) ?_
                have hix_ : ((((ze Mz 81 26) - 1) - u15_)).toNat = (gF T).length - 1 - (u15_).toNat := by omega
                have hvx_ : (v44_).toNat = zuw N16_ (a0_).toNat := by rw [hsv_]; rfl
                refine zr_callS hf_N16_.x (pc := 65) [.int (Int32.ofInt v44_), .int (Int32.ofInt (((ze Mz 81 26) - 1) - u15_))] [.int (Int32.ofInt u15_), .ref 96] l_M_213 (c_M_holds l N16_ (hf_N16_.w hW) v44_ hv44_a hv44_b (((ze Mz 81 26) - 1) - u15_) (by omega) (by omega) (show 0 ≤ v44_ by first | with_reducible assumption | assumption | omega) (show 0 ≤ (((ze Mz 81 26) - 1) - u15_) by first | with_reducible assumption | assumption | omega) (show (((ze Mz 81 26) - 1) - u15_) < 32 by first | with_reducible assumption | assumption | omega)) rfl rfl (by decide) (Nat.le_of_ble_eq_true rfl) (zdal_p dlD_M_unit_87 (i := 15) rfl) ?_
                rintro _ N46_ ⟨v47_, rfl, ⟨hv47_a, hv47_b⟩, hsN46_, hp0_N46_⟩
                obtain rfl := hsN46_.eq.symm
                replace hp0_N46_ : ((v47_ = 1 ∧ zbt v44_ (((ze Mz 81 26) - 1) - u15_)) ∨ (v47_ = 0 ∧ ¬ zbt v44_ (((ze Mz 81 26) - 1) - u15_))) := hp0_N46_
                rcases hp0_N46_ with ⟨rfl, ha65_0_hp0_N46_⟩ | ⟨rfl, ha65_0_hp0_N46_⟩
                · skip
                  have h0_ := ha65_0_hp0_N46_
                  unfold zbt at h0_
                  rw [hix_, hvx_] at h0_
                  have hb1_ : zyg T (zuw N16_ (a0_).toNat) (u15_).toNat = -1 := by unfold zyg; rw [if_pos h0_]
                  show zW l m_M_unit (zn Mz + 0, zw Mz + 0) N16_ 68 [some (.ref 81), some (.int (Int32.ofInt a0_)), some (.int (Int32.ofInt a1_)), some (.int (Int32.ofInt u15_))] [.int (Int32.ofInt 1), .int (Int32.ofInt u15_), .ref 96] _
                  refine zr_if_eq (pc := 68) (tgt := 77) ⟨(by decide), (by decide)⟩ (by decide) (zdal_p dlD_M_unit_87 (i := 16) rfl) (fun hc_68 => ?_) (fun hc_68 => ?_)
                  · skip
                    exact absurd hc_68 (by decide)
                  · skip
                    refine zr_ldc2 (pc := 71) (n := (-1)) (by decide) k_M_468 (zdal_p dlD_M_unit_87 (i := 17) rfl) ?_
                    refine zw_goto (pc := 74) (tgt := 78) (by decide) (zdal_p dlD_M_unit_87 (i := 18) rfl) ?_
                    refine zr_last (pc := 78) (zh_96 (hf_N16_.w hW)).2 (by decide) (by decide) (by omega) (by omega) (zdal_p dlD_M_unit_87 (i := 20) rfl) (fun N48_ hN48_ hsN48_ => ?_)
                    have hf_N48_ : zFr [55, 57, 58] [96, 105, 109, 110] Mz N48_ := hf_N16_.tr hsN48_ (by decide) (by decide)
                    have hb0_N48_ : zFr [] [96] N3_ N48_ := hs17_.tr hsN48_ (by decide) (by decide)
                    have e26_N48_ : ze N48_ 81 26 = ze N16_ 81 26 := hsN48_.e (by decide)
                    have e57_N48_ : ze N48_ 81 57 = ze N16_ 81 57 := hsN48_.e (by decide)
                    have e58_N48_ : ze N48_ 81 58 = ze N16_ 81 58 := hsN48_.e (by decide)
                    have c49_ : zGB T N48_ := zGB.fr hsN48_ c22_ (by decide) (by decide)
                    have c50_ : zTab T N48_ := zTab.fr hsN48_ c23_ (by decide) (by decide)
                    have c51_ : zB 85 144 0 5 N48_ := zB.fr hsN48_ c24_ (by decide) (by decide)
                    have c52_ : zJX T N48_ := zJX.fr hsN48_ c25_ (by decide) (by decide)
                    have c53_ : zFirs T N48_ := zFirs.fr hsN48_ c26_ (by decide) (by decide)
                    have c54_ : zSSm T N48_ := zSSm.fr hsN48_ c27_ (by decide) (by decide)
                    have c55_ : zGD N48_ := zGD.fr hsN48_ c28_ (by decide) (by decide)
                    have c56_ : zRmk (gF T).length (gmkI T) N48_ := zRmk.fr hsN48_ c29_ (by decide) (by decide)
                    have c57_ : zB 110 65536 0 2147483647 N48_ := zB.fr hsN48_ c30_ (by decide) (by decide)
                    have hzw_ : zuw N48_ (a0_).toNat = zuw N16_ (a0_).toNat := by unfold zuw; rw [(hsN48_).ie (by decide) (by decide) _]
                    have hmn_ : (∀ j : Nat, (j : Int) < u15_ + 1 → zg N48_ 96 j = zyg T (zuw N48_ (a0_).toNat) j) := fun j_ hj_ => by rw [hzw_]; by_cases g_ : (j_ : Int) = u15_; (rw [show j_ = (u15_).toNat by omega, zs_getJ hN48_ ⟨by omega, by omega⟩]; first | exact hb1_.symm | exact hb0_.symm); (rw [zs_othJ hN48_ (by omega)]; exact hmu_ j_ (by omega))
                    have hyo3_ : zyO T N48_ (gF T).length (ze N48_ 81 57) := by rw [show ze N48_ 81 57 = ze N16_ 81 57 by omega]; exact zyO_c hyo38_ (fun i_ => (hsN48_).ie (by decide) (by decide) i_)
                    refine zr_iinc (pc := 79) (i := 3) (a := u15_) (n := 1) (L2 := [some (.ref 81), some (.int (Int32.ofInt a0_)), some (.int (Int32.ofInt a1_)), some (.int (Int32.ofInt (u15_ + 1)))]) rfl (by decide) rfl (zdal_p dlD_M_unit_87 (i := 21) rfl) ?_
                    refine zw_goto (pc := 82) (tgt := 38) (by decide) (zdal_p dlD_M_unit_87 (i := 22) rfl) ?_
                    exact ih_38 (u15_ + 1) (by omega) (by omega) N48_ hb0_N48_ (show 0 ≤ (u15_ + 1) by first | with_reducible assumption | assumption | omega) (show (u15_ + 1) ≤ ((gF T).length : Int) by first | with_reducible assumption | assumption | omega) (show (∀ j : Nat, (j : Int) < (u15_ + 1) → zg N48_ 96 j = zyg T (zuw N48_ (a0_).toNat) j) by exact hmn_) (show (zyO T N48_ (gF T).length (ze N48_ 81 57)) by exact hyo3_) (by omega)
                · skip
                  have h0_ := ha65_0_hp0_N46_
                  unfold zbt at h0_
                  rw [hix_, hvx_] at h0_
                  have hb0_ : zyg T (zuw N16_ (a0_).toNat) (u15_).toNat = 1 := by unfold zyg; rw [if_neg h0_]
                  show zW l m_M_unit (zn Mz + 0, zw Mz + 0) N16_ 68 [some (.ref 81), some (.int (Int32.ofInt a0_)), some (.int (Int32.ofInt a1_)), some (.int (Int32.ofInt u15_))] [.int (Int32.ofInt 0), .int (Int32.ofInt u15_), .ref 96] _
                  refine zr_if_eq (pc := 68) (tgt := 77) ⟨(by decide), (by decide)⟩ (by decide) (zdal_p dlD_M_unit_87 (i := 16) rfl) (fun hc_68 => ?_) (fun hc_68 => ?_)
                  · skip
                    refine zw_lconst (pc := 77) (v := Int64.ofInt 1) (by decide) (zdal_p dlD_M_unit_87 (i := 19) rfl) ?_
                    refine zr_last (pc := 78) (zh_96 (hf_N16_.w hW)).2 (by decide) (by decide) (by omega) (by omega) (zdal_p dlD_M_unit_87 (i := 20) rfl) (fun N58_ hN58_ hsN58_ => ?_)
                    have hf_N58_ : zFr [55, 57, 58] [96, 105, 109, 110] Mz N58_ := hf_N16_.tr hsN58_ (by decide) (by decide)
                    have hb0_N58_ : zFr [] [96] N3_ N58_ := hs17_.tr hsN58_ (by decide) (by decide)
                    have e26_N58_ : ze N58_ 81 26 = ze N16_ 81 26 := hsN58_.e (by decide)
                    have e57_N58_ : ze N58_ 81 57 = ze N16_ 81 57 := hsN58_.e (by decide)
                    have e58_N58_ : ze N58_ 81 58 = ze N16_ 81 58 := hsN58_.e (by decide)
                    have c59_ : zGB T N58_ := zGB.fr hsN58_ c22_ (by decide) (by decide)
                    have c60_ : zTab T N58_ := zTab.fr hsN58_ c23_ (by decide) (by decide)
                    have c61_ : zB 85 144 0 5 N58_ := zB.fr hsN58_ c24_ (by decide) (by decide)
                    have c62_ : zJX T N58_ := zJX.fr hsN58_ c25_ (by decide) (by decide)
                    have c63_ : zFirs T N58_ := zFirs.fr hsN58_ c26_ (by decide) (by decide)
                    have c64_ : zSSm T N58_ := zSSm.fr hsN58_ c27_ (by decide) (by decide)
                    have c65_ : zGD N58_ := zGD.fr hsN58_ c28_ (by decide) (by decide)
                    have c66_ : zRmk (gF T).length (gmkI T) N58_ := zRmk.fr hsN58_ c29_ (by decide) (by decide)
                    have c67_ : zB 110 65536 0 2147483647 N58_ := zB.fr hsN58_ c30_ (by decide) (by decide)
                    have hzw_ : zuw N58_ (a0_).toNat = zuw N16_ (a0_).toNat := by unfold zuw; rw [(hsN58_).ie (by decide) (by decide) _]
                    have hmn_ : (∀ j : Nat, (j : Int) < u15_ + 1 → zg N58_ 96 j = zyg T (zuw N58_ (a0_).toNat) j) := fun j_ hj_ => by rw [hzw_]; by_cases g_ : (j_ : Int) = u15_; (rw [show j_ = (u15_).toNat by omega, zs_getJ hN58_ ⟨by omega, by omega⟩]; first | exact hb1_.symm | exact hb0_.symm); (rw [zs_othJ hN58_ (by omega)]; exact hmu_ j_ (by omega))
                    have hyo3_ : zyO T N58_ (gF T).length (ze N58_ 81 57) := by rw [show ze N58_ 81 57 = ze N16_ 81 57 by omega]; exact zyO_c hyo38_ (fun i_ => (hsN58_).ie (by decide) (by decide) i_)
                    refine zr_iinc (pc := 79) (i := 3) (a := u15_) (n := 1) (L2 := [some (.ref 81), some (.int (Int32.ofInt a0_)), some (.int (Int32.ofInt a1_)), some (.int (Int32.ofInt (u15_ + 1)))]) rfl (by decide) rfl (zdal_p dlD_M_unit_87 (i := 21) rfl) ?_
                    refine zw_goto (pc := 82) (tgt := 38) (by decide) (zdal_p dlD_M_unit_87 (i := 22) rfl) ?_
                    exact ih_38 (u15_ + 1) (by omega) (by omega) N58_ hb0_N58_ (show 0 ≤ (u15_ + 1) by first | with_reducible assumption | assumption | omega) (show (u15_ + 1) ≤ ((gF T).length : Int) by first | with_reducible assumption | assumption | omega) (show (∀ j : Nat, (j : Int) < (u15_ + 1) → zg N58_ 96 j = zyg T (zuw N58_ (a0_).toNat) j) by exact hmn_) (show (zyO T N58_ (gF T).length (ze N58_ 81 57)) by exact hyo3_) (by omega)
                  · skip
                    exact absurd hc_68 (by decide)
          exact lp_38 _ 0 (by decide) (by decide) N3_ zFr.rf (show 0 ≤ (0 : Int) by first | with_reducible assumption | assumption | omega) (show (0 : Int) ≤ ((gF T).length : Int) by first | with_reducible assumption | assumption | omega) (show (∀ j : Nat, (j : Int) < (0 : Int) → zg N3_ 96 j = zyg T (zuw N3_ (a0_).toNat) j) by exact fun j_ hj_ => absurd hj_ (by omega)) (show (zyO T N3_ (gF T).length (ze N3_ 81 57)) by exact hyo_) (Nat.lt_succ_self _)
        · skip
          exact absurd hc_29 (by decide)
      · skip
        show zW l m_M_unit (zn Mz + 0, zw Mz + 0) N3_ 29 [some (.ref 81), some (.int (Int32.ofInt a0_)), some (.int (Int32.ofInt a1_)), none] [.int (Int32.ofInt 0)] _
        refine zr_if_ne (pc := 29) (tgt := 36) ⟨(by decide), (by decide)⟩ (by decide) (zdal_p dlD_M_unit_86 (i := 17) rfl) (fun hc_29 => ?_) (fun hc_29 => ?_)
        · skip
          exact absurd hc_29 (by decide)
        · skip
          refine zw_ldcw (pc := 32) (v := Int32.ofInt (-1000000)) (by rw [show Int32.ofInt (-1000000) = ((-1000000) : Int32) by decide]; exact k_M_435) (zdal_p dlD_M_unit_86 (i := 18) rfl) ?_
          exact zr_iret (pc := 35) (ty := .int) rfl rfl ⟨by omega, by omega⟩ hf_N3_ ⟨hp0_N3_, (show 0 ≤ ze N3_ 81 57 by first | with_reducible assumption | assumption | omega), (show ze N3_ 81 57 ≤ 65536 by first | with_reducible assumption | assumption | omega), (show (((0 ≤ a0_ ∧ a0_ < ze N3_ 81 57) ∧ 0 ≤ a1_ ∧ a1_ < ((gF T).length : Int)) ∧ z32w ((-1000000)) ((zsq (gF T).length (gmkI T) (zyg T (zuw N3_ (a0_).toNat))) (a1_).toNat)) ∨ (¬ ((0 ≤ a0_ ∧ a0_ < ze N3_ 81 57) ∧ 0 ≤ a1_ ∧ a1_ < ((gF T).length : Int)) ∧ ((-1000000)) = (-1000000 : Int)) by first | exact Or.inr ⟨by omega, rfl⟩ | exact Or.inl ⟨by omega, hzv_⟩), (show (ze N3_ 81 58 = 0 ∨ (ze N3_ 81 58 = 1 ∧ zyO T N3_ (gF T).length (ze N3_ 81 57))) by first | exact Or.inr ⟨by omega, hyo2_⟩ | exact Or.inr ⟨by omega, hyo_⟩ | exact hyw_), (show ((¬ (0 ≤ a1_ ∧ a1_ < ((gF T).length : Int))) ∨ (ze N3_ 81 58 = 1 ∧ zyO T N3_ (gF T).length (ze N3_ 81 57))) by first | exact Or.inr ⟨by omega, hyo2_⟩ | exact Or.inr ⟨by omega, hyo_⟩ | exact Or.inl (by omega))⟩ (zdal_p dlD_M_unit_86 (i := 19) rfl)
    · skip
      exact absurd hc_5 (by decide)
  · skip
    show zW l m_M_unit (zn Mz + 0, zw Mz + 0) Mz 5 [some (.ref 81), some (.int (Int32.ofInt a0_)), some (.int (Int32.ofInt a1_)), none] [.int (Int32.ofInt 0)] _
    refine zr_if_ne (pc := 5) (tgt := 12) ⟨(by decide), (by decide)⟩ (by decide) (zdal_p dlD_M_unit_86 (i := 3) rfl) (fun hc_5 => ?_) (fun hc_5 => ?_)
    · skip
      exact absurd hc_5 (by decide)
    · skip
      refine zw_ldcw (pc := 8) (v := Int32.ofInt (-1000000)) (by rw [show Int32.ofInt (-1000000) = ((-1000000) : Int32) by decide]; exact k_M_435) (zdal_p dlD_M_unit_86 (i := 4) rfl) ?_
      exact zr_iret (pc := 11) (ty := .int) rfl rfl ⟨by omega, by omega⟩ hf ⟨p1_, (show 0 ≤ ze Mz 81 57 by first | with_reducible assumption | assumption | omega), (show ze Mz 81 57 ≤ 65536 by first | with_reducible assumption | assumption | omega), (show (((0 ≤ a0_ ∧ a0_ < ze Mz 81 57) ∧ 0 ≤ a1_ ∧ a1_ < ((gF T).length : Int)) ∧ z32w ((-1000000)) ((zsq (gF T).length (gmkI T) (zyg T (zuw Mz (a0_).toNat))) (a1_).toNat)) ∨ (¬ ((0 ≤ a0_ ∧ a0_ < ze Mz 81 57) ∧ 0 ≤ a1_ ∧ a1_ < ((gF T).length : Int)) ∧ ((-1000000)) = (-1000000 : Int)) by first | exact Or.inr ⟨by omega, rfl⟩ | exact Or.inl ⟨by omega, hzv_⟩), (show (ze Mz 81 58 = 0 ∨ (ze Mz 81 58 = 1 ∧ zyO T Mz (gF T).length (ze Mz 81 57))) by first | exact Or.inr ⟨by omega, hyo2_⟩ | exact Or.inr ⟨by omega, hyo_⟩ | exact hyw_), (show ((¬ (0 ≤ a1_ ∧ a1_ < ((gF T).length : Int))) ∨ (ze Mz 81 58 = 1 ∧ zyO T Mz (gF T).length (ze Mz 81 57))) by first | exact Or.inr ⟨by omega, hyo2_⟩ | exact Or.inr ⟨by omega, hyo_⟩ | exact Or.inl (by omega))⟩ (zdal_p dlD_M_unit_86 (i := 5) rfl)
