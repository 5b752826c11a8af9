set_option maxHeartbeats 4000000 in
theorem c_M_isSortF (l : Launch) (Mz : zMem) (hW : zMt Mz) (a0_ : Int) (ha0_a : -2147483648 ≤ a0_) (ha0_b : a0_ < 2147483648) (F_ : Nat) (K_ : Nat → Nat → Int) (hA_ : zTA F_ K_) (p0_ : zRmk F_ K_ Mz) : zC l m_M_isSort 0 0 [.ref 81, .int (Int32.ofInt a0_)] Mz (zpI [] [] Mz (fun v N => (((v = 1 ∧ 0 ≤ a0_ ∧ a0_ < (F_ : Int)) ∨ (v = 0 ∧ (a0_ < 0 ∨ (F_ : Int) ≤ a0_)))))) := by
  refine zC_of (L0 := [some (.ref 81), some (.int (Int32.ofInt a0_))]) md_M_isSort (Nat.le_of_ble_eq_true rfl) rfl ?_ zQ0
  have hf : zFr [] [] Mz Mz := zFr.rf
  have r_26 := ze_r Mz 81 26
  obtain ⟨⟨hF1_, hF27_⟩, hAr_⟩ := id hA_
  obtain ⟨hFc_, hKt_⟩ := id p0_
  refine zw_iload_n (pc := 0) (n := 1) (x := Int32.ofInt a0_) rfl (zdal_p dlD_M_isSort_17 (i := 0) rfl) ?_
  refine zr_i2l (pc := 1) ⟨ha0_a, ha0_b⟩ (zdal_p dlD_M_isSort_17 (i := 1) rfl) ?_
  refine zw_lconst (pc := 2) (v := Int64.ofInt 0) (by decide) (zdal_p dlD_M_isSort_17 (i := 2) rfl) ?_
  refine zw_aload_n (pc := 3) (n := 0) (x := 81) rfl (zdal_p dlD_M_isSort_17 (i := 3) rfl) ?_
  refine zr_getI0 hf hW (pc := 4) (by decide) f_M_235 rfl (zdal_p dlD_M_isSort_17 (i := 4) rfl) ?_
  refine zw_iconst (pc := 7) (v := Int32.ofInt 1) (by decide) (zdal_p dlD_M_isSort_17 (i := 5) rfl) ?_
  refine zr_isub (pc := 8) (zdal_p dlD_M_isSort_17 (i := 6) rfl) ?_
  refine zr_i2l (pc := 9) ⟨(by omega), (by omega)⟩ (zdal_p dlD_M_isSort_17 (i := 7) rfl) ?_
  refine zr_callS hf.x (pc := 10) [.long (Int64.ofInt a0_), .long (Int64.ofInt 0), .long (Int64.ofInt ((ze Mz 81 26) - 1))] [] l_M_131 (c_M_isIn l Mz (hf.w hW) a0_ (by omega) (by omega) 0 (by decide) (by decide) ((ze Mz 81 26) - 1) (by omega) (by omega)) rfl rfl (by decide) (Nat.le_of_ble_eq_true rfl) (zdal_p dlD_M_isSort_17 (i := 8) rfl) ?_
  rintro _ N1_ ⟨v2_, rfl, ⟨hv2_a, hv2_b⟩, hsN1_, hp0_N1_⟩
  obtain rfl := hsN1_.eq.symm
  replace hp0_N1_ : ((v2_ = 1 ∧ 0 ≤ a0_ ∧ a0_ ≤ ((ze Mz 81 26) - 1)) ∨ (v2_ = 0 ∧ (a0_ < 0 ∨ ((ze Mz 81 26) - 1) < a0_))) := hp0_N1_
  rcases hp0_N1_ with ⟨rfl, ha10_0_hp0_N1_, ha10_1_hp0_N1_⟩ | ⟨rfl, ha10_0_hp0_N1_⟩
  · skip
    show zW l m_M_isSort (zn Mz + 0, zw Mz + 0) Mz 13 [some (.ref 81), some (.int (Int32.ofInt a0_))] [.int (Int32.ofInt 1)] _
    exact zr_iret (pc := 13) (ty := .boolean) rfl (z_narB (by omega)) ⟨by omega, by omega⟩ hf (show ((1 = 1 ∧ 0 ≤ a0_ ∧ a0_ < (F_ : Int)) ∨ (1 = 0 ∧ (a0_ < 0 ∨ (F_ : Int) ≤ a0_))) from Or.inl (⟨(show 1 = 1 by first | with_reducible assumption | assumption | omega), (show 0 ≤ a0_ by first | with_reducible assumption | assumption | omega), (show a0_ < (F_ : Int) by first | with_reducible assumption | assumption | omega)⟩)) (zdal_p dlD_M_isSort_17 (i := 9) rfl)
  · skip
    show zW l m_M_isSort (zn Mz + 0, zw Mz + 0) Mz 13 [some (.ref 81), some (.int (Int32.ofInt a0_))] [.int (Int32.ofInt 0)] _
    exact zr_iret (pc := 13) (ty := .boolean) rfl (z_narB (by omega)) ⟨by omega, by omega⟩ hf (show ((0 = 1 ∧ 0 ≤ a0_ ∧ a0_ < (F_ : Int)) ∨ (0 = 0 ∧ (a0_ < 0 ∨ (F_ : Int) ≤ a0_))) from Or.inr (⟨(show 0 = 0 by first | with_reducible assumption | assumption | omega), (show (a0_ < 0 ∨ (F_ : Int) ≤ a0_) by first | with_reducible assumption | assumption | omega)⟩)) (zdal_p dlD_M_isSort_17 (i := 9) rfl)
set_option maxHeartbeats 4000000 in
theorem c_M_numbers_96_105F (l : Launch) (Mz : zMem) (hW : zMt Mz) (a2_ : Int) (ha2_a : -2147483648 ≤ a2_) (ha2_b : a2_ < 2147483648) (F_ : Nat) (K_ : Nat → Nat → Int) (hA_ : zTA F_ K_) (p0_ : zRmk F_ K_ Mz) (p1_ : 0 ≤ a2_) (p2_ : a2_ ≤ 0) : zC l m_M_numbers 0 0 [.ref 81, .ref 96, .ref 105, .int (Int32.ofInt a2_)] Mz (zpV [] [105] Mz (fun N => zNumQ 96 105 F_ K_ Mz N)) := by
  refine zC_of (L0 := [some (.ref 81), some (.ref 96), some (.ref 105), some (.int (Int32.ofInt a2_)), none, none, none, none]) md_M_numbers (Nat.le_of_ble_eq_true rfl) rfl ?_ zQ0
  have hf : zFr [] [105] Mz Mz := zFr.rf
  have r_26 := ze_r Mz 81 26
  obtain ⟨⟨hF1_, hF27_⟩, hAr_⟩ := id hA_
  obtain ⟨hFc_, hKt_⟩ := id p0_
  refine zw_aload_n (pc := 0) (n := 0) (x := 81) rfl d_M_numbers_0 ?_
  refine zr_getI0 hf hW (pc := 1) (by decide) f_M_235 rfl d_M_numbers_1 ?_
  refine zw_iconst (pc := 4) (v := Int32.ofInt 1) (by decide) d_M_numbers_4 ?_
  refine zr_isub (pc := 5) d_M_numbers_5 ?_
  refine zw_istore (pc := 6) (i := 4) (L2 := [some (.ref 81), some (.ref 96), some (.ref 105), some (.int (Int32.ofInt a2_)), some (.int (Int32.ofInt ((ze Mz 81 26) - 1))), none, none, none]) (by decide) rfl d_M_numbers_6 ?_
  have lp_8 : ∀ (n : Nat) (u1_ : Int) (hu1_a : -2147483648 ≤ u1_) (hu1_b : u1_ < 2147483648) (N2_ : zMem) (hs3_ : zFr [] [105] Mz N2_) (i4_ : u1_ < F_) (i5_ : -1 ≤ u1_) (i6_ : ∀ u : Nat → Int, zsvP 96 F_ K_ Mz u → zUpQ 105 F_ N2_ u u1_), (u1_ + 1).toNat < n → zW l m_M_numbers (zn Mz + 0, zw Mz + 0) N2_ 8 [some (.ref 81), some (.ref 96), some (.ref 105), some (.int (Int32.ofInt a2_)), some (.int (Int32.ofInt u1_)), none, none, none] [] (zpV [] [105] Mz (fun N => zNumQ 96 105 F_ K_ Mz N)) := by
    intro n
    induction n with
    | zero =>
      intro u1_ hu1_a hu1_b N2_ hs3_ i4_ i5_ i6_ h0
      exact absurd h0 (Nat.not_lt_zero _)
    | succ n ih_8 =>
      intro u1_ hu1_a hu1_b N2_ hs3_ i4_ i5_ i6_ hlt_8
      have hf_N2_ : zFr [] [105] Mz N2_ := hf.tr hs3_ (by decide) (by decide)
      have e26_N2_ : ze N2_ 81 26 = ze Mz 81 26 := hs3_.e (by decide)
      have c7_ : zRmk F_ K_ N2_ := zRmk.fr hs3_ p0_ (by decide) (by decide)
      refine zw_iload (pc := 8) (i := 4) (x := Int32.ofInt u1_) rfl d_M_numbers_8 ?_
      refine zr_if_lt (pc := 10) (tgt := 95) ⟨hu1_a, hu1_b⟩ (by decide) d_M_numbers_10 (fun hc_10 => ?_) (fun hc_10 => ?_)
      · skip
        exact zr_vret (pc := 95) rfl hf_N2_ (show zNumQ 96 105 F_ K_ Mz N2_ by exact zNumQ_e (by first | with_reducible assumption | assumption) (by omega)) d_M_numbers_95
      · skip
        refine zw_aload_n (pc := 13) (n := 1) (x := 96) rfl d_M_numbers_13 ?_
        refine zw_iload (pc := 14) (i := 4) (x := Int32.ofInt u1_) rfl d_M_numbers_14 ?_
        refine zr_laldn (pc := 16) (zh_96 (hf_N2_.w hW)).2 (by decide) (by omega) (by omega) d_M_numbers_16 (fun v8_ hv8_ hv8_a hv8_b => ?_)
        rw [hf_N2_.jg (by decide) (by decide)] at hv8_
        have hr0_ := hv8_
        refine zw_lstore (pc := 17) (i := 5) (L2 := [some (.ref 81), some (.ref 96), some (.ref 105), some (.int (Int32.ofInt a2_)), some (.int (Int32.ofInt u1_)), some (.long (Int64.ofInt v8_)), none, none]) (by decide) rfl d_M_numbers_17 ?_
        refine zw_iload (pc := 19) (i := 4) (x := Int32.ofInt u1_) rfl d_M_numbers_19 ?_
        refine zw_iconst (pc := 21) (v := Int32.ofInt 1) (by decide) d_M_numbers_21 ?_
        refine zr_iadd (pc := 22) d_M_numbers_22 ?_
        refine zw_istore (pc := 23) (i := 7) (L2 := [some (.ref 81), some (.ref 96), some (.ref 105), some (.int (Int32.ofInt a2_)), some (.int (Int32.ofInt u1_)), some (.long (Int64.ofInt v8_)), none, some (.int (Int32.ofInt (u1_ + 1)))]) (by decide) rfl d_M_numbers_23 ?_
        have hup_ := (show ∀ u : Nat → Int, zsvP 96 F_ K_ Mz u → zUpQ 105 F_ N2_ u u1_ by first | with_reducible assumption | assumption)
        have lp_25 : ∀ (n : Nat) (u9_ : Int) (hu9_a : -9223372036854775808 ≤ u9_) (hu9_b : u9_ < 9223372036854775808) (u10_ : Int) (hu10_a : -2147483648 ≤ u10_) (hu10_b : u10_ < 2147483648) (i11_ : u1_ < u10_) (i12_ : u10_ ≤ F_) (i13_ : ∀ u : Nat → Int, zsvP 96 F_ K_ Mz u → zXin F_ K_ u u9_ u1_ u10_), (F_ - u10_).toNat < n → zW l m_M_numbers (zn Mz + 0, zw Mz + 0) N2_ 25 [some (.ref 81), some (.ref 96), some (.ref 105), some (.int (Int32.ofInt a2_)), some (.int (Int32.ofInt u1_)), some (.long (Int64.ofInt u9_)), none, some (.int (Int32.ofInt u10_))] [] (zpV [] [105] Mz (fun N => zNumQ 96 105 F_ K_ Mz N)) := by
          intro n
          induction n with
          | zero =>
            intro u9_ hu9_a hu9_b u10_ hu10_a hu10_b i11_ i12_ i13_ h0
            exact absurd h0 (Nat.not_lt_zero _)
          | succ n ih_25 =>
            intro u9_ hu9_a hu9_b u10_ hu10_a hu10_b i11_ i12_ i13_ hlt_25
            have hxi_ := (show ∀ u : Nat → Int, zsvP 96 F_ K_ Mz u → zXin F_ K_ u u9_ u1_ u10_ by first | with_reducible assumption | assumption)
            refine zw_iload (pc := 25) (i := 7) (x := Int32.ofInt u10_) rfl d_M_numbers_25 ?_
            refine zw_aload_n (pc := 27) (n := 0) (x := 81) rfl d_M_numbers_27 ?_
            refine zr_getI0 hf_N2_ hW (pc := 28) (by decide) f_M_235 rfl d_M_numbers_28 ?_
            refine zr_icmp_ge (pc := 31) (tgt := 66) ⟨hu10_a, hu10_b⟩ ⟨(ze_r Mz 81 26).1, (ze_r Mz 81 26).2⟩ (by decide) d_M_numbers_31 (fun hc_31 => ?_) (fun hc_31 => ?_)
            · skip
              refine zw_aload_n (pc := 66) (n := 2) (x := 105) rfl d_M_numbers_66 ?_
              refine zw_iload_n (pc := 67) (n := 3) (x := Int32.ofInt a2_) rfl d_M_numbers_67 ?_
              refine zw_iload (pc := 68) (i := 4) (x := Int32.ofInt u1_) rfl d_M_numbers_68 ?_
              refine zr_iadd (pc := 70) d_M_numbers_70 ?_
              refine zw_lload (pc := 71) (i := 5) (x := Int64.ofInt u9_) rfl d_M_numbers_71 ?_
              refine zw_aload_n (pc := 73) (n := 0) (x := 81) rfl d_M_numbers_73 ?_
              refine zr_getF (r := 93) (hf_N2_.w hW) (pc := 74) f_M_50 rfl (zh_93 (hf_N2_.w hW)).1 d_M_numbers_74 ?_
              refine zw_bipush (pc := 77) (v := Int32.ofInt 64) (by decide) d_M_numbers_77 ?_
              refine zw_iload (pc := 79) (i := 4) (x := Int32.ofInt u1_) rfl d_M_numbers_79 ?_
              refine zr_imul (pc := 81) d_M_numbers_81 ?_
              refine zw_iload (pc := 82) (i := 4) (x := Int32.ofInt u1_) rfl d_M_numbers_82 ?_
              refine zr_iadd (pc := 84) d_M_numbers_84 ?_
              refine zr_ialdn (pc := 85) (zh_93 (hf_N2_.w hW)).2 (by decide) (by omega) (by omega) d_M_numbers_85 (fun v14_ hv14_ hv14_a hv14_b => ?_)
              rw [hf_N2_.ie (by decide) (by decide)] at hv14_
              have hm_ := p0_.k (by omega) (by omega) (by omega) (by omega) hv14_
              have hm1_ := hAr_.2.2.1 (u1_).toNat (by omega)
              refine zr_i2l (pc := 86) ⟨hv14_a, hv14_b⟩ d_M_numbers_86 ?_
              refine zr_ldiv (pc := 87) ⟨by omega, by omega⟩ (by omega) d_M_numbers_87 ?_
              have hr15_ := zlquo_r u9_ v14_
              obtain ⟨q_, hq_⟩ : ∃ q, q = (zlquo u9_ v14_) := ⟨_, rfl⟩
              have hqu_ := fun u hu => zXin_f hA_ (hxi_ u hu) (by omega) hu ⟨by omega, by omega⟩ (by omega) (by omega) hm_ hq_
              refine zr_last (pc := 88) (zh_105 (hf_N2_.w hW)).2 (by decide) (by decide) (by omega) (by omega) d_M_numbers_88 (fun N16_ hN16_ hsN16_ => ?_)
              have hf_N16_ : zFr [] [105] Mz N16_ := hf_N2_.tr hsN16_ (by decide) (by decide)
              have hb0_N16_ : zFr [] [105] Mz N16_ := hs3_.tr hsN16_ (by decide) (by decide)
              have e26_N16_ : ze N16_ 81 26 = ze N2_ 81 26 := hsN16_.e (by decide)
              have c17_ : zRmk F_ K_ N16_ := zRmk.fr hsN16_ c7_ (by decide) (by decide)
              have hN_ := hN16_
              rw [show (a2_ + u1_).toNat = (u1_).toNat by omega] at hN_
              have hu1_ := fun u hu => zUpQ_s (hup_ u hu) hN_ ⟨by omega, by omega⟩ (by omega) (by rw [← hq_]; exact hqu_ u hu)
              refine zr_iinc (pc := 89) (i := 4) (a := u1_) (n := -1) (L2 := [some (.ref 81), some (.ref 96), some (.ref 105), some (.int (Int32.ofInt a2_)), some (.int (Int32.ofInt (u1_ + (-1)))), some (.long (Int64.ofInt u9_)), none, some (.int (Int32.ofInt u10_))]) rfl (by decide) rfl d_M_numbers_89 ?_
              refine zw_goto (pc := 92) (tgt := 8) (by decide) d_M_numbers_92 ?_
              refine zW_le [some (.ref 81), some (.ref 96), some (.ref 105), some (.int (Int32.ofInt a2_)), some (.int (Int32.ofInt (u1_ + (-1)))), none, none, none] (⟨rfl, rfl, rfl, rfl, rfl, trivial⟩) ?_
              exact ih_8 (u1_ + (-1)) (by omega) (by omega) N16_ hb0_N16_ (show (u1_ + (-1)) < F_ by first | with_reducible assumption | assumption | omega) (show -1 ≤ (u1_ + (-1)) by first | with_reducible assumption | assumption | omega) (show ∀ u : Nat → Int, zsvP 96 F_ K_ Mz u → zUpQ 105 F_ N16_ u (u1_ + (-1)) by exact hu1_) (by omega)
            · skip
              refine zw_lload (pc := 34) (i := 5) (x := Int64.ofInt u9_) rfl d_M_numbers_34 ?_
              refine zw_aload_n (pc := 36) (n := 2) (x := 105) rfl d_M_numbers_36 ?_
              refine zw_iload_n (pc := 37) (n := 3) (x := Int32.ofInt a2_) rfl d_M_numbers_37 ?_
              refine zw_iload (pc := 38) (i := 7) (x := Int32.ofInt u10_) rfl d_M_numbers_38 ?_
              refine zr_iadd (pc := 40) d_M_numbers_40 ?_
              refine zr_laldn (pc := 41) (zh_105 (hf_N2_.w hW)).2 (by decide) (by omega) (by omega) d_M_numbers_41 (fun v18_ hv18_ hv18_a hv18_b => ?_)
              have hx_ := hv18_
              rw [show (a2_ + u10_).toNat = (u10_).toNat by omega] at hx_
              refine zw_aload_n (pc := 42) (n := 0) (x := 81) rfl d_M_numbers_42 ?_
              refine zr_getF (r := 93) (hf_N2_.w hW) (pc := 43) f_M_50 rfl (zh_93 (hf_N2_.w hW)).1 d_M_numbers_43 ?_
              refine zw_bipush (pc := 46) (v := Int32.ofInt 64) (by decide) d_M_numbers_46 ?_
              refine zw_iload (pc := 48) (i := 7) (x := Int32.ofInt u10_) rfl d_M_numbers_48 ?_
              refine zr_imul (pc := 50) d_M_numbers_50 ?_
              refine zw_iload (pc := 51) (i := 4) (x := Int32.ofInt u1_) rfl d_M_numbers_51 ?_
              refine zr_iadd (pc := 53) d_M_numbers_53 ?_
              refine zr_ialdn (pc := 54) (zh_93 (hf_N2_.w hW)).2 (by decide) (by omega) (by omega) d_M_numbers_54 (fun v19_ hv19_ hv19_a hv19_b => ?_)
              rw [hf_N2_.ie (by decide) (by decide)] at hv19_
              have hy_ := p0_.k (by omega) (by omega) (by omega) (by omega) hv19_
              refine zr_i2l (pc := 55) ⟨hv19_a, hv19_b⟩ d_M_numbers_55 ?_
              refine zr_lmul (pc := 56) d_M_numbers_56 ?_
              refine zr_lsub (pc := 57) d_M_numbers_57 ?_
              refine zk_nmJ (fun v20_ hv20_ hv20_e => ?_)
              obtain ⟨hv20_a, hv20_b⟩ := hv20_
              have hz_ := fun u hu => zXin_t (hxi_ u hu) hv20_e (by omega) (by omega) (by omega) (hup_ u hu) hx_ hy_
              refine zw_lstore (pc := 58) (i := 5) (L2 := [some (.ref 81), some (.ref 96), some (.ref 105), some (.int (Int32.ofInt a2_)), some (.int (Int32.ofInt u1_)), some (.long (Int64.ofInt v20_)), none, some (.int (Int32.ofInt u10_))]) (by decide) rfl d_M_numbers_58 ?_
              refine zr_iinc (pc := 60) (i := 7) (a := u10_) (n := 1) (L2 := [some (.ref 81), some (.ref 96), some (.ref 105), some (.int (Int32.ofInt a2_)), some (.int (Int32.ofInt u1_)), some (.long (Int64.ofInt v20_)), none, some (.int (Int32.ofInt (u10_ + 1)))]) rfl (by decide) rfl d_M_numbers_60 ?_
              refine zw_goto (pc := 63) (tgt := 25) (by decide) d_M_numbers_63 ?_
              exact ih_25 v20_ hv20_a hv20_b (u10_ + 1) (by omega) (by omega) (show u1_ < (u10_ + 1) by first | with_reducible assumption | assumption | omega) (show (u10_ + 1) ≤ F_ by first | with_reducible assumption | assumption | omega) (show ∀ u : Nat → Int, zsvP 96 F_ K_ Mz u → zXin F_ K_ u v20_ u1_ (u10_ + 1) by exact hz_) (by omega)
        exact lp_25 _ v8_ hv8_a hv8_b (u1_ + 1) (by omega) (by omega) (show u1_ < (u1_ + 1) by first | with_reducible assumption | assumption | omega) (show (u1_ + 1) ≤ F_ by first | with_reducible assumption | assumption | omega) (show ∀ u : Nat → Int, zsvP 96 F_ K_ Mz u → zXin F_ K_ u v8_ u1_ (u1_ + 1) by exact fun u hu => zXin_i (by omega) hu (by omega) hr0_) (Nat.lt_succ_self _)
  exact lp_8 _ ((ze Mz 81 26) - 1) (by omega) (by omega) Mz zFr.rf (show ((ze Mz 81 26) - 1) < F_ by first | with_reducible assumption | assumption | omega) (show -1 ≤ ((ze Mz 81 26) - 1) by first | with_reducible assumption | assumption | omega) (show ∀ u : Nat → Int, zsvP 96 F_ K_ Mz u → zUpQ 105 F_ Mz u ((ze Mz 81 26) - 1) by exact fun u hu => zUpQ_0 (by omega)) (Nat.lt_succ_self _)
set_option maxHeartbeats 4000000 in
theorem c_M_worksProductF (l : Launch) (Mz : zMem) (hW : zMt Mz) (a0_ : Int) (ha0_a : -2147483648 ≤ a0_) (ha0_b : a0_ < 2147483648) (a1_ : Int) (ha1_a : -2147483648 ≤ a1_) (ha1_b : a1_ < 2147483648) (F_ : Nat) (K_ : Nat → Nat → Int) (hA_ : zTA F_ K_) (p0_ : zRmk F_ K_ Mz) (p1_ : 0 ≤ a0_) (p2_ : a0_ < F_) (p3_ : 0 ≤ a1_) (p4_ : a1_ < F_) : zC l m_M_worksProduct 0 0 [.ref 81, .int (Int32.ofInt a0_), .int (Int32.ofInt a1_)] Mz (zpV [] [96, 105] Mz (fun N => (∀ u : Nat → Int, zPdw F_ K_ (a0_).toNat (a1_).toNat u → ∀ k : Nat, k < F_ → zg N 105 k = u k))) := by
  refine zC_of (L0 := [some (.ref 81), some (.int (Int32.ofInt a0_)), some (.int (Int32.ofInt a1_)), none]) md_M_worksProduct (Nat.le_of_ble_eq_true rfl) rfl ?_ zQ0
  have hf : zFr [] [96, 105] Mz Mz := zFr.rf
  have r_26 := ze_r Mz 81 26
  obtain ⟨⟨hF1_, hF27_⟩, hAr_⟩ := id hA_
  obtain ⟨hFc_, hKt_⟩ := id p0_
  refine zw_iconst (pc := 0) (v := Int32.ofInt 0) (by decide) (zdal_p dlD_M_worksProduct_27 (i := 0) rfl) ?_
  refine zw_istore_n (pc := 1) (i := 3) (L2 := [some (.ref 81), some (.int (Int32.ofInt a0_)), some (.int (Int32.ofInt a1_)), some (.int (Int32.ofInt 0))]) rfl (by decide) rfl (zdal_p dlD_M_worksProduct_27 (i := 1) rfl) ?_
  have lp_2 : ∀ (n : Nat) (u1_ : Int) (hu1_a : -2147483648 ≤ u1_) (hu1_b : u1_ < 2147483648) (N2_ : zMem) (hs3_ : zFr [] [96] Mz N2_) (i4_ : 0 ≤ u1_) (i5_ : u1_ ≤ F_) (i6_ : zMkP 96 K_ (a0_).toNat (a1_).toNat N2_ u1_), (F_ - u1_).toNat < n → zW l m_M_worksProduct (zn Mz + 0, zw Mz + 0) N2_ 2 [some (.ref 81), some (.int (Int32.ofInt a0_)), some (.int (Int32.ofInt a1_)), some (.int (Int32.ofInt u1_))] [] (zpV [] [96, 105] Mz (fun N => (∀ u : Nat → Int, zPdw F_ K_ (a0_).toNat (a1_).toNat u → ∀ k : Nat, k < F_ → zg N 105 k = u k))) := by
    intro n
    induction n with
    | zero =>
      intro u1_ hu1_a hu1_b N2_ hs3_ i4_ i5_ i6_ h0
      exact absurd h0 (Nat.not_lt_zero _)
    | succ n ih_2 =>
      intro u1_ hu1_a hu1_b N2_ hs3_ i4_ i5_ i6_ hlt_2
      have hf_N2_ : zFr [] [96, 105] Mz N2_ := hf.tr hs3_ (by decide) (by decide)
      have e26_N2_ : ze N2_ 81 26 = ze Mz 81 26 := hs3_.e (by decide)
      have c7_ : zRmk F_ K_ N2_ := zRmk.fr hs3_ p0_ (by decide) (by decide)
      have hmp_ := (show zMkP 96 K_ (a0_).toNat (a1_).toNat N2_ u1_ by first | with_reducible assumption | assumption)
      refine zw_iload_n (pc := 2) (n := 3) (x := Int32.ofInt u1_) rfl (zdal_p dlD_M_worksProduct_27 (i := 2) rfl) ?_
      refine zw_aload_n (pc := 3) (n := 0) (x := 81) rfl (zdal_p dlD_M_worksProduct_27 (i := 3) rfl) ?_
      refine zr_getI0 hf_N2_ hW (pc := 4) (by decide) f_M_235 rfl (zdal_p dlD_M_worksProduct_27 (i := 4) rfl) ?_
      refine zr_icmp_ge (pc := 7) (tgt := 47) ⟨hu1_a, hu1_b⟩ ⟨(ze_r Mz 81 26).1, (ze_r Mz 81 26).2⟩ (by decide) (zdal_p dlD_M_worksProduct_27 (i := 5) rfl) (fun hc_7 => ?_) (fun hc_7 => ?_)
      · skip
        refine zw_aload_n (pc := 47) (n := 0) (x := 81) rfl (zdal_p dlD_M_worksProduct_28 (i := 7) rfl) ?_
        refine zw_aload_n (pc := 48) (n := 0) (x := 81) rfl (zdal_p dlD_M_worksProduct_28 (i := 8) rfl) ?_
        refine zr_getF (r := 96) (hf_N2_.w hW) (pc := 49) f_M_60 rfl (zh_96 (hf_N2_.w hW)).1 (zdal_p dlD_M_worksProduct_28 (i := 9) rfl) ?_
        refine zw_aload_n (pc := 52) (n := 0) (x := 81) rfl (zdal_p dlD_M_worksProduct_28 (i := 10) rfl) ?_
        refine zr_getF (r := 105) (hf_N2_.w hW) (pc := 53) f_M_87 rfl (zh_105 (hf_N2_.w hW)).1 (zdal_p dlD_M_worksProduct_28 (i := 11) rfl) ?_
        refine zw_iconst (pc := 56) (v := Int32.ofInt 0) (by decide) (zdal_p dlD_M_worksProduct_28 (i := 12) rfl) ?_
        refine zr_callV (hf_N2_.w hW) hf_N2_.x (pc := 57) [.ref 96, .ref 105, .int (Int32.ofInt 0)] [] l_M_289 (c_M_numbers_96_105F l N2_ (hf_N2_.w hW) 0 (by decide) (by decide) F_ K_ hA_ c7_ (show 0 ≤ 0 by first | with_reducible assumption | assumption | omega) (show 0 ≤ 0 by first | with_reducible assumption | assumption | omega)) rfl rfl rfl (by decide) (Nat.le_of_ble_eq_true rfl) (zdal_p dlD_M_worksProduct_28 (i := 13) rfl) ?_
        rintro _ N8_ ⟨rfl, hsN8_, hp0_N8_⟩
        replace hp0_N8_ : zNumQ 96 105 F_ K_ N2_ N8_ := hp0_N8_
        have hf_N8_ : zFr [] [96, 105] Mz N8_ := hf_N2_.tr hsN8_ (by decide) (by decide)
        have e26_N8_ : ze N8_ 81 26 = ze N2_ 81 26 := hsN8_.e (by decide)
        have c10_ : zRmk F_ K_ N8_ := zRmk.fr hsN8_ c7_ (by decide) (by decide)
        show zW l m_M_worksProduct (zn Mz + 0, zw Mz + 0) N8_ 60 [some (.ref 81), some (.int (Int32.ofInt a0_)), some (.int (Int32.ofInt a1_)), some (.int (Int32.ofInt u1_))] [] _
        have hnu_ := hp0_N8_
        have hwp_ : (∀ u : Nat → Int, zPdw F_ K_ (a0_).toNat (a1_).toNat u → ∀ k : Nat, k < F_ → zg N8_ 105 k = u k) := fun u hu => hnu_ u (zMkP_v hA_ hmp_ (by omega) hu)
        exact zr_vret (pc := 60) rfl hf_N8_ (show (∀ u : Nat → Int, zPdw F_ K_ (a0_).toNat (a1_).toNat u → ∀ k : Nat, k < F_ → zg N8_ 105 k = u k) by exact hwp_) (zdal_p dlD_M_worksProduct_28 (i := 14) rfl)
      · skip
        refine zw_aload_n (pc := 10) (n := 0) (x := 81) rfl (zdal_p dlD_M_worksProduct_27 (i := 6) rfl) ?_
        refine zr_getF (r := 96) (hf_N2_.w hW) (pc := 11) f_M_60 rfl (zh_96 (hf_N2_.w hW)).1 (zdal_p dlD_M_worksProduct_27 (i := 7) rfl) ?_
        refine zw_iload_n (pc := 14) (n := 3) (x := Int32.ofInt u1_) rfl (zdal_p dlD_M_worksProduct_27 (i := 8) rfl) ?_
        refine zw_aload_n (pc := 15) (n := 0) (x := 81) rfl (zdal_p dlD_M_worksProduct_27 (i := 9) rfl) ?_
        refine zr_getF (r := 93) (hf_N2_.w hW) (pc := 16) f_M_50 rfl (zh_93 (hf_N2_.w hW)).1 (zdal_p dlD_M_worksProduct_27 (i := 10) rfl) ?_
        refine zw_bipush (pc := 19) (v := Int32.ofInt 64) (by decide) (zdal_p dlD_M_worksProduct_27 (i := 11) rfl) ?_
        refine zw_iload_n (pc := 21) (n := 1) (x := Int32.ofInt a0_) rfl (zdal_p dlD_M_worksProduct_27 (i := 12) rfl) ?_
        refine zr_imul (pc := 22) (zdal_p dlD_M_worksProduct_27 (i := 13) rfl) ?_
        refine zw_iload_n (pc := 23) (n := 3) (x := Int32.ofInt u1_) rfl (zdal_p dlD_M_worksProduct_27 (i := 14) rfl) ?_
        refine zr_iadd (pc := 24) (zdal_p dlD_M_worksProduct_27 (i := 15) rfl) ?_
        refine zr_ialdn (pc := 25) (zh_93 (hf_N2_.w hW)).2 (by decide) (by omega) (by omega) (zdal_p dlD_M_worksProduct_27 (i := 16) rfl) (fun v11_ hv11_ hv11_a hv11_b => ?_)
        rw [hf_N2_.ie (by decide) (by decide)] at hv11_
        have hx_ := p0_.k (by omega) (by omega) (by omega) (by omega) hv11_
        have hx1_ := hAr_.1 (a0_).toNat (u1_).toNat (by omega) (by omega)
        rw [← hx_] at hx1_
        refine zr_i2l (pc := 26) ⟨hv11_a, hv11_b⟩ (zdal_p dlD_M_worksProduct_27 (i := 17) rfl) ?_
        refine zw_aload_n (pc := 27) (n := 0) (x := 81) rfl (zdal_p dlD_M_worksProduct_27 (i := 18) rfl) ?_
        refine zr_getF (r := 93) (hf_N2_.w hW) (pc := 28) f_M_50 rfl (zh_93 (hf_N2_.w hW)).1 (zdal_p dlD_M_worksProduct_27 (i := 19) rfl) ?_
        refine zw_bipush (pc := 31) (v := Int32.ofInt 64) (by decide) (zdal_p dlD_M_worksProduct_27 (i := 20) rfl) ?_
        refine zw_iload_n (pc := 33) (n := 2) (x := Int32.ofInt a1_) rfl (zdal_p dlD_M_worksProduct_27 (i := 21) rfl) ?_
        refine zr_imul (pc := 34) (zdal_p dlD_M_worksProduct_27 (i := 22) rfl) ?_
        refine zw_iload_n (pc := 35) (n := 3) (x := Int32.ofInt u1_) rfl (zdal_p dlD_M_worksProduct_27 (i := 23) rfl) ?_
        refine zr_iadd (pc := 36) (zdal_p dlD_M_worksProduct_28 (i := 0) rfl) ?_
        refine zr_ialdn (pc := 37) (zh_93 (hf_N2_.w hW)).2 (by decide) (by omega) (by omega) (zdal_p dlD_M_worksProduct_28 (i := 1) rfl) (fun v12_ hv12_ hv12_a hv12_b => ?_)
        rw [hf_N2_.ie (by decide) (by decide)] at hv12_
        have hy_ := p0_.k (by omega) (by omega) (by omega) (by omega) hv12_
        have hy1_ := hAr_.1 (a1_).toNat (u1_).toNat (by omega) (by omega)
        rw [← hy_] at hy1_
        have hxy_ := zmul24 hx1_.1 hx1_.2 hy1_.1 hy1_.2
        refine zr_i2l (pc := 38) ⟨hv12_a, hv12_b⟩ (zdal_p dlD_M_worksProduct_28 (i := 2) rfl) ?_
        refine zr_lmul (pc := 39) (zdal_p dlD_M_worksProduct_28 (i := 3) rfl) ?_
        refine zk_nmJ (fun v13_ hv13_ hv13_e => ?_)
        obtain ⟨hv13_a, hv13_b⟩ := hv13_
        have hz_ := z64q ⟨by omega, by omega⟩ ⟨by omega, by omega⟩ hv13_e
        rw [hx_, hy_] at hz_
        refine zr_last (pc := 40) (zh_96 (hf_N2_.w hW)).2 (by decide) (by decide) (by omega) (by omega) (zdal_p dlD_M_worksProduct_28 (i := 4) rfl) (fun N14_ hN14_ hsN14_ => ?_)
        have hf_N14_ : zFr [] [96, 105] Mz N14_ := hf_N2_.tr hsN14_ (by decide) (by decide)
        have hb0_N14_ : zFr [] [96] Mz N14_ := hs3_.tr hsN14_ (by decide) (by decide)
        have e26_N14_ : ze N14_ 81 26 = ze N2_ 81 26 := hsN14_.e (by decide)
        have c15_ : zRmk F_ K_ N14_ := zRmk.fr hsN14_ c7_ (by decide) (by decide)
        have hm2_ := zMkP_s hmp_ hN14_ (by omega) ⟨by omega, by omega⟩ hz_
        refine zr_iinc (pc := 41) (i := 3) (a := u1_) (n := 1) (L2 := [some (.ref 81), some (.int (Int32.ofInt a0_)), some (.int (Int32.ofInt a1_)), some (.int (Int32.ofInt (u1_ + 1)))]) rfl (by decide) rfl (zdal_p dlD_M_worksProduct_28 (i := 5) rfl) ?_
        refine zw_goto (pc := 44) (tgt := 2) (by decide) (zdal_p dlD_M_worksProduct_28 (i := 6) rfl) ?_
        exact ih_2 (u1_ + 1) (by omega) (by omega) N14_ hb0_N14_ (show 0 ≤ (u1_ + 1) by first | with_reducible assumption | assumption | omega) (show (u1_ + 1) ≤ F_ by first | with_reducible assumption | assumption | omega) (show zMkP 96 K_ (a0_).toNat (a1_).toNat N14_ (u1_ + 1) by exact hm2_) (by omega)
  exact lp_2 _ 0 (by decide) (by decide) Mz zFr.rf (show 0 ≤ (0 : Int) by first | with_reducible assumption | assumption | omega) (show (0 : Int) ≤ F_ by first | with_reducible assumption | assumption | omega) (show zMkP 96 K_ (a0_).toNat (a1_).toNat Mz (0 : Int) by exact zMkP_0) (Nat.lt_succ_self _)
set_option maxHeartbeats 4000000 in
theorem c_M_pairsG (l : Launch) (Mz : zMem) (hW : zMt Mz) (a0_ : Int) (ha0_a : -2147483648 ≤ a0_) (ha0_b : a0_ < 2147483648) (a1_ : Int) (ha1_a : -2147483648 ≤ a1_) (ha1_b : a1_ < 2147483648) (F_ : Nat) (K_ : Nat → Nat → Int) (hA_ : zTA F_ K_) (p0_ : zRmk F_ K_ Mz) : zC l m_M_pairs 0 0 [.ref 81, .int (Int32.ofInt a0_), .int (Int32.ofInt a1_)] Mz (zpI [] [96, 105] Mz (fun v N => (((0 ≤ a0_ ∧ a0_ < (F_ : Int) ∧ 0 ≤ a1_ ∧ a1_ < (F_ : Int) ∧ ∃ w_ : Nat → Int, zPdw F_ K_ (a0_).toNat (a1_).toNat w_ ∧ z32w v (zsm w_ F_)) ∨ (¬ (0 ≤ a0_ ∧ a0_ < (F_ : Int) ∧ 0 ≤ a1_ ∧ a1_ < (F_ : Int)) ∧ v = (-1 : Int)))))) := by
  refine zC_of (L0 := [some (.ref 81), some (.int (Int32.ofInt a0_)), some (.int (Int32.ofInt a1_)), none, none, none]) md_M_pairs (Nat.le_of_ble_eq_true rfl) rfl ?_ zQ0
  have hf : zFr [] [96, 105] Mz Mz := zFr.rf
  have r_26 := ze_r Mz 81 26
  obtain ⟨⟨hF1_, hF27_⟩, hAr_⟩ := id hA_
  obtain ⟨hFc_, hKt_⟩ := id p0_
  refine zw_aload_n (pc := 0) (n := 0) (x := 81) rfl (zdal_p dlD_M_pairs_29 (i := 0) rfl) ?_
  refine zw_iload_n (pc := 1) (n := 1) (x := Int32.ofInt a0_) rfl (zdal_p dlD_M_pairs_29 (i := 1) rfl) ?_
  refine zr_callV (hf.w hW) hf.x (pc := 2) [.int (Int32.ofInt a0_)] [] l_M_414 (c_M_isSortF l Mz (hf.w hW) a0_ ha0_a ha0_b F_ K_ hA_ p0_) rfl rfl rfl (by decide) (Nat.le_of_ble_eq_true rfl) (zdal_p dlD_M_pairs_29 (i := 2) rfl) ?_
  rintro _ N1_ ⟨v2_, rfl, ⟨hv2_a, hv2_b⟩, hsN1_, hp0_N1_⟩
  obtain rfl := hsN1_.eq.symm
  replace hp0_N1_ : ((v2_ = 1 ∧ 0 ≤ a0_ ∧ a0_ < (F_ : Int)) ∨ (v2_ = 0 ∧ (a0_ < 0 ∨ (F_ : Int) ≤ a0_))) := hp0_N1_
  rcases hp0_N1_ with ⟨rfl, ha2_0_hp0_N1_, ha2_1_hp0_N1_⟩ | ⟨rfl, ha2_0_hp0_N1_⟩
  · skip
    show zW l m_M_pairs (zn Mz + 0, zw Mz + 0) Mz 5 [some (.ref 81), some (.int (Int32.ofInt a0_)), some (.int (Int32.ofInt a1_)), none, none, none] [.int (Int32.ofInt 1)] _
    refine zr_if_eq (pc := 5) (tgt := 16) ⟨(by decide), (by decide)⟩ (by decide) (zdal_p dlD_M_pairs_29 (i := 3) rfl) (fun hc_5 => ?_) (fun hc_5 => ?_)
    · skip
      exact absurd hc_5 (by decide)
    · skip
      refine zw_aload_n (pc := 8) (n := 0) (x := 81) rfl (zdal_p dlD_M_pairs_29 (i := 4) rfl) ?_
      refine zw_iload_n (pc := 9) (n := 2) (x := Int32.ofInt a1_) rfl (zdal_p dlD_M_pairs_29 (i := 5) rfl) ?_
      refine zr_callV (hf.w hW) hf.x (pc := 10) [.int (Int32.ofInt a1_)] [] l_M_414 (c_M_isSortF l Mz (hf.w hW) a1_ ha1_a ha1_b F_ K_ hA_ p0_) rfl rfl rfl (by decide) (Nat.le_of_ble_eq_true rfl) (zdal_p dlD_M_pairs_29 (i := 6) rfl) ?_
      rintro _ N3_ ⟨v4_, rfl, ⟨hv4_a, hv4_b⟩, hsN3_, hp0_N3_⟩
      obtain rfl := hsN3_.eq.symm
      replace hp0_N3_ : ((v4_ = 1 ∧ 0 ≤ a1_ ∧ a1_ < (F_ : Int)) ∨ (v4_ = 0 ∧ (a1_ < 0 ∨ (F_ : Int) ≤ a1_))) := hp0_N3_
      rcases hp0_N3_ with ⟨rfl, ha10_0_hp0_N3_, ha10_1_hp0_N3_⟩ | ⟨rfl, ha10_0_hp0_N3_⟩
      · skip
        show zW l m_M_pairs (zn Mz + 0, zw Mz + 0) Mz 13 [some (.ref 81), some (.int (Int32.ofInt a0_)), some (.int (Int32.ofInt a1_)), none, none, none] [.int (Int32.ofInt 1)] _
        refine zr_if_ne (pc := 13) (tgt := 18) ⟨(by decide), (by decide)⟩ (by decide) (zdal_p dlD_M_pairs_29 (i := 7) rfl) (fun hc_13 => ?_) (fun hc_13 => ?_)
        · skip
          refine zw_aload_n (pc := 18) (n := 0) (x := 81) rfl (zdal_p dlD_M_pairs_29 (i := 10) rfl) ?_
          refine zw_iload_n (pc := 19) (n := 1) (x := Int32.ofInt a0_) rfl (zdal_p dlD_M_pairs_29 (i := 11) rfl) ?_
          refine zw_iload_n (pc := 20) (n := 2) (x := Int32.ofInt a1_) rfl (zdal_p dlD_M_pairs_29 (i := 12) rfl) ?_
          refine zr_callV (hf.w hW) hf.x (pc := 21) [.int (Int32.ofInt a0_), .int (Int32.ofInt a1_)] [] l_M_423 (c_M_worksProductF l Mz (hf.w hW) a0_ ha0_a ha0_b a1_ ha1_a ha1_b F_ K_ hA_ p0_ (show 0 ≤ a0_ by first | with_reducible assumption | assumption | omega) (show a0_ < F_ by first | with_reducible assumption | assumption | omega) (show 0 ≤ a1_ by first | with_reducible assumption | assumption | omega) (show a1_ < F_ by first | with_reducible assumption | assumption | omega)) rfl rfl rfl (by decide) (Nat.le_of_ble_eq_true rfl) (zdal_p dlD_M_pairs_29 (i := 13) rfl) ?_
          rintro _ N5_ ⟨rfl, hsN5_, hp0_N5_⟩
          replace hp0_N5_ : (∀ u : Nat → Int, zPdw F_ K_ (a0_).toNat (a1_).toNat u → ∀ k : Nat, k < F_ → zg N5_ 105 k = u k) := hp0_N5_
          have hf_N5_ : zFr [] [96, 105] Mz N5_ := hf.tr hsN5_ (by decide) (by decide)
          have e26_N5_ : ze N5_ 81 26 = ze Mz 81 26 := hsN5_.e (by decide)
          have c7_ : zRmk F_ K_ N5_ := zRmk.fr hsN5_ p0_ (by decide) (by decide)
          show zW l m_M_pairs (zn Mz + 0, zw Mz + 0) N5_ 24 [some (.ref 81), some (.int (Int32.ofInt a0_)), some (.int (Int32.ofInt a1_)), none, none, none] [] _
          have hwp_ := hp0_N5_
          obtain ⟨w_, hw_⟩ := zPdw_ex hA_ (i := (a0_).toNat) (j := (a1_).toNat) (by omega) (by omega)
          have hwv_ := hwp_ w_ hw_
          refine zw_lconst (pc := 24) (v := Int64.ofInt 0) (by decide) (zdal_p dlD_M_pairs_29 (i := 14) rfl) ?_
          refine zw_lstore_n (pc := 25) (i := 3) (L2 := [some (.ref 81), some (.int (Int32.ofInt a0_)), some (.int (Int32.ofInt a1_)), some (.long (Int64.ofInt 0)), none, none]) rfl (by decide) rfl (zdal_p dlD_M_pairs_29 (i := 15) rfl) ?_
          refine zw_iconst (pc := 26) (v := Int32.ofInt 0) (by decide) (zdal_p dlD_M_pairs_29 (i := 16) rfl) ?_
          refine zw_istore (pc := 27) (i := 5) (L2 := [some (.ref 81), some (.int (Int32.ofInt a0_)), some (.int (Int32.ofInt a1_)), some (.long (Int64.ofInt 0)), none, some (.int (Int32.ofInt 0))]) (by decide) rfl (zdal_p dlD_M_pairs_29 (i := 17) rfl) ?_
          have lp_29 : ∀ (n : Nat) (u8_ : Int) (hu8_a : -9223372036854775808 ≤ u8_) (hu8_b : u8_ < 9223372036854775808) (u9_ : Int) (hu9_a : -2147483648 ≤ u9_) (hu9_b : u9_ < 2147483648) (i10_ : 0 ≤ u9_) (i11_ : u9_ ≤ F_) (i12_ : zTot w_ u8_ u9_) (i13_ : (∀ k : Nat, k < F_ → zg N5_ 105 k = w_ k)), (F_ - u9_).toNat < n → zW l m_M_pairs (zn Mz + 0, zw Mz + 0) N5_ 29 [some (.ref 81), some (.int (Int32.ofInt a0_)), some (.int (Int32.ofInt a1_)), some (.long (Int64.ofInt u8_)), none, some (.int (Int32.ofInt u9_))] [] (zpI [] [96, 105] Mz (fun v N => (((0 ≤ a0_ ∧ a0_ < (F_ : Int) ∧ 0 ≤ a1_ ∧ a1_ < (F_ : Int) ∧ ∃ w_ : Nat → Int, zPdw F_ K_ (a0_).toNat (a1_).toNat w_ ∧ z32w v (zsm w_ F_)) ∨ (¬ (0 ≤ a0_ ∧ a0_ < (F_ : Int) ∧ 0 ≤ a1_ ∧ a1_ < (F_ : Int)) ∧ v = (-1 : Int)))))) := by
            intro n
            induction n with
            | zero =>
              intro u8_ hu8_a hu8_b u9_ hu9_a hu9_b i10_ i11_ i12_ i13_ h0
              exact absurd h0 (Nat.not_lt_zero _)
            | succ n ih_29 =>
              intro u8_ hu8_a hu8_b u9_ hu9_a hu9_b i10_ i11_ i12_ i13_ hlt_29
              have hti_ := (show zTot w_ u8_ u9_ by first | with_reducible assumption | assumption)
              have hwn_ := (show (∀ k : Nat, k < F_ → zg N5_ 105 k = w_ k) by first | with_reducible assumption | assumption)
              refine zw_iload (pc := 29) (i := 5) (x := Int32.ofInt u9_) rfl (zdal_p dlD_M_pairs_29 (i := 18) rfl) ?_
              refine zw_aload_n (pc := 31) (n := 0) (x := 81) rfl (zdal_p dlD_M_pairs_29 (i := 19) rfl) ?_
              refine zr_getI0 hf_N5_ hW (pc := 32) (by decide) f_M_235 rfl (zdal_p dlD_M_pairs_29 (i := 20) rfl) ?_
              refine zr_icmp_ge (pc := 35) (tgt := 54) ⟨hu9_a, hu9_b⟩ ⟨(ze_r Mz 81 26).1, (ze_r Mz 81 26).2⟩ (by decide) (zdal_p dlD_M_pairs_29 (i := 21) rfl) (fun hc_35 => ?_) (fun hc_35 => ?_)
              · skip
                refine zw_lload_n (pc := 54) (n := 3) (x := Int64.ofInt u8_) rfl (zdal_p dlD_M_pairs_30 (i := 7) rfl) ?_
                refine zr_l2i (pc := 55) (zdal_p dlD_M_pairs_30 (i := 8) rfl) ?_
                refine zk_nmW (fun v14_ hv14_ hv14_w => ?_)
                obtain ⟨hv14_a, hv14_b⟩ := hv14_
                exact zr_iret (pc := 56) (ty := .int) rfl rfl ⟨by omega, by omega⟩ hf_N5_ (show ((0 ≤ a0_ ∧ a0_ < (F_ : Int) ∧ 0 ≤ a1_ ∧ a1_ < (F_ : Int) ∧ ∃ w_ : Nat → Int, zPdw F_ K_ (a0_).toNat (a1_).toNat w_ ∧ z32w v14_ (zsm w_ F_)) ∨ (¬ (0 ≤ a0_ ∧ a0_ < (F_ : Int) ∧ 0 ≤ a1_ ∧ a1_ < (F_ : Int)) ∧ v14_ = (-1 : Int))) by exact Or.inl ⟨by omega, by omega, by omega, by omega, w_, hw_, z32w_t (by first | with_reducible assumption | assumption) (by have h_ := hti_; unfold zTot at h_; rwa [show (u9_).toNat = F_ by omega] at h_)⟩) (zdal_p dlD_M_pairs_30 (i := 9) rfl)
              · skip
                refine zw_lload_n (pc := 38) (n := 3) (x := Int64.ofInt u8_) rfl (zdal_p dlD_M_pairs_29 (i := 22) rfl) ?_
                refine zw_aload_n (pc := 39) (n := 0) (x := 81) rfl (zdal_p dlD_M_pairs_29 (i := 23) rfl) ?_
                refine zr_getF (r := 105) (hf_N5_.w hW) (pc := 40) f_M_87 rfl (zh_105 (hf_N5_.w hW)).1 (zdal_p dlD_M_pairs_30 (i := 0) rfl) ?_
                refine zw_iload (pc := 43) (i := 5) (x := Int32.ofInt u9_) rfl (zdal_p dlD_M_pairs_30 (i := 1) rfl) ?_
                refine zr_laldn (pc := 45) (zh_105 (hf_N5_.w hW)).2 (by decide) (by omega) (by omega) (zdal_p dlD_M_pairs_30 (i := 2) rfl) (fun v15_ hv15_ hv15_a hv15_b => ?_)
                have hx_ := hv15_.trans (hwn_ _ (by omega))
                refine zr_ladd (pc := 46) (zdal_p dlD_M_pairs_30 (i := 3) rfl) ?_
                refine zk_nmJ (fun v16_ hv16_ hv16_e => ?_)
                obtain ⟨hv16_a, hv16_b⟩ := hv16_
                have htn_ := zTot_s hti_ hv16_e (by omega) hx_
                refine zw_lstore_n (pc := 47) (i := 3) (L2 := [some (.ref 81), some (.int (Int32.ofInt a0_)), some (.int (Int32.ofInt a1_)), some (.long (Int64.ofInt v16_)), none, some (.int (Int32.ofInt u9_))]) rfl (by decide) rfl (zdal_p dlD_M_pairs_30 (i := 4) rfl) ?_
                refine zr_iinc (pc := 48) (i := 5) (a := u9_) (n := 1) (L2 := [some (.ref 81), some (.int (Int32.ofInt a0_)), some (.int (Int32.ofInt a1_)), some (.long (Int64.ofInt v16_)), none, some (.int (Int32.ofInt (u9_ + 1)))]) rfl (by decide) rfl (zdal_p dlD_M_pairs_30 (i := 5) rfl) ?_
                refine zw_goto (pc := 51) (tgt := 29) (by decide) (zdal_p dlD_M_pairs_30 (i := 6) rfl) ?_
                exact ih_29 v16_ hv16_a hv16_b (u9_ + 1) (by omega) (by omega) (show 0 ≤ (u9_ + 1) by first | with_reducible assumption | assumption | omega) (show (u9_ + 1) ≤ F_ by first | with_reducible assumption | assumption | omega) (show zTot w_ v16_ (u9_ + 1) by exact htn_) (show (∀ k : Nat, k < F_ → zg N5_ 105 k = w_ k) by exact hwn_) (by omega)
          exact lp_29 _ 0 (by decide) (by decide) 0 (by decide) (by decide) (show 0 ≤ (0 : Int) by first | with_reducible assumption | assumption | omega) (show (0 : Int) ≤ F_ by first | with_reducible assumption | assumption | omega) (show zTot w_ (0 : Int) (0 : Int) by exact zTot_0) (show (∀ k : Nat, k < F_ → zg N5_ 105 k = w_ k) by exact hwv_) (Nat.lt_succ_self _)
        · skip
          exact absurd hc_13 (by decide)
      · skip
        show zW l m_M_pairs (zn Mz + 0, zw Mz + 0) Mz 13 [some (.ref 81), some (.int (Int32.ofInt a0_)), some (.int (Int32.ofInt a1_)), none, none, none] [.int (Int32.ofInt 0)] _
        refine zr_if_ne (pc := 13) (tgt := 18) ⟨(by decide), (by decide)⟩ (by decide) (zdal_p dlD_M_pairs_29 (i := 7) rfl) (fun hc_13 => ?_) (fun hc_13 => ?_)
        · skip
          exact absurd hc_13 (by decide)
        · skip
          refine zw_iconst (pc := 16) (v := Int32.ofInt (-1)) (by decide) (zdal_p dlD_M_pairs_29 (i := 8) rfl) ?_
          exact zr_iret (pc := 17) (ty := .int) rfl rfl ⟨by omega, by omega⟩ hf (show ((0 ≤ a0_ ∧ a0_ < (F_ : Int) ∧ 0 ≤ a1_ ∧ a1_ < (F_ : Int) ∧ ∃ w_ : Nat → Int, zPdw F_ K_ (a0_).toNat (a1_).toNat w_ ∧ z32w ((-1)) (zsm w_ F_)) ∨ (¬ (0 ≤ a0_ ∧ a0_ < (F_ : Int) ∧ 0 ≤ a1_ ∧ a1_ < (F_ : Int)) ∧ ((-1)) = (-1 : Int))) by exact Or.inr ⟨by omega, rfl⟩) (zdal_p dlD_M_pairs_29 (i := 9) rfl)
  · skip
    show zW l m_M_pairs (zn Mz + 0, zw Mz + 0) Mz 5 [some (.ref 81), some (.int (Int32.ofInt a0_)), some (.int (Int32.ofInt a1_)), none, none, none] [.int (Int32.ofInt 0)] _
    refine zr_if_eq (pc := 5) (tgt := 16) ⟨(by decide), (by decide)⟩ (by decide) (zdal_p dlD_M_pairs_29 (i := 3) rfl) (fun hc_5 => ?_) (fun hc_5 => ?_)
    · skip
      refine zw_iconst (pc := 16) (v := Int32.ofInt (-1)) (by decide) (zdal_p dlD_M_pairs_29 (i := 8) rfl) ?_
      exact zr_iret (pc := 17) (ty := .int) rfl rfl ⟨by omega, by omega⟩ hf (show ((0 ≤ a0_ ∧ a0_ < (F_ : Int) ∧ 0 ≤ a1_ ∧ a1_ < (F_ : Int) ∧ ∃ w_ : Nat → Int, zPdw F_ K_ (a0_).toNat (a1_).toNat w_ ∧ z32w ((-1)) (zsm w_ F_)) ∨ (¬ (0 ≤ a0_ ∧ a0_ < (F_ : Int) ∧ 0 ≤ a1_ ∧ a1_ < (F_ : Int)) ∧ ((-1)) = (-1 : Int))) by exact Or.inr ⟨by omega, rfl⟩) (zdal_p dlD_M_pairs_29 (i := 9) rfl)
    · skip
      exact absurd hc_5 (by decide)
