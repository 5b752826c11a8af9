set_option maxHeartbeats 4000000 in
theorem c_M_congruenceOf_99 (l : Launch) (Mz : zMem) (hW : zMt Mz) (a1_ : Int) (ha1_a : -2147483648 ≤ a1_) (ha1_b : a1_ < 2147483648) (T : zGT) (hO : gOK T) (hX : gEx T) (p0_ : zGB T Mz) (p1_ : 0 ≤ a1_) (p2_ : a1_ < ze Mz 81 26) : zC l m_M_congruenceOf 0 0 [.ref 81, .ref 99, .int (Int32.ofInt a1_)] Mz (zpJ [55] [109] Mz (fun v N => 1 ≤ ze N 81 55 ∧ ze N 81 55 ≤ 24)) := by
  refine zC_of (L0 := [some (.ref 81), some (.ref 99), some (.int (Int32.ofInt a1_)), none, none, none]) md_M_congruenceOf (Nat.le_of_ble_eq_true rfl) rfl ?_ zQ0
  have hf : zFr [55] [109] Mz Mz := zFr.rf
  have r_26 := ze_r Mz 81 26
  have r_55 := ze_r Mz 81 55
  have hG := hO.1
  have g24 := hG.2.1
  have g1 := hG.1
  have dv0 : zTab T Mz := p0_.1
  have dv1 : zB 85 144 0 5 Mz := p0_.2.1
  have dv2 : zJX T Mz := p0_.2.2.1
  have dv3 : zFirs T Mz := p0_.2.2.2.1
  have dv4 : zSSm T Mz := p0_.2.2.2.2.1
  have dv5 : zGD Mz := zGB.d hO p0_
  have gb := dv5.1
  have gn := dv0.1
  have gfl := dv3.1
  have gf6 := gF_pos hO
  have gxl := hX.2.1
  refine zw_aload_n (pc := 0) (n := 0) (x := 81) rfl (zdal_p dlD_M_congruenceOf_100 (i := 0) rfl) ?_
  refine zw_iload_n (pc := 1) (n := 2) (x := Int32.ofInt a1_) rfl (zdal_p dlD_M_congruenceOf_100 (i := 1) rfl) ?_
  refine zr_callV (hf.w hW) hf.x (pc := 2) [.int (Int32.ofInt a1_)] [] l_M_456 (c_M_laysMade l Mz (hf.w hW) a1_ ha1_a ha1_b T hO hX p0_ (show 0 ≤ a1_ by first | assumption | omega) (show a1_ < ze Mz 81 26 by first | assumption | omega)) rfl rfl rfl (by decide) (Nat.le_of_ble_eq_true rfl) (zdal_p dlD_M_congruenceOf_100 (i := 2) rfl) ?_
  rintro _ N1_ ⟨rfl, hsN1_, ⟨hp0_N1_, hp1_N1_, hp2_N1_⟩⟩
  have hf_N1_ : zFr [55] [109] Mz N1_ := hf.tr hsN1_ (by decide) (by decide)
  have e26_N1_ : ze N1_ 81 26 = ze Mz 81 26 := hsN1_.e (by decide)
  have r55_N1_ := ze_r N1_ 81 55
  have c3_ : zGB T N1_ := zGB.fr hsN1_ p0_ (by decide) (by decide)
  have c4_ : zTab T N1_ := zTab.fr hsN1_ dv0 (by decide) (by decide)
  have c5_ : zB 85 144 0 5 N1_ := zB.fr hsN1_ dv1 (by decide) (by decide)
  have c6_ : zJX T N1_ := zJX.fr hsN1_ dv2 (by decide) (by decide)
  have c7_ : zFirs T N1_ := zFirs.fr hsN1_ dv3 (by decide) (by decide)
  have c8_ : zSSm T N1_ := zSSm.fr hsN1_ dv4 (by decide) (by decide)
  have c9_ : zGD N1_ := zGD.fr hsN1_ dv5 (by decide) (by decide)
  show zW l m_M_congruenceOf (zn Mz + 0, zw Mz + 0) N1_ 5 [some (.ref 81), some (.ref 99), some (.int (Int32.ofInt a1_)), none, none, none] [] _
  have hmr_ := hp0_N1_.2.1
  refine zw_lconst (pc := 5) (v := Int64.ofInt 0) (by decide) (zdal_p dlD_M_congruenceOf_100 (i := 3) rfl) ?_
  refine zw_lstore_n (pc := 6) (i := 3) (L2 := [some (.ref 81), some (.ref 99), some (.int (Int32.ofInt a1_)), some (.long (Int64.ofInt 0)), none, none]) rfl (by decide) rfl (zdal_p dlD_M_congruenceOf_100 (i := 4) rfl) ?_
  refine zw_iconst (pc := 7) (v := Int32.ofInt 0) (by decide) (zdal_p dlD_M_congruenceOf_100 (i := 5) rfl) ?_
  refine zw_istore (pc := 8) (i := 5) (L2 := [some (.ref 81), some (.ref 99), some (.int (Int32.ofInt a1_)), some (.long (Int64.ofInt 0)), none, some (.int (Int32.ofInt 0))]) (by decide) rfl (zdal_p dlD_M_congruenceOf_100 (i := 6) rfl) ?_
  have lp_10 : ∀ (n : Nat) (u10_ : Int) (hu10_a : -9223372036854775808 ≤ u10_) (hu10_b : u10_ < 9223372036854775808) (u11_ : Int) (hu11_a : -2147483648 ≤ u11_) (hu11_b : u11_ < 2147483648) (i12_ : 0 ≤ u11_), (ze N1_ 81 55 - u11_).toNat < n → zW l m_M_congruenceOf (zn Mz + 0, zw Mz + 0) N1_ 10 [some (.ref 81), some (.ref 99), some (.int (Int32.ofInt a1_)), some (.long (Int64.ofInt u10_)), none, some (.int (Int32.ofInt u11_))] [] (zpJ [55] [109] Mz (fun v N => 1 ≤ ze N 81 55 ∧ ze N 81 55 ≤ 24)) := by
    intro n
    induction n with
    | zero =>
      intro u10_ hu10_a hu10_b u11_ hu11_a hu11_b i12_ h0
      exact absurd h0 (Nat.not_lt_zero _)
    | succ n ih_10 =>
      intro u10_ hu10_a hu10_b u11_ hu11_a hu11_b i12_ hlt_10
      refine zw_iload (pc := 10) (i := 5) (x := Int32.ofInt u11_) rfl (zdal_p dlD_M_congruenceOf_100 (i := 7) rfl) ?_
      refine zw_aload_n (pc := 12) (n := 0) (x := 81) rfl (zdal_p dlD_M_congruenceOf_100 (i := 8) rfl) ?_
      refine zr_getI (hf_N1_.w hW) (pc := 13) f_M_453 rfl (zdal_p dlD_M_congruenceOf_100 (i := 9) rfl) ?_
      refine zr_icmp_ge (pc := 16) (tgt := 37) ⟨hu11_a, hu11_b⟩ ⟨(ze_r N1_ 81 55).1, (ze_r N1_ 81 55).2⟩ (by decide) (zdal_p dlD_M_congruenceOf_100 (i := 10) rfl) (fun hc_16 => ?_) (fun hc_16 => ?_)
      · skip
        refine zw_lload_n (pc := 37) (n := 3) (x := Int64.ofInt u10_) rfl (zdal_p dlD_M_congruenceOf_100 (i := 22) rfl) ?_
        exact zr_lret (pc := 38) rfl ⟨by omega, by omega⟩ hf_N1_ ⟨(show 1 ≤ ze N1_ 81 55 by first | assumption | omega), (show ze N1_ 81 55 ≤ 24 by first | assumption | omega)⟩ (zdal_p dlD_M_congruenceOf_100 (i := 23) rfl)
      · skip
        refine zw_lload_n (pc := 19) (n := 3) (x := Int64.ofInt u10_) rfl (zdal_p dlD_M_congruenceOf_100 (i := 11) rfl) ?_
        refine zw_aload_n (pc := 20) (n := 1) (x := 99) rfl (zdal_p dlD_M_congruenceOf_100 (i := 12) rfl) ?_
        refine zw_aload_n (pc := 21) (n := 0) (x := 81) rfl (zdal_p dlD_M_congruenceOf_100 (i := 13) rfl) ?_
        refine zr_getF (r := 109) (hf_N1_.w hW) (pc := 22) f_M_99 rfl (zh_109 (hf_N1_.w hW)).1 (zdal_p dlD_M_congruenceOf_100 (i := 14) rfl) ?_
        refine zw_iload (pc := 25) (i := 5) (x := Int32.ofInt u11_) rfl (zdal_p dlD_M_congruenceOf_100 (i := 15) rfl) ?_
        refine zr_ialdn (pc := 27) (zh_109 (hf_N1_.w hW)).2 (by decide) (by omega) (by omega) (zdal_p dlD_M_congruenceOf_100 (i := 16) rfl) (fun v13_ hv13_ hv13_a hv13_b => ?_)
        have hmx_ := hmr_ (u11_).toNat (by omega)
        refine zr_laldn (pc := 28) (zh_99 (hf_N1_.w hW)).2 (by decide) (by omega) (by omega) (zdal_p dlD_M_congruenceOf_100 (i := 17) rfl) (fun v14_ hv14_ hv14_a hv14_b => ?_)
        rw [hf_N1_.jg (by decide) (by decide)] at hv14_
        refine zr_ladd (pc := 29) (zdal_p dlD_M_congruenceOf_100 (i := 18) rfl) ?_
        refine zr_nmJ (fun v15_ hv15_ => ?_)
        obtain ⟨hv15_a, hv15_b⟩ := hv15_
        refine zw_lstore_n (pc := 30) (i := 3) (L2 := [some (.ref 81), some (.ref 99), some (.int (Int32.ofInt a1_)), some (.long (Int64.ofInt v15_)), none, some (.int (Int32.ofInt u11_))]) rfl (by decide) rfl (zdal_p dlD_M_congruenceOf_100 (i := 19) rfl) ?_
        refine zr_iinc (pc := 31) (i := 5) (a := u11_) (n := 1) (L2 := [some (.ref 81), some (.ref 99), some (.int (Int32.ofInt a1_)), some (.long (Int64.ofInt v15_)), none, some (.int (Int32.ofInt (u11_ + 1)))]) rfl (by decide) rfl (zdal_p dlD_M_congruenceOf_100 (i := 20) rfl) ?_
        refine zw_goto (pc := 34) (tgt := 10) (by decide) (zdal_p dlD_M_congruenceOf_100 (i := 21) rfl) ?_
        exact ih_10 v15_ hv15_a hv15_b (u11_ + 1) (by omega) (by omega) (show 0 ≤ (u11_ + 1) by first | assumption | omega) (by omega)
  exact lp_10 _ 0 (by decide) (by decide) 0 (by decide) (by decide) (show 0 ≤ (0 : Int) by first | assumption | omega) (Nat.lt_succ_self _)
set_option maxHeartbeats 4000000 in
theorem c_M_congruence (l : Launch) (Mz : zMem) (hW : zMt Mz) (a0_ : Int) (ha0_a : -2147483648 ≤ a0_) (ha0_b : a0_ < 2147483648) (T : zGT) (hO : gOK T) (hX : gEx T) (p0_ : zGB T Mz) : zC l m_M_congruence 0 0 [.ref 81, .int (Int32.ofInt a0_)] Mz (zpJ [55] [99, 109] Mz (fun v N => True)) := by
  refine zC_of (L0 := [some (.ref 81), some (.int (Int32.ofInt a0_))]) md_M_congruence (Nat.le_of_ble_eq_true rfl) rfl ?_ zQ0
  have hf : zFr [55] [99, 109] Mz Mz := zFr.rf
  have r_26 := ze_r Mz 81 26
  have r_55 := ze_r Mz 81 55
  have hG := hO.1
  have g24 := hG.2.1
  have g1 := hG.1
  have dv0 : zTab T Mz := p0_.1
  have dv1 : zB 85 144 0 5 Mz := p0_.2.1
  have dv2 : zJX T Mz := p0_.2.2.1
  have dv3 : zFirs T Mz := p0_.2.2.2.1
  have dv4 : zSSm T Mz := p0_.2.2.2.2.1
  have dv5 : zGD Mz := zGB.d hO p0_
  have gb := dv5.1
  have gn := dv0.1
  have gfl := dv3.1
  have gf6 := gF_pos hO
  have gxl := hX.2.1
  refine zw_aload_n (pc := 0) (n := 0) (x := 81) rfl (zdal_p dlD_M_congruence_98 (i := 0) rfl) ?_
  refine zw_iload_n (pc := 1) (n := 1) (x := Int32.ofInt a0_) rfl (zdal_p dlD_M_congruence_98 (i := 1) rfl) ?_
  refine zr_callV (hf.w hW) hf.x (pc := 2) [.int (Int32.ofInt a0_)] [] l_M_414 (c_M_isSort l Mz (hf.w hW) a0_ ha0_a ha0_b T hO p0_) rfl rfl rfl (by decide) (Nat.le_of_ble_eq_true rfl) (zdal_p dlD_M_congruence_98 (i := 2) rfl) ?_
  rintro _ N1_ ⟨v2_, rfl, ⟨hv2_a, hv2_b⟩, hsN1_, hp0_N1_⟩
  obtain rfl := hsN1_.eq.symm
  replace hp0_N1_ : ((v2_ = 1 ∧ 0 ≤ a0_ ∧ a0_ < ze Mz 81 26) ∨ (v2_ = 0)) := hp0_N1_
  rcases hp0_N1_ with ⟨rfl, ha2_0_hp0_N1_, ha2_1_hp0_N1_⟩ | rfl
  · skip
    show zW l m_M_congruence (zn Mz + 0, zw Mz + 0) Mz 5 [some (.ref 81), some (.int (Int32.ofInt a0_))] [.int (Int32.ofInt 1)] _
    refine zr_if_ne (pc := 5) (tgt := 12) ⟨(by decide), (by decide)⟩ (by decide) (zdal_p dlD_M_congruence_98 (i := 3) rfl) (fun hc_5 => ?_) (fun hc_5 => ?_)
    · skip
      refine zw_aload_n (pc := 12) (n := 0) (x := 81) rfl (zdal_p dlD_M_congruence_98 (i := 6) rfl) ?_
      refine zr_callV (hf.w hW) hf.x (pc := 13) [] [] l_M_472 (c_M_laysMarks l Mz (hf.w hW) T hO p0_) rfl rfl rfl (by decide) (Nat.le_of_ble_eq_true rfl) (zdal_p dlD_M_congruence_98 (i := 7) rfl) ?_
      rintro _ N3_ ⟨rfl, hsN3_, -⟩
      have hf_N3_ : zFr [55] [99, 109] Mz N3_ := hf.tr hsN3_ (by decide) (by decide)
      have e26_N3_ : ze N3_ 81 26 = ze Mz 81 26 := hsN3_.e (by decide)
      have e55_N3_ : ze N3_ 81 55 = ze Mz 81 55 := hsN3_.e (by decide)
      have c5_ : zGB T N3_ := zGB.fr hsN3_ p0_ (by decide) (by decide)
      have c6_ : zTab T N3_ := zTab.fr hsN3_ dv0 (by decide) (by decide)
      have c7_ : zB 85 144 0 5 N3_ := zB.fr hsN3_ dv1 (by decide) (by decide)
      have c8_ : zJX T N3_ := zJX.fr hsN3_ dv2 (by decide) (by decide)
      have c9_ : zFirs T N3_ := zFirs.fr hsN3_ dv3 (by decide) (by decide)
      have c10_ : zSSm T N3_ := zSSm.fr hsN3_ dv4 (by decide) (by decide)
      have c11_ : zGD N3_ := zGD.fr hsN3_ dv5 (by decide) (by decide)
      show zW l m_M_congruence (zn Mz + 0, zw Mz + 0) N3_ 16 [some (.ref 81), some (.int (Int32.ofInt a0_))] [] _
      refine zw_aload_n (pc := 16) (n := 0) (x := 81) rfl (zdal_p dlD_M_congruence_98 (i := 8) rfl) ?_
      refine zw_aload_n (pc := 17) (n := 0) (x := 81) rfl (zdal_p dlD_M_congruence_98 (i := 9) rfl) ?_
      refine zr_getF (r := 99) (hf_N3_.w hW) (pc := 18) f_M_69 rfl (zh_99 (hf_N3_.w hW)).1 (zdal_p dlD_M_congruence_98 (i := 10) rfl) ?_
      refine zw_iload_n (pc := 21) (n := 1) (x := Int32.ofInt a0_) rfl (zdal_p dlD_M_congruence_98 (i := 11) rfl) ?_
      refine zr_callV (hf_N3_.w hW) hf_N3_.x (pc := 22) [.ref 99, .int (Int32.ofInt a0_)] [] l_M_475 (c_M_congruenceOf_99 l N3_ (hf_N3_.w hW) a0_ ha0_a ha0_b T hO hX c5_ (show 0 ≤ a0_ by first | assumption | omega) (show a0_ < ze N3_ 81 26 by first | assumption | omega)) rfl rfl rfl (by decide) (Nat.le_of_ble_eq_true rfl) (zdal_p dlD_M_congruence_98 (i := 12) rfl) ?_
      rintro _ N12_ ⟨v13_, rfl, ⟨hv13_a, hv13_b⟩, hsN12_, ⟨hp0_N12_, hp1_N12_⟩⟩
      have hf_N12_ : zFr [55] [99, 109] Mz N12_ := hf_N3_.tr hsN12_ (by decide) (by decide)
      have e26_N12_ : ze N12_ 81 26 = ze N3_ 81 26 := hsN12_.e (by decide)
      have r55_N12_ := ze_r N12_ 81 55
      have c14_ : zGB T N12_ := zGB.fr hsN12_ c5_ (by decide) (by decide)
      have c15_ : zTab T N12_ := zTab.fr hsN12_ c6_ (by decide) (by decide)
      have c16_ : zB 85 144 0 5 N12_ := zB.fr hsN12_ c7_ (by decide) (by decide)
      have c17_ : zJX T N12_ := zJX.fr hsN12_ c8_ (by decide) (by decide)
      have c18_ : zFirs T N12_ := zFirs.fr hsN12_ c9_ (by decide) (by decide)
      have c19_ : zSSm T N12_ := zSSm.fr hsN12_ c10_ (by decide) (by decide)
      have c20_ : zGD N12_ := zGD.fr hsN12_ c11_ (by decide) (by decide)
      show zW l m_M_congruence (zn Mz + 0, zw Mz + 0) N12_ 25 [some (.ref 81), some (.int (Int32.ofInt a0_))] [.long (Int64.ofInt v13_)] _
      refine zw_aload_n (pc := 25) (n := 0) (x := 81) rfl (zdal_p dlD_M_congruence_98 (i := 13) rfl) ?_
      refine zr_getI (hf_N12_.w hW) (pc := 26) f_M_453 rfl (zdal_p dlD_M_congruence_98 (i := 14) rfl) ?_
      refine zr_i2l (pc := 29) ⟨(ze_r N12_ 81 55).1, (ze_r N12_ 81 55).2⟩ (zdal_p dlD_M_congruence_98 (i := 15) rfl) ?_
      refine zr_ldiv (pc := 30) ⟨by omega, by omega⟩ (by omega) (zdal_p dlD_M_congruence_98 (i := 16) rfl) ?_
      have hr21_ := zlquo_r v13_ (ze N12_ 81 55)
      exact zr_lret (pc := 31) rfl ⟨by omega, by omega⟩ hf_N12_ trivial (zdal_p dlD_M_congruence_98 (i := 17) rfl)
    · skip
      exact absurd hc_5 (by decide)
  · skip
    show zW l m_M_congruence (zn Mz + 0, zw Mz + 0) Mz 5 [some (.ref 81), some (.int (Int32.ofInt a0_))] [.int (Int32.ofInt 0)] _
    refine zr_if_ne (pc := 5) (tgt := 12) ⟨(by decide), (by decide)⟩ (by decide) (zdal_p dlD_M_congruence_98 (i := 3) rfl) (fun hc_5 => ?_) (fun hc_5 => ?_)
    · skip
      exact absurd hc_5 (by decide)
    · skip
      refine zr_ldc2 (pc := 8) (n := (-9223372036854775808)) (by decide) k_M_470 (zdal_p dlD_M_congruence_98 (i := 4) rfl) ?_
      exact zr_lret (pc := 11) rfl ⟨by omega, by omega⟩ hf trivial (zdal_p dlD_M_congruence_98 (i := 5) rfl)
set_option maxHeartbeats 4000000 in
theorem c_M_numbers_99_98 (l : Launch) (Mz : zMem) (hW : zMt Mz) (a2_ : Int) (ha2_a : -2147483648 ≤ a2_) (ha2_b : a2_ < 2147483648) (p0_ : zGD Mz) (p1_ : 0 ≤ a2_) (p2_ : a2_ ≤ 0) : zC l m_M_numbers 0 0 [.ref 81, .ref 99, .ref 98, .int (Int32.ofInt a2_)] Mz (zpV [] [98] Mz (fun N => True)) := by
  refine zC_of (L0 := [some (.ref 81), some (.ref 99), some (.ref 98), some (.int (Int32.ofInt a2_)), none, none, none, none]) md_M_numbers (Nat.le_of_ble_eq_true rfl) rfl ?_ zQ0
  have hf : zFr [] [98] Mz Mz := zFr.rf
  have r_26 := ze_r Mz 81 26
  have gb := p0_.1
  refine zw_aload_n (pc := 0) (n := 0) (x := 81) rfl (zdal_p dlC_M_numbers_126 (i := 0) rfl) ?_
  refine zr_getI0 hf hW (pc := 1) (by decide) f_M_235 rfl (zdal_p dlC_M_numbers_126 (i := 1) rfl) ?_
  refine zw_iconst (pc := 4) (v := Int32.ofInt 1) (by decide) (zdal_p dlC_M_numbers_126 (i := 2) rfl) ?_
  refine zr_isub (pc := 5) (zdal_p dlC_M_numbers_126 (i := 3) rfl) ?_
  refine zw_istore (pc := 6) (i := 4) (L2 := [some (.ref 81), some (.ref 99), some (.ref 98), some (.int (Int32.ofInt a2_)), some (.int (Int32.ofInt ((ze Mz 81 26) - 1))), none, none, none]) (by decide) rfl (zdal_p dlC_M_numbers_126 (i := 4) rfl) ?_
  have lp_8 : ∀ (n : Nat) (u1_ : Int) (hu1_a : -2147483648 ≤ u1_) (hu1_b : u1_ < 2147483648) (N2_ : zMem) (hs3_ : zFr [] [98] Mz N2_) (i4_ : u1_ ≤ (ze Mz 81 26) - 1) (i5_ : u1_ ≥ -1), (u1_ + 1).toNat < n → zW l m_M_numbers (zn Mz + 0, zw Mz + 0) N2_ 8 [some (.ref 81), some (.ref 99), some (.ref 98), some (.int (Int32.ofInt a2_)), some (.int (Int32.ofInt u1_)), none, none, none] [] (zpV [] [98] Mz (fun N => True)) := by
    intro n
    induction n with
    | zero =>
      intro u1_ hu1_a hu1_b N2_ hs3_ i4_ i5_ h0
      exact absurd h0 (Nat.not_lt_zero _)
    | succ n ih_8 =>
      intro u1_ hu1_a hu1_b N2_ hs3_ i4_ i5_ hlt_8
      have hf_N2_ : zFr [] [98] Mz N2_ := hf.tr hs3_ (by decide) (by decide)
      have e26_N2_ : ze N2_ 81 26 = ze Mz 81 26 := hs3_.e (by decide)
      have c6_ : zGD N2_ := zGD.fr hs3_ p0_ (by decide) (by decide)
      refine zw_iload (pc := 8) (i := 4) (x := Int32.ofInt u1_) rfl (zdal_p dlC_M_numbers_126 (i := 5) rfl) ?_
      refine zr_if_lt (pc := 10) (tgt := 95) ⟨hu1_a, hu1_b⟩ (by decide) (zdal_p dlC_M_numbers_126 (i := 6) rfl) (fun hc_10 => ?_) (fun hc_10 => ?_)
      · skip
        exact zr_vret (pc := 95) rfl hf_N2_ trivial (zdal_p dlC_M_numbers_128 (i := 9) rfl)
      · skip
        refine zw_aload_n (pc := 13) (n := 1) (x := 99) rfl (zdal_p dlC_M_numbers_126 (i := 7) rfl) ?_
        refine zw_iload (pc := 14) (i := 4) (x := Int32.ofInt u1_) rfl (zdal_p dlC_M_numbers_126 (i := 8) rfl) ?_
        refine zr_laldn (pc := 16) (zh_99 (hf_N2_.w hW)).2 (by decide) (by omega) (by omega) (zdal_p dlC_M_numbers_126 (i := 9) rfl) (fun v7_ hv7_ hv7_a hv7_b => ?_)
        rw [hf_N2_.jg (by decide) (by decide)] at hv7_
        refine zw_lstore (pc := 17) (i := 5) (L2 := [some (.ref 81), some (.ref 99), some (.ref 98), some (.int (Int32.ofInt a2_)), some (.int (Int32.ofInt u1_)), some (.long (Int64.ofInt v7_)), none, none]) (by decide) rfl (zdal_p dlC_M_numbers_126 (i := 10) rfl) ?_
        refine zw_iload (pc := 19) (i := 4) (x := Int32.ofInt u1_) rfl (zdal_p dlC_M_numbers_126 (i := 11) rfl) ?_
        refine zw_iconst (pc := 21) (v := Int32.ofInt 1) (by decide) (zdal_p dlC_M_numbers_126 (i := 12) rfl) ?_
        refine zr_iadd (pc := 22) (zdal_p dlC_M_numbers_126 (i := 13) rfl) ?_
        refine zw_istore (pc := 23) (i := 7) (L2 := [some (.ref 81), some (.ref 99), some (.ref 98), some (.int (Int32.ofInt a2_)), some (.int (Int32.ofInt u1_)), some (.long (Int64.ofInt v7_)), none, some (.int (Int32.ofInt (u1_ + 1)))]) (by decide) rfl (zdal_p dlC_M_numbers_126 (i := 14) rfl) ?_
        have lp_25 : ∀ (n : Nat) (u8_ : Int) (hu8_a : -9223372036854775808 ≤ u8_) (hu8_b : u8_ < 9223372036854775808) (u9_ : Int) (hu9_a : -2147483648 ≤ u9_) (hu9_b : u9_ < 2147483648) (i10_ : u1_ + 1 ≤ u9_), (ze Mz 81 26 - u9_).toNat < n → zW l m_M_numbers (zn Mz + 0, zw Mz + 0) N2_ 25 [some (.ref 81), some (.ref 99), some (.ref 98), some (.int (Int32.ofInt a2_)), some (.int (Int32.ofInt u1_)), some (.long (Int64.ofInt u8_)), none, some (.int (Int32.ofInt u9_))] [] (zpV [] [98] Mz (fun N => True)) := by
          intro n
          induction n with
          | zero =>
            intro u8_ hu8_a hu8_b u9_ hu9_a hu9_b i10_ h0
            exact absurd h0 (Nat.not_lt_zero _)
          | succ n ih_25 =>
            intro u8_ hu8_a hu8_b u9_ hu9_a hu9_b i10_ hlt_25
            refine zw_iload (pc := 25) (i := 7) (x := Int32.ofInt u9_) rfl (zdal_p dlC_M_numbers_126 (i := 15) rfl) ?_
            refine zw_aload_n (pc := 27) (n := 0) (x := 81) rfl (zdal_p dlC_M_numbers_126 (i := 16) rfl) ?_
            refine zr_getI0 hf_N2_ hW (pc := 28) (by decide) f_M_235 rfl (zdal_p dlC_M_numbers_126 (i := 17) rfl) ?_
            refine zr_icmp_ge (pc := 31) (tgt := 66) ⟨hu9_a, hu9_b⟩ ⟨(ze_r Mz 81 26).1, (ze_r Mz 81 26).2⟩ (by decide) (zdal_p dlC_M_numbers_126 (i := 18) rfl) (fun hc_31 => ?_) (fun hc_31 => ?_)
            · skip
              refine zw_aload_n (pc := 66) (n := 2) (x := 98) rfl (zdal_p dlC_M_numbers_127 (i := 15) rfl) ?_
              refine zw_iload_n (pc := 67) (n := 3) (x := Int32.ofInt a2_) rfl (zdal_p dlC_M_numbers_127 (i := 16) rfl) ?_
              refine zw_iload (pc := 68) (i := 4) (x := Int32.ofInt u1_) rfl (zdal_p dlC_M_numbers_127 (i := 17) rfl) ?_
              refine zr_iadd (pc := 70) (zdal_p dlC_M_numbers_127 (i := 18) rfl) ?_
              refine zw_lload (pc := 71) (i := 5) (x := Int64.ofInt u8_) rfl (zdal_p dlC_M_numbers_127 (i := 19) rfl) ?_
              refine zw_aload_n (pc := 73) (n := 0) (x := 81) rfl (zdal_p dlC_M_numbers_127 (i := 20) rfl) ?_
              refine zr_getF (r := 93) (hf_N2_.w hW) (pc := 74) f_M_50 rfl (zh_93 (hf_N2_.w hW)).1 (zdal_p dlC_M_numbers_127 (i := 21) rfl) ?_
              refine zw_bipush (pc := 77) (v := Int32.ofInt 64) (by decide) (zdal_p dlC_M_numbers_127 (i := 22) rfl) ?_
              refine zw_iload (pc := 79) (i := 4) (x := Int32.ofInt u1_) rfl (zdal_p dlC_M_numbers_127 (i := 23) rfl) ?_
              refine zr_imul (pc := 81) (zdal_p dlC_M_numbers_128 (i := 0) rfl) ?_
              refine zw_iload (pc := 82) (i := 4) (x := Int32.ofInt u1_) rfl (zdal_p dlC_M_numbers_128 (i := 1) rfl) ?_
              refine zr_iadd (pc := 84) (zdal_p dlC_M_numbers_128 (i := 2) rfl) ?_
              refine zr_ialdn (pc := 85) (zh_93 (hf_N2_.w hW)).2 (by decide) (by omega) (by omega) (zdal_p dlC_M_numbers_128 (i := 3) rfl) (fun v11_ hv11_ hv11_a hv11_b => ?_)
              rw [hf_N2_.ie (by decide) (by decide)] at hv11_
              refine zr_i2l (pc := 86) ⟨hv11_a, hv11_b⟩ (zdal_p dlC_M_numbers_128 (i := 4) rfl) ?_
              refine zr_ldiv (pc := 87) ⟨by omega, by omega⟩ (by rw [hv11_]; exact p0_.2 _ (by omega) (by omega)) (zdal_p dlC_M_numbers_128 (i := 5) rfl) ?_
              have hr12_ := zlquo_r u8_ v11_
              refine zr_last (pc := 88) (zh_98 (hf_N2_.w hW)).2 (by decide) (by decide) (by omega) (by omega) (zdal_p dlC_M_numbers_128 (i := 6) rfl) (fun N13_ hN13_ hsN13_ => ?_)
              have hf_N13_ : zFr [] [98] Mz N13_ := hf_N2_.tr hsN13_ (by decide) (by decide)
              have hb0_N13_ : zFr [] [98] Mz N13_ := hs3_.tr hsN13_ (by decide) (by decide)
              have e26_N13_ : ze N13_ 81 26 = ze N2_ 81 26 := hsN13_.e (by decide)
              have c14_ : zGD N13_ := zGD.fr hsN13_ c6_ (by decide) (by decide)
              refine zr_iinc (pc := 89) (i := 4) (a := u1_) (n := -1) (L2 := [some (.ref 81), some (.ref 99), some (.ref 98), some (.int (Int32.ofInt a2_)), some (.int (Int32.ofInt (u1_ + (-1)))), some (.long (Int64.ofInt u8_)), none, some (.int (Int32.ofInt u9_))]) rfl (by decide) rfl (zdal_p dlC_M_numbers_128 (i := 7) rfl) ?_
              refine zw_goto (pc := 92) (tgt := 8) (by decide) (zdal_p dlC_M_numbers_128 (i := 8) rfl) ?_
              refine zW_le [some (.ref 81), some (.ref 99), some (.ref 98), some (.int (Int32.ofInt a2_)), some (.int (Int32.ofInt (u1_ + (-1)))), none, none, none] (⟨rfl, rfl, rfl, rfl, rfl, trivial⟩) ?_
              exact ih_8 (u1_ + (-1)) (by omega) (by omega) N13_ hb0_N13_ (show (u1_ + (-1)) ≤ (ze Mz 81 26) - 1 by first | assumption | omega) (show (u1_ + (-1)) ≥ -1 by first | assumption | omega) (by omega)
            · skip
              refine zw_lload (pc := 34) (i := 5) (x := Int64.ofInt u8_) rfl (zdal_p dlC_M_numbers_126 (i := 19) rfl) ?_
              refine zw_aload_n (pc := 36) (n := 2) (x := 98) rfl (zdal_p dlC_M_numbers_126 (i := 20) rfl) ?_
              refine zw_iload_n (pc := 37) (n := 3) (x := Int32.ofInt a2_) rfl (zdal_p dlC_M_numbers_126 (i := 21) rfl) ?_
              refine zw_iload (pc := 38) (i := 7) (x := Int32.ofInt u9_) rfl (zdal_p dlC_M_numbers_126 (i := 22) rfl) ?_
              refine zr_iadd (pc := 40) (zdal_p dlC_M_numbers_126 (i := 23) rfl) ?_
              refine zr_laldn (pc := 41) (zh_98 (hf_N2_.w hW)).2 (by decide) (by omega) (by omega) (zdal_p dlC_M_numbers_127 (i := 0) rfl) (fun v15_ hv15_ hv15_a hv15_b => ?_)
              refine zw_aload_n (pc := 42) (n := 0) (x := 81) rfl (zdal_p dlC_M_numbers_127 (i := 1) rfl) ?_
              refine zr_getF (r := 93) (hf_N2_.w hW) (pc := 43) f_M_50 rfl (zh_93 (hf_N2_.w hW)).1 (zdal_p dlC_M_numbers_127 (i := 2) rfl) ?_
              refine zw_bipush (pc := 46) (v := Int32.ofInt 64) (by decide) (zdal_p dlC_M_numbers_127 (i := 3) rfl) ?_
              refine zw_iload (pc := 48) (i := 7) (x := Int32.ofInt u9_) rfl (zdal_p dlC_M_numbers_127 (i := 4) rfl) ?_
              refine zr_imul (pc := 50) (zdal_p dlC_M_numbers_127 (i := 5) rfl) ?_
              refine zw_iload (pc := 51) (i := 4) (x := Int32.ofInt u1_) rfl (zdal_p dlC_M_numbers_127 (i := 6) rfl) ?_
              refine zr_iadd (pc := 53) (zdal_p dlC_M_numbers_127 (i := 7) rfl) ?_
              refine zr_ialdn (pc := 54) (zh_93 (hf_N2_.w hW)).2 (by decide) (by omega) (by omega) (zdal_p dlC_M_numbers_127 (i := 8) rfl) (fun v16_ hv16_ hv16_a hv16_b => ?_)
              rw [hf_N2_.ie (by decide) (by decide)] at hv16_
              refine zr_i2l (pc := 55) ⟨hv16_a, hv16_b⟩ (zdal_p dlC_M_numbers_127 (i := 9) rfl) ?_
              refine zr_lmul (pc := 56) (zdal_p dlC_M_numbers_127 (i := 10) rfl) ?_
              refine zr_lsub (pc := 57) (zdal_p dlC_M_numbers_127 (i := 11) rfl) ?_
              refine zr_nmJ (fun v17_ hv17_ => ?_)
              obtain ⟨hv17_a, hv17_b⟩ := hv17_
              refine zw_lstore (pc := 58) (i := 5) (L2 := [some (.ref 81), some (.ref 99), some (.ref 98), some (.int (Int32.ofInt a2_)), some (.int (Int32.ofInt u1_)), some (.long (Int64.ofInt v17_)), none, some (.int (Int32.ofInt u9_))]) (by decide) rfl (zdal_p dlC_M_numbers_127 (i := 12) rfl) ?_
              refine zr_iinc (pc := 60) (i := 7) (a := u9_) (n := 1) (L2 := [some (.ref 81), some (.ref 99), some (.ref 98), some (.int (Int32.ofInt a2_)), some (.int (Int32.ofInt u1_)), some (.long (Int64.ofInt v17_)), none, some (.int (Int32.ofInt (u9_ + 1)))]) rfl (by decide) rfl (zdal_p dlC_M_numbers_127 (i := 13) rfl) ?_
              refine zw_goto (pc := 63) (tgt := 25) (by decide) (zdal_p dlC_M_numbers_127 (i := 14) rfl) ?_
              exact ih_25 v17_ hv17_a hv17_b (u9_ + 1) (by omega) (by omega) (show u1_ + 1 ≤ (u9_ + 1) by first | assumption | omega) (by omega)
        exact lp_25 _ v7_ hv7_a hv7_b (u1_ + 1) (by omega) (by omega) (show u1_ + 1 ≤ (u1_ + 1) by first | assumption | omega) (Nat.lt_succ_self _)
  exact lp_8 _ ((ze Mz 81 26) - 1) (by omega) (by omega) Mz zFr.rf (show ((ze Mz 81 26) - 1) ≤ (ze Mz 81 26) - 1 by first | assumption | omega) (show ((ze Mz 81 26) - 1) ≥ -1 by first | assumption | omega) (Nat.lt_succ_self _)
set_option maxHeartbeats 4000000 in
theorem c_M_marks (l : Launch) (Mz : zMem) (hW : zMt Mz) (T : zGT) (hO : gOK T) (hX : gEx T) (p0_ : zGB T Mz) (p1_ : 0 ≤ ze Mz 81 1) (p2_ : ze Mz 81 1 ≤ 700) (p3_ : 0 ≤ ze Mz 81 60) (p4_ : ze Mz 81 60 ≤ 12) : zC l m_M_marks 0 0 [.ref 81] Mz (zpI [1, 55, 60, 64, 65] [98, 99, 109, 111] Mz (fun v N => ze N 81 1 = 0 ∧ 0 ≤ ze N 81 60 ∧ ze N 81 60 ≤ 12)) := by
  refine zC_of (L0 := [some (.ref 81), none, none, none, none]) md_M_marks (Nat.le_of_ble_eq_true rfl) rfl ?_ zQ0
  have hf : zFr [1, 55, 60, 64, 65] [98, 99, 109, 111] Mz Mz := zFr.rf
  have r_1 := ze_r Mz 81 1
  have r_26 := ze_r Mz 81 26
  have r_55 := ze_r Mz 81 55
  have r_60 := ze_r Mz 81 60
  have hG := hO.1
  have g24 := hG.2.1
  have g1 := hG.1
  have dv0 : zTab T Mz := p0_.1
  have dv1 : zB 85 144 0 5 Mz := p0_.2.1
  have dv2 : zJX T Mz := p0_.2.2.1
  have dv3 : zFirs T Mz := p0_.2.2.2.1
  have dv4 : zSSm T Mz := p0_.2.2.2.2.1
  have dv5 : zGD Mz := zGB.d hO p0_
  have gb := dv5.1
  have gn := dv0.1
  have gfl := dv3.1
  have gf6 := gF_pos hO
  have gxl := hX.2.1
  refine zw_aload_n (pc := 0) (n := 0) (x := 81) rfl (zdal_p dlD_M_marks_124 (i := 0) rfl) ?_
  refine zr_getI (hf.w hW) (pc := 1) f_M_124 rfl (zdal_p dlD_M_marks_124 (i := 1) rfl) ?_
  refine zw_istore_n (pc := 4) (i := 1) (L2 := [some (.ref 81), some (.int (Int32.ofInt (ze Mz 81 1))), none, none, none]) rfl (by decide) rfl (zdal_p dlD_M_marks_124 (i := 2) rfl) ?_
  refine zw_aload_n (pc := 5) (n := 0) (x := 81) rfl (zdal_p dlD_M_marks_124 (i := 3) rfl) ?_
  refine zw_iconst (pc := 6) (v := Int32.ofInt 0) (by decide) (zdal_p dlD_M_marks_124 (i := 4) rfl) ?_
  refine zr_putI (hf.w hW) (pc := 7) f_M_124 rfl rfl ⟨by omega, by omega⟩ rfl rfl (zdal_p dlD_M_marks_124 (i := 5) rfl) (fun N1_ hsN1_ hvN1_ => ?_)
  have hf_N1_ : zFr [1, 55, 60, 64, 65] [98, 99, 109, 111] Mz N1_ := hf.tr hsN1_ (by decide) (by decide)
  have r1_N1_ := ze_r N1_ 81 1
  have e26_N1_ : ze N1_ 81 26 = ze Mz 81 26 := hsN1_.e (by decide)
  have e55_N1_ : ze N1_ 81 55 = ze Mz 81 55 := hsN1_.e (by decide)
  have e60_N1_ : ze N1_ 81 60 = ze Mz 81 60 := hsN1_.e (by decide)
  have c2_ : zGB T N1_ := zGB.fr hsN1_ p0_ (by decide) (by decide)
  have c3_ : zTab T N1_ := zTab.fr hsN1_ dv0 (by decide) (by decide)
  have c4_ : zB 85 144 0 5 N1_ := zB.fr hsN1_ dv1 (by decide) (by decide)
  have c5_ : zJX T N1_ := zJX.fr hsN1_ dv2 (by decide) (by decide)
  have c6_ : zFirs T N1_ := zFirs.fr hsN1_ dv3 (by decide) (by decide)
  have c7_ : zSSm T N1_ := zSSm.fr hsN1_ dv4 (by decide) (by decide)
  have c8_ : zGD N1_ := zGD.fr hsN1_ dv5 (by decide) (by decide)
  refine zw_aload_n (pc := 10) (n := 0) (x := 81) rfl (zdal_p dlD_M_marks_124 (i := 6) rfl) ?_
  refine zw_iload_n (pc := 11) (n := 1) (x := Int32.ofInt (ze Mz 81 1)) rfl (zdal_p dlD_M_marks_124 (i := 7) rfl) ?_
  refine zr_callV (hf_N1_.w hW) hf_N1_.x (pc := 12) [.int (Int32.ofInt (ze Mz 81 1))] [] l_M_520 (c_M_readsMarks l N1_ (hf_N1_.w hW) (ze Mz 81 1) (ze_r Mz 81 1).1 (ze_r Mz 81 1).2 T hO c2_ (show 0 ≤ (ze Mz 81 1) by first | assumption | omega) (show (ze Mz 81 1) ≤ 700 by first | assumption | omega)) rfl rfl rfl (by decide) (Nat.le_of_ble_eq_true rfl) (zdal_p dlD_M_marks_124 (i := 8) rfl) ?_
  rintro _ N9_ ⟨v10_, rfl, ⟨hv10_a, hv10_b⟩, hsN9_, hp0_N9_⟩
  replace hp0_N9_ : (v10_ = 0 ∨ v10_ = 1) := hp0_N9_
  have hf_N9_ : zFr [1, 55, 60, 64, 65] [98, 99, 109, 111] Mz N9_ := hf_N1_.tr hsN9_ (by decide) (by decide)
  have e1_N9_ : ze N9_ 81 1 = ze N1_ 81 1 := hsN9_.e (by decide)
  have e26_N9_ : ze N9_ 81 26 = ze N1_ 81 26 := hsN9_.e (by decide)
  have e55_N9_ : ze N9_ 81 55 = ze N1_ 81 55 := hsN9_.e (by decide)
  have e60_N9_ : ze N9_ 81 60 = ze N1_ 81 60 := hsN9_.e (by decide)
  have c11_ : zGB T N9_ := zGB.fr hsN9_ c2_ (by decide) (by decide)
  have c12_ : zTab T N9_ := zTab.fr hsN9_ c3_ (by decide) (by decide)
  have c13_ : zB 85 144 0 5 N9_ := zB.fr hsN9_ c4_ (by decide) (by decide)
  have c14_ : zJX T N9_ := zJX.fr hsN9_ c5_ (by decide) (by decide)
  have c15_ : zFirs T N9_ := zFirs.fr hsN9_ c6_ (by decide) (by decide)
  have c16_ : zSSm T N9_ := zSSm.fr hsN9_ c7_ (by decide) (by decide)
  have c17_ : zGD N9_ := zGD.fr hsN9_ c8_ (by decide) (by decide)
  show zW l m_M_marks (zn Mz + 0, zw Mz + 0) N9_ 15 [some (.ref 81), some (.int (Int32.ofInt (ze Mz 81 1))), none, none, none] [.int (Int32.ofInt v10_)] _
  refine zr_if_ne (pc := 15) (tgt := 21) ⟨hv10_a, hv10_b⟩ (by decide) (zdal_p dlD_M_marks_124 (i := 9) rfl) (fun hc_15 => ?_) (fun hc_15 => ?_)
  · skip
    refine zw_iconst (pc := 21) (v := Int32.ofInt 0) (by decide) (zdal_p dlD_M_marks_124 (i := 12) rfl) ?_
    refine zw_istore_n (pc := 22) (i := 2) (L2 := [some (.ref 81), some (.int (Int32.ofInt (ze Mz 81 1))), some (.int (Int32.ofInt 0)), none, none]) rfl (by decide) rfl (zdal_p dlD_M_marks_124 (i := 13) rfl) ?_
    have lp_23 : ∀ (n : Nat) (u18_ : Int) (hu18_a : -2147483648 ≤ u18_) (hu18_b : u18_ < 2147483648) (N19_ : zMem) (hs20_ : zFr [55] [109] N9_ N19_) (i21_ : 0 ≤ u18_), (ze Mz 81 26 - u18_).toNat < n → zW l m_M_marks (zn Mz + 0, zw Mz + 0) N19_ 23 [some (.ref 81), some (.int (Int32.ofInt (ze Mz 81 1))), some (.int (Int32.ofInt u18_)), none, none] [] (zpI [1, 55, 60, 64, 65] [98, 99, 109, 111] Mz (fun v N => ze N 81 1 = 0 ∧ 0 ≤ ze N 81 60 ∧ ze N 81 60 ≤ 12)) := by
      intro n
      induction n with
      | zero =>
        intro u18_ hu18_a hu18_b N19_ hs20_ i21_ h0
        exact absurd h0 (Nat.not_lt_zero _)
      | succ n ih_23 =>
        intro u18_ hu18_a hu18_b N19_ hs20_ i21_ hlt_23
        have hf_N19_ : zFr [1, 55, 60, 64, 65] [98, 99, 109, 111] Mz N19_ := hf_N9_.tr hs20_ (by decide) (by decide)
        have e1_N19_ : ze N19_ 81 1 = ze N9_ 81 1 := hs20_.e (by decide)
        have e26_N19_ : ze N19_ 81 26 = ze N9_ 81 26 := hs20_.e (by decide)
        have r55_N19_ := ze_r N19_ 81 55
        have e60_N19_ : ze N19_ 81 60 = ze N9_ 81 60 := hs20_.e (by decide)
        have c22_ : zGB T N19_ := zGB.fr hs20_ c11_ (by decide) (by decide)
        have c23_ : zTab T N19_ := zTab.fr hs20_ c12_ (by decide) (by decide)
        have c24_ : zB 85 144 0 5 N19_ := zB.fr hs20_ c13_ (by decide) (by decide)
        have c25_ : zJX T N19_ := zJX.fr hs20_ c14_ (by decide) (by decide)
        have c26_ : zFirs T N19_ := zFirs.fr hs20_ c15_ (by decide) (by decide)
        have c27_ : zSSm T N19_ := zSSm.fr hs20_ c16_ (by decide) (by decide)
        have c28_ : zGD N19_ := zGD.fr hs20_ c17_ (by decide) (by decide)
        refine zw_iload_n (pc := 23) (n := 2) (x := Int32.ofInt u18_) rfl (zdal_p dlD_M_marks_124 (i := 14) rfl) ?_
        refine zw_aload_n (pc := 24) (n := 0) (x := 81) rfl (zdal_p dlD_M_marks_124 (i := 15) rfl) ?_
        refine zr_getI0 hf_N19_ hW (pc := 25) (by decide) f_M_235 rfl (zdal_p dlD_M_marks_124 (i := 16) rfl) ?_
        refine zr_icmp_ge (pc := 28) (tgt := 63) ⟨hu18_a, hu18_b⟩ ⟨(ze_r Mz 81 26).1, (ze_r Mz 81 26).2⟩ (by decide) (zdal_p dlD_M_marks_124 (i := 17) rfl) (fun hc_28 => ?_) (fun hc_28 => ?_)
        · skip
          refine zw_aload_n (pc := 63) (n := 0) (x := 81) rfl (zdal_p dlD_M_marks_125 (i := 14) rfl) ?_
          refine zr_callV (hf_N19_.w hW) hf_N19_.x (pc := 64) [] [] l_M_481 (c_M_act l N19_ (hf_N19_.w hW) (show 0 ≤ ze N19_ 81 60 by first | assumption | omega) (show ze N19_ 81 60 ≤ 12 by first | assumption | omega)) rfl rfl rfl (by decide) (Nat.le_of_ble_eq_true rfl) (zdal_p dlD_M_marks_125 (i := 15) rfl) ?_
          rintro _ N29_ ⟨rfl, hsN29_, ⟨hp0_N29_, hp1_N29_⟩⟩
          have hf_N29_ : zFr [1, 55, 60, 64, 65] [98, 99, 109, 111] Mz N29_ := hf_N19_.tr hsN29_ (by decide) (by decide)
          have e1_N29_ : ze N29_ 81 1 = ze N19_ 81 1 := hsN29_.e (by decide)
          have e26_N29_ : ze N29_ 81 26 = ze N19_ 81 26 := hsN29_.e (by decide)
          have e55_N29_ : ze N29_ 81 55 = ze N19_ 81 55 := hsN29_.e (by decide)
          have r60_N29_ := ze_r N29_ 81 60
          have c31_ : zGB T N29_ := zGB.fr hsN29_ c22_ (by decide) (by decide)
          have c32_ : zTab T N29_ := zTab.fr hsN29_ c23_ (by decide) (by decide)
          have c33_ : zB 85 144 0 5 N29_ := zB.fr hsN29_ c24_ (by decide) (by decide)
          have c34_ : zJX T N29_ := zJX.fr hsN29_ c25_ (by decide) (by decide)
          have c35_ : zFirs T N29_ := zFirs.fr hsN29_ c26_ (by decide) (by decide)
          have c36_ : zSSm T N29_ := zSSm.fr hsN29_ c27_ (by decide) (by decide)
          have c37_ : zGD N29_ := zGD.fr hsN29_ c28_ (by decide) (by decide)
          show zW l m_M_marks (zn Mz + 0, zw Mz + 0) N29_ 67 [some (.ref 81), some (.int (Int32.ofInt (ze Mz 81 1))), some (.int (Int32.ofInt u18_)), none, none] [] _
          refine zw_aload_n (pc := 67) (n := 0) (x := 81) rfl (zdal_p dlD_M_marks_125 (i := 16) rfl) ?_
          refine zw_aload_n (pc := 68) (n := 0) (x := 81) rfl (zdal_p dlD_M_marks_125 (i := 17) rfl) ?_
          refine zr_getF (r := 99) (hf_N29_.w hW) (pc := 69) f_M_69 rfl (zh_99 (hf_N29_.w hW)).1 (zdal_p dlD_M_marks_125 (i := 18) rfl) ?_
          refine zw_aload_n (pc := 72) (n := 0) (x := 81) rfl (zdal_p dlD_M_marks_125 (i := 19) rfl) ?_
          refine zr_getF (r := 98) (hf_N29_.w hW) (pc := 73) f_M_66 rfl (zh_98 (hf_N29_.w hW)).1 (zdal_p dlD_M_marks_125 (i := 20) rfl) ?_
          refine zw_iconst (pc := 76) (v := Int32.ofInt 0) (by decide) (zdal_p dlD_M_marks_125 (i := 21) rfl) ?_
          refine zr_callV (hf_N29_.w hW) hf_N29_.x (pc := 77) [.ref 99, .ref 98, .int (Int32.ofInt 0)] [] l_M_289 (c_M_numbers_99_98 l N29_ (hf_N29_.w hW) 0 (by decide) (by decide) c37_ (show 0 ≤ 0 by first | assumption | omega) (show 0 ≤ 0 by first | assumption | omega)) rfl rfl rfl (by decide) (Nat.le_of_ble_eq_true rfl) (zdal_p dlD_M_marks_125 (i := 22) rfl) ?_
          rintro _ N38_ ⟨rfl, hsN38_, -⟩
          have hf_N38_ : zFr [1, 55, 60, 64, 65] [98, 99, 109, 111] Mz N38_ := hf_N29_.tr hsN38_ (by decide) (by decide)
          have e1_N38_ : ze N38_ 81 1 = ze N29_ 81 1 := hsN38_.e (by decide)
          have e26_N38_ : ze N38_ 81 26 = ze N29_ 81 26 := hsN38_.e (by decide)
          have e55_N38_ : ze N38_ 81 55 = ze N29_ 81 55 := hsN38_.e (by decide)
          have e60_N38_ : ze N38_ 81 60 = ze N29_ 81 60 := hsN38_.e (by decide)
          have c40_ : zGB T N38_ := zGB.fr hsN38_ c31_ (by decide) (by decide)
          have c41_ : zTab T N38_ := zTab.fr hsN38_ c32_ (by decide) (by decide)
          have c42_ : zB 85 144 0 5 N38_ := zB.fr hsN38_ c33_ (by decide) (by decide)
          have c43_ : zJX T N38_ := zJX.fr hsN38_ c34_ (by decide) (by decide)
          have c44_ : zFirs T N38_ := zFirs.fr hsN38_ c35_ (by decide) (by decide)
          have c45_ : zSSm T N38_ := zSSm.fr hsN38_ c36_ (by decide) (by decide)
          have c46_ : zGD N38_ := zGD.fr hsN38_ c37_ (by decide) (by decide)
          show zW l m_M_marks (zn Mz + 0, zw Mz + 0) N38_ 80 [some (.ref 81), some (.int (Int32.ofInt (ze Mz 81 1))), some (.int (Int32.ofInt u18_)), none, none] [] _
          refine zw_iconst (pc := 80) (v := Int32.ofInt 0) (by decide) (zdal_p dlD_M_marks_125 (i := 23) rfl) ?_
          exact zr_iret (pc := 81) (ty := .int) rfl rfl ⟨by omega, by omega⟩ hf_N38_ ⟨(show ze N38_ 81 1 = 0 by first | assumption | omega), (show 0 ≤ ze N38_ 81 60 by first | assumption | omega), (show ze N38_ 81 60 ≤ 12 by first | assumption | omega)⟩ (zdal_p dlD_M_marks_126 (i := 0) rfl)
        · skip
          refine zw_aload_n (pc := 31) (n := 0) (x := 81) rfl (zdal_p dlD_M_marks_124 (i := 18) rfl) ?_
          refine zw_aload_n (pc := 32) (n := 0) (x := 81) rfl (zdal_p dlD_M_marks_124 (i := 19) rfl) ?_
          refine zr_getF (r := 99) (hf_N19_.w hW) (pc := 33) f_M_69 rfl (zh_99 (hf_N19_.w hW)).1 (zdal_p dlD_M_marks_124 (i := 20) rfl) ?_
          refine zw_iload_n (pc := 36) (n := 2) (x := Int32.ofInt u18_) rfl (zdal_p dlD_M_marks_124 (i := 21) rfl) ?_
          refine zr_callV (hf_N19_.w hW) hf_N19_.x (pc := 37) [.ref 99, .int (Int32.ofInt u18_)] [] l_M_475 (c_M_congruenceOf_99 l N19_ (hf_N19_.w hW) u18_ hu18_a hu18_b T hO hX c22_ (show 0 ≤ u18_ by first | assumption | omega) (show u18_ < ze N19_ 81 26 by first | assumption | omega)) rfl rfl rfl (by decide) (Nat.le_of_ble_eq_true rfl) (zdal_p dlD_M_marks_124 (i := 22) rfl) ?_
          rintro _ N47_ ⟨v48_, rfl, ⟨hv48_a, hv48_b⟩, hsN47_, ⟨hp0_N47_, hp1_N47_⟩⟩
          have hf_N47_ : zFr [1, 55, 60, 64, 65] [98, 99, 109, 111] Mz N47_ := hf_N19_.tr hsN47_ (by decide) (by decide)
          have hb0_N47_ : zFr [55] [109] N9_ N47_ := hs20_.tr hsN47_ (by decide) (by decide)
          have e1_N47_ : ze N47_ 81 1 = ze N19_ 81 1 := hsN47_.e (by decide)
          have e26_N47_ : ze N47_ 81 26 = ze N19_ 81 26 := hsN47_.e (by decide)
          have r55_N47_ := ze_r N47_ 81 55
          have e60_N47_ : ze N47_ 81 60 = ze N19_ 81 60 := hsN47_.e (by decide)
          have c49_ : zGB T N47_ := zGB.fr hsN47_ c22_ (by decide) (by decide)
          have c50_ : zTab T N47_ := zTab.fr hsN47_ c23_ (by decide) (by decide)
          have c51_ : zB 85 144 0 5 N47_ := zB.fr hsN47_ c24_ (by decide) (by decide)
          have c52_ : zJX T N47_ := zJX.fr hsN47_ c25_ (by decide) (by decide)
          have c53_ : zFirs T N47_ := zFirs.fr hsN47_ c26_ (by decide) (by decide)
          have c54_ : zSSm T N47_ := zSSm.fr hsN47_ c27_ (by decide) (by decide)
          have c55_ : zGD N47_ := zGD.fr hsN47_ c28_ (by decide) (by decide)
          show zW l m_M_marks (zn Mz + 0, zw Mz + 0) N47_ 40 [some (.ref 81), some (.int (Int32.ofInt (ze Mz 81 1))), some (.int (Int32.ofInt u18_)), none, none] [.long (Int64.ofInt v48_)] _
          refine zw_lstore_n (pc := 40) (i := 3) (L2 := [some (.ref 81), some (.int (Int32.ofInt (ze Mz 81 1))), some (.int (Int32.ofInt u18_)), some (.long (Int64.ofInt v48_)), none]) rfl (by decide) rfl (zdal_p dlD_M_marks_124 (i := 23) rfl) ?_
          refine zw_lload_n (pc := 41) (n := 3) (x := Int64.ofInt v48_) rfl (zdal_p dlD_M_marks_125 (i := 0) rfl) ?_
          refine zw_aload_n (pc := 42) (n := 0) (x := 81) rfl (zdal_p dlD_M_marks_125 (i := 1) rfl) ?_
          refine zr_getI (hf_N47_.w hW) (pc := 43) f_M_453 rfl (zdal_p dlD_M_marks_125 (i := 2) rfl) ?_
          refine zr_i2l (pc := 46) ⟨(ze_r N47_ 81 55).1, (ze_r N47_ 81 55).2⟩ (zdal_p dlD_M_marks_125 (i := 3) rfl) ?_
          refine zr_lrem (pc := 47) ⟨by omega, by omega⟩ (by omega) (zdal_p dlD_M_marks_125 (i := 4) rfl) ?_
          have hr56_ := zlrem_r v48_ (ze N47_ 81 55)
          refine zw_lconst (pc := 48) (v := Int64.ofInt 0) (by decide) (zdal_p dlD_M_marks_125 (i := 5) rfl) ?_
          refine zr_lcmp (pc := 49) ⟨(by omega), (by omega)⟩ ⟨(by decide), (by decide)⟩ (zdal_p dlD_M_marks_125 (i := 6) rfl) ?_
          have hr57_ := zcmp_s (zlrem v48_ (ze N47_ 81 55)) 0
          refine zr_if_eq (pc := 50) (tgt := 57) ⟨(by omega), (by omega)⟩ (by decide) (zdal_p dlD_M_marks_125 (i := 7) rfl) (fun hc_50 => ?_) (fun hc_50 => ?_)
          · skip
            refine zr_iinc (pc := 57) (i := 2) (a := u18_) (n := 1) (L2 := [some (.ref 81), some (.int (Int32.ofInt (ze Mz 81 1))), some (.int (Int32.ofInt (u18_ + 1))), some (.long (Int64.ofInt v48_)), none]) rfl (by decide) rfl (zdal_p dlD_M_marks_125 (i := 12) rfl) ?_
            refine zw_goto (pc := 60) (tgt := 23) (by decide) (zdal_p dlD_M_marks_125 (i := 13) rfl) ?_
            refine zW_le [some (.ref 81), some (.int (Int32.ofInt (ze Mz 81 1))), some (.int (Int32.ofInt (u18_ + 1))), none, none] (⟨rfl, rfl, rfl, trivial⟩) ?_
            exact ih_23 (u18_ + 1) (by omega) (by omega) N47_ hb0_N47_ (show 0 ≤ (u18_ + 1) by first | assumption | omega) (by omega)
          · skip
            refine zw_iload_n (pc := 53) (n := 2) (x := Int32.ofInt u18_) rfl (zdal_p dlD_M_marks_125 (i := 8) rfl) ?_
            refine zw_iconst (pc := 54) (v := Int32.ofInt 1) (by decide) (zdal_p dlD_M_marks_125 (i := 9) rfl) ?_
            refine zr_iadd (pc := 55) (zdal_p dlD_M_marks_125 (i := 10) rfl) ?_
            exact zr_iret (pc := 56) (ty := .int) rfl rfl ⟨by omega, by omega⟩ hf_N47_ ⟨(show ze N47_ 81 1 = 0 by first | assumption | omega), (show 0 ≤ ze N47_ 81 60 by first | assumption | omega), (show ze N47_ 81 60 ≤ 12 by first | assumption | omega)⟩ (zdal_p dlD_M_marks_125 (i := 11) rfl)
    exact lp_23 _ 0 (by decide) (by decide) N9_ zFr.rf (show 0 ≤ (0 : Int) by first | assumption | omega) (Nat.lt_succ_self _)
  · skip
    refine zw_bipush (pc := 18) (v := Int32.ofInt (-2)) (by decide) (zdal_p dlD_M_marks_124 (i := 10) rfl) ?_
    exact zr_iret (pc := 20) (ty := .int) rfl rfl ⟨by omega, by omega⟩ hf_N9_ ⟨(show ze N9_ 81 1 = 0 by first | assumption | omega), (show 0 ≤ ze N9_ 81 60 by first | assumption | omega), (show ze N9_ 81 60 ≤ 12 by first | assumption | omega)⟩ (zdal_p dlD_M_marks_124 (i := 11) rfl)
