set_option maxHeartbeats 4000000 in
theorem c_M_congruenceOf_99 (l : Launch) (Mz : zMem) (hW : zMt Mz) (a1_ : Int) (ha1_a : -2147483648 ≤ a1_) (ha1_b : a1_ < 2147483648) (T : zGT) (hO : gOK T) (hX : gEx T) (p0_ : zGB T Mz) (p1_ : 0 ≤ a1_) (p2_ : a1_ < ze Mz 81 26) : zC l m_M_congruenceOf 0 0 [.ref 81, .ref 99, .int (Int32.ofInt a1_)] Mz (zpJ [55] [109] Mz (fun v N => 1 ≤ ze N 81 55 ∧ ze N 81 55 ≤ 24)) := by
  refine zC_of (L0 := [some (.ref 81), some (.ref 99), some (.int (Int32.ofInt a1_)), none, none, none]) md_M_congruenceOf (Nat.le_of_ble_eq_true rfl) rfl ?_ zQ0
  have hf : zFr [55] [109] Mz Mz := zFr.rf
  have r_26 := ze_r Mz 81 26
  have r_55 := ze_r Mz 81 55
  have hG := hO.1
  have g24 := hG.2.1
  have g1 := hG.1
  have dv0 : zTab T Mz := p0_.1
  have dv1 : zB 85 144 0 5 Mz := p0_.2.1
  have dv2 : zJX T Mz := p0_.2.2.1
  have dv3 : zFirs T Mz := p0_.2.2.2.1
  have dv4 : zSSm T Mz := p0_.2.2.2.2.1
  have dv5 : zGD Mz := zGB.d hO p0_
  have gb := dv5.1
  have gn := dv0.1
  have gfl := dv3.1
  have gf6 := gF_pos hO
  have gxl := hX.2.1
  refine zw_aload_n (pc := 0) (n := 0) (x := 81) rfl d_M_congruenceOf_0 ?_
  refine zw_iload_n (pc := 1) (n := 2) (x := Int32.ofInt a1_) rfl d_M_congruenceOf_1 ?_
  refine zr_callV (hf.w hW) hf.x (pc := 2) [.int (Int32.ofInt a1_)] [] l_M_456 (c_M_laysMade l Mz (hf.w hW) a1_ ha1_a ha1_b T hO hX p0_ (show 0 ≤ a1_ by first | assumption | omega) (show a1_ < ze Mz 81 26 by first | assumption | omega)) rfl rfl rfl (by decide) (Nat.le_of_ble_eq_true rfl) d_M_congruenceOf_2 ?_
  rintro _ N1_ ⟨rfl, hsN1_, ⟨hp0_N1_, hp1_N1_, hp2_N1_⟩⟩
  have hf_N1_ : zFr [55] [109] Mz N1_ := hf.tr hsN1_ (by decide) (by decide)
  have e26_N1_ : ze N1_ 81 26 = ze Mz 81 26 := hsN1_.e (by decide)
  have r55_N1_ := ze_r N1_ 81 55
  have c3_ : zGB T N1_ := zGB.fr hsN1_ p0_ (by decide) (by decide)
  have c4_ : zTab T N1_ := zTab.fr hsN1_ dv0 (by decide) (by decide)
  have c5_ : zB 85 144 0 5 N1_ := zB.fr hsN1_ dv1 (by decide) (by decide)
  have c6_ : zJX T N1_ := zJX.fr hsN1_ dv2 (by decide) (by decide)
  have c7_ : zFirs T N1_ := zFirs.fr hsN1_ dv3 (by decide) (by decide)
  have c8_ : zSSm T N1_ := zSSm.fr hsN1_ dv4 (by decide) (by decide)
  have c9_ : zGD N1_ := zGD.fr hsN1_ dv5 (by decide) (by decide)
  show zW l m_M_congruenceOf (zn Mz + 0, zw Mz + 0) N1_ 5 [some (.ref 81), some (.ref 99), some (.int (Int32.ofInt a1_)), none, none, none] [] (zpJ [55] [109] Mz (fun v N => 1 ≤ ze N 81 55 ∧ ze N 81 55 ≤ 24))
  have hmr_ := hp0_N1_.2.1
  refine zw_lconst (pc := 5) (v := Int64.ofInt 0) (by decide) d_M_congruenceOf_5 ?_
  refine zw_lstore_n (pc := 6) (i := 3) (L2 := [some (.ref 81), some (.ref 99), some (.int (Int32.ofInt a1_)), some (.long (Int64.ofInt 0)), none, none]) rfl (by decide) rfl d_M_congruenceOf_6 ?_
  refine zw_iconst (pc := 7) (v := Int32.ofInt 0) (by decide) d_M_congruenceOf_7 ?_
  refine zw_istore (pc := 8) (i := 5) (L2 := [some (.ref 81), some (.ref 99), some (.int (Int32.ofInt a1_)), some (.long (Int64.ofInt 0)), none, some (.int (Int32.ofInt 0))]) (by decide) rfl d_M_congruenceOf_8 ?_
  have lp_10 : ∀ (n : Nat) (u10_ : Int) (hu10_a : -9223372036854775808 ≤ u10_) (hu10_b : u10_ < 9223372036854775808) (u11_ : Int) (hu11_a : -2147483648 ≤ u11_) (hu11_b : u11_ < 2147483648) (i12_ : 0 ≤ u11_), (ze N1_ 81 55 - u11_).toNat < n → zW l m_M_congruenceOf (zn Mz + 0, zw Mz + 0) N1_ 10 [some (.ref 81), some (.ref 99), some (.int (Int32.ofInt a1_)), some (.long (Int64.ofInt u10_)), none, some (.int (Int32.ofInt u11_))] [] (zpJ [55] [109] Mz (fun v N => 1 ≤ ze N 81 55 ∧ ze N 81 55 ≤ 24)) := by
    intro n
    induction n with
    | zero =>
      intro u10_ hu10_a hu10_b u11_ hu11_a hu11_b i12_ h0
      exact absurd h0 (Nat.not_lt_zero _)
    | succ n ih_10 =>
      intro u10_ hu10_a hu10_b u11_ hu11_a hu11_b i12_ hlt_10
      refine zw_iload (pc := 10) (i := 5) (x := Int32.ofInt u11_) rfl d_M_congruenceOf_10 ?_
      refine zw_aload_n (pc := 12) (n := 0) (x := 81) rfl d_M_congruenceOf_12 ?_
      refine zr_getI (hf_N1_.w hW) (pc := 13) f_M_453 rfl d_M_congruenceOf_13 ?_
      refine zr_icmp_ge (pc := 16) (tgt := 37) ⟨hu11_a, hu11_b⟩ ⟨(ze_r N1_ 81 55).1, (ze_r N1_ 81 55).2⟩ (by decide) d_M_congruenceOf_16 (fun hc_16 => ?_) (fun hc_16 => ?_)
      · skip
        refine zw_lload_n (pc := 37) (n := 3) (x := Int64.ofInt u10_) rfl d_M_congruenceOf_37 ?_
        exact zr_lret (pc := 38) rfl ⟨by omega, by omega⟩ hf_N1_ ⟨(show 1 ≤ ze N1_ 81 55 by first | assumption | omega), (show ze N1_ 81 55 ≤ 24 by first | assumption | omega)⟩ d_M_congruenceOf_38
      · skip
        refine zw_lload_n (pc := 19) (n := 3) (x := Int64.ofInt u10_) rfl d_M_congruenceOf_19 ?_
        refine zw_aload_n (pc := 20) (n := 1) (x := 99) rfl d_M_congruenceOf_20 ?_
        refine zw_aload_n (pc := 21) (n := 0) (x := 81) rfl d_M_congruenceOf_21 ?_
        refine zr_getF (r := 109) (hf_N1_.w hW) (pc := 22) f_M_99 rfl (zh_109 (hf_N1_.w hW)).1 d_M_congruenceOf_22 ?_
        refine zw_iload (pc := 25) (i := 5) (x := Int32.ofInt u11_) rfl d_M_congruenceOf_25 ?_
        refine zr_ialdn (pc := 27) (zh_109 (hf_N1_.w hW)).2 (by decide) (by omega) (by omega) d_M_congruenceOf_27 (fun v13_ hv13_ hv13_a hv13_b => ?_)
        have hmx_ := hmr_ (u11_).toNat (by omega)
        refine zr_laldn (pc := 28) (zh_99 (hf_N1_.w hW)).2 (by decide) (by omega) (by omega) d_M_congruenceOf_28 (fun v14_ hv14_ hv14_a hv14_b => ?_)
        rw [hf_N1_.jg (by decide) (by decide)] at hv14_
        refine zr_ladd (pc := 29) d_M_congruenceOf_29 ?_
        refine zr_nmJ (fun v15_ hv15_ => ?_)
        obtain ⟨hv15_a, hv15_b⟩ := hv15_
        refine zw_lstore_n (pc := 30) (i := 3) (L2 := [some (.ref 81), some (.ref 99), some (.int (Int32.ofInt a1_)), some (.long (Int64.ofInt v15_)), none, some (.int (Int32.ofInt u11_))]) rfl (by decide) rfl d_M_congruenceOf_30 ?_
        refine zr_iinc (pc := 31) (i := 5) (a := u11_) (n := 1) (L2 := [some (.ref 81), some (.ref 99), some (.int (Int32.ofInt a1_)), some (.long (Int64.ofInt v15_)), none, some (.int (Int32.ofInt (u11_ + 1)))]) rfl (by decide) rfl d_M_congruenceOf_31 ?_
        refine zw_goto (pc := 34) (tgt := 10) (by decide) d_M_congruenceOf_34 ?_
        exact ih_10 v15_ hv15_a hv15_b (u11_ + 1) (by omega) (by omega) (show 0 ≤ (u11_ + 1) by first | assumption | omega) (by omega)
  exact lp_10 _ 0 (by decide) (by decide) 0 (by decide) (by decide) (show 0 ≤ (0 : Int) by first | assumption | omega) (Nat.lt_succ_self _)
set_option maxHeartbeats 4000000 in
theorem c_M_congruence (l : Launch) (Mz : zMem) (hW : zMt Mz) (a0_ : Int) (ha0_a : -2147483648 ≤ a0_) (ha0_b : a0_ < 2147483648) (T : zGT) (hO : gOK T) (hX : gEx T) (p0_ : zGB T Mz) : zC l m_M_congruence 0 0 [.ref 81, .int (Int32.ofInt a0_)] Mz (zpJ [55] [99, 109] Mz (fun v N => True)) := by
  refine zC_of (L0 := [some (.ref 81), some (.int (Int32.ofInt a0_))]) md_M_congruence (Nat.le_of_ble_eq_true rfl) rfl ?_ zQ0
  have hf : zFr [55] [99, 109] Mz Mz := zFr.rf
  have r_26 := ze_r Mz 81 26
  have r_55 := ze_r Mz 81 55
  have hG := hO.1
  have g24 := hG.2.1
  have g1 := hG.1
  have dv0 : zTab T Mz := p0_.1
  have dv1 : zB 85 144 0 5 Mz := p0_.2.1
  have dv2 : zJX T Mz := p0_.2.2.1
  have dv3 : zFirs T Mz := p0_.2.2.2.1
  have dv4 : zSSm T Mz := p0_.2.2.2.2.1
  have dv5 : zGD Mz := zGB.d hO p0_
  have gb := dv5.1
  have gn := dv0.1
  have gfl := dv3.1
  have gf6 := gF_pos hO
  have gxl := hX.2.1
  refine zw_aload_n (pc := 0) (n := 0) (x := 81) rfl d_M_congruence_0 ?_
  refine zw_iload_n (pc := 1) (n := 1) (x := Int32.ofInt a0_) rfl d_M_congruence_1 ?_
  refine zr_callV (hf.w hW) hf.x (pc := 2) [.int (Int32.ofInt a0_)] [] l_M_414 (c_M_isSort l Mz (hf.w hW) a0_ ha0_a ha0_b T hO p0_) rfl rfl rfl (by decide) (Nat.le_of_ble_eq_true rfl) d_M_congruence_2 ?_
  rintro _ N1_ ⟨v2_, rfl, ⟨hv2_a, hv2_b⟩, hsN1_, hp0_N1_⟩
  obtain rfl := hsN1_.eq.symm
  replace hp0_N1_ : ((v2_ = 1 ∧ 0 ≤ a0_ ∧ a0_ < ze Mz 81 26) ∨ (v2_ = 0)) := hp0_N1_
  rcases hp0_N1_ with ⟨rfl, ha2_0_hp0_N1_, ha2_1_hp0_N1_⟩ | rfl
  · skip
    show zW l m_M_congruence (zn Mz + 0, zw Mz + 0) Mz 5 [some (.ref 81), some (.int (Int32.ofInt a0_))] [.int (Int32.ofInt 1)] (zpJ [55] [99, 109] Mz (fun v N => True))
    refine zr_if_ne (pc := 5) (tgt := 12) ⟨(by decide), (by decide)⟩ (by decide) d_M_congruence_5 (fun hc_5 => ?_) (fun hc_5 => ?_)
    · skip
      refine zw_aload_n (pc := 12) (n := 0) (x := 81) rfl d_M_congruence_12 ?_
      refine zr_callV (hf.w hW) hf.x (pc := 13) [] [] l_M_472 (c_M_laysMarks l Mz (hf.w hW) T hO p0_) rfl rfl rfl (by decide) (Nat.le_of_ble_eq_true rfl) d_M_congruence_13 ?_
      rintro _ N3_ ⟨rfl, hsN3_, -⟩
      have hf_N3_ : zFr [55] [99, 109] Mz N3_ := hf.tr hsN3_ (by decide) (by decide)
      have e26_N3_ : ze N3_ 81 26 = ze Mz 81 26 := hsN3_.e (by decide)
      have e55_N3_ : ze N3_ 81 55 = ze Mz 81 55 := hsN3_.e (by decide)
      have c5_ : zGB T N3_ := zGB.fr hsN3_ p0_ (by decide) (by decide)
      have c6_ : zTab T N3_ := zTab.fr hsN3_ dv0 (by decide) (by decide)
      have c7_ : zB 85 144 0 5 N3_ := zB.fr hsN3_ dv1 (by decide) (by decide)
      have c8_ : zJX T N3_ := zJX.fr hsN3_ dv2 (by decide) (by decide)
      have c9_ : zFirs T N3_ := zFirs.fr hsN3_ dv3 (by decide) (by decide)
      have c10_ : zSSm T N3_ := zSSm.fr hsN3_ dv4 (by decide) (by decide)
      have c11_ : zGD N3_ := zGD.fr hsN3_ dv5 (by decide) (by decide)
      show zW l m_M_congruence (zn Mz + 0, zw Mz + 0) N3_ 16 [some (.ref 81), some (.int (Int32.ofInt a0_))] [] (zpJ [55] [99, 109] Mz (fun v N => True))
      refine zw_aload_n (pc := 16) (n := 0) (x := 81) rfl d_M_congruence_16 ?_
      refine zw_aload_n (pc := 17) (n := 0) (x := 81) rfl d_M_congruence_17 ?_
      refine zr_getF (r := 99) (hf_N3_.w hW) (pc := 18) f_M_69 rfl (zh_99 (hf_N3_.w hW)).1 d_M_congruence_18 ?_
      refine zw_iload_n (pc := 21) (n := 1) (x := Int32.ofInt a0_) rfl d_M_congruence_21 ?_
      refine zr_callV (hf_N3_.w hW) hf_N3_.x (pc := 22) [.ref 99, .int (Int32.ofInt a0_)] [] l_M_475 (c_M_congruenceOf_99 l N3_ (hf_N3_.w hW) a0_ ha0_a ha0_b T hO hX c5_ (show 0 ≤ a0_ by first | assumption | omega) (show a0_ < ze N3_ 81 26 by first | assumption | omega)) rfl rfl rfl (by decide) (Nat.le_of_ble_eq_true rfl) d_M_congruence_22 ?_
      rintro _ N12_ ⟨v13_, rfl, ⟨hv13_a, hv13_b⟩, hsN12_, ⟨hp0_N12_, hp1_N12_⟩⟩
      have hf_N12_ : zFr [55] [99, 109] Mz N12_ := hf_N3_.tr hsN12_ (by decide) (by decide)
      have e26_N12_ : ze N12_ 81 26 = ze N3_ 81 26 := hsN12_.e (by decide)
      have r55_N12_ := ze_r N12_ 81 55
      have c14_ : zGB T N12_ := zGB.fr hsN12_ c5_ (by decide) (by decide)
      have c15_ : zTab T N12_ := zTab.fr hsN12_ c6_ (by decide) (by decide)
      have c16_ : zB 85 144 0 5 N12_ := zB.fr hsN12_ c7_ (by decide) (by decide)
      have c17_ : zJX T N12_ := zJX.fr hsN12_ c8_ (by decide) (by decide)
      have c18_ : zFirs T N12_ := zFirs.fr hsN12_ c9_ (by decide) (by decide)
      have c19_ : zSSm T N12_ := zSSm.fr hsN12_ c10_ (by decide) (by decide)
      have c20_ : zGD N12_ := zGD.fr hsN12_ c11_ (by decide) (by decide)
      show zW l m_M_congruence (zn Mz + 0, zw Mz + 0) N12_ 25 [some (.ref 81), some (.int (Int32.ofInt a0_))] [.long (Int64.ofInt v13_)] (zpJ [55] [99, 109] Mz (fun v N => True))
      refine zw_aload_n (pc := 25) (n := 0) (x := 81) rfl d_M_congruence_25 ?_
      refine zr_getI (hf_N12_.w hW) (pc := 26) f_M_453 rfl d_M_congruence_26 ?_
      refine zr_i2l (pc := 29) ⟨(ze_r N12_ 81 55).1, (ze_r N12_ 81 55).2⟩ d_M_congruence_29 ?_
      refine zr_ldiv (pc := 30) ⟨by omega, by omega⟩ (by omega) d_M_congruence_30 ?_
      have hr21_ := zlquo_r v13_ (ze N12_ 81 55)
      exact zr_lret (pc := 31) rfl ⟨by omega, by omega⟩ hf_N12_ trivial d_M_congruence_31
    · skip
      exact absurd hc_5 (by decide)
  · skip
    show zW l m_M_congruence (zn Mz + 0, zw Mz + 0) Mz 5 [some (.ref 81), some (.int (Int32.ofInt a0_))] [.int (Int32.ofInt 0)] (zpJ [55] [99, 109] Mz (fun v N => True))
    refine zr_if_ne (pc := 5) (tgt := 12) ⟨(by decide), (by decide)⟩ (by decide) d_M_congruence_5 (fun hc_5 => ?_) (fun hc_5 => ?_)
    · skip
      exact absurd hc_5 (by decide)
    · skip
      refine zr_ldc2 (pc := 8) (n := (-9223372036854775808)) (by decide) k_M_470 d_M_congruence_8 ?_
      exact zr_lret (pc := 11) rfl ⟨by omega, by omega⟩ hf trivial d_M_congruence_11
