set_option maxHeartbeats 40000000 in
theorem c_M_localG (l : Launch) (Mz : zMem) (hW : zMt Mz) (a0_ : Int) (ha0_a : -2147483648 ≤ a0_) (ha0_b : a0_ < 2147483648) (a1_ : Int) (ha1_a : -2147483648 ≤ a1_) (ha1_b : a1_ < 2147483648) (a2_ : Int) (ha2_a : -2147483648 ≤ a2_) (ha2_b : a2_ < 2147483648) (a3_ : Int) (ha3_a : -2147483648 ≤ a3_) (ha3_b : a3_ < 2147483648) (T : zGT) (hO : gOK T) (D : Nat → Nat → Int) (hD : gDs T D) (hTt : T ∈ gTabs) (hGr_ : gGr T) (p0_ : zGB T Mz) : zC l m_M_local 0 0 [.ref 81, .int (Int32.ofInt a0_), .int (Int32.ofInt a1_), .int (Int32.ofInt a2_), .int (Int32.ofInt a3_)] Mz (zpI [52, 53] [107, 108] Mz (fun v N => ((((a0_ = 2 ∨ a0_ = 3 ∨ a0_ = 5) ∧ 0 ≤ a1_ ∧ a1_ < ((gF T).length : Int) ∧ 0 ≤ a2_ ∧ a2_ < ((gF T).length : Int) ∧ (a3_ = 0 ∨ a3_ = 1) ∧ zfPe T (zBlk T (a1_).toNat (a0_).toNat) (a2_).toNat a3_ v) ∨ (¬ ((a0_ = 2 ∨ a0_ = 3 ∨ a0_ = 5) ∧ 0 ≤ a1_ ∧ a1_ < ((gF T).length : Int) ∧ 0 ≤ a2_ ∧ a2_ < ((gF T).length : Int) ∧ (a3_ = 0 ∨ a3_ = 1)) ∧ v = (-1000000 : Int)))))) := by
  refine zC_of (L0 := [some (.ref 81), some (.int (Int32.ofInt a0_)), some (.int (Int32.ofInt a1_)), some (.int (Int32.ofInt a2_)), some (.int (Int32.ofInt a3_)), none, none, none, none, none, none]) md_M_local (Nat.le_of_ble_eq_true rfl) rfl ?_ zQ0
  have hf : zFr [52, 53] [107, 108] Mz Mz := zFr.rf
  have r_26 := ze_r Mz 81 26
  have hG := hO.1
  have g24 := hG.2.1
  have g1 := hG.1
  have dv0 : zTab T Mz := p0_.1
  have dv1 : zB 85 144 0 5 Mz := p0_.2.1
  have dv2 : zJX T Mz := p0_.2.2.1
  have dv3 : zFirs T Mz := p0_.2.2.2.1
  have dv4 : zSSm T Mz := p0_.2.2.2.2.1
  have dv5 : zGD Mz := zGB.d hO p0_
  have gb := dv5.1
  have gn := dv0.1
  have gfl := dv3.1
  have gf6 := gF_pos hO
  have hfl_ := dv3.1
  have hl30_ := (gTabs_ex T hTt).2.1
  refine zw_iload_n (pc := 0) (n := 1) (x := Int32.ofInt a0_) rfl (zdal_p dlD_M_local_71 (i := 0) rfl) ?_
  refine zr_callS hf.x (pc := 1) [.int (Int32.ofInt a0_)] [] l_M_426 (c_M_isPrimeG l Mz (hf.w hW) a0_ ha0_a ha0_b) rfl rfl (by decide) (Nat.le_of_ble_eq_true rfl) (zdal_p dlD_M_local_71 (i := 1) rfl) ?_
  rintro _ N1_ ⟨v2_, rfl, ⟨hv2_a, hv2_b⟩, hsN1_, hp0_N1_⟩
  obtain rfl := hsN1_.eq.symm
  replace hp0_N1_ : ((v2_ = 1 ∧ (a0_ = 2 ∨ a0_ = 3 ∨ a0_ = 5)) ∨ (v2_ = 0 ∧ ¬ (a0_ = 2 ∨ a0_ = 3 ∨ a0_ = 5))) := hp0_N1_
  rcases hp0_N1_ with ⟨rfl, ha1_0_hp0_N1_⟩ | ⟨rfl, ha1_0_hp0_N1_⟩
  · skip
    show zW l m_M_local (zn Mz + 0, zw Mz + 0) Mz 4 [some (.ref 81), some (.int (Int32.ofInt a0_)), some (.int (Int32.ofInt a1_)), some (.int (Int32.ofInt a2_)), some (.int (Int32.ofInt a3_)), none, none, none, none, none, none] [.int (Int32.ofInt 1)] _
    refine zr_if_eq (pc := 4) (tgt := 34) ⟨(by decide), (by decide)⟩ (by decide) (zdal_p dlD_M_local_71 (i := 2) rfl) (fun hc_4 => ?_) (fun hc_4 => ?_)
    · skip
      exact absurd hc_4 (by decide)
    · skip
      refine zw_aload_n (pc := 7) (n := 0) (x := 81) rfl (zdal_p dlD_M_local_71 (i := 3) rfl) ?_
      refine zw_iload_n (pc := 8) (n := 2) (x := Int32.ofInt a1_) rfl (zdal_p dlD_M_local_71 (i := 4) rfl) ?_
      refine zr_callV (hf.w hW) hf.x (pc := 9) [.int (Int32.ofInt a1_)] [] l_M_414 (c_M_isSortG l Mz (hf.w hW) a1_ ha1_a ha1_b T hO p0_) rfl rfl rfl (by decide) (Nat.le_of_ble_eq_true rfl) (zdal_p dlD_M_local_71 (i := 5) rfl) ?_
      rintro _ N3_ ⟨v4_, rfl, ⟨hv4_a, hv4_b⟩, hsN3_, hp0_N3_⟩
      obtain rfl := hsN3_.eq.symm
      replace hp0_N3_ : ((v4_ = 1 ∧ 0 ≤ a1_ ∧ a1_ < ze Mz 81 26) ∨ (v4_ = 0 ∧ (a1_ < 0 ∨ ze Mz 81 26 ≤ a1_))) := hp0_N3_
      rcases hp0_N3_ with ⟨rfl, ha9_0_hp0_N3_, ha9_1_hp0_N3_⟩ | ⟨rfl, ha9_0_hp0_N3_⟩
      · skip
        show zW l m_M_local (zn Mz + 0, zw Mz + 0) Mz 12 [some (.ref 81), some (.int (Int32.ofInt a0_)), some (.int (Int32.ofInt a1_)), some (.int (Int32.ofInt a2_)), some (.int (Int32.ofInt a3_)), none, none, none, none, none, none] [.int (Int32.ofInt 1)] _
        refine zr_if_eq (pc := 12) (tgt := 34) ⟨(by decide), (by decide)⟩ (by decide) (zdal_p dlD_M_local_71 (i := 6) rfl) (fun hc_12 => ?_) (fun hc_12 => ?_)
        · skip
          exact absurd hc_12 (by decide)
        · skip
          refine zw_aload_n (pc := 15) (n := 0) (x := 81) rfl (zdal_p dlD_M_local_71 (i := 7) rfl) ?_
          refine zw_iload_n (pc := 16) (n := 3) (x := Int32.ofInt a2_) rfl (zdal_p dlD_M_local_71 (i := 8) rfl) ?_
          refine zr_callV (hf.w hW) hf.x (pc := 17) [.int (Int32.ofInt a2_)] [] l_M_414 (c_M_isSortG l Mz (hf.w hW) a2_ ha2_a ha2_b T hO p0_) rfl rfl rfl (by decide) (Nat.le_of_ble_eq_true rfl) (zdal_p dlD_M_local_71 (i := 9) rfl) ?_
          rintro _ N5_ ⟨v6_, rfl, ⟨hv6_a, hv6_b⟩, hsN5_, hp0_N5_⟩
          obtain rfl := hsN5_.eq.symm
          replace hp0_N5_ : ((v6_ = 1 ∧ 0 ≤ a2_ ∧ a2_ < ze Mz 81 26) ∨ (v6_ = 0 ∧ (a2_ < 0 ∨ ze Mz 81 26 ≤ a2_))) := hp0_N5_
          rcases hp0_N5_ with ⟨rfl, ha17_0_hp0_N5_, ha17_1_hp0_N5_⟩ | ⟨rfl, ha17_0_hp0_N5_⟩
          · skip
            show zW l m_M_local (zn Mz + 0, zw Mz + 0) Mz 20 [some (.ref 81), some (.int (Int32.ofInt a0_)), some (.int (Int32.ofInt a1_)), some (.int (Int32.ofInt a2_)), some (.int (Int32.ofInt a3_)), none, none, none, none, none, none] [.int (Int32.ofInt 1)] _
            refine zr_if_eq (pc := 20) (tgt := 34) ⟨(by decide), (by decide)⟩ (by decide) (zdal_p dlD_M_local_71 (i := 10) rfl) (fun hc_20 => ?_) (fun hc_20 => ?_)
            · skip
              exact absurd hc_20 (by decide)
            · skip
              refine zw_iload (pc := 23) (i := 4) (x := Int32.ofInt a3_) rfl (zdal_p dlD_M_local_71 (i := 11) rfl) ?_
              refine zr_i2l (pc := 25) ⟨ha3_a, ha3_b⟩ (zdal_p dlD_M_local_71 (i := 12) rfl) ?_
              refine zw_lconst (pc := 26) (v := Int64.ofInt 0) (by decide) (zdal_p dlD_M_local_71 (i := 13) rfl) ?_
              refine zw_lconst (pc := 27) (v := Int64.ofInt 1) (by decide) (zdal_p dlD_M_local_71 (i := 14) rfl) ?_
              refine zr_callS hf.x (pc := 28) [.long (Int64.ofInt a3_), .long (Int64.ofInt 0), .long (Int64.ofInt 1)] [] l_M_131 (c_M_isIn l Mz (hf.w hW) a3_ (by omega) (by omega) 0 (by decide) (by decide) 1 (by decide) (by decide)) rfl rfl (by decide) (Nat.le_of_ble_eq_true rfl) (zdal_p dlD_M_local_71 (i := 15) rfl) ?_
              rintro _ N7_ ⟨v8_, rfl, ⟨hv8_a, hv8_b⟩, hsN7_, hp0_N7_⟩
              obtain rfl := hsN7_.eq.symm
              replace hp0_N7_ : ((v8_ = 1 ∧ 0 ≤ a3_ ∧ a3_ ≤ 1) ∨ (v8_ = 0 ∧ (a3_ < 0 ∨ 1 < a3_))) := hp0_N7_
              rcases hp0_N7_ with ⟨rfl, ha28_0_hp0_N7_, ha28_1_hp0_N7_⟩ | ⟨rfl, ha28_0_hp0_N7_⟩
              · skip
                show zW l m_M_local (zn Mz + 0, zw Mz + 0) Mz 31 [some (.ref 81), some (.int (Int32.ofInt a0_)), some (.int (Int32.ofInt a1_)), some (.int (Int32.ofInt a2_)), some (.int (Int32.ofInt a3_)), none, none, none, none, none, none] [.int (Int32.ofInt 1)] _
                refine zr_if_ne (pc := 31) (tgt := 38) ⟨(by decide), (by decide)⟩ (by decide) (zdal_p dlD_M_local_71 (i := 16) rfl) (fun hc_31 => ?_) (fun hc_31 => ?_)
                · skip
                  refine zw_aload_n (pc := 38) (n := 0) (x := 81) rfl (zdal_p dlD_M_local_71 (i := 19) rfl) ?_
                  refine zw_iload_n (pc := 39) (n := 2) (x := Int32.ofInt a1_) rfl (zdal_p dlD_M_local_71 (i := 20) rfl) ?_
                  refine zw_iload_n (pc := 40) (n := 1) (x := Int32.ofInt a0_) rfl (zdal_p dlD_M_local_71 (i := 21) rfl) ?_
                  refine zr_callV (hf.w hW) hf.x (pc := 41) [.int (Int32.ofInt a1_), .int (Int32.ofInt a0_)] [] l_M_432 (c_M_blockOfG l Mz (hf.w hW) a1_ ha1_a ha1_b a0_ ha0_a ha0_b T hO hTt hGr_ p0_ (show 0 ≤ a1_ by first | with_reducible assumption | assumption | omega) (show a1_ < ze Mz 81 26 by first | with_reducible assumption | assumption | omega) (show 2 ≤ a0_ by first | with_reducible assumption | assumption | omega) (show (a0_ = 2 ∨ a0_ = 3 ∨ a0_ = 5) by first | with_reducible assumption | assumption | omega)) rfl rfl rfl (by decide) (Nat.le_of_ble_eq_true rfl) (zdal_p dlD_M_local_71 (i := 22) rfl) ?_
                  rintro _ N9_ ⟨v10_, rfl, ⟨hv10_a, hv10_b⟩, hsN9_, hp0_N9_⟩
                  obtain rfl := hsN9_.eq.symm
                  replace hp0_N9_ : v10_ = ((zbq (zBlk T (a1_).toNat (a0_).toNat) (gF T).length : Nat) : Int) := hp0_N9_
                  show zW l m_M_local (zn Mz + 0, zw Mz + 0) Mz 44 [some (.ref 81), some (.int (Int32.ofInt a0_)), some (.int (Int32.ofInt a1_)), some (.int (Int32.ofInt a2_)), some (.int (Int32.ofInt a3_)), none, none, none, none, none, none] [.int (Int32.ofInt v10_)] _
                  have hbl_ := hp0_N9_
                  refine zw_istore (pc := 44) (i := 5) (L2 := [some (.ref 81), some (.int (Int32.ofInt a0_)), some (.int (Int32.ofInt a1_)), some (.int (Int32.ofInt a2_)), some (.int (Int32.ofInt a3_)), some (.int (Int32.ofInt v10_)), none, none, none, none, none]) (by decide) rfl (zdal_p dlD_M_local_71 (i := 23) rfl) ?_
                  refine zw_lconst (pc := 46) (v := Int64.ofInt 0) (by decide) (zdal_p dlD_M_local_72 (i := 0) rfl) ?_
                  refine zw_lstore (pc := 47) (i := 6) (L2 := [some (.ref 81), some (.int (Int32.ofInt a0_)), some (.int (Int32.ofInt a1_)), some (.int (Int32.ofInt a2_)), some (.int (Int32.ofInt a3_)), some (.int (Int32.ofInt v10_)), some (.long (Int64.ofInt 0)), none, none, none, none]) (by decide) rfl (zdal_p dlD_M_local_72 (i := 1) rfl) ?_
                  refine zw_lconst (pc := 49) (v := Int64.ofInt 1) (by decide) (zdal_p dlD_M_local_72 (i := 2) rfl) ?_
                  refine zw_lstore (pc := 50) (i := 8) (L2 := [some (.ref 81), some (.int (Int32.ofInt a0_)), some (.int (Int32.ofInt a1_)), some (.int (Int32.ofInt a2_)), some (.int (Int32.ofInt a3_)), some (.int (Int32.ofInt v10_)), some (.long (Int64.ofInt 0)), none, some (.long (Int64.ofInt 1)), none, none]) (by decide) rfl (zdal_p dlD_M_local_72 (i := 3) rfl) ?_
                  refine zw_iconst (pc := 52) (v := Int32.ofInt 0) (by decide) (zdal_p dlD_M_local_72 (i := 4) rfl) ?_
                  refine zw_istore (pc := 53) (i := 10) (L2 := [some (.ref 81), some (.int (Int32.ofInt a0_)), some (.int (Int32.ofInt a1_)), some (.int (Int32.ofInt a2_)), some (.int (Int32.ofInt a3_)), some (.int (Int32.ofInt v10_)), some (.long (Int64.ofInt 0)), none, some (.long (Int64.ofInt 1)), none, some (.int (Int32.ofInt 0))]) (by decide) rfl (zdal_p dlD_M_local_72 (i := 5) rfl) ?_
                  have lp_55 : ∀ (n : Nat) (u11_ : Int) (hu11_a : -9223372036854775808 ≤ u11_) (hu11_b : u11_ < 9223372036854775808) (u12_ : Int) (hu12_a : -9223372036854775808 ≤ u12_) (hu12_b : u12_ < 9223372036854775808) (u13_ : Int) (hu13_a : -2147483648 ≤ u13_) (hu13_b : u13_ < 2147483648) (N14_ : zMem) (hs15_ : zFr [52, 53] [107, 108] Mz N14_) (i16_ : 0 ≤ u13_) (i17_ : u13_ ≤ ze Mz 81 26) (i18_ : zLc T (a2_).toNat u13_ u11_ u12_) (i19_ : zLcG T D (zBlk T (a1_).toNat (a0_).toNat) (a2_).toNat u13_ u11_ u12_), (ze Mz 81 26 - u13_).toNat < n → zW l m_M_local (zn Mz + 0, zw Mz + 0) N14_ 55 [some (.ref 81), some (.int (Int32.ofInt a0_)), some (.int (Int32.ofInt a1_)), some (.int (Int32.ofInt a2_)), some (.int (Int32.ofInt a3_)), some (.int (Int32.ofInt v10_)), some (.long (Int64.ofInt u11_)), none, some (.long (Int64.ofInt u12_)), none, some (.int (Int32.ofInt u13_))] [] (zpI [52, 53] [107, 108] Mz (fun v N => ((((a0_ = 2 ∨ a0_ = 3 ∨ a0_ = 5) ∧ 0 ≤ a1_ ∧ a1_ < ((gF T).length : Int) ∧ 0 ≤ a2_ ∧ a2_ < ((gF T).length : Int) ∧ (a3_ = 0 ∨ a3_ = 1) ∧ zfPe T (zBlk T (a1_).toNat (a0_).toNat) (a2_).toNat a3_ v) ∨ (¬ ((a0_ = 2 ∨ a0_ = 3 ∨ a0_ = 5) ∧ 0 ≤ a1_ ∧ a1_ < ((gF T).length : Int) ∧ 0 ≤ a2_ ∧ a2_ < ((gF T).length : Int) ∧ (a3_ = 0 ∨ a3_ = 1)) ∧ v = (-1000000 : Int)))))) := by
                    intro n
                    induction n with
                    | zero =>
                      intro u11_ hu11_a hu11_b u12_ hu12_a hu12_b u13_ hu13_a hu13_b N14_ hs15_ i16_ i17_ i18_ i19_ h0
                      exact absurd h0 (Nat.not_lt_zero _)
                    | succ n ih_55 =>
                      intro u11_ hu11_a hu11_b u12_ hu12_a hu12_b u13_ hu13_a hu13_b N14_ hs15_ i16_ i17_ i18_ i19_ hlt_55
                      have hf_N14_ : zFr [52, 53] [107, 108] Mz N14_ := hf.tr hs15_ (by decide) (by decide)
                      have e26_N14_ : ze N14_ 81 26 = ze Mz 81 26 := hs15_.e (by decide)
                      have c20_ : zGB T N14_ := zGB.fr hs15_ p0_ (by decide) (by decide)
                      have c21_ : zTab T N14_ := zTab.fr hs15_ dv0 (by decide) (by decide)
                      have c22_ : zB 85 144 0 5 N14_ := zB.fr hs15_ dv1 (by decide) (by decide)
                      have c23_ : zJX T N14_ := zJX.fr hs15_ dv2 (by decide) (by decide)
                      have c24_ : zFirs T N14_ := zFirs.fr hs15_ dv3 (by decide) (by decide)
                      have c25_ : zSSm T N14_ := zSSm.fr hs15_ dv4 (by decide) (by decide)
                      have c26_ : zGD N14_ := zGD.fr hs15_ dv5 (by decide) (by decide)
                      have hlg_ := (show zLcG T D (zBlk T (a1_).toNat (a0_).toNat) (a2_).toNat u13_ u11_ u12_ by first | with_reducible assumption | assumption)
                      have hlc_ := zLc_b hO (i := (a2_).toNat) (by omega) (by omega) (by omega) (show zLc T (a2_).toNat u13_ u11_ u12_ by first | with_reducible assumption | assumption)
                      refine zw_iload (pc := 55) (i := 10) (x := Int32.ofInt u13_) rfl (zdal_p dlD_M_local_72 (i := 6) rfl) ?_
                      refine zw_aload_n (pc := 57) (n := 0) (x := 81) rfl (zdal_p dlD_M_local_72 (i := 7) rfl) ?_
                      refine zr_getI0 hf_N14_ hW (pc := 58) (by decide) f_M_235 rfl (zdal_p dlD_M_local_72 (i := 8) rfl) ?_
                      refine zr_icmp_ge (pc := 61) (tgt := 129) ⟨hu13_a, hu13_b⟩ ⟨(ze_r Mz 81 26).1, (ze_r Mz 81 26).2⟩ (by decide) (zdal_p dlD_M_local_72 (i := 9) rfl) (fun hc_61 => ?_) (fun hc_61 => ?_)
                      · skip
                        refine zw_iload (pc := 129) (i := 4) (x := Int32.ofInt a3_) rfl (zdal_p dlD_M_local_73 (i := 18) rfl) ?_
                        refine zr_if_ne (pc := 131) (tgt := 139) ⟨ha3_a, ha3_b⟩ (by decide) (zdal_p dlD_M_local_73 (i := 19) rfl) (fun hc_131 => ?_) (fun hc_131 => ?_)
                        · skip
                          refine zw_lload (pc := 139) (i := 8) (x := Int64.ofInt u12_) rfl (zdal_p dlD_M_local_73 (i := 22) rfl) ?_
                          refine zr_l2i (pc := 141) (zdal_p dlD_M_local_73 (i := 23) rfl) ?_
                          refine zk_nmW (fun v27_ hv27_ hv27_w => ?_)
                          obtain ⟨hv27_a, hv27_b⟩ := hv27_
                          have hlv_ := z32w_v hv27_w ⟨by omega, by omega⟩
                          exact zr_iret (pc := 142) (ty := .int) rfl rfl ⟨by omega, by omega⟩ hf_N14_ (show (((a0_ = 2 ∨ a0_ = 3 ∨ a0_ = 5) ∧ 0 ≤ a1_ ∧ a1_ < ((gF T).length : Int) ∧ 0 ≤ a2_ ∧ a2_ < ((gF T).length : Int) ∧ (a3_ = 0 ∨ a3_ = 1) ∧ zfPe T (zBlk T (a1_).toNat (a0_).toNat) (a2_).toNat a3_ v27_) ∨ (¬ ((a0_ = 2 ∨ a0_ = 3 ∨ a0_ = 5) ∧ 0 ≤ a1_ ∧ a1_ < ((gF T).length : Int) ∧ 0 ≤ a2_ ∧ a2_ < ((gF T).length : Int) ∧ (a3_ = 0 ∨ a3_ = 1)) ∧ v27_ = (-1000000 : Int))) by exact Or.inl ⟨by omega, by omega, by omega, by omega, by omega, by omega, zLcG_v hTt hGr_ hD (by omega) hlg_ (by omega) (by first | exact Or.inl ⟨by omega, hlv_⟩ | exact Or.inr ⟨by omega, hlv_⟩)⟩) (zdal_p dlD_M_local_74 (i := 0) rfl)
                        · skip
                          refine zw_lload (pc := 134) (i := 6) (x := Int64.ofInt u11_) rfl (zdal_p dlD_M_local_73 (i := 20) rfl) ?_
                          refine zw_goto (pc := 136) (tgt := 141) (by decide) (zdal_p dlD_M_local_73 (i := 21) rfl) ?_
                          refine zr_l2i (pc := 141) (zdal_p dlD_M_local_73 (i := 23) rfl) ?_
                          refine zk_nmW (fun v28_ hv28_ hv28_w => ?_)
                          obtain ⟨hv28_a, hv28_b⟩ := hv28_
                          have hlv_ := z32w_v hv28_w ⟨by omega, by omega⟩
                          exact zr_iret (pc := 142) (ty := .int) rfl rfl ⟨by omega, by omega⟩ hf_N14_ (show (((a0_ = 2 ∨ a0_ = 3 ∨ a0_ = 5) ∧ 0 ≤ a1_ ∧ a1_ < ((gF T).length : Int) ∧ 0 ≤ a2_ ∧ a2_ < ((gF T).length : Int) ∧ (a3_ = 0 ∨ a3_ = 1) ∧ zfPe T (zBlk T (a1_).toNat (a0_).toNat) (a2_).toNat a3_ v28_) ∨ (¬ ((a0_ = 2 ∨ a0_ = 3 ∨ a0_ = 5) ∧ 0 ≤ a1_ ∧ a1_ < ((gF T).length : Int) ∧ 0 ≤ a2_ ∧ a2_ < ((gF T).length : Int) ∧ (a3_ = 0 ∨ a3_ = 1)) ∧ v28_ = (-1000000 : Int))) by exact Or.inl ⟨by omega, by omega, by omega, by omega, by omega, by omega, zLcG_v hTt hGr_ hD (by omega) hlg_ (by omega) (by first | exact Or.inl ⟨by omega, hlv_⟩ | exact Or.inr ⟨by omega, hlv_⟩)⟩) (zdal_p dlD_M_local_74 (i := 0) rfl)
                      · skip
                        refine zw_iload (pc := 64) (i := 5) (x := Int32.ofInt v10_) rfl (zdal_p dlD_M_local_72 (i := 10) rfl) ?_
                        refine zw_iload (pc := 66) (i := 10) (x := Int32.ofInt u13_) rfl (zdal_p dlD_M_local_72 (i := 11) rfl) ?_
                        refine zr_callS hf_N14_.x (pc := 68) [.int (Int32.ofInt v10_), .int (Int32.ofInt u13_)] [] l_M_213 (c_M_holds l N14_ (hf_N14_.w hW) v10_ hv10_a hv10_b u13_ hu13_a hu13_b (show 0 ≤ v10_ by first | with_reducible assumption | assumption | omega) (show 0 ≤ u13_ by first | with_reducible assumption | assumption | omega) (show u13_ < 32 by first | with_reducible assumption | assumption | omega)) rfl rfl (by decide) (Nat.le_of_ble_eq_true rfl) (zdal_p dlD_M_local_72 (i := 12) rfl) ?_
                        rintro _ N29_ ⟨v30_, rfl, ⟨hv30_a, hv30_b⟩, hsN29_, hp0_N29_⟩
                        obtain rfl := hsN29_.eq.symm
                        replace hp0_N29_ : ((v30_ = 1 ∧ zbt v10_ u13_) ∨ (v30_ = 0 ∧ ¬ zbt v10_ u13_)) := hp0_N29_
                        rcases hp0_N29_ with ⟨rfl, ha68_0_hp0_N29_⟩ | ⟨rfl, ha68_0_hp0_N29_⟩
                        · skip
                          have hbk_ := ((zbq_t _ _ _).mp ((zbt_n hbl_).mp ha68_0_hp0_N29_)).2
                          show zW l m_M_local (zn Mz + 0, zw Mz + 0) N14_ 71 [some (.ref 81), some (.int (Int32.ofInt a0_)), some (.int (Int32.ofInt a1_)), some (.int (Int32.ofInt a2_)), some (.int (Int32.ofInt a3_)), some (.int (Int32.ofInt v10_)), some (.long (Int64.ofInt u11_)), none, some (.long (Int64.ofInt u12_)), none, some (.int (Int32.ofInt u13_))] [.int (Int32.ofInt 1)] _
                          refine zr_if_ne (pc := 71) (tgt := 77) ⟨(by decide), (by decide)⟩ (by decide) (zdal_p dlD_M_local_72 (i := 13) rfl) (fun hc_71 => ?_) (fun hc_71 => ?_)
                          · skip
                            refine zw_aload_n (pc := 77) (n := 0) (x := 81) rfl (zdal_p dlD_M_local_72 (i := 15) rfl) ?_
                            refine zw_iload (pc := 78) (i := 10) (x := Int32.ofInt u13_) rfl (zdal_p dlD_M_local_72 (i := 16) rfl) ?_
                            refine zr_callV (hf_N14_.w hW) hf_N14_.x (pc := 80) [.int (Int32.ofInt u13_)] [] l_M_450 (c_M_peaks l N14_ (hf_N14_.w hW) u13_ hu13_a hu13_b T hO D hD c20_ (show 0 ≤ u13_ by first | with_reducible assumption | assumption | omega) (show u13_ < ze N14_ 81 26 by first | with_reducible assumption | assumption | omega)) rfl rfl rfl (by decide) (Nat.le_of_ble_eq_true rfl) (zdal_p dlD_M_local_72 (i := 17) rfl) ?_
                            rintro _ N31_ ⟨rfl, hsN31_, hp0_N31_⟩
                            replace hp0_N31_ : zPk T D (u13_).toNat 0 N31_ := hp0_N31_
                            have hf_N31_ : zFr [52, 53] [107, 108] Mz N31_ := hf_N14_.tr hsN31_ (by decide) (by decide)
                            have hb0_N31_ : zFr [52, 53] [107, 108] Mz N31_ := hs15_.tr hsN31_ (by decide) (by decide)
                            have e26_N31_ : ze N31_ 81 26 = ze N14_ 81 26 := hsN31_.e (by decide)
                            have c33_ : zGB T N31_ := zGB.fr hsN31_ c20_ (by decide) (by decide)
                            have c34_ : zTab T N31_ := zTab.fr hsN31_ c21_ (by decide) (by decide)
                            have c35_ : zB 85 144 0 5 N31_ := zB.fr hsN31_ c22_ (by decide) (by decide)
                            have c36_ : zJX T N31_ := zJX.fr hsN31_ c23_ (by decide) (by decide)
                            have c37_ : zFirs T N31_ := zFirs.fr hsN31_ c24_ (by decide) (by decide)
                            have c38_ : zSSm T N31_ := zSSm.fr hsN31_ c25_ (by decide) (by decide)
                            have c39_ : zGD N31_ := zGD.fr hsN31_ c26_ (by decide) (by decide)
                            show zW l m_M_local (zn Mz + 0, zw Mz + 0) N31_ 83 [some (.ref 81), some (.int (Int32.ofInt a0_)), some (.int (Int32.ofInt a1_)), some (.int (Int32.ofInt a2_)), some (.int (Int32.ofInt a3_)), some (.int (Int32.ofInt v10_)), some (.long (Int64.ofInt u11_)), none, some (.long (Int64.ofInt u12_)), none, some (.int (Int32.ofInt u13_))] [] _
                            refine zw_aload_n (pc := 83) (n := 0) (x := 81) rfl (zdal_p dlD_M_local_72 (i := 18) rfl) ?_
                            refine zw_lload (pc := 84) (i := 6) (x := Int64.ofInt u11_) rfl (zdal_p dlD_M_local_72 (i := 19) rfl) ?_
                            refine zr_putJ (hf_N31_.w hW) (pc := 86) f_M_436 rfl rfl rfl rfl (zdal_p dlD_M_local_72 (i := 20) rfl) (fun N40_ hsN40_ hvN40_ => ?_)
                            have hf_N40_ : zFr [52, 53] [107, 108] Mz N40_ := hf_N31_.tr hsN40_ (by decide) (by decide)
                            have hb0_N40_ : zFr [52, 53] [107, 108] Mz N40_ := hb0_N31_.tr hsN40_ (by decide) (by decide)
                            have e26_N40_ : ze N40_ 81 26 = ze N31_ 81 26 := hsN40_.e (by decide)
                            have c41_ : zGB T N40_ := zGB.fr hsN40_ c33_ (by decide) (by decide)
                            have c42_ : zTab T N40_ := zTab.fr hsN40_ c34_ (by decide) (by decide)
                            have c43_ : zB 85 144 0 5 N40_ := zB.fr hsN40_ c35_ (by decide) (by decide)
                            have c44_ : zJX T N40_ := zJX.fr hsN40_ c36_ (by decide) (by decide)
                            have c45_ : zFirs T N40_ := zFirs.fr hsN40_ c37_ (by decide) (by decide)
                            have c46_ : zSSm T N40_ := zSSm.fr hsN40_ c38_ (by decide) (by decide)
                            have c47_ : zGD N40_ := zGD.fr hsN40_ c39_ (by decide) (by decide)
                            refine zw_aload_n (pc := 89) (n := 0) (x := 81) rfl (zdal_p dlD_M_local_72 (i := 21) rfl) ?_
                            refine zw_lload (pc := 90) (i := 8) (x := Int64.ofInt u12_) rfl (zdal_p dlD_M_local_72 (i := 22) rfl) ?_
                            refine zr_putJ (hf_N40_.w hW) (pc := 92) f_M_439 rfl rfl rfl rfl (zdal_p dlD_M_local_72 (i := 23) rfl) (fun N48_ hsN48_ hvN48_ => ?_)
                            have hf_N48_ : zFr [52, 53] [107, 108] Mz N48_ := hf_N40_.tr hsN48_ (by decide) (by decide)
                            have hb0_N48_ : zFr [52, 53] [107, 108] Mz N48_ := hb0_N40_.tr hsN48_ (by decide) (by decide)
                            have e26_N48_ : ze N48_ 81 26 = ze N40_ 81 26 := hsN48_.e (by decide)
                            have c49_ : zGB T N48_ := zGB.fr hsN48_ c41_ (by decide) (by decide)
                            have c50_ : zTab T N48_ := zTab.fr hsN48_ c42_ (by decide) (by decide)
                            have c51_ : zB 85 144 0 5 N48_ := zB.fr hsN48_ c43_ (by decide) (by decide)
                            have c52_ : zJX T N48_ := zJX.fr hsN48_ c44_ (by decide) (by decide)
                            have c53_ : zFirs T N48_ := zFirs.fr hsN48_ c45_ (by decide) (by decide)
                            have c54_ : zSSm T N48_ := zSSm.fr hsN48_ c46_ (by decide) (by decide)
                            have c55_ : zGD N48_ := zGD.fr hsN48_ c47_ (by decide) (by decide)
                            have h53_ := hvN48_ ⟨by omega, by omega⟩
                            have h52_ := (hsN48_.g (j := 52) (by decide)).trans (hvN40_ ⟨by omega, by omega⟩)
                            have hPk_ := zPk.fr hsN48_ (zPk.fr hsN40_ hp0_N31_ (by decide)) (by decide)
                            have hpb_ := zPk.b hO hD (j := (u13_).toNat) (by omega) hPk_ (i := (a2_).toNat) (by omega) (by omega)
                            have hlb_ := zLc_b hO (i := (a2_).toNat) (by omega) (by omega) (by omega) (show zLc T (a2_).toNat u13_ u11_ u12_ by first | with_reducible assumption | assumption)
                            refine zw_aload_n (pc := 95) (n := 0) (x := 81) rfl (zdal_p dlD_M_local_73 (i := 0) rfl) ?_
                            refine zw_aload_n (pc := 96) (n := 0) (x := 81) rfl (zdal_p dlD_M_local_73 (i := 1) rfl) ?_
                            refine zr_getF (r := 107) (hf_N48_.w hW) (pc := 97) f_M_93 rfl (zh_107 (hf_N48_.w hW)).1 (zdal_p dlD_M_local_73 (i := 2) rfl) ?_
                            refine zw_iload_n (pc := 100) (n := 3) (x := Int32.ofInt a2_) rfl (zdal_p dlD_M_local_73 (i := 3) rfl) ?_
                            refine zr_laldn (pc := 101) (zh_107 (hf_N48_.w hW)).2 (by decide) (by omega) (by omega) (zdal_p dlD_M_local_73 (i := 4) rfl) (fun v56_ hv56_ hv56_a hv56_b => ?_)
                            refine zw_aload_n (pc := 102) (n := 0) (x := 81) rfl (zdal_p dlD_M_local_73 (i := 5) rfl) ?_
                            refine zr_getF (r := 108) (hf_N48_.w hW) (pc := 103) f_M_96 rfl (zh_108 (hf_N48_.w hW)).1 (zdal_p dlD_M_local_73 (i := 6) rfl) ?_
                            refine zw_iload_n (pc := 106) (n := 3) (x := Int32.ofInt a2_) rfl (zdal_p dlD_M_local_73 (i := 7) rfl) ?_
                            refine zr_laldn (pc := 107) (zh_108 (hf_N48_.w hW)).2 (by decide) (by omega) (by omega) (zdal_p dlD_M_local_73 (i := 8) rfl) (fun v57_ hv57_ hv57_a hv57_b => ?_)
                            refine zr_callV (hf_N48_.w hW) hf_N48_.x (pc := 108) [.long (Int64.ofInt v56_), .long (Int64.ofInt v57_)] [] l_M_446 (c_M_sumWith l N48_ (hf_N48_.w hW) v56_ hv56_a hv56_b v57_ hv57_a hv57_b (show -1000000000 ≤ zg N48_ 81 52 by first | with_reducible assumption | assumption | omega) (show zg N48_ 81 52 ≤ 1000000000 by first | with_reducible assumption | assumption | omega) (show 1 ≤ zg N48_ 81 53 by first | with_reducible assumption | assumption | omega) (show zg N48_ 81 53 ≤ 1000 by first | with_reducible assumption | assumption | omega) (show -1000000000 ≤ v56_ by first | with_reducible assumption | assumption | omega) (show v56_ ≤ 1000000000 by first | with_reducible assumption | assumption | omega) (show 1 ≤ v57_ by first | with_reducible assumption | assumption | omega) (show v57_ ≤ 1000 by first | with_reducible assumption | assumption | omega)) rfl rfl rfl (by decide) (Nat.le_of_ble_eq_true rfl) (zdal_p dlD_M_local_73 (i := 9) rfl) ?_
                            rintro _ N58_ ⟨rfl, hsN58_, hp0_N58_⟩
                            replace hp0_N58_ : zSw (zg N48_ 81 52) (zg N48_ 81 53) v56_ v57_ (zg N58_ 81 52) (zg N58_ 81 53) := hp0_N58_
                            have hf_N58_ : zFr [52, 53] [107, 108] Mz N58_ := hf_N48_.tr hsN58_ (by decide) (by decide)
                            have hb0_N58_ : zFr [52, 53] [107, 108] Mz N58_ := hb0_N48_.tr hsN58_ (by decide) (by decide)
                            have e26_N58_ : ze N58_ 81 26 = ze N48_ 81 26 := hsN58_.e (by decide)
                            have c60_ : zGB T N58_ := zGB.fr hsN58_ c49_ (by decide) (by decide)
                            have c61_ : zTab T N58_ := zTab.fr hsN58_ c50_ (by decide) (by decide)
                            have c62_ : zB 85 144 0 5 N58_ := zB.fr hsN58_ c51_ (by decide) (by decide)
                            have c63_ : zJX T N58_ := zJX.fr hsN58_ c52_ (by decide) (by decide)
                            have c64_ : zFirs T N58_ := zFirs.fr hsN58_ c53_ (by decide) (by decide)
                            have c65_ : zSSm T N58_ := zSSm.fr hsN58_ c54_ (by decide) (by decide)
                            have c66_ : zGD N58_ := zGD.fr hsN58_ c55_ (by decide) (by decide)
                            show zW l m_M_local (zn Mz + 0, zw Mz + 0) N58_ 111 [some (.ref 81), some (.int (Int32.ofInt a0_)), some (.int (Int32.ofInt a1_)), some (.int (Int32.ofInt a2_)), some (.int (Int32.ofInt a3_)), some (.int (Int32.ofInt v10_)), some (.long (Int64.ofInt u11_)), none, some (.long (Int64.ofInt u12_)), none, some (.int (Int32.ofInt u13_))] [] _
                            have hz_ := zLc_s hO hD (j := (u13_).toNat) (i := (a2_).toNat) (by omega) (by omega) hPk_ (n := u13_) (show zLc T (a2_).toNat u13_ u11_ u12_ by first | with_reducible assumption | assumption) hp0_N58_ h52_ h53_ (by first | with_reducible assumption | assumption) (by first | with_reducible assumption | assumption)
                            have hzg_ := zLcG_s hO (by omega) (by omega) hPk_ hlg_ hp0_N58_ h52_ h53_ (by first | with_reducible assumption | assumption) (by first | with_reducible assumption | assumption) hbk_
                            refine zw_aload_n (pc := 111) (n := 0) (x := 81) rfl (zdal_p dlD_M_local_73 (i := 10) rfl) ?_
                            refine zr_getJ (hf_N58_.w hW) (pc := 112) f_M_436 rfl (zdal_p dlD_M_local_73 (i := 11) rfl) ?_
                            have hr67_ := zg_r N58_ 81 52
                            refine zw_lstore (pc := 115) (i := 6) (L2 := [some (.ref 81), some (.int (Int32.ofInt a0_)), some (.int (Int32.ofInt a1_)), some (.int (Int32.ofInt a2_)), some (.int (Int32.ofInt a3_)), some (.int (Int32.ofInt v10_)), some (.long (Int64.ofInt (zg N58_ 81 52))), none, some (.long (Int64.ofInt u12_)), none, some (.int (Int32.ofInt u13_))]) (by decide) rfl (zdal_p dlD_M_local_73 (i := 12) rfl) ?_
                            refine zw_aload_n (pc := 117) (n := 0) (x := 81) rfl (zdal_p dlD_M_local_73 (i := 13) rfl) ?_
                            refine zr_getJ (hf_N58_.w hW) (pc := 118) f_M_439 rfl (zdal_p dlD_M_local_73 (i := 14) rfl) ?_
                            have hr68_ := zg_r N58_ 81 53
                            refine zw_lstore (pc := 121) (i := 8) (L2 := [some (.ref 81), some (.int (Int32.ofInt a0_)), some (.int (Int32.ofInt a1_)), some (.int (Int32.ofInt a2_)), some (.int (Int32.ofInt a3_)), some (.int (Int32.ofInt v10_)), some (.long (Int64.ofInt (zg N58_ 81 52))), none, some (.long (Int64.ofInt (zg N58_ 81 53))), none, some (.int (Int32.ofInt u13_))]) (by decide) rfl (zdal_p dlD_M_local_73 (i := 15) rfl) ?_
                            refine zr_iinc (pc := 123) (i := 10) (a := u13_) (n := 1) (L2 := [some (.ref 81), some (.int (Int32.ofInt a0_)), some (.int (Int32.ofInt a1_)), some (.int (Int32.ofInt a2_)), some (.int (Int32.ofInt a3_)), some (.int (Int32.ofInt v10_)), some (.long (Int64.ofInt (zg N58_ 81 52))), none, some (.long (Int64.ofInt (zg N58_ 81 53))), none, some (.int (Int32.ofInt (u13_ + 1)))]) rfl (by decide) rfl (zdal_p dlD_M_local_73 (i := 16) rfl) ?_
                            refine zw_goto (pc := 126) (tgt := 55) (by decide) (zdal_p dlD_M_local_73 (i := 17) rfl) ?_
                            exact ih_55 (zg N58_ 81 52) (zg_r N58_ 81 52).1 (zg_r N58_ 81 52).2 (zg N58_ 81 53) (zg_r N58_ 81 53).1 (zg_r N58_ 81 53).2 (u13_ + 1) (by omega) (by omega) N58_ hb0_N58_ (show 0 ≤ (u13_ + 1) by first | with_reducible assumption | assumption | omega) (show (u13_ + 1) ≤ ze Mz 81 26 by first | with_reducible assumption | assumption | omega) (show zLc T (a2_).toNat (u13_ + 1) (zg N58_ 81 52) (zg N58_ 81 53) by first | exact hz_ | exact zLc_m (by first | with_reducible assumption | assumption)) (show zLcG T D (zBlk T (a1_).toNat (a0_).toNat) (a2_).toNat (u13_ + 1) (zg N58_ 81 52) (zg N58_ 81 53) by first | exact hzg_ | exact zLcG_m (by omega) hlg_ hbn_) (by omega)
                          · skip
                            exact absurd hc_71 (by decide)
                        · skip
                          have hbn_ := (fun q_ => ha68_0_hp0_N29_ ((zbt_n hbl_).mpr ((zbq_t _ _ _).mpr ⟨by omega, q_⟩)))
                          show zW l m_M_local (zn Mz + 0, zw Mz + 0) N14_ 71 [some (.ref 81), some (.int (Int32.ofInt a0_)), some (.int (Int32.ofInt a1_)), some (.int (Int32.ofInt a2_)), some (.int (Int32.ofInt a3_)), some (.int (Int32.ofInt v10_)), some (.long (Int64.ofInt u11_)), none, some (.long (Int64.ofInt u12_)), none, some (.int (Int32.ofInt u13_))] [.int (Int32.ofInt 0)] _
                          refine zr_if_ne (pc := 71) (tgt := 77) ⟨(by decide), (by decide)⟩ (by decide) (zdal_p dlD_M_local_72 (i := 13) rfl) (fun hc_71 => ?_) (fun hc_71 => ?_)
                          · skip
                            exact absurd hc_71 (by decide)
                          · skip
                            refine zw_goto (pc := 74) (tgt := 123) (by decide) (zdal_p dlD_M_local_72 (i := 14) rfl) ?_
                            refine zr_iinc (pc := 123) (i := 10) (a := u13_) (n := 1) (L2 := [some (.ref 81), some (.int (Int32.ofInt a0_)), some (.int (Int32.ofInt a1_)), some (.int (Int32.ofInt a2_)), some (.int (Int32.ofInt a3_)), some (.int (Int32.ofInt v10_)), some (.long (Int64.ofInt u11_)), none, some (.long (Int64.ofInt u12_)), none, some (.int (Int32.ofInt (u13_ + 1)))]) rfl (by decide) rfl (zdal_p dlD_M_local_73 (i := 16) rfl) ?_
                            refine zw_goto (pc := 126) (tgt := 55) (by decide) (zdal_p dlD_M_local_73 (i := 17) rfl) ?_
                            exact ih_55 u11_ hu11_a hu11_b u12_ hu12_a hu12_b (u13_ + 1) (by omega) (by omega) N14_ hs15_ (show 0 ≤ (u13_ + 1) by first | with_reducible assumption | assumption | omega) (show (u13_ + 1) ≤ ze Mz 81 26 by first | with_reducible assumption | assumption | omega) (show zLc T (a2_).toNat (u13_ + 1) u11_ u12_ by first | exact hz_ | exact zLc_m (by first | with_reducible assumption | assumption)) (show zLcG T D (zBlk T (a1_).toNat (a0_).toNat) (a2_).toNat (u13_ + 1) u11_ u12_ by first | exact hzg_ | exact zLcG_m (by omega) hlg_ hbn_) (by omega)
                  exact lp_55 _ 0 (by decide) (by decide) 1 (by decide) (by decide) 0 (by decide) (by decide) Mz zFr.rf (show 0 ≤ (0 : Int) by first | with_reducible assumption | assumption | omega) (show (0 : Int) ≤ ze Mz 81 26 by first | with_reducible assumption | assumption | omega) (show zLc T (a2_).toNat (0 : Int) (0 : Int) (1 : Int) by exact zLc_0) (show zLcG T D (zBlk T (a1_).toNat (a0_).toNat) (a2_).toNat (0 : Int) (0 : Int) (1 : Int) by exact zLcG_0) (Nat.lt_succ_self _)
                · skip
                  exact absurd hc_31 (by decide)
              · skip
                show zW l m_M_local (zn Mz + 0, zw Mz + 0) Mz 31 [some (.ref 81), some (.int (Int32.ofInt a0_)), some (.int (Int32.ofInt a1_)), some (.int (Int32.ofInt a2_)), some (.int (Int32.ofInt a3_)), none, none, none, none, none, none] [.int (Int32.ofInt 0)] _
                refine zr_if_ne (pc := 31) (tgt := 38) ⟨(by decide), (by decide)⟩ (by decide) (zdal_p dlD_M_local_71 (i := 16) rfl) (fun hc_31 => ?_) (fun hc_31 => ?_)
                · skip
                  exact absurd hc_31 (by decide)
                · skip
                  refine zw_ldcw (pc := 34) (v := Int32.ofInt (-1000000)) (by rw [show Int32.ofInt (-1000000) = ((-1000000) : Int32) by decide]; exact k_M_435) (zdal_p dlD_M_local_71 (i := 17) rfl) ?_
                  exact zr_iret (pc := 37) (ty := .int) rfl rfl ⟨by omega, by omega⟩ hf (show (((a0_ = 2 ∨ a0_ = 3 ∨ a0_ = 5) ∧ 0 ≤ a1_ ∧ a1_ < ((gF T).length : Int) ∧ 0 ≤ a2_ ∧ a2_ < ((gF T).length : Int) ∧ (a3_ = 0 ∨ a3_ = 1) ∧ zfPe T (zBlk T (a1_).toNat (a0_).toNat) (a2_).toNat a3_ ((-1000000))) ∨ (¬ ((a0_ = 2 ∨ a0_ = 3 ∨ a0_ = 5) ∧ 0 ≤ a1_ ∧ a1_ < ((gF T).length : Int) ∧ 0 ≤ a2_ ∧ a2_ < ((gF T).length : Int) ∧ (a3_ = 0 ∨ a3_ = 1)) ∧ ((-1000000)) = (-1000000 : Int))) by exact Or.inr ⟨by omega, rfl⟩) (zdal_p dlD_M_local_71 (i := 18) rfl)
          · skip
            show zW l m_M_local (zn Mz + 0, zw Mz + 0) Mz 20 [some (.ref 81), some (.int (Int32.ofInt a0_)), some (.int (Int32.ofInt a1_)), some (.int (Int32.ofInt a2_)), some (.int (Int32.ofInt a3_)), none, none, none, none, none, none] [.int (Int32.ofInt 0)] _
            refine zr_if_eq (pc := 20) (tgt := 34) ⟨(by decide), (by decide)⟩ (by decide) (zdal_p dlD_M_local_71 (i := 10) rfl) (fun hc_20 => ?_) (fun hc_20 => ?_)
            · skip
              refine zw_ldcw (pc := 34) (v := Int32.ofInt (-1000000)) (by rw [show Int32.ofInt (-1000000) = ((-1000000) : Int32) by decide]; exact k_M_435) (zdal_p dlD_M_local_71 (i := 17) rfl) ?_
              exact zr_iret (pc := 37) (ty := .int) rfl rfl ⟨by omega, by omega⟩ hf (show (((a0_ = 2 ∨ a0_ = 3 ∨ a0_ = 5) ∧ 0 ≤ a1_ ∧ a1_ < ((gF T).length : Int) ∧ 0 ≤ a2_ ∧ a2_ < ((gF T).length : Int) ∧ (a3_ = 0 ∨ a3_ = 1) ∧ zfPe T (zBlk T (a1_).toNat (a0_).toNat) (a2_).toNat a3_ ((-1000000))) ∨ (¬ ((a0_ = 2 ∨ a0_ = 3 ∨ a0_ = 5) ∧ 0 ≤ a1_ ∧ a1_ < ((gF T).length : Int) ∧ 0 ≤ a2_ ∧ a2_ < ((gF T).length : Int) ∧ (a3_ = 0 ∨ a3_ = 1)) ∧ ((-1000000)) = (-1000000 : Int))) by exact Or.inr ⟨by omega, rfl⟩) (zdal_p dlD_M_local_71 (i := 18) rfl)
            · skip
              exact absurd hc_20 (by decide)
      · skip
        show zW l m_M_local (zn Mz + 0, zw Mz + 0) Mz 12 [some (.ref 81), some (.int (Int32.ofInt a0_)), some (.int (Int32.ofInt a1_)), some (.int (Int32.ofInt a2_)), some (.int (Int32.ofInt a3_)), none, none, none, none, none, none] [.int (Int32.ofInt 0)] _
        refine zr_if_eq (pc := 12) (tgt := 34) ⟨(by decide), (by decide)⟩ (by decide) (zdal_p dlD_M_local_71 (i := 6) rfl) (fun hc_12 => ?_) (fun hc_12 => ?_)
        · skip
          refine zw_ldcw (pc := 34) (v := Int32.ofInt (-1000000)) (by rw [show Int32.ofInt (-1000000) = ((-1000000) : Int32) by decide]; exact k_M_435) (zdal_p dlD_M_local_71 (i := 17) rfl) ?_
          exact zr_iret (pc := 37) (ty := .int) rfl rfl ⟨by omega, by omega⟩ hf (show (((a0_ = 2 ∨ a0_ = 3 ∨ a0_ = 5) ∧ 0 ≤ a1_ ∧ a1_ < ((gF T).length : Int) ∧ 0 ≤ a2_ ∧ a2_ < ((gF T).length : Int) ∧ (a3_ = 0 ∨ a3_ = 1) ∧ zfPe T (zBlk T (a1_).toNat (a0_).toNat) (a2_).toNat a3_ ((-1000000))) ∨ (¬ ((a0_ = 2 ∨ a0_ = 3 ∨ a0_ = 5) ∧ 0 ≤ a1_ ∧ a1_ < ((gF T).length : Int) ∧ 0 ≤ a2_ ∧ a2_ < ((gF T).length : Int) ∧ (a3_ = 0 ∨ a3_ = 1)) ∧ ((-1000000)) = (-1000000 : Int))) by exact Or.inr ⟨by omega, rfl⟩) (zdal_p dlD_M_local_71 (i := 18) rfl)
        · skip
          exact absurd hc_12 (by decide)
  · skip
    show zW l m_M_local (zn Mz + 0, zw Mz + 0) Mz 4 [some (.ref 81), some (.int (Int32.ofInt a0_)), some (.int (Int32.ofInt a1_)), some (.int (Int32.ofInt a2_)), some (.int (Int32.ofInt a3_)), none, none, none, none, none, none] [.int (Int32.ofInt 0)] _
    refine zr_if_eq (pc := 4) (tgt := 34) ⟨(by decide), (by decide)⟩ (by decide) (zdal_p dlD_M_local_71 (i := 2) rfl) (fun hc_4 => ?_) (fun hc_4 => ?_)
    · skip
      refine zw_ldcw (pc := 34) (v := Int32.ofInt (-1000000)) (by rw [show Int32.ofInt (-1000000) = ((-1000000) : Int32) by decide]; exact k_M_435) (zdal_p dlD_M_local_71 (i := 17) rfl) ?_
      exact zr_iret (pc := 37) (ty := .int) rfl rfl ⟨by omega, by omega⟩ hf (show (((a0_ = 2 ∨ a0_ = 3 ∨ a0_ = 5) ∧ 0 ≤ a1_ ∧ a1_ < ((gF T).length : Int) ∧ 0 ≤ a2_ ∧ a2_ < ((gF T).length : Int) ∧ (a3_ = 0 ∨ a3_ = 1) ∧ zfPe T (zBlk T (a1_).toNat (a0_).toNat) (a2_).toNat a3_ ((-1000000))) ∨ (¬ ((a0_ = 2 ∨ a0_ = 3 ∨ a0_ = 5) ∧ 0 ≤ a1_ ∧ a1_ < ((gF T).length : Int) ∧ 0 ≤ a2_ ∧ a2_ < ((gF T).length : Int) ∧ (a3_ = 0 ∨ a3_ = 1)) ∧ ((-1000000)) = (-1000000 : Int))) by exact Or.inr ⟨by omega, rfl⟩) (zdal_p dlD_M_local_71 (i := 18) rfl)
    · skip
      exact absurd hc_4 (by decide)
