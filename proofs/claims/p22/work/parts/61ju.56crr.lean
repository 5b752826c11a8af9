set_option maxHeartbeats 40000000 in
theorem c_M_moebiusG (l : Launch) (Mz : zMem) (hW : zMt Mz) (a0_ : Int) (ha0_a : -2147483648 ≤ a0_) (ha0_b : a0_ < 2147483648) (T : zGT) (hO : gOK T) (p0_ : zGB T Mz) : zC l m_M_moebius 0 0 [.ref 81, .int (Int32.ofInt a0_)] Mz (zpI [] [106] Mz (fun v N => (((0 ≤ a0_ ∧ a0_ < ((gF T).length : Int) ∧ zfMu T (a0_).toNat v) ∨ (¬ (0 ≤ a0_ ∧ a0_ < ((gF T).length : Int)) ∧ v = (-1000000 : Int)))))) := by
  refine zC_of (L0 := [some (.ref 81), some (.int (Int32.ofInt a0_)), none, none, none]) md_M_moebius (Nat.le_of_ble_eq_true rfl) rfl ?_ zQ0
  have hf : zFr [] [106] Mz Mz := zFr.rf
  have r_20 := ze_r Mz 81 20
  have r_25 := ze_r Mz 81 25
  have r_26 := ze_r Mz 81 26
  have hG := hO.1
  have g24 := hG.2.1
  have g1 := hG.1
  have dv0 : zTab T Mz := p0_.1
  have dv1 : zB 85 144 0 5 Mz := p0_.2.1
  have dv2 : zJX T Mz := p0_.2.2.1
  have dv3 : zFirs T Mz := p0_.2.2.2.1
  have dv4 : zSSm T Mz := p0_.2.2.2.2.1
  have dv5 : zGD Mz := zGB.d hO p0_
  have gb := dv5.1
  have gn := dv0.1
  have hfl_ := dv3.1
  have hjx_ := dv2
  have hj25_ := hjx_.1.1
  have hEn_ := zJX.en hO hjx_
  have hsz_ := dv0.1
  refine zw_aload_n (pc := 0) (n := 0) (x := 81) rfl (zdal_p dlD_M_moebius_48 (i := 0) rfl) ?_
  refine zw_iload_n (pc := 1) (n := 1) (x := Int32.ofInt a0_) rfl (zdal_p dlD_M_moebius_48 (i := 1) rfl) ?_
  refine zr_callV (hf.w hW) hf.x (pc := 2) [.int (Int32.ofInt a0_)] [] l_M_414 (c_M_isSortG l Mz (hf.w hW) a0_ ha0_a ha0_b T hO p0_) rfl rfl rfl (by decide) (Nat.le_of_ble_eq_true rfl) (zdal_p dlD_M_moebius_48 (i := 2) rfl) ?_
  rintro _ N1_ ⟨v2_, rfl, ⟨hv2_a, hv2_b⟩, hsN1_, hp0_N1_⟩
  obtain rfl := hsN1_.eq.symm
  replace hp0_N1_ : ((v2_ = 1 ∧ 0 ≤ a0_ ∧ a0_ < ze Mz 81 26) ∨ (v2_ = 0 ∧ (a0_ < 0 ∨ ze Mz 81 26 ≤ a0_))) := hp0_N1_
  rcases hp0_N1_ with ⟨rfl, ha2_0_hp0_N1_, ha2_1_hp0_N1_⟩ | ⟨rfl, ha2_0_hp0_N1_⟩
  · skip
    show zW l m_M_moebius (zn Mz + 0, zw Mz + 0) Mz 5 [some (.ref 81), some (.int (Int32.ofInt a0_)), none, none, none] [.int (Int32.ofInt 1)] _
    refine zr_if_ne (pc := 5) (tgt := 12) ⟨(by decide), (by decide)⟩ (by decide) (zdal_p dlD_M_moebius_48 (i := 3) rfl) (fun hc_5 => ?_) (fun hc_5 => ?_)
    · skip
      refine zw_aload_n (pc := 12) (n := 0) (x := 81) rfl (zdal_p dlD_M_moebius_48 (i := 6) rfl) ?_
      refine zr_getI0 hf hW (pc := 13) (by decide) f_M_196 rfl (zdal_p dlD_M_moebius_48 (i := 7) rfl) ?_
      refine zw_istore_n (pc := 16) (i := 2) (L2 := [some (.ref 81), some (.int (Int32.ofInt a0_)), some (.int (Int32.ofInt (ze Mz 81 20))), none, none]) rfl (by decide) rfl (zdal_p dlD_M_moebius_48 (i := 8) rfl) ?_
      have lp_17 : ∀ (n : Nat) (u3_ : Int) (hu3_a : -2147483648 ≤ u3_) (hu3_b : u3_ < 2147483648) (N4_ : zMem) (hs5_ : zFr [] [106] Mz N4_) (i6_ : 0 ≤ u3_) (i7_ : u3_ ≤ gN T) (i8_ : zMuS T (fun k_ => (ze Mz 89 k_).toNat) (ze Mz 81 25).toNat (fun k_ => ze N4_ 106 k_) u3_ 0), (u3_).toNat < n → zW l m_M_moebius (zn Mz + 0, zw Mz + 0) N4_ 17 [some (.ref 81), some (.int (Int32.ofInt a0_)), some (.int (Int32.ofInt u3_)), none, none] [] (zpI [] [106] Mz (fun v N => (((0 ≤ a0_ ∧ a0_ < ((gF T).length : Int) ∧ zfMu T (a0_).toNat v) ∨ (¬ (0 ≤ a0_ ∧ a0_ < ((gF T).length : Int)) ∧ v = (-1000000 : Int)))))) := by
        intro n
        induction n with
        | zero =>
          intro u3_ hu3_a hu3_b N4_ hs5_ i6_ i7_ i8_ h0
          exact absurd h0 (Nat.not_lt_zero _)
        | succ n ih_17 =>
          intro u3_ hu3_a hu3_b N4_ hs5_ i6_ i7_ i8_ hlt_17
          have hf_N4_ : zFr [] [106] Mz N4_ := hf.tr hs5_ (by decide) (by decide)
          have e20_N4_ : ze N4_ 81 20 = ze Mz 81 20 := hs5_.e (by decide)
          have e25_N4_ : ze N4_ 81 25 = ze Mz 81 25 := hs5_.e (by decide)
          have e26_N4_ : ze N4_ 81 26 = ze Mz 81 26 := hs5_.e (by decide)
          have c9_ : zGB T N4_ := zGB.fr hs5_ p0_ (by decide) (by decide)
          have c10_ : zTab T N4_ := zTab.fr hs5_ dv0 (by decide) (by decide)
          have c11_ : zB 85 144 0 5 N4_ := zB.fr hs5_ dv1 (by decide) (by decide)
          have c12_ : zJX T N4_ := zJX.fr hs5_ dv2 (by decide) (by decide)
          have c13_ : zFirs T N4_ := zFirs.fr hs5_ dv3 (by decide) (by decide)
          have c14_ : zSSm T N4_ := zSSm.fr hs5_ dv4 (by decide) (by decide)
          have c15_ : zGD N4_ := zGD.fr hs5_ dv5 (by decide) (by decide)
          have hms_ := (show zMuS T (fun k_ => (ze Mz 89 k_).toNat) (ze Mz 81 25).toNat (fun k_ => ze N4_ 106 k_) u3_ 0 by first | with_reducible assumption | assumption)
          refine zw_iload_n (pc := 17) (n := 2) (x := Int32.ofInt u3_) rfl (zdal_p dlD_M_moebius_48 (i := 9) rfl) ?_
          refine zr_if_le (pc := 18) (tgt := 148) ⟨hu3_a, hu3_b⟩ (by decide) (zdal_p dlD_M_moebius_48 (i := 10) rfl) (fun hc_18 => ?_) (fun hc_18 => ?_)
          · skip
            refine zw_aload_n (pc := 148) (n := 0) (x := 81) rfl (zdal_p dlD_M_moebius_51 (i := 7) rfl) ?_
            refine zr_getF (r := 106) (hf_N4_.w hW) (pc := 149) f_M_90 rfl (zh_106 (hf_N4_.w hW)).1 (zdal_p dlD_M_moebius_51 (i := 8) rfl) ?_
            refine zw_aload_n (pc := 152) (n := 0) (x := 81) rfl (zdal_p dlD_M_moebius_51 (i := 9) rfl) ?_
            refine zw_aload_n (pc := 153) (n := 0) (x := 81) rfl (zdal_p dlD_M_moebius_51 (i := 10) rfl) ?_
            refine zr_getF (r := 91) (hf_N4_.w hW) (pc := 154) f_M_44 rfl (zh_91 (hf_N4_.w hW)).1 (zdal_p dlD_M_moebius_51 (i := 11) rfl) ?_
            refine zw_iload_n (pc := 157) (n := 1) (x := Int32.ofInt a0_) rfl (zdal_p dlD_M_moebius_51 (i := 12) rfl) ?_
            refine zr_ialdn (pc := 158) (zh_91 (hf_N4_.w hW)).2 (by decide) (by omega) (by omega) (zdal_p dlD_M_moebius_51 (i := 13) rfl) (fun v16_ hv16_ hv16_a hv16_b => ?_)
            rw [hf_N4_.ie (by decide) (by decide)] at hv16_
            have hf_x := dv3.g hO (e := a0_) (by omega) (by omega)
            refine zr_toI (show v16_ = ze Mz 91 (a0_).toNat by omega) ?_
            have hfw_ : (ze Mz 91 (a0_).toNat) = ((gFn T (a0_).toNat : Nat) : Int) := dv3.2 _ (by omega)
            refine zr_callV (hf_N4_.w hW) hf_N4_.x (pc := 159) [.int (Int32.ofInt (ze Mz 91 (a0_).toNat))] [.ref 106] l_M_232 (c_M_subIndex l N4_ (hf_N4_.w hW) (ze Mz 91 (a0_).toNat) (by omega) (by omega) (show 0 ≤ ze N4_ 81 25 by first | with_reducible assumption | assumption | omega) (show ze N4_ 81 25 ≤ 128 by first | with_reducible assumption | assumption | omega)) rfl rfl rfl (by decide) (Nat.le_of_ble_eq_true rfl) (zdal_p dlD_M_moebius_51 (i := 14) rfl) ?_
            rintro _ N17_ ⟨v18_, rfl, ⟨hv18_a, hv18_b⟩, hsN17_, hp0_N17_⟩
            obtain rfl := hsN17_.eq.symm
            replace hp0_N17_ : ((0 ≤ v18_ ∧ v18_ < ze N4_ 81 25 ∧ ze N4_ 89 (v18_).toNat = (ze Mz 91 (a0_).toNat)) ∨ (v18_ = -1 ∧ ∀ k : Nat, (k : Int) < ze N4_ 81 25 → ze N4_ 89 k ≠ (ze Mz 91 (a0_).toNat))) := hp0_N17_
            rcases hp0_N17_ with ⟨ha159_0_hp0_N17_, ha159_1_hp0_N17_, ha159_2_hp0_N17_⟩ | ⟨rfl, ha159_0_hp0_N17_⟩
            · skip
              have hil_ : (v18_).toNat < (ze Mz 81 25).toNat := by omega
              have hif_ : (ze Mz 89 (v18_).toNat).toNat = gFn T (a0_).toNat := by rw [← (hf_N4_.ie (by decide) (by decide) (v18_).toNat : ze N4_ 89 (v18_).toNat = ze Mz 89 (v18_).toNat), ha159_2_hp0_N17_, hfw_, Int.toNat_natCast]
              show zW l m_M_moebius (zn Mz + 0, zw Mz + 0) N4_ 162 [some (.ref 81), some (.int (Int32.ofInt a0_)), some (.int (Int32.ofInt u3_)), none, none] [.int (Int32.ofInt v18_), .ref 106] _
              refine zr_ialdn (pc := 162) (zh_106 (hf_N4_.w hW)).2 (by decide) (by omega) (by omega) (zdal_p dlD_M_moebius_51 (i := 15) rfl) (fun v19_ hv19_ hv19_a hv19_b => ?_)
              have hv_ := hv19_
              exact zr_iret (pc := 163) (ty := .int) rfl rfl ⟨by omega, by omega⟩ hf_N4_ (show ((0 ≤ a0_ ∧ a0_ < ((gF T).length : Int) ∧ zfMu T (a0_).toNat v19_) ∨ (¬ (0 ≤ a0_ ∧ a0_ < ((gF T).length : Int)) ∧ v19_ = (-1000000 : Int))) by exact Or.inl ⟨by omega, by omega, _, _, _, _, hEn_, zMuS_r hO hEn_ hms_ (by omega), hil_, hif_, hv_⟩) (zdal_p dlD_M_moebius_51 (i := 16) rfl)
            · skip
              obtain ⟨i0, hi0, hi1⟩ := (hf_x.1).f hO c12_
              exact absurd hi1 (ha159_0_hp0_N17_ i0 hi0)
          · skip
            refine zw_iconst (pc := 21) (v := Int32.ofInt 0) (by decide) (zdal_p dlD_M_moebius_48 (i := 11) rfl) ?_
            refine zw_istore_n (pc := 22) (i := 3) (L2 := [some (.ref 81), some (.int (Int32.ofInt a0_)), some (.int (Int32.ofInt u3_)), some (.int (Int32.ofInt 0)), none]) rfl (by decide) rfl (zdal_p dlD_M_moebius_48 (i := 12) rfl) ?_
            have lp_23 : ∀ (n : Nat) (u20_ : Int) (hu20_a : -2147483648 ≤ u20_) (hu20_b : u20_ < 2147483648) (N21_ : zMem) (hs22_ : zFr [] [106] N4_ N21_) (i23_ : 0 ≤ u20_) (i24_ : u20_ ≤ ze Mz 81 25) (i25_ : zMuS T (fun k_ => (ze Mz 89 k_).toNat) (ze Mz 81 25).toNat (fun k_ => ze N21_ 106 k_) u3_ (u20_).toNat), (ze Mz 81 25 - u20_).toNat < n → zW l m_M_moebius (zn Mz + 0, zw Mz + 0) N21_ 23 [some (.ref 81), some (.int (Int32.ofInt a0_)), some (.int (Int32.ofInt u3_)), some (.int (Int32.ofInt u20_)), none] [] (zpI [] [106] Mz (fun v N => (((0 ≤ a0_ ∧ a0_ < ((gF T).length : Int) ∧ zfMu T (a0_).toNat v) ∨ (¬ (0 ≤ a0_ ∧ a0_ < ((gF T).length : Int)) ∧ v = (-1000000 : Int)))))) := by
              intro n
              induction n with
              | zero =>
                intro u20_ hu20_a hu20_b N21_ hs22_ i23_ i24_ i25_ h0
                exact absurd h0 (Nat.not_lt_zero _)
              | succ n ih_23 =>
                intro u20_ hu20_a hu20_b N21_ hs22_ i23_ i24_ i25_ hlt_23
                have hf_N21_ : zFr [] [106] Mz N21_ := hf_N4_.tr hs22_ (by decide) (by decide)
                have hb0_N21_ : zFr [] [106] Mz N21_ := hs5_.tr hs22_ (by decide) (by decide)
                have e20_N21_ : ze N21_ 81 20 = ze N4_ 81 20 := hs22_.e (by decide)
                have e25_N21_ : ze N21_ 81 25 = ze N4_ 81 25 := hs22_.e (by decide)
                have e26_N21_ : ze N21_ 81 26 = ze N4_ 81 26 := hs22_.e (by decide)
                have c26_ : zGB T N21_ := zGB.fr hs22_ c9_ (by decide) (by decide)
                have c27_ : zTab T N21_ := zTab.fr hs22_ c10_ (by decide) (by decide)
                have c28_ : zB 85 144 0 5 N21_ := zB.fr hs22_ c11_ (by decide) (by decide)
                have c29_ : zJX T N21_ := zJX.fr hs22_ c12_ (by decide) (by decide)
                have c30_ : zFirs T N21_ := zFirs.fr hs22_ c13_ (by decide) (by decide)
                have c31_ : zSSm T N21_ := zSSm.fr hs22_ c14_ (by decide) (by decide)
                have c32_ : zGD N21_ := zGD.fr hs22_ c15_ (by decide) (by decide)
                have hmk_ := (show zMuS T (fun k_ => (ze Mz 89 k_).toNat) (ze Mz 81 25).toNat (fun k_ => ze N21_ 106 k_) u3_ (u20_).toNat by first | with_reducible assumption | assumption)
                refine zw_iload_n (pc := 23) (n := 3) (x := Int32.ofInt u20_) rfl (zdal_p dlD_M_moebius_48 (i := 13) rfl) ?_
                refine zw_aload_n (pc := 24) (n := 0) (x := 81) rfl (zdal_p dlD_M_moebius_48 (i := 14) rfl) ?_
                refine zr_getI0 hf_N21_ hW (pc := 25) (by decide) f_M_220 rfl (zdal_p dlD_M_moebius_48 (i := 15) rfl) ?_
                refine zr_icmp_ge (pc := 28) (tgt := 142) ⟨hu20_a, hu20_b⟩ ⟨(ze_r Mz 81 25).1, (ze_r Mz 81 25).2⟩ (by decide) (zdal_p dlD_M_moebius_48 (i := 16) rfl) (fun hc_28 => ?_) (fun hc_28 => ?_)
                · skip
                  refine zr_iinc (pc := 142) (i := 2) (a := u3_) (n := -1) (L2 := [some (.ref 81), some (.int (Int32.ofInt a0_)), some (.int (Int32.ofInt (u3_ + (-1)))), some (.int (Int32.ofInt u20_)), none]) rfl (by decide) rfl (zdal_p dlD_M_moebius_51 (i := 5) rfl) ?_
                  refine zw_goto (pc := 145) (tgt := 17) (by decide) (zdal_p dlD_M_moebius_51 (i := 6) rfl) ?_
                  have hmz_ := zMuS_z hmk_ (by omega)
                  refine zW_le [some (.ref 81), some (.int (Int32.ofInt a0_)), some (.int (Int32.ofInt (u3_ + (-1)))), none, none] (⟨rfl, rfl, rfl, trivial⟩) ?_
                  exact ih_17 (u3_ + (-1)) (by omega) (by omega) N21_ hb0_N21_ (show 0 ≤ (u3_ + (-1)) by first | with_reducible assumption | assumption | omega) (show (u3_ + (-1)) ≤ gN T by first | with_reducible assumption | assumption | omega) (show zMuS T (fun k_ => (ze Mz 89 k_).toNat) (ze Mz 81 25).toNat (fun k_ => ze N21_ 106 k_) (u3_ + (-1)) 0 by exact hmz_) (by omega)
                · skip
                  refine zw_aload_n (pc := 31) (n := 0) (x := 81) rfl (zdal_p dlD_M_moebius_48 (i := 17) rfl) ?_
                  refine zr_getF (r := 89) (hf_N21_.w hW) (pc := 32) f_M_38 rfl (zh_89 (hf_N21_.w hW)).1 (zdal_p dlD_M_moebius_48 (i := 18) rfl) ?_
                  refine zw_iload_n (pc := 35) (n := 3) (x := Int32.ofInt u20_) rfl (zdal_p dlD_M_moebius_48 (i := 19) rfl) ?_
                  refine zr_ialdn (pc := 36) (zh_89 (hf_N21_.w hW)).2 (by decide) (by omega) (by omega) (zdal_p dlD_M_moebius_48 (i := 20) rfl) (fun v33_ hv33_ hv33_a hv33_b => ?_)
                  rw [hf_N21_.ie (by decide) (by decide)] at hv33_
                  have hs_xN21_ := dv2.g hO (e := u20_) (by omega) (by omega)
                  refine zr_toI (show v33_ = ze Mz 89 (u20_).toNat by omega) ?_
                  refine zr_callS hf_N21_.x (pc := 37) [.int (Int32.ofInt (ze Mz 89 (u20_).toNat))] [] l_M_253 (c_M_ones l N21_ (hf_N21_.w hW) (ze Mz 89 (u20_).toNat) (by omega) (by omega) (show 0 ≤ (ze Mz 89 (u20_).toNat) by first | with_reducible assumption | assumption | omega)) rfl rfl (by decide) (Nat.le_of_ble_eq_true rfl) (zdal_p dlD_M_moebius_48 (i := 21) rfl) ?_
                  rintro _ N34_ ⟨v35_, rfl, ⟨hv35_a, hv35_b⟩, hsN34_, ⟨hp0_N34_, hp1_N34_, hp2_N34_⟩⟩
                  obtain rfl := hsN34_.eq.symm
                  show zW l m_M_moebius (zn Mz + 0, zw Mz + 0) N21_ 40 [some (.ref 81), some (.int (Int32.ofInt a0_)), some (.int (Int32.ofInt u3_)), some (.int (Int32.ofInt u20_)), none] [.int (Int32.ofInt v35_)] _
                  have hcb_ := hp0_N34_
                  have hmi_ := (hjx_.g hO (e := u20_) (by omega) (by omega))
                  rw [← Int.toNat_of_nonneg hmi_.2.1, zcb_n (by omega) 31 (Nat.le_refl _)] at hcb_
                  replace hcb_ : v35_ = ((gcb (ze Mz 89 (u20_).toNat).toNat : Nat) : Int) := hcb_
                  refine zw_iload_n (pc := 40) (n := 2) (x := Int32.ofInt u3_) rfl (zdal_p dlD_M_moebius_48 (i := 22) rfl) ?_
                  refine zr_icmp_eq (pc := 41) (tgt := 47) ⟨hv35_a, hv35_b⟩ ⟨hu3_a, hu3_b⟩ (by decide) (zdal_p dlD_M_moebius_48 (i := 23) rfl) (fun hc_41 => ?_) (fun hc_41 => ?_)
                  · skip
                    have hisz_ : (gcb (ze Mz 89 (u20_).toNat).toNat : Int) = u3_ := by omega
                    refine zw_aload_n (pc := 47) (n := 0) (x := 81) rfl (zdal_p dlD_M_moebius_49 (i := 1) rfl) ?_
                    refine zr_getF (r := 106) (hf_N21_.w hW) (pc := 48) f_M_90 rfl (zh_106 (hf_N21_.w hW)).1 (zdal_p dlD_M_moebius_49 (i := 2) rfl) ?_
                    refine zw_iload_n (pc := 51) (n := 3) (x := Int32.ofInt u20_) rfl (zdal_p dlD_M_moebius_49 (i := 3) rfl) ?_
                    refine zw_iload_n (pc := 52) (n := 2) (x := Int32.ofInt u3_) rfl (zdal_p dlD_M_moebius_49 (i := 4) rfl) ?_
                    refine zw_aload_n (pc := 53) (n := 0) (x := 81) rfl (zdal_p dlD_M_moebius_49 (i := 5) rfl) ?_
                    refine zr_getI0 hf_N21_ hW (pc := 54) (by decide) f_M_196 rfl (zdal_p dlD_M_moebius_49 (i := 6) rfl) ?_
                    have j_65 : ∀ (u36_ : Int) (hu36_a : -2147483648 ≤ u36_) (hu36_b : u36_ < 2147483648) (u37_ : Int) (hu37_a : -2147483648 ≤ u37_) (hu37_b : u37_ < 2147483648) (hu37_z : u37_ = 0 ∨ u37_ = 1) (i38_ : u37_ = zMuD T (ze Mz 89 (u20_).toNat).toNat) (i39_ : 0 ≤ u37_) (i40_ : u37_ ≤ 1) (i41_ : u36_ = u20_), zW l m_M_moebius (zn Mz + 0, zw Mz + 0) N21_ 65 [some (.ref 81), some (.int (Int32.ofInt a0_)), some (.int (Int32.ofInt u3_)), some (.int (Int32.ofInt u20_)), none] [.int (Int32.ofInt u37_), .int (Int32.ofInt u36_), .ref 106] (zpI [] [106] Mz (fun v N => (((0 ≤ a0_ ∧ a0_ < ((gF T).length : Int) ∧ zfMu T (a0_).toNat v) ∨ (¬ (0 ≤ a0_ ∧ a0_ < ((gF T).length : Int)) ∧ v = (-1000000 : Int)))))) := by
                      intro u36_ hu36_a hu36_b u37_ hu37_a hu37_b hu37_z i38_ i39_ i40_ i41_
                      refine zr_callS hf_N21_.x (pc := 65) [.int (Int32.ofInt u37_)] [.int (Int32.ofInt u36_), .ref 106] l_M_256 (c_M_truth l N21_ (hf_N21_.w hW) u37_ hu37_a hu37_b (by omega)) rfl rfl (by decide) (Nat.le_of_ble_eq_true rfl) (zdal_p dlD_M_moebius_49 (i := 11) rfl) ?_
                      rintro _ N42_ ⟨v43_, rfl, ⟨hv43_a, hv43_b⟩, hsN42_, hp0_N42_⟩
                      obtain rfl := hsN42_.eq.symm
                      replace hp0_N42_ : v43_ = u37_ := hp0_N42_
                      show zW l m_M_moebius (zn Mz + 0, zw Mz + 0) N21_ 68 [some (.ref 81), some (.int (Int32.ofInt a0_)), some (.int (Int32.ofInt u3_)), some (.int (Int32.ofInt u20_)), none] [.int (Int32.ofInt v43_), .int (Int32.ofInt u36_), .ref 106] _
                      have htr_ := hp0_N42_
                      have htq_ := htr_.trans (show _ = zMuD T (ze Mz 89 (u20_).toNat).toNat by first | with_reducible assumption | assumption)
                      obtain rfl := (show u20_ = u36_ by omega)
                      refine zr_iast (pc := 68) (zh_106 (hf_N21_.w hW)).2 (by decide) (by decide) (by omega) (by omega) (zdal_p dlD_M_moebius_49 (i := 12) rfl) (fun N44_ hN44_ hsN44_ => ?_)
                      have hf_N44_ : zFr [] [106] Mz N44_ := hf_N21_.tr hsN44_ (by decide) (by decide)
                      have hb0_N44_ : zFr [] [106] Mz N44_ := hb0_N21_.tr hsN44_ (by decide) (by decide)
                      have hb1_N44_ : zFr [] [106] N4_ N44_ := hs22_.tr hsN44_ (by decide) (by decide)
                      have e20_N44_ : ze N44_ 81 20 = ze N21_ 81 20 := hsN44_.e (by decide)
                      have e25_N44_ : ze N44_ 81 25 = ze N21_ 81 25 := hsN44_.e (by decide)
                      have e26_N44_ : ze N44_ 81 26 = ze N21_ 81 26 := hsN44_.e (by decide)
                      have c45_ : zGB T N44_ := zGB.fr hsN44_ c26_ (by decide) (by decide)
                      have c46_ : zTab T N44_ := zTab.fr hsN44_ c27_ (by decide) (by decide)
                      have c47_ : zB 85 144 0 5 N44_ := zB.fr hsN44_ c28_ (by decide) (by decide)
                      have c48_ : zJX T N44_ := zJX.fr hsN44_ c29_ (by decide) (by decide)
                      have c49_ : zFirs T N44_ := zFirs.fr hsN44_ c30_ (by decide) (by decide)
                      have c50_ : zSSm T N44_ := zSSm.fr hsN44_ c31_ (by decide) (by decide)
                      have c51_ : zGD N44_ := zGD.fr hsN44_ c32_ (by decide) (by decide)
                      have hq0_ := zeW hN44_ ⟨by omega, by omega⟩
                      have hx0_ := zs_get hN44_ ⟨by omega, by omega⟩
                      have hmt0_ := zMuS_p (r' := (fun k_ => ze N44_ 106 k_)) hO hEn_ hmk_ (by omega) hisz_ hq0_
                      have hmp0_ : zMuP T (fun k_ => (ze Mz 89 k_).toNat) (fun k_ => ze N44_ 106 k_) (u20_).toNat (ze N44_ 106 (u20_).toNat) (0 : Int).toNat := zMuP_0 (hx0_.trans htq_) (fun o_ ho_ => absurd ho_ (Nat.not_lt_zero _))
                      refine zw_iconst (pc := 69) (v := Int32.ofInt 0) (by decide) (zdal_p dlD_M_moebius_49 (i := 13) rfl) ?_
                      refine zw_istore (pc := 70) (i := 4) (L2 := [some (.ref 81), some (.int (Int32.ofInt a0_)), some (.int (Int32.ofInt u3_)), some (.int (Int32.ofInt u20_)), some (.int (Int32.ofInt 0))]) (by decide) rfl (zdal_p dlD_M_moebius_49 (i := 14) rfl) ?_
                      have lp_72 : ∀ (n : Nat) (u52_ : Int) (hu52_a : -2147483648 ≤ u52_) (hu52_b : u52_ < 2147483648) (N53_ : zMem) (hs54_ : zFr [] [106] N44_ N53_) (i55_ : 0 ≤ u52_) (i56_ : u52_ ≤ ze Mz 81 25) (i57_ : zMuS T (fun k_ => (ze Mz 89 k_).toNat) (ze Mz 81 25).toNat (fun k_ => ze N53_ 106 k_) u3_ (u20_).toNat) (i58_ : zMuP T (fun k_ => (ze Mz 89 k_).toNat) (fun k_ => ze N53_ 106 k_) (u20_).toNat (ze N53_ 106 (u20_).toNat) (u52_).toNat), (ze Mz 81 25 - u52_).toNat < n → zW l m_M_moebius (zn Mz + 0, zw Mz + 0) N53_ 72 [some (.ref 81), some (.int (Int32.ofInt a0_)), some (.int (Int32.ofInt u3_)), some (.int (Int32.ofInt u20_)), some (.int (Int32.ofInt u52_))] [] (zpI [] [106] Mz (fun v N => (((0 ≤ a0_ ∧ a0_ < ((gF T).length : Int) ∧ zfMu T (a0_).toNat v) ∨ (¬ (0 ≤ a0_ ∧ a0_ < ((gF T).length : Int)) ∧ v = (-1000000 : Int)))))) := by
                        intro n
                        induction n with
                        | zero =>
                          intro u52_ hu52_a hu52_b N53_ hs54_ i55_ i56_ i57_ i58_ h0
                          exact absurd h0 (Nat.not_lt_zero _)
                        | succ n ih_72 =>
                          intro u52_ hu52_a hu52_b N53_ hs54_ i55_ i56_ i57_ i58_ hlt_72
                          have hf_N53_ : zFr [] [106] Mz N53_ := hf_N44_.tr hs54_ (by decide) (by decide)
                          have hb0_N53_ : zFr [] [106] Mz N53_ := hb0_N44_.tr hs54_ (by decide) (by decide)
                          have hb1_N53_ : zFr [] [106] N4_ N53_ := hb1_N44_.tr hs54_ (by decide) (by decide)
                          have e20_N53_ : ze N53_ 81 20 = ze N44_ 81 20 := hs54_.e (by decide)
                          have e25_N53_ : ze N53_ 81 25 = ze N44_ 81 25 := hs54_.e (by decide)
                          have e26_N53_ : ze N53_ 81 26 = ze N44_ 81 26 := hs54_.e (by decide)
                          have c59_ : zGB T N53_ := zGB.fr hs54_ c45_ (by decide) (by decide)
                          have c60_ : zTab T N53_ := zTab.fr hs54_ c46_ (by decide) (by decide)
                          have c61_ : zB 85 144 0 5 N53_ := zB.fr hs54_ c47_ (by decide) (by decide)
                          have c62_ : zJX T N53_ := zJX.fr hs54_ c48_ (by decide) (by decide)
                          have c63_ : zFirs T N53_ := zFirs.fr hs54_ c49_ (by decide) (by decide)
                          have c64_ : zSSm T N53_ := zSSm.fr hs54_ c50_ (by decide) (by decide)
                          have c65_ : zGD N53_ := zGD.fr hs54_ c51_ (by decide) (by decide)
                          have hmt_ := (show zMuS T (fun k_ => (ze Mz 89 k_).toNat) (ze Mz 81 25).toNat (fun k_ => ze N53_ 106 k_) u3_ (u20_).toNat by first | with_reducible assumption | assumption)
                          have hmp_ := (show zMuP T (fun k_ => (ze Mz 89 k_).toNat) (fun k_ => ze N53_ 106 k_) (u20_).toNat (ze N53_ 106 (u20_).toNat) (u52_).toNat by first | with_reducible assumption | assumption)
                          refine zw_iload (pc := 72) (i := 4) (x := Int32.ofInt u52_) rfl (zdal_p dlD_M_moebius_49 (i := 15) rfl) ?_
                          refine zw_aload_n (pc := 74) (n := 0) (x := 81) rfl (zdal_p dlD_M_moebius_49 (i := 16) rfl) ?_
                          refine zr_getI0 hf_N53_ hW (pc := 75) (by decide) f_M_220 rfl (zdal_p dlD_M_moebius_49 (i := 17) rfl) ?_
                          refine zr_icmp_ge (pc := 78) (tgt := 136) ⟨hu52_a, hu52_b⟩ ⟨(ze_r Mz 81 25).1, (ze_r Mz 81 25).2⟩ (by decide) (zdal_p dlD_M_moebius_49 (i := 18) rfl) (fun hc_78 => ?_) (fun hc_78 => ?_)
                          · skip
                            refine zr_iinc (pc := 136) (i := 3) (a := u20_) (n := 1) (L2 := [some (.ref 81), some (.int (Int32.ofInt a0_)), some (.int (Int32.ofInt u3_)), some (.int (Int32.ofInt (u20_ + 1))), some (.int (Int32.ofInt u52_))]) rfl (by decide) rfl (zdal_p dlD_M_moebius_51 (i := 3) rfl) ?_
                            refine zw_goto (pc := 139) (tgt := 23) (by decide) (zdal_p dlD_M_moebius_51 (i := 4) rfl) ?_
                            have hmsn_ : zMuS T (fun k_ => (ze Mz 89 k_).toNat) (ze Mz 81 25).toNat (fun k_ => ze N53_ 106 k_) u3_ ((u20_ + 1)).toNat := by first | exact hms2_ | exact zMuS_e (by omega) hmt_ ⟨ze_r _ _ _, zMuP_k hmp_ (by omega)⟩
                            refine zW_le [some (.ref 81), some (.int (Int32.ofInt a0_)), some (.int (Int32.ofInt u3_)), some (.int (Int32.ofInt (u20_ + 1))), none] (⟨rfl, rfl, rfl, rfl, trivial⟩) ?_
                            exact ih_23 (u20_ + 1) (by omega) (by omega) N53_ hb1_N53_ (show 0 ≤ (u20_ + 1) by first | with_reducible assumption | assumption | omega) (show (u20_ + 1) ≤ ze Mz 81 25 by first | with_reducible assumption | assumption | omega) (show zMuS T (fun k_ => (ze Mz 89 k_).toNat) (ze Mz 81 25).toNat (fun k_ => ze N53_ 106 k_) u3_ ((u20_ + 1)).toNat by exact hmsn_) (by omega)
                          · skip
                            refine zw_aload_n (pc := 81) (n := 0) (x := 81) rfl (zdal_p dlD_M_moebius_49 (i := 19) rfl) ?_
                            refine zr_getF (r := 89) (hf_N53_.w hW) (pc := 82) f_M_38 rfl (zh_89 (hf_N53_.w hW)).1 (zdal_p dlD_M_moebius_49 (i := 20) rfl) ?_
                            refine zw_iload (pc := 85) (i := 4) (x := Int32.ofInt u52_) rfl (zdal_p dlD_M_moebius_49 (i := 21) rfl) ?_
                            refine zr_ialdn (pc := 87) (zh_89 (hf_N53_.w hW)).2 (by decide) (by omega) (by omega) (zdal_p dlD_M_moebius_49 (i := 22) rfl) (fun v66_ hv66_ hv66_a hv66_b => ?_)
                            rw [hf_N53_.ie (by decide) (by decide)] at hv66_
                            have hs_xN53_ := dv2.g hO (e := u52_) (by omega) (by omega)
                            refine zr_toI (show v66_ = ze Mz 89 (u52_).toNat by omega) ?_
                            refine zr_callS hf_N53_.x (pc := 88) [.int (Int32.ofInt (ze Mz 89 (u52_).toNat))] [] l_M_253 (c_M_ones l N53_ (hf_N53_.w hW) (ze Mz 89 (u52_).toNat) (by omega) (by omega) (show 0 ≤ (ze Mz 89 (u52_).toNat) by first | with_reducible assumption | assumption | omega)) rfl rfl (by decide) (Nat.le_of_ble_eq_true rfl) (zdal_p dlD_M_moebius_49 (i := 23) rfl) ?_
                            rintro _ N67_ ⟨v68_, rfl, ⟨hv68_a, hv68_b⟩, hsN67_, ⟨hp0_N67_, hp1_N67_, hp2_N67_⟩⟩
                            obtain rfl := hsN67_.eq.symm
                            show zW l m_M_moebius (zn Mz + 0, zw Mz + 0) N53_ 91 [some (.ref 81), some (.int (Int32.ofInt a0_)), some (.int (Int32.ofInt u3_)), some (.int (Int32.ofInt u20_)), some (.int (Int32.ofInt u52_))] [.int (Int32.ofInt v68_)] _
                            have hco_ := hp0_N67_
                            have hmo_ := (hjx_.g hO (e := u52_) (by omega) (by omega))
                            rw [← Int.toNat_of_nonneg hmo_.2.1, zcb_n (by omega) 31 (Nat.le_refl _)] at hco_
                            replace hco_ : v68_ = ((gcb (ze Mz 89 (u52_).toNat).toNat : Nat) : Int) := hco_
                            refine zw_iload_n (pc := 91) (n := 2) (x := Int32.ofInt u3_) rfl (zdal_p dlD_M_moebius_50 (i := 0) rfl) ?_
                            refine zr_icmp_le (pc := 92) (tgt := 130) ⟨hv68_a, hv68_b⟩ ⟨hu3_a, hu3_b⟩ (by decide) (zdal_p dlD_M_moebius_50 (i := 1) rfl) (fun hc_92 => ?_) (fun hc_92 => ?_)
                            · skip
                              refine zr_iinc (pc := 130) (i := 4) (a := u52_) (n := 1) (L2 := [some (.ref 81), some (.int (Int32.ofInt a0_)), some (.int (Int32.ofInt u3_)), some (.int (Int32.ofInt u20_)), some (.int (Int32.ofInt (u52_ + 1)))]) rfl (by decide) rfl (zdal_p dlD_M_moebius_51 (i := 1) rfl) ?_
                              refine zw_goto (pc := 133) (tgt := 72) (by decide) (zdal_p dlD_M_moebius_51 (i := 2) rfl) ?_
                              have hmpn_ : zMuP T (fun k_ => (ze Mz 89 k_).toNat) (fun k_ => ze N53_ 106 k_) (u20_).toNat (ze N53_ 106 (u20_).toNat) ((u52_ + 1)).toNat := by first | exact hmp1_ | exact zMuP_n (by omega) hmp_ (fun q_ => absurd (gSs_cb hO q_ (hEn_.1 _ (by omega))) (by first | omega | (dsimp only; omega))) | exact zMuP_n (by omega) hmp_ (fun q_ => absurd (hzz_.mpr q_.2) (by omega))
                              have hmtn_ : zMuS T (fun k_ => (ze Mz 89 k_).toNat) (ze Mz 81 25).toNat (fun k_ => ze N53_ 106 k_) u3_ (u20_).toNat := by first | exact hmt1_ | exact hmt_
                              exact ih_72 (u52_ + 1) (by omega) (by omega) N53_ hs54_ (show 0 ≤ (u52_ + 1) by first | with_reducible assumption | assumption | omega) (show (u52_ + 1) ≤ ze Mz 81 25 by first | with_reducible assumption | assumption | omega) (show zMuS T (fun k_ => (ze Mz 89 k_).toNat) (ze Mz 81 25).toNat (fun k_ => ze N53_ 106 k_) u3_ (u20_).toNat by exact hmtn_) (show zMuP T (fun k_ => (ze Mz 89 k_).toNat) (fun k_ => ze N53_ 106 k_) (u20_).toNat (ze N53_ 106 (u20_).toNat) ((u52_ + 1)).toNat by exact hmpn_) (by omega)
                            · skip
                              refine zw_aload_n (pc := 95) (n := 0) (x := 81) rfl (zdal_p dlD_M_moebius_50 (i := 2) rfl) ?_
                              refine zr_getF (r := 89) (hf_N53_.w hW) (pc := 96) f_M_38 rfl (zh_89 (hf_N53_.w hW)).1 (zdal_p dlD_M_moebius_50 (i := 3) rfl) ?_
                              refine zw_iload_n (pc := 99) (n := 3) (x := Int32.ofInt u20_) rfl (zdal_p dlD_M_moebius_50 (i := 4) rfl) ?_
                              refine zr_ialdn (pc := 100) (zh_89 (hf_N53_.w hW)).2 (by decide) (by omega) (by omega) (zdal_p dlD_M_moebius_50 (i := 5) rfl) (fun v69_ hv69_ hv69_a hv69_b => ?_)
                              rw [hf_N53_.ie (by decide) (by decide)] at hv69_
                              have hs1_ := hjx_.g hO (e := u20_) (by omega) (by omega)
                              refine zr_toI (show v69_ = ze Mz 89 (u20_).toNat by omega) ?_
                              refine zw_aload_n (pc := 101) (n := 0) (x := 81) rfl (zdal_p dlD_M_moebius_50 (i := 6) rfl) ?_
                              refine zr_getF (r := 89) (hf_N53_.w hW) (pc := 102) f_M_38 rfl (zh_89 (hf_N53_.w hW)).1 (zdal_p dlD_M_moebius_50 (i := 7) rfl) ?_
                              refine zw_iload (pc := 105) (i := 4) (x := Int32.ofInt u52_) rfl (zdal_p dlD_M_moebius_50 (i := 8) rfl) ?_
                              refine zr_ialdn (pc := 107) (zh_89 (hf_N53_.w hW)).2 (by decide) (by omega) (by omega) (zdal_p dlD_M_moebius_50 (i := 9) rfl) (fun v70_ hv70_ hv70_a hv70_b => ?_)
                              rw [hf_N53_.ie (by decide) (by decide)] at hv70_
                              have hs2_ := hjx_.g hO (e := u52_) (by omega) (by omega)
                              refine zr_toI (show v70_ = ze Mz 89 (u52_).toNat by omega) ?_
                              refine zw_iconst (pc := 108) (v := Int32.ofInt (-1)) (by decide) (zdal_p dlD_M_moebius_50 (i := 10) rfl) ?_
                              refine zr_ixor (pc := 109) (zdal_p dlD_M_moebius_50 (i := 11) rfl) ?_
                              have hr71_ := zxor_r (ze Mz 89 (u52_).toNat) ((-1))
                              refine zr_iand (pc := 110) (zdal_p dlD_M_moebius_50 (i := 12) rfl) ?_
                              have hr72_ := zand_r (ze Mz 89 (u20_).toNat) (zxor (ze Mz 89 (u52_).toNat) ((-1)))
                              have hzz_ := zpa_n (b := (ze Mz 89 (u20_).toNat).toNat) (w := (ze Mz 89 (u52_).toNat).toNat) (by omega) (by omega)
                              rw [Int.toNat_of_nonneg hs1_.2.1, Int.toNat_of_nonneg hs2_.2.1] at hzz_
                              refine zr_if_ne (pc := 111) (tgt := 130) ⟨(by omega), (by omega)⟩ (by decide) (zdal_p dlD_M_moebius_50 (i := 13) rfl) (fun hc_111 => ?_) (fun hc_111 => ?_)
                              · skip
                                refine zr_iinc (pc := 130) (i := 4) (a := u52_) (n := 1) (L2 := [some (.ref 81), some (.int (Int32.ofInt a0_)), some (.int (Int32.ofInt u3_)), some (.int (Int32.ofInt u20_)), some (.int (Int32.ofInt (u52_ + 1)))]) rfl (by decide) rfl (zdal_p dlD_M_moebius_51 (i := 1) rfl) ?_
                                refine zw_goto (pc := 133) (tgt := 72) (by decide) (zdal_p dlD_M_moebius_51 (i := 2) rfl) ?_
                                have hmpn_ : zMuP T (fun k_ => (ze Mz 89 k_).toNat) (fun k_ => ze N53_ 106 k_) (u20_).toNat (ze N53_ 106 (u20_).toNat) ((u52_ + 1)).toNat := by first | exact hmp1_ | exact zMuP_n (by omega) hmp_ (fun q_ => absurd (gSs_cb hO q_ (hEn_.1 _ (by omega))) (by first | omega | (dsimp only; omega))) | exact zMuP_n (by omega) hmp_ (fun q_ => absurd (hzz_.mpr q_.2) (by omega))
                                have hmtn_ : zMuS T (fun k_ => (ze Mz 89 k_).toNat) (ze Mz 81 25).toNat (fun k_ => ze N53_ 106 k_) u3_ (u20_).toNat := by first | exact hmt1_ | exact hmt_
                                exact ih_72 (u52_ + 1) (by omega) (by omega) N53_ hs54_ (show 0 ≤ (u52_ + 1) by first | with_reducible assumption | assumption | omega) (show (u52_ + 1) ≤ ze Mz 81 25 by first | with_reducible assumption | assumption | omega) (show zMuS T (fun k_ => (ze Mz 89 k_).toNat) (ze Mz 81 25).toNat (fun k_ => ze N53_ 106 k_) u3_ (u20_).toNat by exact hmtn_) (show zMuP T (fun k_ => (ze Mz 89 k_).toNat) (fun k_ => ze N53_ 106 k_) (u20_).toNat (ze N53_ 106 (u20_).toNat) ((u52_ + 1)).toNat by exact hmpn_) (by omega)
                              · skip
                                refine zw_aload_n (pc := 114) (n := 0) (x := 81) rfl (zdal_p dlD_M_moebius_50 (i := 14) rfl) ?_
                                refine zr_getF (r := 106) (hf_N53_.w hW) (pc := 115) f_M_90 rfl (zh_106 (hf_N53_.w hW)).1 (zdal_p dlD_M_moebius_50 (i := 15) rfl) ?_
                                refine zw_iload_n (pc := 118) (n := 3) (x := Int32.ofInt u20_) rfl (zdal_p dlD_M_moebius_50 (i := 16) rfl) ?_
                                refine zw_dup2 (pc := 119) rfl rfl (zdal_p dlD_M_moebius_50 (i := 17) rfl) ?_
                                refine zr_ialdn (pc := 120) (zh_106 (hf_N53_.w hW)).2 (by decide) (by omega) (by omega) (zdal_p dlD_M_moebius_50 (i := 18) rfl) (fun v73_ hv73_ hv73_a hv73_b => ?_)
                                have hr1_ := hv73_
                                refine zw_aload_n (pc := 121) (n := 0) (x := 81) rfl (zdal_p dlD_M_moebius_50 (i := 19) rfl) ?_
                                refine zr_getF (r := 106) (hf_N53_.w hW) (pc := 122) f_M_90 rfl (zh_106 (hf_N53_.w hW)).1 (zdal_p dlD_M_moebius_50 (i := 20) rfl) ?_
                                refine zw_iload (pc := 125) (i := 4) (x := Int32.ofInt u52_) rfl (zdal_p dlD_M_moebius_50 (i := 21) rfl) ?_
                                refine zr_ialdn (pc := 127) (zh_106 (hf_N53_.w hW)).2 (by decide) (by omega) (by omega) (zdal_p dlD_M_moebius_50 (i := 22) rfl) (fun v74_ hv74_ hv74_a hv74_b => ?_)
                                have hr2_ := hv74_
                                refine zr_isub (pc := 128) (zdal_p dlD_M_moebius_50 (i := 23) rfl) ?_
                                refine zk_nmW (fun v75_ hv75_ hv75_w => ?_)
                                obtain ⟨hv75_a, hv75_b⟩ := hv75_
                                have hwv_ : z32w v75_ (ze N53_ 106 (u20_).toNat - ze N53_ 106 (u52_).toNat) := z32w_e hv75_w (by rw [hr1_, hr2_])
                                refine zr_iast (pc := 129) (zh_106 (hf_N53_.w hW)).2 (by decide) (by decide) (by omega) (by omega) (zdal_p dlD_M_moebius_51 (i := 0) rfl) (fun N76_ hN76_ hsN76_ => ?_)
                                have hf_N76_ : zFr [] [106] Mz N76_ := hf_N53_.tr hsN76_ (by decide) (by decide)
                                have hb0_N76_ : zFr [] [106] Mz N76_ := hb0_N53_.tr hsN76_ (by decide) (by decide)
                                have hb1_N76_ : zFr [] [106] N4_ N76_ := hb1_N53_.tr hsN76_ (by decide) (by decide)
                                have hb2_N76_ : zFr [] [106] N44_ N76_ := hs54_.tr hsN76_ (by decide) (by decide)
                                have e20_N76_ : ze N76_ 81 20 = ze N53_ 81 20 := hsN76_.e (by decide)
                                have e25_N76_ : ze N76_ 81 25 = ze N53_ 81 25 := hsN76_.e (by decide)
                                have e26_N76_ : ze N76_ 81 26 = ze N53_ 81 26 := hsN76_.e (by decide)
                                have c77_ : zGB T N76_ := zGB.fr hsN76_ c59_ (by decide) (by decide)
                                have c78_ : zTab T N76_ := zTab.fr hsN76_ c60_ (by decide) (by decide)
                                have c79_ : zB 85 144 0 5 N76_ := zB.fr hsN76_ c61_ (by decide) (by decide)
                                have c80_ : zJX T N76_ := zJX.fr hsN76_ c62_ (by decide) (by decide)
                                have c81_ : zFirs T N76_ := zFirs.fr hsN76_ c63_ (by decide) (by decide)
                                have c82_ : zSSm T N76_ := zSSm.fr hsN76_ c64_ (by decide) (by decide)
                                have c83_ : zGD N76_ := zGD.fr hsN76_ c65_ (by decide) (by decide)
                                have hq1_ := zeW hN76_ ⟨by omega, by omega⟩
                                have hx1_ := zs_get hN76_ ⟨by omega, by omega⟩
                                have hcq_ : gcb (ze Mz 89 (u20_).toNat).toNat < gcb (ze Mz 89 (u52_).toNat).toNat := by omega
                                have hgt_ : gSs (ze Mz 89 (u20_).toNat).toNat (ze Mz 89 (u52_).toNat).toNat := ⟨fun e_ => by rw [e_] at hcq_; omega, hzz_.mp (by omega)⟩
                                have hmt1_ := zMuS_p (r' := (fun k_ => ze N76_ 106 k_)) hO hEn_ hmt_ (by omega) hisz_ hq1_
                                have hmp1_ := zMuP_p (r' := (fun k_ => ze N76_ 106 k_)) (zMuP_1 (by omega) hmp_ hgt_ hwv_) hq1_
                                rw [← hx1_] at hmp1_
                                refine zr_iinc (pc := 130) (i := 4) (a := u52_) (n := 1) (L2 := [some (.ref 81), some (.int (Int32.ofInt a0_)), some (.int (Int32.ofInt u3_)), some (.int (Int32.ofInt u20_)), some (.int (Int32.ofInt (u52_ + 1)))]) rfl (by decide) rfl (zdal_p dlD_M_moebius_51 (i := 1) rfl) ?_
                                refine zw_goto (pc := 133) (tgt := 72) (by decide) (zdal_p dlD_M_moebius_51 (i := 2) rfl) ?_
                                have hmpn_ : zMuP T (fun k_ => (ze Mz 89 k_).toNat) (fun k_ => ze N76_ 106 k_) (u20_).toNat (ze N76_ 106 (u20_).toNat) ((u52_ + 1)).toNat := by first | exact hmp1_ | exact zMuP_n (by omega) hmp_ (fun q_ => absurd (gSs_cb hO q_ (hEn_.1 _ (by omega))) (by first | omega | (dsimp only; omega))) | exact zMuP_n (by omega) hmp_ (fun q_ => absurd (hzz_.mpr q_.2) (by omega))
                                have hmtn_ : zMuS T (fun k_ => (ze Mz 89 k_).toNat) (ze Mz 81 25).toNat (fun k_ => ze N76_ 106 k_) u3_ (u20_).toNat := by first | exact hmt1_ | exact hmt_
                                exact ih_72 (u52_ + 1) (by omega) (by omega) N76_ hb2_N76_ (show 0 ≤ (u52_ + 1) by first | with_reducible assumption | assumption | omega) (show (u52_ + 1) ≤ ze Mz 81 25 by first | with_reducible assumption | assumption | omega) (show zMuS T (fun k_ => (ze Mz 89 k_).toNat) (ze Mz 81 25).toNat (fun k_ => ze N76_ 106 k_) u3_ (u20_).toNat by exact hmtn_) (show zMuP T (fun k_ => (ze Mz 89 k_).toNat) (fun k_ => ze N76_ 106 k_) (u20_).toNat (ze N76_ 106 (u20_).toNat) ((u52_ + 1)).toNat by exact hmpn_) (by omega)
                      exact lp_72 _ 0 (by decide) (by decide) N44_ zFr.rf (show 0 ≤ (0 : Int) by first | with_reducible assumption | assumption | omega) (show (0 : Int) ≤ ze Mz 81 25 by first | with_reducible assumption | assumption | omega) (show zMuS T (fun k_ => (ze Mz 89 k_).toNat) (ze Mz 81 25).toNat (fun k_ => ze N44_ 106 k_) u3_ (u20_).toNat by exact hmt0_) (show zMuP T (fun k_ => (ze Mz 89 k_).toNat) (fun k_ => ze N44_ 106 k_) (u20_).toNat (ze N44_ 106 (u20_).toNat) ((0 : Int)).toNat by exact hmp0_) (Nat.lt_succ_self _)
                    refine zr_icmp_ne (pc := 57) (tgt := 64) ⟨hu3_a, hu3_b⟩ ⟨(ze_r Mz 81 20).1, (ze_r Mz 81 20).2⟩ (by decide) (zdal_p dlD_M_moebius_49 (i := 7) rfl) (fun hc_57 => ?_) (fun hc_57 => ?_)
                    · skip
                      refine zw_iconst (pc := 64) (v := Int32.ofInt 0) (by decide) (zdal_p dlD_M_moebius_49 (i := 10) rfl) ?_
                      exact j_65 u20_ hu20_a hu20_b 0 (by decide) (by decide) (by omega) (show 0 = zMuD T (ze Mz 89 (u20_).toNat).toNat by exact zMuD_c hO (hEn_.1 (u20_).toNat (by omega)) hisz_ (by omega)) (show 0 ≤ 0 by first | with_reducible assumption | assumption | omega) (show 0 ≤ 1 by first | with_reducible assumption | assumption | omega) (show u20_ = u20_ by first | with_reducible assumption | assumption | omega)
                    · skip
                      refine zw_iconst (pc := 60) (v := Int32.ofInt 1) (by decide) (zdal_p dlD_M_moebius_49 (i := 8) rfl) ?_
                      refine zw_goto (pc := 61) (tgt := 65) (by decide) (zdal_p dlD_M_moebius_49 (i := 9) rfl) ?_
                      exact j_65 u20_ hu20_a hu20_b 1 (by decide) (by decide) (by omega) (show 1 = zMuD T (ze Mz 89 (u20_).toNat).toNat by exact zMuD_c hO (hEn_.1 (u20_).toNat (by omega)) hisz_ (by omega)) (show 0 ≤ 1 by first | with_reducible assumption | assumption | omega) (show 1 ≤ 1 by first | with_reducible assumption | assumption | omega) (show u20_ = u20_ by first | with_reducible assumption | assumption | omega)
                  · skip
                    have hms2_ := zMuS_m (by omega) hmk_ (show ¬ (gcb (ze Mz 89 (u20_).toNat).toNat : Int) = u3_ by omega)
                    refine zw_goto (pc := 44) (tgt := 136) (by decide) (zdal_p dlD_M_moebius_49 (i := 0) rfl) ?_
                    refine zr_iinc (pc := 136) (i := 3) (a := u20_) (n := 1) (L2 := [some (.ref 81), some (.int (Int32.ofInt a0_)), some (.int (Int32.ofInt u3_)), some (.int (Int32.ofInt (u20_ + 1))), none]) rfl (by decide) rfl (zdal_p dlD_M_moebius_51 (i := 3) rfl) ?_
                    refine zw_goto (pc := 139) (tgt := 23) (by decide) (zdal_p dlD_M_moebius_51 (i := 4) rfl) ?_
                    have hmsn_ : zMuS T (fun k_ => (ze Mz 89 k_).toNat) (ze Mz 81 25).toNat (fun k_ => ze N21_ 106 k_) u3_ ((u20_ + 1)).toNat := by first | exact hms2_ | exact zMuS_e (by omega) hmt_ ⟨ze_r _ _ _, zMuP_k hmp_ (by omega)⟩
                    exact ih_23 (u20_ + 1) (by omega) (by omega) N21_ hs22_ (show 0 ≤ (u20_ + 1) by first | with_reducible assumption | assumption | omega) (show (u20_ + 1) ≤ ze Mz 81 25 by first | with_reducible assumption | assumption | omega) (show zMuS T (fun k_ => (ze Mz 89 k_).toNat) (ze Mz 81 25).toNat (fun k_ => ze N21_ 106 k_) u3_ ((u20_ + 1)).toNat by exact hmsn_) (by omega)
            exact lp_23 _ 0 (by decide) (by decide) N4_ zFr.rf (show 0 ≤ (0 : Int) by first | with_reducible assumption | assumption | omega) (show (0 : Int) ≤ ze Mz 81 25 by first | with_reducible assumption | assumption | omega) (show zMuS T (fun k_ => (ze Mz 89 k_).toNat) (ze Mz 81 25).toNat (fun k_ => ze N4_ 106 k_) u3_ ((0 : Int)).toNat by exact hms_) (Nat.lt_succ_self _)
      exact lp_17 _ (ze Mz 81 20) (ze_r Mz 81 20).1 (ze_r Mz 81 20).2 Mz zFr.rf (show 0 ≤ (ze Mz 81 20) by first | with_reducible assumption | assumption | omega) (show (ze Mz 81 20) ≤ gN T by first | with_reducible assumption | assumption | omega) (show zMuS T (fun k_ => (ze Mz 89 k_).toNat) (ze Mz 81 25).toNat (fun k_ => ze Mz 106 k_) (ze Mz 81 20) 0 by exact zMuS_0 hO hEn_ (by omega)) (Nat.lt_succ_self _)
    · skip
      exact absurd hc_5 (by decide)
  · skip
    show zW l m_M_moebius (zn Mz + 0, zw Mz + 0) Mz 5 [some (.ref 81), some (.int (Int32.ofInt a0_)), none, none, none] [.int (Int32.ofInt 0)] _
    refine zr_if_ne (pc := 5) (tgt := 12) ⟨(by decide), (by decide)⟩ (by decide) (zdal_p dlD_M_moebius_48 (i := 3) rfl) (fun hc_5 => ?_) (fun hc_5 => ?_)
    · skip
      exact absurd hc_5 (by decide)
    · skip
      refine zw_ldcw (pc := 8) (v := Int32.ofInt (-1000000)) (by rw [show Int32.ofInt (-1000000) = ((-1000000) : Int32) by decide]; exact k_M_435) (zdal_p dlD_M_moebius_48 (i := 4) rfl) ?_
      exact zr_iret (pc := 11) (ty := .int) rfl rfl ⟨by omega, by omega⟩ hf (show ((0 ≤ a0_ ∧ a0_ < ((gF T).length : Int) ∧ zfMu T (a0_).toNat ((-1000000))) ∨ (¬ (0 ≤ a0_ ∧ a0_ < ((gF T).length : Int)) ∧ ((-1000000)) = (-1000000 : Int))) by exact Or.inr ⟨by omega, rfl⟩) (zdal_p dlD_M_moebius_48 (i := 5) rfl)
