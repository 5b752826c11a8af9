set_option maxHeartbeats 4000000 in
theorem c_M_sortOfSetG (l : Launch) (Mz : zMem) (hW : zMt Mz) (a0_ : Int) (ha0_a : -2147483648 ≤ a0_) (ha0_b : a0_ < 2147483648) (T : zGT) (hO : gOK T) (p0_ : zGB T Mz) (p1_ : gMe T a0_) : zC l m_M_sortOfSet 0 0 [.ref 81, .int (Int32.ofInt a0_)] Mz (zpI [] [] Mz (fun v N => zSrt T (a0_).toNat v)) := by
  refine zC_of (L0 := [some (.ref 81), some (.int (Int32.ofInt a0_))]) md_M_sortOfSet (Nat.le_of_ble_eq_true rfl) rfl ?_ zQ0
  have hf : zFr [] [] Mz Mz := zFr.rf
  have r_25 := ze_r Mz 81 25
  have hG := hO.1
  have g24 := hG.2.1
  have g1 := hG.1
  have dv0 : zTab T Mz := p0_.1
  have dv1 : zB 85 144 0 5 Mz := p0_.2.1
  have dv2 : zJX T Mz := p0_.2.2.1
  have dv3 : zFirs T Mz := p0_.2.2.2.1
  have dv4 : zSSm T Mz := p0_.2.2.2.2.1
  have dv5 : zGD Mz := zGB.d hO p0_
  have gb := dv5.1
  have gn := dv0.1
  refine zw_aload_n (pc := 0) (n := 0) (x := 81) rfl (zdal_p dlD_M_sortOfSet_13 (i := 0) rfl) ?_
  refine zr_getF (r := 90) (hf.w hW) (pc := 1) f_M_41 rfl (zh_90 (hf.w hW)).1 (zdal_p dlD_M_sortOfSet_13 (i := 1) rfl) ?_
  refine zw_aload_n (pc := 4) (n := 0) (x := 81) rfl (zdal_p dlD_M_sortOfSet_13 (i := 2) rfl) ?_
  refine zw_iload_n (pc := 5) (n := 1) (x := Int32.ofInt a0_) rfl (zdal_p dlD_M_sortOfSet_13 (i := 3) rfl) ?_
  refine zr_callV (hf.w hW) hf.x (pc := 6) [.int (Int32.ofInt a0_)] [.ref 90] l_M_232 (c_M_subIndex l Mz (hf.w hW) a0_ ha0_a ha0_b (show 0 ≤ ze Mz 81 25 by first | assumption | omega) (show ze Mz 81 25 ≤ 128 by first | assumption | omega)) rfl rfl rfl (by decide) (Nat.le_of_ble_eq_true rfl) (zdal_p dlD_M_sortOfSet_13 (i := 4) rfl) ?_
  rintro _ N1_ ⟨v2_, rfl, ⟨hv2_a, hv2_b⟩, hsN1_, hp0_N1_⟩
  obtain rfl := hsN1_.eq.symm
  replace hp0_N1_ : ((0 ≤ v2_ ∧ v2_ < ze Mz 81 25 ∧ ze Mz 89 (v2_).toNat = a0_) ∨ (v2_ = -1 ∧ ∀ k : Nat, (k : Int) < ze Mz 81 25 → ze Mz 89 k ≠ a0_)) := hp0_N1_
  rcases hp0_N1_ with ⟨ha6_0_hp0_N1_, ha6_1_hp0_N1_, ha6_2_hp0_N1_⟩ | ⟨rfl, ha6_0_hp0_N1_⟩
  · skip
    show zW l m_M_sortOfSet (zn Mz + 0, zw Mz + 0) Mz 9 [some (.ref 81), some (.int (Int32.ofInt a0_))] [.int (Int32.ofInt v2_), .ref 90] _
    have hs := dv4 (v2_).toNat (by omega)
    have hsx_ := zSS.o (k := (v2_).toNat) hO dv3 dv4 (by omega)
    have hsi_ := (show ze Mz 89 (v2_).toNat = a0_ by assumption)
    rw [hsi_] at hsx_
    refine zr_ialdn (pc := 9) (zh_90 (hf.w hW)).2 (by decide) (by omega) (by omega) (zdal_p dlD_M_sortOfSet_13 (i := 5) rfl) (fun v3_ hv3_ hv3_a hv3_b => ?_)
    have hv_ := hv3_
    exact zr_iret (pc := 10) (ty := .int) rfl rfl ⟨by omega, by omega⟩ hf (show zSrt T (a0_).toNat v3_ by rw [hv_]; exact hsx_) (zdal_p dlD_M_sortOfSet_13 (i := 6) rfl)
  · skip
    obtain ⟨i0, hi0, hi1⟩ := (p1_).f hO dv2
    exact absurd hi1 (ha6_0_hp0_N1_ i0 hi0)
set_option maxHeartbeats 4000000 in
theorem c_M_mixedG (l : Launch) (Mz : zMem) (hW : zMt Mz) (a0_ : Int) (ha0_a : -2147483648 ≤ a0_) (ha0_b : a0_ < 2147483648) (T : zGT) (hO : gOK T) (hGr_ : gGr T) (p0_ : zGB T Mz) : zC l m_M_mixed 0 0 [.ref 81, .int (Int32.ofInt a0_)] Mz (zpI [] [] Mz (fun v N => (((0 ≤ a0_ ∧ a0_ < ((gF T).length : Int) ∧ ∃ r_ : Int, zMxI T (gFn T (a0_).toNat) (gN T) 0 r_ ∧ ∃ R_ : Nat, gLC T r_.toNat R_ ∧ zSrt T R_ v) ∨ (¬ (0 ≤ a0_ ∧ a0_ < ((gF T).length : Int)) ∧ v = (-1 : Int)))))) := by
  refine zC_of (L0 := [some (.ref 81), some (.int (Int32.ofInt a0_)), none, none, none]) md_M_mixed (Nat.le_of_ble_eq_true rfl) rfl ?_ zQ0
  have hf : zFr [] [] Mz Mz := zFr.rf
  have r_20 := ze_r Mz 81 20
  have r_26 := ze_r Mz 81 26
  have hG := hO.1
  have g24 := hG.2.1
  have g1 := hG.1
  have dv0 : zTab T Mz := p0_.1
  have dv1 : zB 85 144 0 5 Mz := p0_.2.1
  have dv2 : zJX T Mz := p0_.2.2.1
  have dv3 : zFirs T Mz := p0_.2.2.2.1
  have dv4 : zSSm T Mz := p0_.2.2.2.2.1
  have dv5 : zGD Mz := zGB.d hO p0_
  have gb := dv5.1
  have gn := dv0.1
  have hfl_ := dv3.1
  have hsz_ := dv0.1
  refine zw_aload_n (pc := 0) (n := 0) (x := 81) rfl (zdal_p dlD_M_mixed_52 (i := 0) rfl) ?_
  refine zw_iload_n (pc := 1) (n := 1) (x := Int32.ofInt a0_) rfl (zdal_p dlD_M_mixed_52 (i := 1) rfl) ?_
  refine zr_callV (hf.w hW) hf.x (pc := 2) [.int (Int32.ofInt a0_)] [] l_M_414 (c_M_isSortG l Mz (hf.w hW) a0_ ha0_a ha0_b T hO p0_) rfl rfl rfl (by decide) (Nat.le_of_ble_eq_true rfl) (zdal_p dlD_M_mixed_52 (i := 2) rfl) ?_
  rintro _ N1_ ⟨v2_, rfl, ⟨hv2_a, hv2_b⟩, hsN1_, hp0_N1_⟩
  obtain rfl := hsN1_.eq.symm
  replace hp0_N1_ : ((v2_ = 1 ∧ 0 ≤ a0_ ∧ a0_ < ze Mz 81 26) ∨ (v2_ = 0 ∧ (a0_ < 0 ∨ ze Mz 81 26 ≤ a0_))) := hp0_N1_
  rcases hp0_N1_ with ⟨rfl, ha2_0_hp0_N1_, ha2_1_hp0_N1_⟩ | ⟨rfl, ha2_0_hp0_N1_⟩
  · skip
    show zW l m_M_mixed (zn Mz + 0, zw Mz + 0) Mz 5 [some (.ref 81), some (.int (Int32.ofInt a0_)), none, none, none] [.int (Int32.ofInt 1)] _
    refine zr_if_ne (pc := 5) (tgt := 10) ⟨(by decide), (by decide)⟩ (by decide) (zdal_p dlD_M_mixed_52 (i := 3) rfl) (fun hc_5 => ?_) (fun hc_5 => ?_)
    · skip
      refine zw_iconst (pc := 10) (v := Int32.ofInt 0) (by decide) (zdal_p dlD_M_mixed_52 (i := 6) rfl) ?_
      refine zw_istore_n (pc := 11) (i := 2) (L2 := [some (.ref 81), some (.int (Int32.ofInt a0_)), some (.int (Int32.ofInt 0)), none, none]) rfl (by decide) rfl (zdal_p dlD_M_mixed_52 (i := 7) rfl) ?_
      refine zw_iconst (pc := 12) (v := Int32.ofInt 0) (by decide) (zdal_p dlD_M_mixed_52 (i := 8) rfl) ?_
      refine zw_istore_n (pc := 13) (i := 3) (L2 := [some (.ref 81), some (.int (Int32.ofInt a0_)), some (.int (Int32.ofInt 0)), some (.int (Int32.ofInt 0)), none]) rfl (by decide) rfl (zdal_p dlD_M_mixed_52 (i := 9) rfl) ?_
      have lp_14 : ∀ (n : Nat) (u3_ : Int) (hu3_a : -2147483648 ≤ u3_) (hu3_b : u3_ < 2147483648) (u4_ : Int) (hu4_a : -2147483648 ≤ u4_) (hu4_b : u4_ < 2147483648) (i5_ : 0 ≤ u4_) (i6_ : u4_ ≤ gN T) (i7_ : zMxI T (gFn T (a0_).toNat) u4_ 0 u3_), (gN T - u4_).toNat < n → zW l m_M_mixed (zn Mz + 0, zw Mz + 0) Mz 14 [some (.ref 81), some (.int (Int32.ofInt a0_)), some (.int (Int32.ofInt u3_)), some (.int (Int32.ofInt u4_)), none] [] (zpI [] [] Mz (fun v N => (((0 ≤ a0_ ∧ a0_ < ((gF T).length : Int) ∧ ∃ r_ : Int, zMxI T (gFn T (a0_).toNat) (gN T) 0 r_ ∧ ∃ R_ : Nat, gLC T r_.toNat R_ ∧ zSrt T R_ v) ∨ (¬ (0 ≤ a0_ ∧ a0_ < ((gF T).length : Int)) ∧ v = (-1 : Int)))))) := by
        intro n
        induction n with
        | zero =>
          intro u3_ hu3_a hu3_b u4_ hu4_a hu4_b i5_ i6_ i7_ h0
          exact absurd h0 (Nat.not_lt_zero _)
        | succ n ih_14 =>
          intro u3_ hu3_a hu3_b u4_ hu4_a hu4_b i5_ i6_ i7_ hlt_14
          have hma_ := (show zMxI T (gFn T (a0_).toNat) u4_ 0 u3_ by assumption)
          have hmr0_ := hma_.1
          refine zw_iload_n (pc := 14) (n := 3) (x := Int32.ofInt u4_) rfl (zdal_p dlD_M_mixed_52 (i := 10) rfl) ?_
          refine zw_aload_n (pc := 15) (n := 0) (x := 81) rfl (zdal_p dlD_M_mixed_52 (i := 11) rfl) ?_
          refine zr_getI0 hf hW (pc := 16) (by decide) f_M_196 rfl (zdal_p dlD_M_mixed_52 (i := 12) rfl) ?_
          refine zr_icmp_ge (pc := 19) (tgt := 106) ⟨hu4_a, hu4_b⟩ ⟨(ze_r Mz 81 20).1, (ze_r Mz 81 20).2⟩ (by decide) (zdal_p dlD_M_mixed_52 (i := 13) rfl) (fun hc_19 => ?_) (fun hc_19 => ?_)
          · skip
            refine zw_aload_n (pc := 106) (n := 0) (x := 81) rfl (zdal_p dlD_M_mixed_54 (i := 11) rfl) ?_
            refine zw_aload_n (pc := 107) (n := 0) (x := 81) rfl (zdal_p dlD_M_mixed_54 (i := 12) rfl) ?_
            refine zw_iload_n (pc := 108) (n := 2) (x := Int32.ofInt u3_) rfl (zdal_p dlD_M_mixed_54 (i := 13) rfl) ?_
            refine zr_callV (hf.w hW) hf.x (pc := 109) [.int (Int32.ofInt u3_)] [.ref 81] l_M_229 (c_M_closed l Mz (hf.w hW) u3_ hu3_a hu3_b T hG dv0 (show gIn T u3_ by exact ⟨hmr0_.1, hmr0_.2.2⟩)) rfl rfl rfl (by decide) (Nat.le_of_ble_eq_true rfl) (zdal_p dlD_M_mixed_54 (i := 14) rfl) ?_
            rintro _ N8_ ⟨v9_, rfl, ⟨hv9_a, hv9_b⟩, hsN8_, ⟨hp0_N8_, hp1_N8_, hp2_N8_⟩⟩
            obtain rfl := hsN8_.eq.symm
            show zW l m_M_mixed (zn Mz + 0, zw Mz + 0) Mz 112 [some (.ref 81), some (.int (Int32.ofInt a0_)), some (.int (Int32.ofInt u3_)), some (.int (Int32.ofInt u4_)), none] [.int (Int32.ofInt v9_), .ref 81] _
            have hm_Mz := gMe_c hO hp0_N8_ (by omega)
            have hlc_ := hp0_N8_
            refine zr_callV (hf.w hW) hf.x (pc := 112) [.int (Int32.ofInt v9_)] [] l_M_411 (c_M_sortOfSetG l Mz (hf.w hW) v9_ hv9_a hv9_b T hO p0_ (show gMe T v9_ by assumption)) rfl rfl rfl (by decide) (Nat.le_of_ble_eq_true rfl) (zdal_p dlD_M_mixed_54 (i := 15) rfl) ?_
            rintro _ N10_ ⟨v11_, rfl, ⟨hv11_a, hv11_b⟩, hsN10_, hp0_N10_⟩
            obtain rfl := hsN10_.eq.symm
            replace hp0_N10_ : zSrt T (v9_).toNat v11_ := hp0_N10_
            show zW l m_M_mixed (zn Mz + 0, zw Mz + 0) Mz 115 [some (.ref 81), some (.int (Int32.ofInt a0_)), some (.int (Int32.ofInt u3_)), some (.int (Int32.ofInt u4_)), none] [.int (Int32.ofInt v11_)] _
            have hsp_ := hp0_N10_
            exact zr_iret (pc := 115) (ty := .int) rfl rfl ⟨by omega, by omega⟩ hf (show ((0 ≤ a0_ ∧ a0_ < ((gF T).length : Int) ∧ ∃ r_ : Int, zMxI T (gFn T (a0_).toNat) (gN T) 0 r_ ∧ ∃ R_ : Nat, gLC T r_.toNat R_ ∧ zSrt T R_ v11_) ∨ (¬ (0 ≤ a0_ ∧ a0_ < ((gF T).length : Int)) ∧ v11_ = (-1 : Int))) by exact Or.inl ⟨by omega, by omega, _, by rw [show (gN T : Int) = u4_ by omega]; exact hma_, _, hlc_, hsp_⟩) (zdal_p dlD_M_mixed_54 (i := 16) rfl)
          · skip
            refine zw_iconst (pc := 22) (v := Int32.ofInt 0) (by decide) (zdal_p dlD_M_mixed_52 (i := 14) rfl) ?_
            refine zw_istore (pc := 23) (i := 4) (L2 := [some (.ref 81), some (.int (Int32.ofInt a0_)), some (.int (Int32.ofInt u3_)), some (.int (Int32.ofInt u4_)), some (.int (Int32.ofInt 0))]) (by decide) rfl (zdal_p dlD_M_mixed_52 (i := 15) rfl) ?_
            have lp_25 : ∀ (n : Nat) (u12_ : Int) (hu12_a : -2147483648 ≤ u12_) (hu12_b : u12_ < 2147483648) (u13_ : Int) (hu13_a : -2147483648 ≤ u13_) (hu13_b : u13_ < 2147483648) (i14_ : 0 ≤ u13_) (i15_ : u13_ ≤ gN T) (i16_ : zMxI T (gFn T (a0_).toNat) u4_ u13_ u12_), (gN T - u13_).toNat < n → zW l m_M_mixed (zn Mz + 0, zw Mz + 0) Mz 25 [some (.ref 81), some (.int (Int32.ofInt a0_)), some (.int (Int32.ofInt u12_)), some (.int (Int32.ofInt u4_)), some (.int (Int32.ofInt u13_))] [] (zpI [] [] Mz (fun v N => (((0 ≤ a0_ ∧ a0_ < ((gF T).length : Int) ∧ ∃ r_ : Int, zMxI T (gFn T (a0_).toNat) (gN T) 0 r_ ∧ ∃ R_ : Nat, gLC T r_.toNat R_ ∧ zSrt T R_ v) ∨ (¬ (0 ≤ a0_ ∧ a0_ < ((gF T).length : Int)) ∧ v = (-1 : Int)))))) := by
              intro n
              induction n with
              | zero =>
                intro u12_ hu12_a hu12_b u13_ hu13_a hu13_b i14_ i15_ i16_ h0
                exact absurd h0 (Nat.not_lt_zero _)
              | succ n ih_25 =>
                intro u12_ hu12_a hu12_b u13_ hu13_a hu13_b i14_ i15_ i16_ hlt_25
                have hmb_ := (show zMxI T (gFn T (a0_).toNat) u4_ u13_ u12_ by assumption)
                have hmr_ := hmb_.1
                refine zw_iload (pc := 25) (i := 4) (x := Int32.ofInt u13_) rfl (zdal_p dlD_M_mixed_52 (i := 16) rfl) ?_
                refine zw_aload_n (pc := 27) (n := 0) (x := 81) rfl (zdal_p dlD_M_mixed_52 (i := 17) rfl) ?_
                refine zr_getI0 hf hW (pc := 28) (by decide) f_M_196 rfl (zdal_p dlD_M_mixed_52 (i := 18) rfl) ?_
                refine zr_icmp_ge (pc := 31) (tgt := 100) ⟨hu13_a, hu13_b⟩ ⟨(ze_r Mz 81 20).1, (ze_r Mz 81 20).2⟩ (by decide) (zdal_p dlD_M_mixed_52 (i := 19) rfl) (fun hc_31 => ?_) (fun hc_31 => ?_)
                · skip
                  refine zr_iinc (pc := 100) (i := 3) (a := u4_) (n := 1) (L2 := [some (.ref 81), some (.int (Int32.ofInt a0_)), some (.int (Int32.ofInt u12_)), some (.int (Int32.ofInt (u4_ + 1))), some (.int (Int32.ofInt u13_))]) rfl (by decide) rfl (zdal_p dlD_M_mixed_54 (i := 9) rfl) ?_
                  refine zw_goto (pc := 103) (tgt := 14) (by decide) (zdal_p dlD_M_mixed_54 (i := 10) rfl) ?_
                  have hmf_ := zMxI_f (by omega) hmb_
                  refine zW_le [some (.ref 81), some (.int (Int32.ofInt a0_)), some (.int (Int32.ofInt u12_)), some (.int (Int32.ofInt (u4_ + 1))), none] (⟨rfl, rfl, rfl, rfl, trivial⟩) ?_
                  exact ih_14 u12_ hu12_a hu12_b (u4_ + 1) (by omega) (by omega) (show 0 ≤ (u4_ + 1) by first | assumption | omega) (show (u4_ + 1) ≤ gN T by first | assumption | omega) (show zMxI T (gFn T (a0_).toNat) (u4_ + 1) 0 u12_ by exact hmf_) (by omega)
                · skip
                  refine zw_aload_n (pc := 34) (n := 0) (x := 81) rfl (zdal_p dlD_M_mixed_52 (i := 20) rfl) ?_
                  refine zr_getF (r := 91) (hf.w hW) (pc := 35) f_M_44 rfl (zh_91 (hf.w hW)).1 (zdal_p dlD_M_mixed_52 (i := 21) rfl) ?_
                  refine zw_iload_n (pc := 38) (n := 1) (x := Int32.ofInt a0_) rfl (zdal_p dlD_M_mixed_52 (i := 22) rfl) ?_
                  refine zr_ialdn (pc := 39) (zh_91 (hf.w hW)).2 (by decide) (by omega) (by omega) (zdal_p dlD_M_mixed_52 (i := 23) rfl) (fun v17_ hv17_ hv17_a hv17_b => ?_)
                  have hf_x := dv3.g hO (e := a0_) (by omega) (by omega)
                  refine zr_toI (show v17_ = ze Mz 91 (a0_).toNat by omega) ?_
                  have hfv_ : ze Mz 91 (a0_).toNat = ((gFn T (a0_).toNat : Nat) : Int) := dv3.2 _ (by omega)
                  refine zw_iload_n (pc := 40) (n := 3) (x := Int32.ofInt u4_) rfl (zdal_p dlD_M_mixed_53 (i := 0) rfl) ?_
                  refine zr_callS hf.x (pc := 41) [.int (Int32.ofInt (ze Mz 91 (a0_).toNat)), .int (Int32.ofInt u4_)] [] l_M_213 (c_M_holds l Mz (hf.w hW) (ze Mz 91 (a0_).toNat) (by omega) (by omega) u4_ hu4_a hu4_b (show 0 ≤ (ze Mz 91 (a0_).toNat) by first | assumption | omega) (show 0 ≤ u4_ by first | assumption | omega) (show u4_ < 32 by first | assumption | omega)) rfl rfl (by decide) (Nat.le_of_ble_eq_true rfl) (zdal_p dlD_M_mixed_53 (i := 1) rfl) ?_
                  rintro _ N18_ ⟨v19_, rfl, ⟨hv19_a, hv19_b⟩, hsN18_, hp0_N18_⟩
                  obtain rfl := hsN18_.eq.symm
                  replace hp0_N18_ : ((v19_ = 1 ∧ zbt (ze Mz 91 (a0_).toNat) u4_) ∨ (v19_ = 0 ∧ ¬ zbt (ze Mz 91 (a0_).toNat) u4_)) := hp0_N18_
                  rcases hp0_N18_ with ⟨rfl, ha41_0_hp0_N18_⟩ | ⟨rfl, ha41_0_hp0_N18_⟩
                  · skip
                    have hbx_ := (zbt_n hfv_).mp ha41_0_hp0_N18_
                    show zW l m_M_mixed (zn Mz + 0, zw Mz + 0) Mz 44 [some (.ref 81), some (.int (Int32.ofInt a0_)), some (.int (Int32.ofInt u12_)), some (.int (Int32.ofInt u4_)), some (.int (Int32.ofInt u13_))] [.int (Int32.ofInt 1)] _
                    refine zr_if_eq (pc := 44) (tgt := 94) ⟨(by decide), (by decide)⟩ (by decide) (zdal_p dlD_M_mixed_53 (i := 2) rfl) (fun hc_44 => ?_) (fun hc_44 => ?_)
                    · skip
                      exact absurd hc_44 (by decide)
                    · skip
                      refine zw_aload_n (pc := 47) (n := 0) (x := 81) rfl (zdal_p dlD_M_mixed_53 (i := 3) rfl) ?_
                      refine zr_getF (r := 91) (hf.w hW) (pc := 48) f_M_44 rfl (zh_91 (hf.w hW)).1 (zdal_p dlD_M_mixed_53 (i := 4) rfl) ?_
                      refine zw_iload_n (pc := 51) (n := 1) (x := Int32.ofInt a0_) rfl (zdal_p dlD_M_mixed_53 (i := 5) rfl) ?_
                      refine zr_ialdn (pc := 52) (zh_91 (hf.w hW)).2 (by decide) (by omega) (by omega) (zdal_p dlD_M_mixed_53 (i := 6) rfl) (fun v20_ hv20_ hv20_a hv20_b => ?_)
                      have hf_x := dv3.g hO (e := a0_) (by omega) (by omega)
                      refine zr_toI (show v20_ = ze Mz 91 (a0_).toNat by omega) ?_
                      have hfv_ : ze Mz 91 (a0_).toNat = ((gFn T (a0_).toNat : Nat) : Int) := dv3.2 _ (by omega)
                      refine zw_iload (pc := 53) (i := 4) (x := Int32.ofInt u13_) rfl (zdal_p dlD_M_mixed_53 (i := 7) rfl) ?_
                      refine zr_callS hf.x (pc := 55) [.int (Int32.ofInt (ze Mz 91 (a0_).toNat)), .int (Int32.ofInt u13_)] [] l_M_213 (c_M_holds l Mz (hf.w hW) (ze Mz 91 (a0_).toNat) (by omega) (by omega) u13_ hu13_a hu13_b (show 0 ≤ (ze Mz 91 (a0_).toNat) by first | assumption | omega) (show 0 ≤ u13_ by first | assumption | omega) (show u13_ < 32 by first | assumption | omega)) rfl rfl (by decide) (Nat.le_of_ble_eq_true rfl) (zdal_p dlD_M_mixed_53 (i := 8) rfl) ?_
                      rintro _ N21_ ⟨v22_, rfl, ⟨hv22_a, hv22_b⟩, hsN21_, hp0_N21_⟩
                      obtain rfl := hsN21_.eq.symm
                      replace hp0_N21_ : ((v22_ = 1 ∧ zbt (ze Mz 91 (a0_).toNat) u13_) ∨ (v22_ = 0 ∧ ¬ zbt (ze Mz 91 (a0_).toNat) u13_)) := hp0_N21_
                      rcases hp0_N21_ with ⟨rfl, ha55_0_hp0_N21_⟩ | ⟨rfl, ha55_0_hp0_N21_⟩
                      · skip
                        have hby_ := (zbt_n hfv_).mp ha55_0_hp0_N21_
                        show zW l m_M_mixed (zn Mz + 0, zw Mz + 0) Mz 58 [some (.ref 81), some (.int (Int32.ofInt a0_)), some (.int (Int32.ofInt u12_)), some (.int (Int32.ofInt u4_)), some (.int (Int32.ofInt u13_))] [.int (Int32.ofInt 1)] _
                        refine zr_if_eq (pc := 58) (tgt := 94) ⟨(by decide), (by decide)⟩ (by decide) (zdal_p dlD_M_mixed_53 (i := 9) rfl) (fun hc_58 => ?_) (fun hc_58 => ?_)
                        · skip
                          exact absurd hc_58 (by decide)
                        · skip
                          refine zw_iload_n (pc := 61) (n := 2) (x := Int32.ofInt u12_) rfl (zdal_p dlD_M_mixed_53 (i := 10) rfl) ?_
                          refine zw_iconst (pc := 62) (v := Int32.ofInt 1) (by decide) (zdal_p dlD_M_mixed_53 (i := 11) rfl) ?_
                          refine zw_aload_n (pc := 63) (n := 0) (x := 81) rfl (zdal_p dlD_M_mixed_53 (i := 12) rfl) ?_
                          refine zw_aload_n (pc := 64) (n := 0) (x := 81) rfl (zdal_p dlD_M_mixed_53 (i := 13) rfl) ?_
                          refine zw_aload_n (pc := 65) (n := 0) (x := 81) rfl (zdal_p dlD_M_mixed_53 (i := 14) rfl) ?_
                          refine zw_aload_n (pc := 66) (n := 0) (x := 81) rfl (zdal_p dlD_M_mixed_53 (i := 15) rfl) ?_
                          refine zr_getF (r := 88) (hf.w hW) (pc := 67) f_M_35 rfl (zh_88 (hf.w hW)).1 (zdal_p dlD_M_mixed_53 (i := 16) rfl) ?_
                          refine zw_iload_n (pc := 70) (n := 3) (x := Int32.ofInt u4_) rfl (zdal_p dlD_M_mixed_53 (i := 17) rfl) ?_
                          refine zr_ialdn (pc := 71) (zh_88 (hf.w hW)).2 (by decide) (by omega) (by omega) (zdal_p dlD_M_mixed_53 (i := 18) rfl) (fun v23_ hv23_ hv23_a hv23_b => ?_)
                          have hu_x := dv0.u (a := u4_) (by omega) (by omega)
                          have hu_y := hG.2.2.1 (u4_).toNat (by omega)
                          have hux_ : v23_ = ((gi T (u4_).toNat : Nat) : Int) := (show v23_ = _ by assumption).trans (dv0.2.2 _ (by omega))
                          refine zw_aload_n (pc := 72) (n := 0) (x := 81) rfl (zdal_p dlD_M_mixed_53 (i := 19) rfl) ?_
                          refine zr_getF (r := 88) (hf.w hW) (pc := 73) f_M_35 rfl (zh_88 (hf.w hW)).1 (zdal_p dlD_M_mixed_53 (i := 20) rfl) ?_
                          refine zw_iload (pc := 76) (i := 4) (x := Int32.ofInt u13_) rfl (zdal_p dlD_M_mixed_53 (i := 21) rfl) ?_
                          refine zr_ialdn (pc := 78) (zh_88 (hf.w hW)).2 (by decide) (by omega) (by omega) (zdal_p dlD_M_mixed_53 (i := 22) rfl) (fun v24_ hv24_ hv24_a hv24_b => ?_)
                          have hu_z := dv0.u (a := u13_) (by omega) (by omega)
                          have hu_w := hG.2.2.1 (u13_).toNat (by omega)
                          have huy_ : v24_ = ((gi T (u13_).toNat : Nat) : Int) := (show v24_ = _ by assumption).trans (dv0.2.2 _ (by omega))
                          refine zr_callV (hf.w hW) hf.x (pc := 79) [.int (Int32.ofInt v23_), .int (Int32.ofInt v24_)] [.ref 81, .ref 81, .int (Int32.ofInt 1), .int (Int32.ofInt u12_)] l_M_216 (c_M_by l Mz (hf.w hW) v23_ hv23_a hv23_b v24_ hv24_a hv24_b T hG dv0 (show 0 ≤ v23_ by first | assumption | omega) (show v23_ < ze Mz 81 20 by first | assumption | omega) (show 0 ≤ v24_ by first | assumption | omega) (show v24_ < ze Mz 81 20 by first | assumption | omega)) rfl rfl rfl (by decide) (Nat.le_of_ble_eq_true rfl) (zdal_p dlD_M_mixed_53 (i := 23) rfl) ?_
                          rintro _ N25_ ⟨v26_, rfl, ⟨hv26_a, hv26_b⟩, hsN25_, ⟨hp0_N25_, hp1_N25_, hp2_N25_⟩⟩
                          obtain rfl := hsN25_.eq.symm
                          show zW l m_M_mixed (zn Mz + 0, zw Mz + 0) Mz 82 [some (.ref 81), some (.int (Int32.ofInt a0_)), some (.int (Int32.ofInt u12_)), some (.int (Int32.ofInt u4_)), some (.int (Int32.ofInt u13_))] [.int (Int32.ofInt v26_), .ref 81, .ref 81, .int (Int32.ofInt 1), .int (Int32.ofInt u12_)] _
                          have hq1_ := hp0_N25_
                          rw [hux_, huy_, Int.toNat_natCast, Int.toNat_natCast] at hq1_
                          refine zw_iload_n (pc := 82) (n := 3) (x := Int32.ofInt u4_) rfl (zdal_p dlD_M_mixed_54 (i := 0) rfl) ?_
                          refine zr_callV (hf.w hW) hf.x (pc := 83) [.int (Int32.ofInt v26_), .int (Int32.ofInt u4_)] [.ref 81, .int (Int32.ofInt 1), .int (Int32.ofInt u12_)] l_M_216 (c_M_by l Mz (hf.w hW) v26_ hv26_a hv26_b u4_ hu4_a hu4_b T hG dv0 (show 0 ≤ v26_ by first | assumption | omega) (show v26_ < ze Mz 81 20 by first | assumption | omega) (show 0 ≤ u4_ by first | assumption | omega) (show u4_ < ze Mz 81 20 by first | assumption | omega)) rfl rfl rfl (by decide) (Nat.le_of_ble_eq_true rfl) (zdal_p dlD_M_mixed_54 (i := 1) rfl) ?_
                          rintro _ N27_ ⟨v28_, rfl, ⟨hv28_a, hv28_b⟩, hsN27_, ⟨hp0_N27_, hp1_N27_, hp2_N27_⟩⟩
                          obtain rfl := hsN27_.eq.symm
                          show zW l m_M_mixed (zn Mz + 0, zw Mz + 0) Mz 86 [some (.ref 81), some (.int (Int32.ofInt a0_)), some (.int (Int32.ofInt u12_)), some (.int (Int32.ofInt u4_)), some (.int (Int32.ofInt u13_))] [.int (Int32.ofInt v28_), .ref 81, .int (Int32.ofInt 1), .int (Int32.ofInt u12_)] _
                          have hq2_ := hp0_N27_
                          rw [hq1_, Int.toNat_natCast] at hq2_
                          refine zw_iload (pc := 86) (i := 4) (x := Int32.ofInt u13_) rfl (zdal_p dlD_M_mixed_54 (i := 2) rfl) ?_
                          refine zr_callV (hf.w hW) hf.x (pc := 88) [.int (Int32.ofInt v28_), .int (Int32.ofInt u13_)] [.int (Int32.ofInt 1), .int (Int32.ofInt u12_)] l_M_216 (c_M_by l Mz (hf.w hW) v28_ hv28_a hv28_b u13_ hu13_a hu13_b T hG dv0 (show 0 ≤ v28_ by first | assumption | omega) (show v28_ < ze Mz 81 20 by first | assumption | omega) (show 0 ≤ u13_ by first | assumption | omega) (show u13_ < ze Mz 81 20 by first | assumption | omega)) rfl rfl rfl (by decide) (Nat.le_of_ble_eq_true rfl) (zdal_p dlD_M_mixed_54 (i := 3) rfl) ?_
                          rintro _ N29_ ⟨v30_, rfl, ⟨hv30_a, hv30_b⟩, hsN29_, ⟨hp0_N29_, hp1_N29_, hp2_N29_⟩⟩
                          obtain rfl := hsN29_.eq.symm
                          show zW l m_M_mixed (zn Mz + 0, zw Mz + 0) Mz 91 [some (.ref 81), some (.int (Int32.ofInt a0_)), some (.int (Int32.ofInt u12_)), some (.int (Int32.ofInt u4_)), some (.int (Int32.ofInt u13_))] [.int (Int32.ofInt v30_), .int (Int32.ofInt 1), .int (Int32.ofInt u12_)] _
                          have hq3_ := hp0_N29_
                          rw [hq2_, Int.toNat_natCast] at hq3_
                          rw [gcom_r hGr_ hG (by omega) (by omega)] at hq3_
                          refine zr_ishl (pc := 91) (zdal_p dlD_M_mixed_54 (i := 4) rfl) ?_
                          have hr31_ := zshl_r 1 v30_
                          refine zr_ior (pc := 92) (zdal_p dlD_M_mixed_54 (i := 5) rfl) ?_
                          have hr32_ := zor_r u12_ (zshl 1 v30_)
                          have hmn_ := zMxI_1 hG (by omega) (by omega) (by omega) (by omega) hmb_ hbx_ hby_ hq3_
                          refine zw_istore_n (pc := 93) (i := 2) (L2 := [some (.ref 81), some (.int (Int32.ofInt a0_)), some (.int (Int32.ofInt (zor u12_ (zshl 1 v30_)))), some (.int (Int32.ofInt u4_)), some (.int (Int32.ofInt u13_))]) rfl (by decide) rfl (zdal_p dlD_M_mixed_54 (i := 6) rfl) ?_
                          refine zr_iinc (pc := 94) (i := 4) (a := u13_) (n := 1) (L2 := [some (.ref 81), some (.int (Int32.ofInt a0_)), some (.int (Int32.ofInt (zor u12_ (zshl 1 v30_)))), some (.int (Int32.ofInt u4_)), some (.int (Int32.ofInt (u13_ + 1)))]) rfl (by decide) rfl (zdal_p dlD_M_mixed_54 (i := 7) rfl) ?_
                          refine zw_goto (pc := 97) (tgt := 25) (by decide) (zdal_p dlD_M_mixed_54 (i := 8) rfl) ?_
                          exact ih_25 (zor u12_ (zshl 1 v30_)) (by omega) (by omega) (u13_ + 1) (by omega) (by omega) (show 0 ≤ (u13_ + 1) by first | assumption | omega) (show (u13_ + 1) ≤ gN T by first | assumption | omega) (show zMxI T (gFn T (a0_).toNat) u4_ (u13_ + 1) (zor u12_ (zshl 1 v30_)) by exact hmn_) (by omega)
                      · skip
                        have hmn_ := zMxI_n (by omega) (by omega) hmb_ (Or.inr (fun q_ => ha55_0_hp0_N21_ ((zbt_n hfv_).mpr q_)))
                        show zW l m_M_mixed (zn Mz + 0, zw Mz + 0) Mz 58 [some (.ref 81), some (.int (Int32.ofInt a0_)), some (.int (Int32.ofInt u12_)), some (.int (Int32.ofInt u4_)), some (.int (Int32.ofInt u13_))] [.int (Int32.ofInt 0)] _
                        refine zr_if_eq (pc := 58) (tgt := 94) ⟨(by decide), (by decide)⟩ (by decide) (zdal_p dlD_M_mixed_53 (i := 9) rfl) (fun hc_58 => ?_) (fun hc_58 => ?_)
                        · skip
                          refine zr_iinc (pc := 94) (i := 4) (a := u13_) (n := 1) (L2 := [some (.ref 81), some (.int (Int32.ofInt a0_)), some (.int (Int32.ofInt u12_)), some (.int (Int32.ofInt u4_)), some (.int (Int32.ofInt (u13_ + 1)))]) rfl (by decide) rfl (zdal_p dlD_M_mixed_54 (i := 7) rfl) ?_
                          refine zw_goto (pc := 97) (tgt := 25) (by decide) (zdal_p dlD_M_mixed_54 (i := 8) rfl) ?_
                          exact ih_25 u12_ hu12_a hu12_b (u13_ + 1) (by omega) (by omega) (show 0 ≤ (u13_ + 1) by first | assumption | omega) (show (u13_ + 1) ≤ gN T by first | assumption | omega) (show zMxI T (gFn T (a0_).toNat) u4_ (u13_ + 1) u12_ by exact hmn_) (by omega)
                        · skip
                          exact absurd hc_58 (by decide)
                  · skip
                    have hmn_ := zMxI_n (by omega) (by omega) hmb_ (Or.inl (fun q_ => ha41_0_hp0_N18_ ((zbt_n hfv_).mpr q_)))
                    show zW l m_M_mixed (zn Mz + 0, zw Mz + 0) Mz 44 [some (.ref 81), some (.int (Int32.ofInt a0_)), some (.int (Int32.ofInt u12_)), some (.int (Int32.ofInt u4_)), some (.int (Int32.ofInt u13_))] [.int (Int32.ofInt 0)] _
                    refine zr_if_eq (pc := 44) (tgt := 94) ⟨(by decide), (by decide)⟩ (by decide) (zdal_p dlD_M_mixed_53 (i := 2) rfl) (fun hc_44 => ?_) (fun hc_44 => ?_)
                    · skip
                      refine zr_iinc (pc := 94) (i := 4) (a := u13_) (n := 1) (L2 := [some (.ref 81), some (.int (Int32.ofInt a0_)), some (.int (Int32.ofInt u12_)), some (.int (Int32.ofInt u4_)), some (.int (Int32.ofInt (u13_ + 1)))]) rfl (by decide) rfl (zdal_p dlD_M_mixed_54 (i := 7) rfl) ?_
                      refine zw_goto (pc := 97) (tgt := 25) (by decide) (zdal_p dlD_M_mixed_54 (i := 8) rfl) ?_
                      exact ih_25 u12_ hu12_a hu12_b (u13_ + 1) (by omega) (by omega) (show 0 ≤ (u13_ + 1) by first | assumption | omega) (show (u13_ + 1) ≤ gN T by first | assumption | omega) (show zMxI T (gFn T (a0_).toNat) u4_ (u13_ + 1) u12_ by exact hmn_) (by omega)
                    · skip
                      exact absurd hc_44 (by decide)
            exact lp_25 _ u3_ hu3_a hu3_b 0 (by decide) (by decide) (show 0 ≤ (0 : Int) by first | assumption | omega) (show (0 : Int) ≤ gN T by first | assumption | omega) (show zMxI T (gFn T (a0_).toNat) u4_ (0 : Int) u3_ by exact hma_) (Nat.lt_succ_self _)
      exact lp_14 _ 0 (by decide) (by decide) 0 (by decide) (by decide) (show 0 ≤ (0 : Int) by first | assumption | omega) (show (0 : Int) ≤ gN T by first | assumption | omega) (show zMxI T (gFn T (a0_).toNat) (0 : Int) 0 (0 : Int) by exact zMxI_0) (Nat.lt_succ_self _)
    · skip
      exact absurd hc_5 (by decide)
  · skip
    show zW l m_M_mixed (zn Mz + 0, zw Mz + 0) Mz 5 [some (.ref 81), some (.int (Int32.ofInt a0_)), none, none, none] [.int (Int32.ofInt 0)] _
    refine zr_if_ne (pc := 5) (tgt := 10) ⟨(by decide), (by decide)⟩ (by decide) (zdal_p dlD_M_mixed_52 (i := 3) rfl) (fun hc_5 => ?_) (fun hc_5 => ?_)
    · skip
      exact absurd hc_5 (by decide)
    · skip
      refine zw_iconst (pc := 8) (v := Int32.ofInt (-1)) (by decide) (zdal_p dlD_M_mixed_52 (i := 4) rfl) ?_
      exact zr_iret (pc := 9) (ty := .int) rfl rfl ⟨by omega, by omega⟩ hf (show ((0 ≤ a0_ ∧ a0_ < ((gF T).length : Int) ∧ ∃ r_ : Int, zMxI T (gFn T (a0_).toNat) (gN T) 0 r_ ∧ ∃ R_ : Nat, gLC T r_.toNat R_ ∧ zSrt T R_ ((-1))) ∨ (¬ (0 ≤ a0_ ∧ a0_ < ((gF T).length : Int)) ∧ ((-1)) = (-1 : Int))) by exact Or.inr ⟨by omega, rfl⟩) (zdal_p dlD_M_mixed_52 (i := 5) rfl)
