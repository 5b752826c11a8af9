set_option maxHeartbeats 4000000 in
theorem c_M_laysPartsS (l : Launch) (Mz : zMem) (hW : zMt Mz) (a0_ : Int) (ha0_a : -2147483648 ≤ a0_) (ha0_b : a0_ < 2147483648) (T : zGT) (hO : gOK T) (P_ : Nat) (mv_ : List Nat) (p0_ : zGB T Mz) (p1_ : zCdR (P_ : Int) mv_ T Mz) (p2_ : ze Mz 81 16 = (P_ : Int)) (p3_ : 1 ≤ P_) (p4_ : P_ ≤ 6) (p5_ : 0 ≤ a0_) (p6_ : a0_ < 16777216) (p7_ : zPt (zrch (gN T) (fun i_ => zrc Mz 85 i_ (P_ : Int)) (a0_).toNat) P_) : zC l m_M_laysParts 0 0 [.ref 81, .int (Int32.ofInt a0_)] Mz (zpV [63] [112] Mz (fun N => zTkZ (tkz (zrr P_ T (fun i_ => zrc Mz 85 i_ (P_ : Int)) (a0_).toNat)) N ∧ 0 ≤ ze N 81 63 ∧ ze N 81 63 ≤ 6)) := by
  refine zC_of (L0 := [some (.ref 81), some (.int (Int32.ofInt a0_)), none, none, none, none]) md_M_laysParts (Nat.le_of_ble_eq_true rfl) rfl ?_ zQ0
  have hf : zFr [63] [112] Mz Mz := zFr.rf
  have r_16 := ze_r Mz 81 16
  have r_20 := ze_r Mz 81 20
  have r_63 := ze_r Mz 81 63
  have hG := hO.1
  have g24 := hG.2.1
  have g1 := hG.1
  have dv0 : zTab T Mz := p0_.1
  have dv1 : zB 85 144 0 5 Mz := p0_.2.1
  have dv2 : zJX T Mz := p0_.2.2.1
  have dv3 : zFirs T Mz := p0_.2.2.2.1
  have dv4 : zSSm T Mz := p0_.2.2.2.2.1
  have dv5 : zGD Mz := zGB.d hO p0_
  have gb := dv5.1
  have gn := dv0.1
  have hsz_ := dv0.1
  have hrb_ := zrr_b (by omega) p7_
  have hrl_ : ((zrr P_ T (fun i_ => zrc Mz 85 i_ (P_ : Int)) (a0_).toNat)).length = P_ := zrr_l
  refine zw_aload_n (pc := 0) (n := 0) (x := 81) rfl (zdal_p dlD_M_laysParts_115 (i := 0) rfl) ?_
  refine zw_iconst (pc := 1) (v := Int32.ofInt 0) (by decide) (zdal_p dlD_M_laysParts_115 (i := 1) rfl) ?_
  refine zr_putI (hf.w hW) (pc := 2) f_M_487 rfl rfl ⟨by omega, by omega⟩ rfl rfl (zdal_p dlD_M_laysParts_115 (i := 2) rfl) (fun N1_ hsN1_ hvN1_ => ?_)
  have hf_N1_ : zFr [63] [112] Mz N1_ := hf.tr hsN1_ (by decide) (by decide)
  have e16_N1_ : ze N1_ 81 16 = ze Mz 81 16 := hsN1_.e (by decide)
  have e20_N1_ : ze N1_ 81 20 = ze Mz 81 20 := hsN1_.e (by decide)
  have r63_N1_ := ze_r N1_ 81 63
  have c2_ : zGB T N1_ := zGB.fr hsN1_ p0_ (by decide) (by decide)
  have c3_ : zCdR (P_ : Int) mv_ T N1_ := zCdR.fr hsN1_ p1_ (by decide) (by decide)
  have c4_ : zTab T N1_ := zTab.fr hsN1_ dv0 (by decide) (by decide)
  have c5_ : zB 85 144 0 5 N1_ := zB.fr hsN1_ dv1 (by decide) (by decide)
  have c6_ : zJX T N1_ := zJX.fr hsN1_ dv2 (by decide) (by decide)
  have c7_ : zFirs T N1_ := zFirs.fr hsN1_ dv3 (by decide) (by decide)
  have c8_ : zSSm T N1_ := zSSm.fr hsN1_ dv4 (by decide) (by decide)
  have c9_ : zGD N1_ := zGD.fr hsN1_ dv5 (by decide) (by decide)
  refine zw_iconst (pc := 5) (v := Int32.ofInt 0) (by decide) (zdal_p dlD_M_laysParts_115 (i := 3) rfl) ?_
  refine zw_istore_n (pc := 6) (i := 2) (L2 := [some (.ref 81), some (.int (Int32.ofInt a0_)), some (.int (Int32.ofInt 0)), none, none, none]) rfl (by decide) rfl (zdal_p dlD_M_laysParts_115 (i := 4) rfl) ?_
  refine zw_iconst (pc := 7) (v := Int32.ofInt 0) (by decide) (zdal_p dlD_M_laysParts_115 (i := 5) rfl) ?_
  refine zw_istore_n (pc := 8) (i := 3) (L2 := [some (.ref 81), some (.int (Int32.ofInt a0_)), some (.int (Int32.ofInt 0)), some (.int (Int32.ofInt 0)), none, none]) rfl (by decide) rfl (zdal_p dlD_M_laysParts_115 (i := 6) rfl) ?_
  have lp_9 : ∀ (n : Nat) (u10_ : Int) (hu10_a : -2147483648 ≤ u10_) (hu10_b : u10_ < 2147483648) (u11_ : Int) (hu11_a : -2147483648 ≤ u11_) (hu11_b : u11_ < 2147483648) (N12_ : zMem) (hs13_ : zFr [63] [112] N1_ N12_) (i14_ : 0 ≤ ze N12_ 81 63) (i15_ : ze N12_ 81 63 ≤ u11_) (i16_ : u11_ ≤ (P_ : Int)) (i17_ : 0 ≤ u10_) (i18_ : u10_ < 64) (i19_ : zTkS (zrr P_ T (fun i_ => zrc Mz 85 i_ (P_ : Int)) (a0_).toNat) (u11_).toNat u10_ N12_), ((P_ : Int) - u11_).toNat < n → zW l m_M_laysParts (zn Mz + 0, zw Mz + 0) N12_ 9 [some (.ref 81), some (.int (Int32.ofInt a0_)), some (.int (Int32.ofInt u10_)), some (.int (Int32.ofInt u11_)), none, none] [] (zpV [63] [112] Mz (fun N => zTkZ (tkz (zrr P_ T (fun i_ => zrc Mz 85 i_ (P_ : Int)) (a0_).toNat)) N ∧ 0 ≤ ze N 81 63 ∧ ze N 81 63 ≤ 6)) := by
    intro n
    induction n with
    | zero =>
      intro u10_ hu10_a hu10_b u11_ hu11_a hu11_b N12_ hs13_ i14_ i15_ i16_ i17_ i18_ i19_ h0
      exact absurd h0 (Nat.not_lt_zero _)
    | succ n ih_9 =>
      intro u10_ hu10_a hu10_b u11_ hu11_a hu11_b N12_ hs13_ i14_ i15_ i16_ i17_ i18_ i19_ hlt_9
      have hf_N12_ : zFr [63] [112] Mz N12_ := hf_N1_.tr hs13_ (by decide) (by decide)
      have e16_N12_ : ze N12_ 81 16 = ze N1_ 81 16 := hs13_.e (by decide)
      have e20_N12_ : ze N12_ 81 20 = ze N1_ 81 20 := hs13_.e (by decide)
      have r63_N12_ := ze_r N12_ 81 63
      have c20_ : zGB T N12_ := zGB.fr hs13_ c2_ (by decide) (by decide)
      have c21_ : zCdR (P_ : Int) mv_ T N12_ := zCdR.fr hs13_ c3_ (by decide) (by decide)
      have c22_ : zTab T N12_ := zTab.fr hs13_ c4_ (by decide) (by decide)
      have c23_ : zB 85 144 0 5 N12_ := zB.fr hs13_ c5_ (by decide) (by decide)
      have c24_ : zJX T N12_ := zJX.fr hs13_ c6_ (by decide) (by decide)
      have c25_ : zFirs T N12_ := zFirs.fr hs13_ c7_ (by decide) (by decide)
      have c26_ : zSSm T N12_ := zSSm.fr hs13_ c8_ (by decide) (by decide)
      have c27_ : zGD N12_ := zGD.fr hs13_ c9_ (by decide) (by decide)
      have hsk_ := (show zTkS (zrr P_ T (fun i_ => zrc Mz 85 i_ (P_ : Int)) (a0_).toNat) (u11_).toNat u10_ N12_ by first | with_reducible assumption | assumption)
      refine zw_iload_n (pc := 9) (n := 3) (x := Int32.ofInt u11_) rfl (zdal_p dlD_M_laysParts_115 (i := 7) rfl) ?_
      refine zw_aload_n (pc := 10) (n := 0) (x := 81) rfl (zdal_p dlD_M_laysParts_115 (i := 8) rfl) ?_
      refine zr_getI0 hf_N12_ hW (pc := 11) (by decide) f_M_382 rfl (zdal_p dlD_M_laysParts_115 (i := 9) rfl) ?_
      refine zr_icmp_ge (pc := 14) (tgt := 112) ⟨hu11_a, hu11_b⟩ ⟨(ze_r Mz 81 16).1, (ze_r Mz 81 16).2⟩ (by decide) (zdal_p dlD_M_laysParts_115 (i := 10) rfl) (fun hc_14 => ?_) (fun hc_14 => ?_)
      · skip
        exact zr_vret (pc := 112) rfl hf_N12_ ⟨(show zTkZ (tkz (zrr P_ T (fun i_ => zrc Mz 85 i_ (P_ : Int)) (a0_).toNat)) N12_ by exact zTkS_e hsk_ (by omega)), (show 0 ≤ ze N12_ 81 63 by first | with_reducible assumption | assumption | omega), (show ze N12_ 81 63 ≤ 6 by first | with_reducible assumption | assumption | omega)⟩ (zdal_p dlD_M_laysParts_117 (i := 14) rfl)
      · skip
        refine zw_iload_n (pc := 17) (n := 2) (x := Int32.ofInt u10_) rfl (zdal_p dlD_M_laysParts_115 (i := 11) rfl) ?_
        refine zw_iload_n (pc := 18) (n := 3) (x := Int32.ofInt u11_) rfl (zdal_p dlD_M_laysParts_115 (i := 12) rfl) ?_
        refine zr_callS hf_N12_.x (pc := 19) [.int (Int32.ofInt u10_), .int (Int32.ofInt u11_)] [] l_M_213 (c_M_holds l N12_ (hf_N12_.w hW) u10_ hu10_a hu10_b u11_ hu11_a hu11_b (show 0 ≤ u10_ by first | with_reducible assumption | assumption | omega) (show 0 ≤ u11_ by first | with_reducible assumption | assumption | omega) (show u11_ < 32 by first | with_reducible assumption | assumption | omega)) rfl rfl (by decide) (Nat.le_of_ble_eq_true rfl) (zdal_p dlD_M_laysParts_115 (i := 13) rfl) ?_
        rintro _ N28_ ⟨v29_, rfl, ⟨hv29_a, hv29_b⟩, hsN28_, hp0_N28_⟩
        obtain rfl := hsN28_.eq.symm
        replace hp0_N28_ : ((v29_ = 1 ∧ zbt u10_ u11_) ∨ (v29_ = 0 ∧ ¬ zbt u10_ u11_)) := hp0_N28_
        rcases hp0_N28_ with ⟨rfl, ha19_0_hp0_N28_⟩ | ⟨rfl, ha19_0_hp0_N28_⟩
        · skip
          have hin_ := ha19_0_hp0_N28_
          show zW l m_M_laysParts (zn Mz + 0, zw Mz + 0) N12_ 22 [some (.ref 81), some (.int (Int32.ofInt a0_)), some (.int (Int32.ofInt u10_)), some (.int (Int32.ofInt u11_)), none, none] [.int (Int32.ofInt 1)] _
          refine zr_if_eq (pc := 22) (tgt := 28) ⟨(by decide), (by decide)⟩ (by decide) (zdal_p dlD_M_laysParts_115 (i := 14) rfl) (fun hc_22 => ?_) (fun hc_22 => ?_)
          · skip
            exact absurd hc_22 (by decide)
          · skip
            refine zw_goto (pc := 25) (tgt := 106) (by decide) (zdal_p dlD_M_laysParts_115 (i := 15) rfl) ?_
            refine zr_iinc (pc := 106) (i := 3) (a := u11_) (n := 1) (L2 := [some (.ref 81), some (.int (Int32.ofInt a0_)), some (.int (Int32.ofInt u10_)), some (.int (Int32.ofInt (u11_ + 1))), none, none]) rfl (by decide) rfl (zdal_p dlD_M_laysParts_117 (i := 12) rfl) ?_
            refine zw_goto (pc := 109) (tgt := 9) (by decide) (zdal_p dlD_M_laysParts_117 (i := 13) rfl) ?_
            have hzn_ : zTkS (zrr P_ T (fun i_ => zrc Mz 85 i_ (P_ : Int)) (a0_).toNat) ((u11_ + 1)).toNat u10_ N12_ := by first | exact hzs_ | exact zTkS_t hsk_ (by omega) hin_ (fun j_ => rfl) rfl rfl
            exact ih_9 u10_ hu10_a hu10_b (u11_ + 1) (by omega) (by omega) N12_ hs13_ (show 0 ≤ ze N12_ 81 63 by first | with_reducible assumption | assumption | omega) (show ze N12_ 81 63 ≤ (u11_ + 1) by first | with_reducible assumption | assumption | omega) (show (u11_ + 1) ≤ (P_ : Int) by first | with_reducible assumption | assumption | omega) (show 0 ≤ u10_ by first | with_reducible assumption | assumption | omega) (show u10_ < 64 by first | with_reducible assumption | assumption | omega) (show zTkS (zrr P_ T (fun i_ => zrc Mz 85 i_ (P_ : Int)) (a0_).toNat) ((u11_ + 1)).toNat u10_ N12_ by exact hzn_) (by omega)
        · skip
          have hno_ := ha19_0_hp0_N28_
          show zW l m_M_laysParts (zn Mz + 0, zw Mz + 0) N12_ 22 [some (.ref 81), some (.int (Int32.ofInt a0_)), some (.int (Int32.ofInt u10_)), some (.int (Int32.ofInt u11_)), none, none] [.int (Int32.ofInt 0)] _
          refine zr_if_eq (pc := 22) (tgt := 28) ⟨(by decide), (by decide)⟩ (by decide) (zdal_p dlD_M_laysParts_115 (i := 14) rfl) (fun hc_22 => ?_) (fun hc_22 => ?_)
          · skip
            refine zw_iconst (pc := 28) (v := Int32.ofInt 0) (by decide) (zdal_p dlD_M_laysParts_115 (i := 16) rfl) ?_
            refine zw_istore (pc := 29) (i := 4) (L2 := [some (.ref 81), some (.int (Int32.ofInt a0_)), some (.int (Int32.ofInt u10_)), some (.int (Int32.ofInt u11_)), some (.int (Int32.ofInt 0)), none]) (by decide) rfl (zdal_p dlD_M_laysParts_115 (i := 17) rfl) ?_
            refine zw_iconst (pc := 31) (v := Int32.ofInt 0) (by decide) (zdal_p dlD_M_laysParts_115 (i := 18) rfl) ?_
            refine zw_istore (pc := 32) (i := 5) (L2 := [some (.ref 81), some (.int (Int32.ofInt a0_)), some (.int (Int32.ofInt u10_)), some (.int (Int32.ofInt u11_)), some (.int (Int32.ofInt 0)), some (.int (Int32.ofInt 0))]) (by decide) rfl (zdal_p dlD_M_laysParts_115 (i := 19) rfl) ?_
            have lp_34 : ∀ (n : Nat) (u30_ : Int) (hu30_a : -2147483648 ≤ u30_) (hu30_b : u30_ < 2147483648) (u31_ : Int) (hu31_a : -2147483648 ≤ u31_) (hu31_b : u31_ < 2147483648) (i32_ : 0 ≤ u31_) (i33_ : u31_ ≤ gN T) (i34_ : zImg (fun m_ => (a0_).toNat.testBit m_ = true) (fun m_ => gdg (zrc Mz 85 m_ (P_ : Int)) (u11_).toNat) (u31_).toNat u30_), (gN T - u31_).toNat < n → zW l m_M_laysParts (zn Mz + 0, zw Mz + 0) N12_ 34 [some (.ref 81), some (.int (Int32.ofInt a0_)), some (.int (Int32.ofInt u10_)), some (.int (Int32.ofInt u11_)), some (.int (Int32.ofInt u30_)), some (.int (Int32.ofInt u31_))] [] (zpV [63] [112] Mz (fun N => zTkZ (tkz (zrr P_ T (fun i_ => zrc Mz 85 i_ (P_ : Int)) (a0_).toNat)) N ∧ 0 ≤ ze N 81 63 ∧ ze N 81 63 ≤ 6)) := by
              intro n
              induction n with
              | zero =>
                intro u30_ hu30_a hu30_b u31_ hu31_a hu31_b i32_ i33_ i34_ h0
                exact absurd h0 (Nat.not_lt_zero _)
              | succ n ih_34 =>
                intro u30_ hu30_a hu30_b u31_ hu31_a hu31_b i32_ i33_ i34_ hlt_34
                have hpi_ := (show zImg (fun m_ => (a0_).toNat.testBit m_ = true) (fun m_ => gdg (zrc Mz 85 m_ (P_ : Int)) (u11_).toNat) (u31_).toNat u30_ by first | with_reducible assumption | assumption)
                have hpr_ := hpi_.1
                refine zw_iload (pc := 34) (i := 5) (x := Int32.ofInt u31_) rfl (zdal_p dlD_M_laysParts_115 (i := 20) rfl) ?_
                refine zw_aload_n (pc := 36) (n := 0) (x := 81) rfl (zdal_p dlD_M_laysParts_115 (i := 21) rfl) ?_
                refine zr_getI0 hf_N12_ hW (pc := 37) (by decide) f_M_196 rfl (zdal_p dlD_M_laysParts_115 (i := 22) rfl) ?_
                refine zr_icmp_ge (pc := 40) (tgt := 77) ⟨hu31_a, hu31_b⟩ ⟨(ze_r Mz 81 20).1, (ze_r Mz 81 20).2⟩ (by decide) (zdal_p dlD_M_laysParts_115 (i := 23) rfl) (fun hc_40 => ?_) (fun hc_40 => ?_)
                · skip
                  have hR_ := zImg_r (show zImg (fun m_ => (a0_).toNat.testBit m_ = true) (fun m_ => gdg (zrc Mz 85 m_ (P_ : Int)) (u11_).toNat) (gN T) u30_ by rw [show gN T = (u31_).toNat by omega]; exact hpi_)
                  have hpt_ := p7_.1 (u11_).toNat (by omega)
                  have h64_ : zrch (gN T) (fun i_ => zrc Mz 85 i_ (P_ : Int)) (a0_).toNat (u11_).toNat < 64 := Nat.lt_of_lt_of_le hpt_.1 (Nat.pow_le_pow_right (by decide) (show P_ ≤ 6 by omega))
                  have hRg_ : u30_ = ((((zrr P_ T (fun i_ => zrc Mz 85 i_ (P_ : Int)) (a0_).toNat)).getD (u11_).toNat 0 : Nat) : Int) := by rw [zrr_g (by omega)]; exact hR_
                  refine zw_aload_n (pc := 77) (n := 0) (x := 81) rfl (zdal_p dlD_M_laysParts_116 (i := 19) rfl) ?_
                  refine zr_getF (r := 112) (hf_N12_.w hW) (pc := 78) f_M_109 rfl (zh_112 (hf_N12_.w hW)).1 (zdal_p dlD_M_laysParts_116 (i := 20) rfl) ?_
                  refine zw_aload_n (pc := 81) (n := 0) (x := 81) rfl (zdal_p dlD_M_laysParts_116 (i := 21) rfl) ?_
                  refine zr_getI (hf_N12_.w hW) (pc := 82) f_M_487 rfl (zdal_p dlD_M_laysParts_116 (i := 22) rfl) ?_
                  refine zw_iload (pc := 85) (i := 4) (x := Int32.ofInt u30_) rfl (zdal_p dlD_M_laysParts_116 (i := 23) rfl) ?_
                  refine zr_callS hf_N12_.x (pc := 87) [.int (Int32.ofInt u30_)] [.int (Int32.ofInt (ze N12_ 81 63)), .ref 112] l_M_253 (c_M_ones l N12_ (hf_N12_.w hW) u30_ hu30_a hu30_b (show 0 ≤ u30_ by first | with_reducible assumption | assumption | omega)) rfl rfl (by decide) (Nat.le_of_ble_eq_true rfl) (zdal_p dlD_M_laysParts_117 (i := 0) rfl) ?_
                  rintro _ N35_ ⟨v36_, rfl, ⟨hv36_a, hv36_b⟩, hsN35_, ⟨hp0_N35_, hp1_N35_, hp2_N35_⟩⟩
                  obtain rfl := hsN35_.eq.symm
                  show zW l m_M_laysParts (zn Mz + 0, zw Mz + 0) N12_ 90 [some (.ref 81), some (.int (Int32.ofInt a0_)), some (.int (Int32.ofInt u10_)), some (.int (Int32.ofInt u11_)), some (.int (Int32.ofInt u30_)), some (.int (Int32.ofInt u31_))] [.int (Int32.ofInt v36_), .int (Int32.ofInt (ze N12_ 81 63)), .ref 112] _
                  have hon_ := (hp0_N35_).trans (zcb_g (x := u30_) (by omega) (by omega))
                  refine zr_iast (pc := 90) (zh_112 (hf_N12_.w hW)).2 (by decide) (by decide) (by omega) (by omega) (zdal_p dlD_M_laysParts_117 (i := 1) rfl) (fun N37_ hN37_ hsN37_ => ?_)
                  have hf_N37_ : zFr [63] [112] Mz N37_ := hf_N12_.tr hsN37_ (by decide) (by decide)
                  have hb0_N37_ : zFr [63] [112] N1_ N37_ := hs13_.tr hsN37_ (by decide) (by decide)
                  have e16_N37_ : ze N37_ 81 16 = ze N12_ 81 16 := hsN37_.e (by decide)
                  have e20_N37_ : ze N37_ 81 20 = ze N12_ 81 20 := hsN37_.e (by decide)
                  have e63_N37_ : ze N37_ 81 63 = ze N12_ 81 63 := hsN37_.e (by decide)
                  have c38_ : zGB T N37_ := zGB.fr hsN37_ c20_ (by decide) (by decide)
                  have c39_ : zCdR (P_ : Int) mv_ T N37_ := zCdR.fr hsN37_ c21_ (by decide) (by decide)
                  have c40_ : zTab T N37_ := zTab.fr hsN37_ c22_ (by decide) (by decide)
                  have c41_ : zB 85 144 0 5 N37_ := zB.fr hsN37_ c23_ (by decide) (by decide)
                  have c42_ : zJX T N37_ := zJX.fr hsN37_ c24_ (by decide) (by decide)
                  have c43_ : zFirs T N37_ := zFirs.fr hsN37_ c25_ (by decide) (by decide)
                  have c44_ : zSSm T N37_ := zSSm.fr hsN37_ c26_ (by decide) (by decide)
                  have c45_ : zGD N37_ := zGD.fr hsN37_ c27_ (by decide) (by decide)
                  refine zw_aload_n (pc := 91) (n := 0) (x := 81) rfl (zdal_p dlD_M_laysParts_117 (i := 2) rfl) ?_
                  refine zw_dup (pc := 92) rfl (zdal_p dlD_M_laysParts_117 (i := 3) rfl) ?_
                  refine zr_getI (hf_N37_.w hW) (pc := 93) f_M_487 rfl (zdal_p dlD_M_laysParts_117 (i := 4) rfl) ?_
                  refine zw_iconst (pc := 96) (v := Int32.ofInt 1) (by decide) (zdal_p dlD_M_laysParts_117 (i := 5) rfl) ?_
                  refine zr_iadd (pc := 97) (zdal_p dlD_M_laysParts_117 (i := 6) rfl) ?_
                  refine zr_putI (hf_N37_.w hW) (pc := 98) f_M_487 rfl rfl ⟨by omega, by omega⟩ rfl rfl (zdal_p dlD_M_laysParts_117 (i := 7) rfl) (fun N46_ hsN46_ hvN46_ => ?_)
                  have hf_N46_ : zFr [63] [112] Mz N46_ := hf_N37_.tr hsN46_ (by decide) (by decide)
                  have hb0_N46_ : zFr [63] [112] N1_ N46_ := hb0_N37_.tr hsN46_ (by decide) (by decide)
                  have e16_N46_ : ze N46_ 81 16 = ze N37_ 81 16 := hsN46_.e (by decide)
                  have e20_N46_ : ze N46_ 81 20 = ze N37_ 81 20 := hsN46_.e (by decide)
                  have r63_N46_ := ze_r N46_ 81 63
                  have c47_ : zGB T N46_ := zGB.fr hsN46_ c38_ (by decide) (by decide)
                  have c48_ : zCdR (P_ : Int) mv_ T N46_ := zCdR.fr hsN46_ c39_ (by decide) (by decide)
                  have c49_ : zTab T N46_ := zTab.fr hsN46_ c40_ (by decide) (by decide)
                  have c50_ : zB 85 144 0 5 N46_ := zB.fr hsN46_ c41_ (by decide) (by decide)
                  have c51_ : zJX T N46_ := zJX.fr hsN46_ c42_ (by decide) (by decide)
                  have c52_ : zFirs T N46_ := zFirs.fr hsN46_ c43_ (by decide) (by decide)
                  have c53_ : zSSm T N46_ := zSSm.fr hsN46_ c44_ (by decide) (by decide)
                  have c54_ : zGD N46_ := zGD.fr hsN46_ c45_ (by decide) (by decide)
                  refine zw_iload_n (pc := 101) (n := 2) (x := Int32.ofInt u10_) rfl (zdal_p dlD_M_laysParts_117 (i := 8) rfl) ?_
                  refine zw_iload (pc := 102) (i := 4) (x := Int32.ofInt u30_) rfl (zdal_p dlD_M_laysParts_117 (i := 9) rfl) ?_
                  refine zr_ior (pc := 104) (zdal_p dlD_M_laysParts_117 (i := 10) rfl) ?_
                  have hr55_ := zor_r u10_ u30_
                  have hzs_ := zTkS_f hrb_ hsk_ (by omega) (by omega) hno_ hRg_ hon_ (hN37_) (fun j_ => hsN46_.ie (by decide) (by decide) j_) (by omega)
                  have hz7 := z6b (x := u10_) (y := u30_) (by omega) (by omega) (by omega) (by omega)
                  refine zw_istore_n (pc := 105) (i := 2) (L2 := [some (.ref 81), some (.int (Int32.ofInt a0_)), some (.int (Int32.ofInt (zor u10_ u30_))), some (.int (Int32.ofInt u11_)), some (.int (Int32.ofInt u30_)), some (.int (Int32.ofInt u31_))]) rfl (by decide) rfl (zdal_p dlD_M_laysParts_117 (i := 11) rfl) ?_
                  refine zr_iinc (pc := 106) (i := 3) (a := u11_) (n := 1) (L2 := [some (.ref 81), some (.int (Int32.ofInt a0_)), some (.int (Int32.ofInt (zor u10_ u30_))), some (.int (Int32.ofInt (u11_ + 1))), some (.int (Int32.ofInt u30_)), some (.int (Int32.ofInt u31_))]) rfl (by decide) rfl (zdal_p dlD_M_laysParts_117 (i := 12) rfl) ?_
                  refine zw_goto (pc := 109) (tgt := 9) (by decide) (zdal_p dlD_M_laysParts_117 (i := 13) rfl) ?_
                  have hzn_ : zTkS (zrr P_ T (fun i_ => zrc Mz 85 i_ (P_ : Int)) (a0_).toNat) ((u11_ + 1)).toNat (zor u10_ u30_) N46_ := by first | exact hzs_ | exact zTkS_t hsk_ (by omega) hin_ (fun j_ => rfl) rfl rfl
                  refine zW_le [some (.ref 81), some (.int (Int32.ofInt a0_)), some (.int (Int32.ofInt (zor u10_ u30_))), some (.int (Int32.ofInt (u11_ + 1))), none, none] (⟨rfl, rfl, rfl, rfl, trivial⟩) ?_
                  exact ih_9 (zor u10_ u30_) (by omega) (by omega) (u11_ + 1) (by omega) (by omega) N46_ hb0_N46_ (show 0 ≤ ze N46_ 81 63 by first | with_reducible assumption | assumption | omega) (show ze N46_ 81 63 ≤ (u11_ + 1) by first | with_reducible assumption | assumption | omega) (show (u11_ + 1) ≤ (P_ : Int) by first | with_reducible assumption | assumption | omega) (show 0 ≤ (zor u10_ u30_) by first | with_reducible assumption | assumption | omega) (show (zor u10_ u30_) < 64 by first | with_reducible assumption | assumption | omega) (show zTkS (zrr P_ T (fun i_ => zrc Mz 85 i_ (P_ : Int)) (a0_).toNat) ((u11_ + 1)).toNat (zor u10_ u30_) N46_ by exact hzn_) (by omega)
                · skip
                  refine zw_iload_n (pc := 43) (n := 1) (x := Int32.ofInt a0_) rfl (zdal_p dlD_M_laysParts_116 (i := 0) rfl) ?_
                  refine zw_iload (pc := 44) (i := 5) (x := Int32.ofInt u31_) rfl (zdal_p dlD_M_laysParts_116 (i := 1) rfl) ?_
                  refine zr_callS hf_N12_.x (pc := 46) [.int (Int32.ofInt a0_), .int (Int32.ofInt u31_)] [] l_M_213 (c_M_holds l N12_ (hf_N12_.w hW) a0_ ha0_a ha0_b u31_ hu31_a hu31_b (show 0 ≤ a0_ by first | with_reducible assumption | assumption | omega) (show 0 ≤ u31_ by first | with_reducible assumption | assumption | omega) (show u31_ < 32 by first | with_reducible assumption | assumption | omega)) rfl rfl (by decide) (Nat.le_of_ble_eq_true rfl) (zdal_p dlD_M_laysParts_116 (i := 2) rfl) ?_
                  rintro _ N56_ ⟨v57_, rfl, ⟨hv57_a, hv57_b⟩, hsN56_, hp0_N56_⟩
                  obtain rfl := hsN56_.eq.symm
                  replace hp0_N56_ : ((v57_ = 1 ∧ zbt a0_ u31_) ∨ (v57_ = 0 ∧ ¬ zbt a0_ u31_)) := hp0_N56_
                  rcases hp0_N56_ with ⟨rfl, ha46_0_hp0_N56_⟩ | ⟨rfl, ha46_0_hp0_N56_⟩
                  · skip
                    have hb_ := ha46_0_hp0_N56_
                    show zW l m_M_laysParts (zn Mz + 0, zw Mz + 0) N12_ 49 [some (.ref 81), some (.int (Int32.ofInt a0_)), some (.int (Int32.ofInt u10_)), some (.int (Int32.ofInt u11_)), some (.int (Int32.ofInt u30_)), some (.int (Int32.ofInt u31_))] [.int (Int32.ofInt 1)] _
                    refine zr_if_eq (pc := 49) (tgt := 71) ⟨(by decide), (by decide)⟩ (by decide) (zdal_p dlD_M_laysParts_116 (i := 3) rfl) (fun hc_49 => ?_) (fun hc_49 => ?_)
                    · skip
                      exact absurd hc_49 (by decide)
                    · skip
                      refine zw_iload (pc := 52) (i := 4) (x := Int32.ofInt u30_) rfl (zdal_p dlD_M_laysParts_116 (i := 4) rfl) ?_
                      refine zw_iconst (pc := 54) (v := Int32.ofInt 1) (by decide) (zdal_p dlD_M_laysParts_116 (i := 5) rfl) ?_
                      refine zw_aload_n (pc := 55) (n := 0) (x := 81) rfl (zdal_p dlD_M_laysParts_116 (i := 6) rfl) ?_
                      refine zr_getF (r := 85) (hf_N12_.w hW) (pc := 56) f_M_26 rfl (zh_85 (hf_N12_.w hW)).1 (zdal_p dlD_M_laysParts_116 (i := 7) rfl) ?_
                      refine zw_bipush (pc := 59) (v := Int32.ofInt 6) (by decide) (zdal_p dlD_M_laysParts_116 (i := 8) rfl) ?_
                      refine zw_iload (pc := 61) (i := 5) (x := Int32.ofInt u31_) rfl (zdal_p dlD_M_laysParts_116 (i := 9) rfl) ?_
                      refine zr_imul (pc := 63) (zdal_p dlD_M_laysParts_116 (i := 10) rfl) ?_
                      refine zw_iload_n (pc := 64) (n := 3) (x := Int32.ofInt u11_) rfl (zdal_p dlD_M_laysParts_116 (i := 11) rfl) ?_
                      refine zr_iadd (pc := 65) (zdal_p dlD_M_laysParts_116 (i := 12) rfl) ?_
                      refine zr_ialdn (pc := 66) (zh_85 (hf_N12_.w hW)).2 (by decide) (by omega) (by omega) (zdal_p dlD_M_laysParts_116 (i := 13) rfl) (fun v58_ hv58_ hv58_a hv58_b => ?_)
                      have hr59_ := c23_.g (e := (6 * u31_) + u11_) (by omega) (by omega)
                      rw [← hv58_] at hr59_
                      rw [hf_N12_.ie (by decide) (by decide)] at hv58_
                      have hv_ := hv58_
                      have hd_ := zCdR.dg (P := P_) p0_.2.1 (i := (u31_).toNat) (p := (u11_).toNat) (by omega) (by omega) (by omega)
                      rw [show 6 * (u31_).toNat + (u11_).toNat = (6 * u31_ + u11_).toNat by omega, ← hv_] at hd_
                      have hd8_ := gdg_lt (zrc Mz 85 (u31_).toNat (P_ : Int)) (u11_).toNat
                      refine zr_ishl (pc := 67) (zdal_p dlD_M_laysParts_116 (i := 14) rfl) ?_
                      have hr60_ := zshl_r 1 v58_
                      refine zr_ior (pc := 68) (zdal_p dlD_M_laysParts_116 (i := 15) rfl) ?_
                      have hr61_ := zor_r u30_ (zshl 1 v58_)
                      have hpn_ := zImg_1 (q := (fun m_ => (a0_).toNat.testBit m_ = true)) (g := (fun m_ => gdg (zrc Mz 85 m_ (P_ : Int)) (u11_).toNat)) (by omega) hpi_ hb_ hd_ (show gdg _ _ < 24 by omega)
                      refine zw_istore (pc := 69) (i := 4) (L2 := [some (.ref 81), some (.int (Int32.ofInt a0_)), some (.int (Int32.ofInt u10_)), some (.int (Int32.ofInt u11_)), some (.int (Int32.ofInt (zor u30_ (zshl 1 v58_)))), some (.int (Int32.ofInt u31_))]) (by decide) rfl (zdal_p dlD_M_laysParts_116 (i := 16) rfl) ?_
                      refine zr_iinc (pc := 71) (i := 5) (a := u31_) (n := 1) (L2 := [some (.ref 81), some (.int (Int32.ofInt a0_)), some (.int (Int32.ofInt u10_)), some (.int (Int32.ofInt u11_)), some (.int (Int32.ofInt (zor u30_ (zshl 1 v58_)))), some (.int (Int32.ofInt (u31_ + 1)))]) rfl (by decide) rfl (zdal_p dlD_M_laysParts_116 (i := 17) rfl) ?_
                      refine zw_goto (pc := 74) (tgt := 34) (by decide) (zdal_p dlD_M_laysParts_116 (i := 18) rfl) ?_
                      exact ih_34 (zor u30_ (zshl 1 v58_)) (by omega) (by omega) (u31_ + 1) (by omega) (by omega) (show 0 ≤ (u31_ + 1) by first | with_reducible assumption | assumption | omega) (show (u31_ + 1) ≤ gN T by first | with_reducible assumption | assumption | omega) (show zImg (fun m_ => (a0_).toNat.testBit m_ = true) (fun m_ => gdg (zrc Mz 85 m_ (P_ : Int)) (u11_).toNat) ((u31_ + 1)).toNat (zor u30_ (zshl 1 v58_)) by exact hpn_) (by omega)
                  · skip
                    have hpn_ := zImg_n (q := (fun m_ => (a0_).toNat.testBit m_ = true)) (g := (fun m_ => gdg (zrc Mz 85 m_ (P_ : Int)) (u11_).toNat)) (by omega) hpi_ ha46_0_hp0_N56_
                    show zW l m_M_laysParts (zn Mz + 0, zw Mz + 0) N12_ 49 [some (.ref 81), some (.int (Int32.ofInt a0_)), some (.int (Int32.ofInt u10_)), some (.int (Int32.ofInt u11_)), some (.int (Int32.ofInt u30_)), some (.int (Int32.ofInt u31_))] [.int (Int32.ofInt 0)] _
                    refine zr_if_eq (pc := 49) (tgt := 71) ⟨(by decide), (by decide)⟩ (by decide) (zdal_p dlD_M_laysParts_116 (i := 3) rfl) (fun hc_49 => ?_) (fun hc_49 => ?_)
                    · skip
                      refine zr_iinc (pc := 71) (i := 5) (a := u31_) (n := 1) (L2 := [some (.ref 81), some (.int (Int32.ofInt a0_)), some (.int (Int32.ofInt u10_)), some (.int (Int32.ofInt u11_)), some (.int (Int32.ofInt u30_)), some (.int (Int32.ofInt (u31_ + 1)))]) rfl (by decide) rfl (zdal_p dlD_M_laysParts_116 (i := 17) rfl) ?_
                      refine zw_goto (pc := 74) (tgt := 34) (by decide) (zdal_p dlD_M_laysParts_116 (i := 18) rfl) ?_
                      exact ih_34 u30_ hu30_a hu30_b (u31_ + 1) (by omega) (by omega) (show 0 ≤ (u31_ + 1) by first | with_reducible assumption | assumption | omega) (show (u31_ + 1) ≤ gN T by first | with_reducible assumption | assumption | omega) (show zImg (fun m_ => (a0_).toNat.testBit m_ = true) (fun m_ => gdg (zrc Mz 85 m_ (P_ : Int)) (u11_).toNat) ((u31_ + 1)).toNat u30_ by exact hpn_) (by omega)
                    · skip
                      exact absurd hc_49 (by decide)
            exact lp_34 _ 0 (by decide) (by decide) 0 (by decide) (by decide) (show 0 ≤ (0 : Int) by first | with_reducible assumption | assumption | omega) (show (0 : Int) ≤ gN T by first | with_reducible assumption | assumption | omega) (show zImg (fun m_ => (a0_).toNat.testBit m_ = true) (fun m_ => gdg (zrc Mz 85 m_ (P_ : Int)) (u11_).toNat) ((0 : Int)).toNat (0 : Int) by exact zImg_0) (Nat.lt_succ_self _)
          · skip
            exact absurd hc_22 (by decide)
  exact lp_9 _ 0 (by decide) (by decide) 0 (by decide) (by decide) N1_ zFr.rf (show 0 ≤ ze N1_ 81 63 by first | with_reducible assumption | assumption | omega) (show ze N1_ 81 63 ≤ (0 : Int) by first | with_reducible assumption | assumption | omega) (show (0 : Int) ≤ (P_ : Int) by first | with_reducible assumption | assumption | omega) (show 0 ≤ (0 : Int) by first | with_reducible assumption | assumption | omega) (show (0 : Int) < 64 by first | with_reducible assumption | assumption | omega) (show zTkS (zrr P_ T (fun i_ => zrc Mz 85 i_ (P_ : Int)) (a0_).toNat) ((0 : Int)).toNat (0 : Int) N1_ by exact zTkS_0 (by omega)) (Nat.lt_succ_self _)
set_option maxHeartbeats 4000000 in
theorem c_M_setsOfS (l : Launch) (Mz : zMem) (hW : zMt Mz) (a0_ : Int) (ha0_a : -2147483648 ≤ a0_) (ha0_b : a0_ < 2147483648) (z_ : List Nat) (p0_ : zTkZ z_ Mz) (p1_ : 0 ≤ a0_) (p2_ : a0_ ≤ 6) : zC l m_M_setsOf 0 0 [.ref 81, .int (Int32.ofInt a0_)] Mz (zpI [] [113] Mz (fun v N => v = ((tkn z_ z_.length (a0_).toNat : Nat) : Int))) := by
  refine zC_of (L0 := [some (.ref 81), some (.int (Int32.ofInt a0_)), none, none]) md_M_setsOf (Nat.le_of_ble_eq_true rfl) rfl ?_ zQ0
  have hf : zFr [] [113] Mz Mz := zFr.rf
  have r_63 := ze_r Mz 81 63
  obtain ⟨⟨hz1_, hz2_⟩, hz3_⟩ := id p0_
  refine zw_iconst (pc := 0) (v := Int32.ofInt 0) (by decide) (zdal_p dlD_M_setsOf_121 (i := 0) rfl) ?_
  refine zw_istore_n (pc := 1) (i := 2) (L2 := [some (.ref 81), some (.int (Int32.ofInt a0_)), some (.int (Int32.ofInt 0)), none]) rfl (by decide) rfl (zdal_p dlD_M_setsOf_121 (i := 1) rfl) ?_
  have lp_2 : ∀ (n : Nat) (u1_ : Int) (hu1_a : -2147483648 ≤ u1_) (hu1_b : u1_ < 2147483648) (N2_ : zMem) (hs3_ : zFr [] [113] Mz N2_) (i4_ : 0 ≤ u1_) (i5_ : u1_ ≤ 7) (i6_ : (∀ k : Nat, (k : Int) < u1_ → ze N2_ 113 k = ((tkn z_ 0 k : Nat) : Int))), (7 - u1_).toNat < n → zW l m_M_setsOf (zn Mz + 0, zw Mz + 0) N2_ 2 [some (.ref 81), some (.int (Int32.ofInt a0_)), some (.int (Int32.ofInt u1_)), none] [] (zpI [] [113] Mz (fun v N => v = ((tkn z_ z_.length (a0_).toNat : Nat) : Int))) := by
    intro n
    induction n with
    | zero =>
      intro u1_ hu1_a hu1_b N2_ hs3_ i4_ i5_ i6_ h0
      exact absurd h0 (Nat.not_lt_zero _)
    | succ n ih_2 =>
      intro u1_ hu1_a hu1_b N2_ hs3_ i4_ i5_ i6_ hlt_2
      have hf_N2_ : zFr [] [113] Mz N2_ := hf.tr hs3_ (by decide) (by decide)
      have e63_N2_ : ze N2_ 81 63 = ze Mz 81 63 := hs3_.e (by decide)
      have c7_ : zTkZ z_ N2_ := zTkZ.fr hs3_ p0_ (by decide) (by decide)
      have hni_ := (show (∀ k : Nat, (k : Int) < u1_ → ze N2_ 113 k = ((tkn z_ 0 k : Nat) : Int)) by first | with_reducible assumption | assumption)
      refine zw_iload_n (pc := 2) (n := 2) (x := Int32.ofInt u1_) rfl (zdal_p dlD_M_setsOf_121 (i := 2) rfl) ?_
      refine zw_bipush (pc := 3) (v := Int32.ofInt 7) (by decide) (zdal_p dlD_M_setsOf_121 (i := 3) rfl) ?_
      refine zr_icmp_ge (pc := 5) (tgt := 32) ⟨hu1_a, hu1_b⟩ ⟨(by decide), (by decide)⟩ (by decide) (zdal_p dlD_M_setsOf_121 (i := 4) rfl) (fun hc_5 => ?_) (fun hc_5 => ?_)
      · skip
        have hn0_ : zTkN z_ 0 N2_ := ⟨trivial, fun k_ hk_ => hni_ k_ (by omega)⟩
        refine zw_iconst (pc := 32) (v := Int32.ofInt 0) (by decide) (zdal_p dlD_M_setsOf_121 (i := 17) rfl) ?_
        refine zw_istore_n (pc := 33) (i := 2) (L2 := [some (.ref 81), some (.int (Int32.ofInt a0_)), some (.int (Int32.ofInt 0)), none]) rfl (by decide) rfl (zdal_p dlD_M_setsOf_121 (i := 18) rfl) ?_
        have lp_34 : ∀ (n : Nat) (u8_ : Int) (hu8_a : -2147483648 ≤ u8_) (hu8_b : u8_ < 2147483648) (N9_ : zMem) (hs10_ : zFr [] [113] N2_ N9_) (i11_ : 0 ≤ u8_) (i12_ : u8_ ≤ ((z_.length : Nat) : Int)) (i13_ : zTkN z_ (u8_).toNat N9_), (((z_.length : Nat) : Int) - u8_).toNat < n → zW l m_M_setsOf (zn Mz + 0, zw Mz + 0) N9_ 34 [some (.ref 81), some (.int (Int32.ofInt a0_)), some (.int (Int32.ofInt u8_)), none] [] (zpI [] [113] Mz (fun v N => v = ((tkn z_ z_.length (a0_).toNat : Nat) : Int))) := by
          intro n
          induction n with
          | zero =>
            intro u8_ hu8_a hu8_b N9_ hs10_ i11_ i12_ i13_ h0
            exact absurd h0 (Nat.not_lt_zero _)
          | succ n ih_34 =>
            intro u8_ hu8_a hu8_b N9_ hs10_ i11_ i12_ i13_ hlt_34
            have hf_N9_ : zFr [] [113] Mz N9_ := hf_N2_.tr hs10_ (by decide) (by decide)
            have e63_N9_ : ze N9_ 81 63 = ze N2_ 81 63 := hs10_.e (by decide)
            have c14_ : zTkZ z_ N9_ := zTkZ.fr hs10_ c7_ (by decide) (by decide)
            have hnn_ := (show zTkN z_ (u8_).toNat N9_ by first | with_reducible assumption | assumption)
            have hzc_ := c14_
            refine zw_iload_n (pc := 34) (n := 2) (x := Int32.ofInt u8_) rfl (zdal_p dlD_M_setsOf_121 (i := 19) rfl) ?_
            refine zw_aload_n (pc := 35) (n := 0) (x := 81) rfl (zdal_p dlD_M_setsOf_121 (i := 20) rfl) ?_
            refine zr_getI0 hf_N9_ hW (pc := 36) (by decide) f_M_487 rfl (zdal_p dlD_M_setsOf_121 (i := 21) rfl) ?_
            refine zr_icmp_ge (pc := 39) (tgt := 89) ⟨hu8_a, hu8_b⟩ ⟨(ze_r Mz 81 63).1, (ze_r Mz 81 63).2⟩ (by decide) (zdal_p dlD_M_setsOf_121 (i := 22) rfl) (fun hc_39 => ?_) (fun hc_39 => ?_)
            · skip
              refine zw_aload_n (pc := 89) (n := 0) (x := 81) rfl (zdal_p dlD_M_setsOf_123 (i := 3) rfl) ?_
              refine zr_getF (r := 113) (hf_N9_.w hW) (pc := 90) f_M_112 rfl (zh_113 (hf_N9_.w hW)).1 (zdal_p dlD_M_setsOf_123 (i := 4) rfl) ?_
              refine zw_iload_n (pc := 93) (n := 1) (x := Int32.ofInt a0_) rfl (zdal_p dlD_M_setsOf_123 (i := 5) rfl) ?_
              refine zr_ialdn (pc := 94) (zh_113 (hf_N9_.w hW)).2 (by decide) (by omega) (by omega) (zdal_p dlD_M_setsOf_123 (i := 6) rfl) (fun v15_ hv15_ hv15_a hv15_b => ?_)
              have hrv_ := hv15_
              exact zr_iret (pc := 95) (ty := .int) rfl rfl ⟨by omega, by omega⟩ hf_N9_ (show v15_ = ((tkn z_ z_.length (a0_).toNat : Nat) : Int) by rw [hrv_, hnn_.2 _ (by omega), show (u8_).toNat = z_.length by omega]) (zdal_p dlD_M_setsOf_123 (i := 7) rfl)
            · skip
              refine zw_bipush (pc := 42) (v := Int32.ofInt 6) (by decide) (zdal_p dlD_M_setsOf_121 (i := 23) rfl) ?_
              refine zw_istore_n (pc := 44) (i := 3) (L2 := [some (.ref 81), some (.int (Int32.ofInt a0_)), some (.int (Int32.ofInt u8_)), some (.int (Int32.ofInt 6))]) rfl (by decide) rfl (zdal_p dlD_M_setsOf_122 (i := 0) rfl) ?_
              have lp_45 : ∀ (n : Nat) (u16_ : Int) (hu16_a : -2147483648 ≤ u16_) (hu16_b : u16_ < 2147483648) (N17_ : zMem) (hs18_ : zFr [] [113] N9_ N17_) (i19_ : u16_ ≤ 6) (i20_ : -1 ≤ u16_) (i21_ : zTkI z_ (u8_).toNat u16_ N17_), (u16_ + 1).toNat < n → zW l m_M_setsOf (zn Mz + 0, zw Mz + 0) N17_ 45 [some (.ref 81), some (.int (Int32.ofInt a0_)), some (.int (Int32.ofInt u8_)), some (.int (Int32.ofInt u16_))] [] (zpI [] [113] Mz (fun v N => v = ((tkn z_ z_.length (a0_).toNat : Nat) : Int))) := by
                intro n
                induction n with
                | zero =>
                  intro u16_ hu16_a hu16_b N17_ hs18_ i19_ i20_ i21_ h0
                  exact absurd h0 (Nat.not_lt_zero _)
                | succ n ih_45 =>
                  intro u16_ hu16_a hu16_b N17_ hs18_ i19_ i20_ i21_ hlt_45
                  have hf_N17_ : zFr [] [113] Mz N17_ := hf_N9_.tr hs18_ (by decide) (by decide)
                  have hb0_N17_ : zFr [] [113] N2_ N17_ := hs10_.tr hs18_ (by decide) (by decide)
                  have e63_N17_ : ze N17_ 81 63 = ze N9_ 81 63 := hs18_.e (by decide)
                  have c22_ : zTkZ z_ N17_ := zTkZ.fr hs18_ c14_ (by decide) (by decide)
                  have hnx_ := (show zTkI z_ (u8_).toNat u16_ N17_ by first | with_reducible assumption | assumption)
                  have hzd_ := p0_.2 (u8_).toNat (by omega)
                  refine zw_iload_n (pc := 45) (n := 3) (x := Int32.ofInt u16_) rfl (zdal_p dlD_M_setsOf_122 (i := 1) rfl) ?_
                  refine zw_aload_n (pc := 46) (n := 0) (x := 81) rfl (zdal_p dlD_M_setsOf_122 (i := 2) rfl) ?_
                  refine zr_getF (r := 112) (hf_N17_.w hW) (pc := 47) f_M_109 rfl (zh_112 (hf_N17_.w hW)).1 (zdal_p dlD_M_setsOf_122 (i := 3) rfl) ?_
                  refine zw_iload_n (pc := 50) (n := 2) (x := Int32.ofInt u8_) rfl (zdal_p dlD_M_setsOf_122 (i := 4) rfl) ?_
                  refine zr_ialdn (pc := 51) (zh_112 (hf_N17_.w hW)).2 (by decide) (by omega) (by omega) (zdal_p dlD_M_setsOf_122 (i := 5) rfl) (fun v23_ hv23_ hv23_a hv23_b => ?_)
                  rw [hf_N17_.ie (by decide) (by decide)] at hv23_
                  have hsz_ := (hv23_).trans hzd_.1
                  refine zr_icmp_lt (pc := 52) (tgt := 83) ⟨hu16_a, hu16_b⟩ ⟨hv23_a, hv23_b⟩ (by decide) (zdal_p dlD_M_setsOf_122 (i := 6) rfl) (fun hc_52 => ?_) (fun hc_52 => ?_)
                  · skip
                    have hne_ := zTkI_e hnx_ (by omega)
                    refine zr_iinc (pc := 83) (i := 2) (a := u8_) (n := 1) (L2 := [some (.ref 81), some (.int (Int32.ofInt a0_)), some (.int (Int32.ofInt (u8_ + 1))), some (.int (Int32.ofInt u16_))]) rfl (by decide) rfl (zdal_p dlD_M_setsOf_123 (i := 1) rfl) ?_
                    refine zw_goto (pc := 86) (tgt := 34) (by decide) (zdal_p dlD_M_setsOf_123 (i := 2) rfl) ?_
                    refine zW_le [some (.ref 81), some (.int (Int32.ofInt a0_)), some (.int (Int32.ofInt (u8_ + 1))), none] (⟨rfl, rfl, rfl, trivial⟩) ?_
                    exact ih_34 (u8_ + 1) (by omega) (by omega) N17_ hb0_N17_ (show 0 ≤ (u8_ + 1) by first | with_reducible assumption | assumption | omega) (show (u8_ + 1) ≤ ((z_.length : Nat) : Int) by first | with_reducible assumption | assumption | omega) (show zTkN z_ ((u8_ + 1)).toNat N17_ by exact zTkN_n hne_ (by omega)) (by omega)
                  · skip
                    refine zw_aload_n (pc := 55) (n := 0) (x := 81) rfl (zdal_p dlD_M_setsOf_122 (i := 7) rfl) ?_
                    refine zr_getF (r := 113) (hf_N17_.w hW) (pc := 56) f_M_112 rfl (zh_113 (hf_N17_.w hW)).1 (zdal_p dlD_M_setsOf_122 (i := 8) rfl) ?_
                    refine zw_iload_n (pc := 59) (n := 3) (x := Int32.ofInt u16_) rfl (zdal_p dlD_M_setsOf_122 (i := 9) rfl) ?_
                    refine zw_dup2 (pc := 60) rfl rfl (zdal_p dlD_M_setsOf_122 (i := 10) rfl) ?_
                    refine zr_ialdn (pc := 61) (zh_113 (hf_N17_.w hW)).2 (by decide) (by omega) (by omega) (zdal_p dlD_M_setsOf_122 (i := 11) rfl) (fun v24_ hv24_ hv24_a hv24_b => ?_)
                    have hv_ := hv24_
                    refine zw_aload_n (pc := 62) (n := 0) (x := 81) rfl (zdal_p dlD_M_setsOf_122 (i := 12) rfl) ?_
                    refine zr_getF (r := 113) (hf_N17_.w hW) (pc := 63) f_M_112 rfl (zh_113 (hf_N17_.w hW)).1 (zdal_p dlD_M_setsOf_122 (i := 13) rfl) ?_
                    refine zw_iload_n (pc := 66) (n := 3) (x := Int32.ofInt u16_) rfl (zdal_p dlD_M_setsOf_122 (i := 14) rfl) ?_
                    refine zw_aload_n (pc := 67) (n := 0) (x := 81) rfl (zdal_p dlD_M_setsOf_122 (i := 15) rfl) ?_
                    refine zr_getF (r := 112) (hf_N17_.w hW) (pc := 68) f_M_109 rfl (zh_112 (hf_N17_.w hW)).1 (zdal_p dlD_M_setsOf_122 (i := 16) rfl) ?_
                    refine zw_iload_n (pc := 71) (n := 2) (x := Int32.ofInt u8_) rfl (zdal_p dlD_M_setsOf_122 (i := 17) rfl) ?_
                    refine zr_ialdn (pc := 72) (zh_112 (hf_N17_.w hW)).2 (by decide) (by omega) (by omega) (zdal_p dlD_M_setsOf_122 (i := 18) rfl) (fun v25_ hv25_ hv25_a hv25_b => ?_)
                    rw [hf_N17_.ie (by decide) (by decide)] at hv25_
                    have hs2_ := (hv25_).trans hzd_.1
                    refine zr_isub (pc := 73) (zdal_p dlD_M_setsOf_122 (i := 19) rfl) ?_
                    refine zr_ialdn (pc := 74) (zh_113 (hf_N17_.w hW)).2 (by decide) (by omega) (by omega) (zdal_p dlD_M_setsOf_122 (i := 20) rfl) (fun v26_ hv26_ hv26_a hv26_b => ?_)
                    have hw_ := hv26_
                    refine zr_iadd (pc := 75) (zdal_p dlD_M_setsOf_122 (i := 21) rfl) ?_
                    refine zk_nmI (fun v27_ hv27_ hv27_e => ?_)
                    obtain ⟨hv27_a, hv27_b⟩ := hv27_
                    have b1_ := (hnx_ (u16_).toNat (by omega)).1 (by omega)
                    have b2_ := (hnx_ (u16_ - ((z_.getD (u8_).toNat 0 : Nat) : Int)).toNat (by omega)).1 (by omega)
                    have b3_ := tkn_6 z_ (q := (u8_).toNat) (k := (u16_).toNat) (by omega)
                    have b4_ := tkn_6 z_ (q := (u8_).toNat) (k := (u16_ - ((z_.getD (u8_).toNat 0 : Nat) : Int)).toNat) (by omega)
                    rw [hs2_] at hw_
                    have hy_ := hv27_e ⟨by omega, by omega⟩
                    refine zr_iast (pc := 76) (zh_113 (hf_N17_.w hW)).2 (by decide) (by decide) (by omega) (by omega) (zdal_p dlD_M_setsOf_122 (i := 22) rfl) (fun N28_ hN28_ hsN28_ => ?_)
                    have hf_N28_ : zFr [] [113] Mz N28_ := hf_N17_.tr hsN28_ (by decide) (by decide)
                    have hb0_N28_ : zFr [] [113] N2_ N28_ := hb0_N17_.tr hsN28_ (by decide) (by decide)
                    have hb1_N28_ : zFr [] [113] N9_ N28_ := hs18_.tr hsN28_ (by decide) (by decide)
                    have e63_N28_ : ze N28_ 81 63 = ze N17_ 81 63 := hsN28_.e (by decide)
                    have c29_ : zTkZ z_ N28_ := zTkZ.fr hsN28_ c22_ (by decide) (by decide)
                    have hnz_ := zTkI_s hnx_ (by omega) (by omega) (by omega) hzd_.2 (by omega) hv_ hw_ hy_ hN28_
                    refine zr_iinc (pc := 77) (i := 3) (a := u16_) (n := -1) (L2 := [some (.ref 81), some (.int (Int32.ofInt a0_)), some (.int (Int32.ofInt u8_)), some (.int (Int32.ofInt (u16_ + (-1))))]) rfl (by decide) rfl (zdal_p dlD_M_setsOf_122 (i := 23) rfl) ?_
                    refine zw_goto (pc := 80) (tgt := 45) (by decide) (zdal_p dlD_M_setsOf_123 (i := 0) rfl) ?_
                    exact ih_45 (u16_ + (-1)) (by omega) (by omega) N28_ hb1_N28_ (show (u16_ + (-1)) ≤ 6 by first | with_reducible assumption | assumption | omega) (show -1 ≤ (u16_ + (-1)) by first | with_reducible assumption | assumption | omega) (show zTkI z_ (u8_).toNat (u16_ + (-1)) N28_ by exact hnz_) (by omega)
              exact lp_45 _ 6 (by decide) (by decide) N9_ zFr.rf (show (6 : Int) ≤ 6 by first | with_reducible assumption | assumption | omega) (show -1 ≤ (6 : Int) by first | with_reducible assumption | assumption | omega) (show zTkI z_ (u8_).toNat (6 : Int) N9_ by exact zTkI_0 hnn_) (Nat.lt_succ_self _)
        exact lp_34 _ 0 (by decide) (by decide) N2_ zFr.rf (show 0 ≤ (0 : Int) by first | with_reducible assumption | assumption | omega) (show (0 : Int) ≤ ((z_.length : Nat) : Int) by first | with_reducible assumption | assumption | omega) (show zTkN z_ ((0 : Int)).toNat N2_ by exact hn0_) (Nat.lt_succ_self _)
      · skip
        refine zw_aload_n (pc := 8) (n := 0) (x := 81) rfl (zdal_p dlD_M_setsOf_121 (i := 5) rfl) ?_
        refine zr_getF (r := 113) (hf_N2_.w hW) (pc := 9) f_M_112 rfl (zh_113 (hf_N2_.w hW)).1 (zdal_p dlD_M_setsOf_121 (i := 6) rfl) ?_
        refine zw_iload_n (pc := 12) (n := 2) (x := Int32.ofInt u1_) rfl (zdal_p dlD_M_setsOf_121 (i := 7) rfl) ?_
        refine zw_iload_n (pc := 13) (n := 2) (x := Int32.ofInt u1_) rfl (zdal_p dlD_M_setsOf_121 (i := 8) rfl) ?_
        refine zr_if_ne (pc := 14) (tgt := 21) ⟨hu1_a, hu1_b⟩ (by decide) (zdal_p dlD_M_setsOf_121 (i := 9) rfl) (fun hc_14 => ?_) (fun hc_14 => ?_)
        · skip
          refine zw_iconst (pc := 21) (v := Int32.ofInt 0) (by decide) (zdal_p dlD_M_setsOf_121 (i := 12) rfl) ?_
          refine zr_callS hf_N2_.x (pc := 22) [.int (Int32.ofInt 0)] [.int (Int32.ofInt u1_), .ref 113] l_M_256 (c_M_truth l N2_ (hf_N2_.w hW) 0 (by decide) (by decide) (by omega)) rfl rfl (by decide) (Nat.le_of_ble_eq_true rfl) (zdal_p dlD_M_setsOf_121 (i := 13) rfl) ?_
          rintro _ N30_ ⟨v31_, rfl, ⟨hv31_a, hv31_b⟩, hsN30_, hp0_N30_⟩
          obtain rfl := hsN30_.eq.symm
          replace hp0_N30_ : v31_ = 0 := hp0_N30_
          show zW l m_M_setsOf (zn Mz + 0, zw Mz + 0) N2_ 25 [some (.ref 81), some (.int (Int32.ofInt a0_)), some (.int (Int32.ofInt u1_)), none] [.int (Int32.ofInt v31_), .int (Int32.ofInt u1_), .ref 113] _
          refine zr_iast (pc := 25) (zh_113 (hf_N2_.w hW)).2 (by decide) (by decide) (by omega) (by omega) (zdal_p dlD_M_setsOf_121 (i := 14) rfl) (fun N32_ hN32_ hsN32_ => ?_)
          have hf_N32_ : zFr [] [113] Mz N32_ := hf_N2_.tr hsN32_ (by decide) (by decide)
          have hb0_N32_ : zFr [] [113] Mz N32_ := hs3_.tr hsN32_ (by decide) (by decide)
          have e63_N32_ : ze N32_ 81 63 = ze N2_ 81 63 := hsN32_.e (by decide)
          have c33_ : zTkZ z_ N32_ := zTkZ.fr hsN32_ c7_ (by decide) (by decide)
          have hnj_ : (∀ k : Nat, (k : Int) < u1_ + 1 → ze N32_ 113 k = ((tkn z_ 0 k : Nat) : Int)) := fun k_ hk_ => by by_cases g_ : (k_ : Int) = u1_; (rw [show k_ = (u1_).toNat by omega, zs_get hN32_ ⟨by omega, by omega⟩]; show _ = (((if (u1_).toNat = 0 then 1 else 0) : Nat) : Int); first | (rw [if_pos (by omega)]; omega) | (rw [if_neg (by omega)]; omega)); (rw [zs_oth hN32_ (by omega)]; exact hni_ k_ (by omega))
          refine zr_iinc (pc := 26) (i := 2) (a := u1_) (n := 1) (L2 := [some (.ref 81), some (.int (Int32.ofInt a0_)), some (.int (Int32.ofInt (u1_ + 1))), none]) rfl (by decide) rfl (zdal_p dlD_M_setsOf_121 (i := 15) rfl) ?_
          refine zw_goto (pc := 29) (tgt := 2) (by decide) (zdal_p dlD_M_setsOf_121 (i := 16) rfl) ?_
          exact ih_2 (u1_ + 1) (by omega) (by omega) N32_ hb0_N32_ (show 0 ≤ (u1_ + 1) by first | with_reducible assumption | assumption | omega) (show (u1_ + 1) ≤ 7 by first | with_reducible assumption | assumption | omega) (show (∀ k : Nat, (k : Int) < (u1_ + 1) → ze N32_ 113 k = ((tkn z_ 0 k : Nat) : Int)) by exact hnj_) (by omega)
        · skip
          refine zw_iconst (pc := 17) (v := Int32.ofInt 1) (by decide) (zdal_p dlD_M_setsOf_121 (i := 10) rfl) ?_
          refine zw_goto (pc := 18) (tgt := 22) (by decide) (zdal_p dlD_M_setsOf_121 (i := 11) rfl) ?_
          refine zr_callS hf_N2_.x (pc := 22) [.int (Int32.ofInt 1)] [.int (Int32.ofInt u1_), .ref 113] l_M_256 (c_M_truth l N2_ (hf_N2_.w hW) 1 (by decide) (by decide) (by omega)) rfl rfl (by decide) (Nat.le_of_ble_eq_true rfl) (zdal_p dlD_M_setsOf_121 (i := 13) rfl) ?_
          rintro _ N34_ ⟨v35_, rfl, ⟨hv35_a, hv35_b⟩, hsN34_, hp0_N34_⟩
          obtain rfl := hsN34_.eq.symm
          replace hp0_N34_ : v35_ = 1 := hp0_N34_
          show zW l m_M_setsOf (zn Mz + 0, zw Mz + 0) N2_ 25 [some (.ref 81), some (.int (Int32.ofInt a0_)), some (.int (Int32.ofInt u1_)), none] [.int (Int32.ofInt v35_), .int (Int32.ofInt u1_), .ref 113] _
          refine zr_iast (pc := 25) (zh_113 (hf_N2_.w hW)).2 (by decide) (by decide) (by omega) (by omega) (zdal_p dlD_M_setsOf_121 (i := 14) rfl) (fun N36_ hN36_ hsN36_ => ?_)
          have hf_N36_ : zFr [] [113] Mz N36_ := hf_N2_.tr hsN36_ (by decide) (by decide)
          have hb0_N36_ : zFr [] [113] Mz N36_ := hs3_.tr hsN36_ (by decide) (by decide)
          have e63_N36_ : ze N36_ 81 63 = ze N2_ 81 63 := hsN36_.e (by decide)
          have c37_ : zTkZ z_ N36_ := zTkZ.fr hsN36_ c7_ (by decide) (by decide)
          have hnj_ : (∀ k : Nat, (k : Int) < u1_ + 1 → ze N36_ 113 k = ((tkn z_ 0 k : Nat) : Int)) := fun k_ hk_ => by by_cases g_ : (k_ : Int) = u1_; (rw [show k_ = (u1_).toNat by omega, zs_get hN36_ ⟨by omega, by omega⟩]; show _ = (((if (u1_).toNat = 0 then 1 else 0) : Nat) : Int); first | (rw [if_pos (by omega)]; omega) | (rw [if_neg (by omega)]; omega)); (rw [zs_oth hN36_ (by omega)]; exact hni_ k_ (by omega))
          refine zr_iinc (pc := 26) (i := 2) (a := u1_) (n := 1) (L2 := [some (.ref 81), some (.int (Int32.ofInt a0_)), some (.int (Int32.ofInt (u1_ + 1))), none]) rfl (by decide) rfl (zdal_p dlD_M_setsOf_121 (i := 15) rfl) ?_
          refine zw_goto (pc := 29) (tgt := 2) (by decide) (zdal_p dlD_M_setsOf_121 (i := 16) rfl) ?_
          exact ih_2 (u1_ + 1) (by omega) (by omega) N36_ hb0_N36_ (show 0 ≤ (u1_ + 1) by first | with_reducible assumption | assumption | omega) (show (u1_ + 1) ≤ 7 by first | with_reducible assumption | assumption | omega) (show (∀ k : Nat, (k : Int) < (u1_ + 1) → ze N36_ 113 k = ((tkn z_ 0 k : Nat) : Int)) by exact hnj_) (by omega)
  exact lp_2 _ 0 (by decide) (by decide) Mz zFr.rf (show 0 ≤ (0 : Int) by first | with_reducible assumption | assumption | omega) (show (0 : Int) ≤ 7 by first | with_reducible assumption | assumption | omega) (show (∀ k : Nat, (k : Int) < (0 : Int) → ze Mz 113 k = ((tkn z_ 0 k : Nat) : Int)) by exact fun k_ hk_ => absurd hk_ (by omega)) (Nat.lt_succ_self _)
set_option maxHeartbeats 4000000 in
theorem c_M_fixedByS (l : Launch) (Mz : zMem) (hW : zMt Mz) (a0_ : Int) (ha0_a : -2147483648 ≤ a0_) (ha0_b : a0_ < 2147483648) (a1_ : Int) (ha1_a : -2147483648 ≤ a1_) (ha1_b : a1_ < 2147483648) (z_ : List Nat) (p0_ : zTkZ z_ Mz) (p1_ : (a0_ = 0 ∨ ((a0_ = 1 ∨ a0_ = 2) ∧ 0 ≤ a1_ ∧ a1_ ≤ 6))) : zC l m_M_fixedBy 0 0 [.ref 81, .int (Int32.ofInt a0_), .int (Int32.ofInt a1_)] Mz (zpJ [] [113] Mz (fun v N => ((a0_ = 0 → v = ((tkone z_ : Nat) : Int)) ∧ (a0_ = 1 → v = ((tkn z_ z_.length (a1_).toNat : Nat) : Int)) ∧ (a0_ = 2 → v = a1_ ^ z_.length)))) := by
  refine zC_of (L0 := [some (.ref 81), some (.int (Int32.ofInt a0_)), some (.int (Int32.ofInt a1_)), none, none, none]) md_M_fixedBy (Nat.le_of_ble_eq_true rfl) rfl ?_ zQ0
  have hf : zFr [] [113] Mz Mz := zFr.rf
  have r_63 := ze_r Mz 81 63
  obtain ⟨⟨hz1_, hz2_⟩, hz3_⟩ := id p0_
  refine zw_iload_n (pc := 0) (n := 1) (x := Int32.ofInt a0_) rfl (zdal_p dlD_M_fixedBy_118 (i := 0) rfl) ?_
  refine zw_iconst (pc := 1) (v := Int32.ofInt 2) (by decide) (zdal_p dlD_M_fixedBy_118 (i := 1) rfl) ?_
  refine zr_icmp_ne (pc := 2) (tgt := 9) ⟨ha0_a, ha0_b⟩ ⟨(by decide), (by decide)⟩ (by decide) (zdal_p dlD_M_fixedBy_118 (i := 2) rfl) (fun hc_2 => ?_) (fun hc_2 => ?_)
  · skip
    refine zw_lconst (pc := 9) (v := Int64.ofInt 0) (by decide) (zdal_p dlD_M_fixedBy_118 (i := 5) rfl) ?_
    refine zw_lstore_n (pc := 10) (i := 3) (L2 := [some (.ref 81), some (.int (Int32.ofInt a0_)), some (.int (Int32.ofInt a1_)), some (.long (Int64.ofInt 0)), none, none]) rfl (by decide) rfl (zdal_p dlD_M_fixedBy_118 (i := 6) rfl) ?_
    refine zw_iconst (pc := 11) (v := Int32.ofInt 0) (by decide) (zdal_p dlD_M_fixedBy_118 (i := 7) rfl) ?_
    refine zw_istore (pc := 12) (i := 5) (L2 := [some (.ref 81), some (.int (Int32.ofInt a0_)), some (.int (Int32.ofInt a1_)), some (.long (Int64.ofInt 0)), none, some (.int (Int32.ofInt 0))]) (by decide) rfl (zdal_p dlD_M_fixedBy_118 (i := 8) rfl) ?_
    have lp_14 : ∀ (n : Nat) (u1_ : Int) (hu1_a : -9223372036854775808 ≤ u1_) (hu1_b : u1_ < 9223372036854775808) (u2_ : Int) (hu2_a : -2147483648 ≤ u2_) (hu2_b : u2_ < 2147483648) (i3_ : 0 ≤ u2_) (i4_ : u2_ ≤ ((z_.length : Nat) : Int)) (i5_ : zTkF z_ a0_ a1_ (u2_).toNat u1_) (i6_ : 0 ≤ u1_ ∧ u1_ ≤ 46656), (((z_.length : Nat) : Int) - u2_).toNat < n → zW l m_M_fixedBy (zn Mz + 0, zw Mz + 0) Mz 14 [some (.ref 81), some (.int (Int32.ofInt a0_)), some (.int (Int32.ofInt a1_)), some (.long (Int64.ofInt u1_)), none, some (.int (Int32.ofInt u2_))] [] (zpJ [] [113] Mz (fun v N => ((a0_ = 0 → v = ((tkone z_ : Nat) : Int)) ∧ (a0_ = 1 → v = ((tkn z_ z_.length (a1_).toNat : Nat) : Int)) ∧ (a0_ = 2 → v = a1_ ^ z_.length)))) := by
      intro n
      induction n with
      | zero =>
        intro u1_ hu1_a hu1_b u2_ hu2_a hu2_b i3_ i4_ i5_ i6_ h0
        exact absurd h0 (Nat.not_lt_zero _)
      | succ n ih_14 =>
        intro u1_ hu1_a hu1_b u2_ hu2_a hu2_b i3_ i4_ i5_ i6_ hlt_14
        have hfi_ := (show zTkF z_ a0_ a1_ (u2_).toNat u1_ by first | with_reducible assumption | assumption)
        refine zw_iload (pc := 14) (i := 5) (x := Int32.ofInt u2_) rfl (zdal_p dlD_M_fixedBy_118 (i := 9) rfl) ?_
        refine zw_aload_n (pc := 16) (n := 0) (x := 81) rfl (zdal_p dlD_M_fixedBy_118 (i := 10) rfl) ?_
        refine zr_getI0 hf hW (pc := 17) (by decide) f_M_487 rfl (zdal_p dlD_M_fixedBy_118 (i := 11) rfl) ?_
        refine zr_icmp_ge (pc := 20) (tgt := 66) ⟨hu2_a, hu2_b⟩ ⟨(ze_r Mz 81 63).1, (ze_r Mz 81 63).2⟩ (by decide) (zdal_p dlD_M_fixedBy_118 (i := 12) rfl) (fun hc_20 => ?_) (fun hc_20 => ?_)
        · skip
          have hfe_ : zTkF z_ a0_ a1_ z_.length u1_ := by have h_ := hfi_; rw [show (u2_).toNat = z_.length by omega] at h_; exact h_
          refine zw_iload_n (pc := 66) (n := 1) (x := Int32.ofInt a0_) rfl (zdal_p dlD_M_fixedBy_119 (i := 15) rfl) ?_
          refine zw_iconst (pc := 67) (v := Int32.ofInt 1) (by decide) (zdal_p dlD_M_fixedBy_119 (i := 16) rfl) ?_
          refine zr_icmp_ne (pc := 68) (tgt := 80) ⟨ha0_a, ha0_b⟩ ⟨(by decide), (by decide)⟩ (by decide) (zdal_p dlD_M_fixedBy_119 (i := 17) rfl) (fun hc_68 => ?_) (fun hc_68 => ?_)
          · skip
            refine zw_lload_n (pc := 80) (n := 3) (x := Int64.ofInt u1_) rfl (zdal_p dlD_M_fixedBy_119 (i := 23) rfl) ?_
            exact zr_lret (pc := 81) rfl ⟨by omega, by omega⟩ hf (show ((a0_ = 0 → u1_ = ((tkone z_ : Nat) : Int)) ∧ (a0_ = 1 → u1_ = ((tkn z_ z_.length (a1_).toNat : Nat) : Int)) ∧ (a0_ = 2 → u1_ = a1_ ^ z_.length)) by first | exact ⟨fun h_ => by omega, fun _ => hso_, fun h_ => by omega⟩ | exact ⟨fun h_ => hfe_.1 h_, fun h_ => by omega, fun h_ => hfe_.2.2 h_⟩) (zdal_p dlD_M_fixedBy_120 (i := 0) rfl)
          · skip
            refine zw_aload_n (pc := 71) (n := 0) (x := 81) rfl (zdal_p dlD_M_fixedBy_119 (i := 18) rfl) ?_
            refine zw_iload_n (pc := 72) (n := 2) (x := Int32.ofInt a1_) rfl (zdal_p dlD_M_fixedBy_119 (i := 19) rfl) ?_
            refine zr_callV (hf.w hW) hf.x (pc := 73) [.int (Int32.ofInt a1_)] [] l_M_490 (c_M_setsOfS l Mz (hf.w hW) a1_ ha1_a ha1_b z_ p0_ (show 0 ≤ a1_ by first | with_reducible assumption | assumption | omega) (show a1_ ≤ 6 by first | with_reducible assumption | assumption | omega)) rfl rfl rfl (by decide) (Nat.le_of_ble_eq_true rfl) (zdal_p dlD_M_fixedBy_119 (i := 20) rfl) ?_
            rintro _ N7_ ⟨v8_, rfl, ⟨hv8_a, hv8_b⟩, hsN7_, hp0_N7_⟩
            replace hp0_N7_ : v8_ = ((tkn z_ z_.length (a1_).toNat : Nat) : Int) := hp0_N7_
            have hf_N7_ : zFr [] [113] Mz N7_ := hf.tr hsN7_ (by decide) (by decide)
            have e63_N7_ : ze N7_ 81 63 = ze Mz 81 63 := hsN7_.e (by decide)
            have c9_ : zTkZ z_ N7_ := zTkZ.fr hsN7_ p0_ (by decide) (by decide)
            show zW l m_M_fixedBy (zn Mz + 0, zw Mz + 0) N7_ 76 [some (.ref 81), some (.int (Int32.ofInt a0_)), some (.int (Int32.ofInt a1_)), some (.long (Int64.ofInt u1_)), none, some (.int (Int32.ofInt u2_))] [.int (Int32.ofInt v8_)] _
            have hso_ := hp0_N7_
            refine zr_i2l (pc := 76) ⟨hv8_a, hv8_b⟩ (zdal_p dlD_M_fixedBy_119 (i := 21) rfl) ?_
            refine zw_goto (pc := 77) (tgt := 81) (by decide) (zdal_p dlD_M_fixedBy_119 (i := 22) rfl) ?_
            exact zr_lret (pc := 81) rfl ⟨by omega, by omega⟩ hf_N7_ (show ((a0_ = 0 → v8_ = ((tkone z_ : Nat) : Int)) ∧ (a0_ = 1 → v8_ = ((tkn z_ z_.length (a1_).toNat : Nat) : Int)) ∧ (a0_ = 2 → v8_ = a1_ ^ z_.length)) by first | exact ⟨fun h_ => by omega, fun _ => hso_, fun h_ => by omega⟩ | exact ⟨fun h_ => hfe_.1 h_, fun h_ => by omega, fun h_ => hfe_.2.2 h_⟩) (zdal_p dlD_M_fixedBy_120 (i := 0) rfl)
        · skip
          refine zw_iload_n (pc := 23) (n := 1) (x := Int32.ofInt a0_) rfl (zdal_p dlD_M_fixedBy_118 (i := 13) rfl) ?_
          refine zr_if_ne (pc := 24) (tgt := 50) ⟨ha0_a, ha0_b⟩ (by decide) (zdal_p dlD_M_fixedBy_118 (i := 14) rfl) (fun hc_24 => ?_) (fun hc_24 => ?_)
          · skip
            refine zw_iload_n (pc := 50) (n := 1) (x := Int32.ofInt a0_) rfl d_M_fixedBy_50 ?_
            refine zw_iconst (pc := 51) (v := Int32.ofInt 2) (by decide) d_M_fixedBy_51 ?_
            refine zr_icmp_ne (pc := 52) (tgt := 60) ⟨ha0_a, ha0_b⟩ ⟨(by decide), (by decide)⟩ (by decide) d_M_fixedBy_52 (fun hc_52 => ?_) (fun hc_52 => ?_)
            · skip
              refine zr_iinc (pc := 60) (i := 5) (a := u2_) (n := 1) (L2 := [some (.ref 81), some (.int (Int32.ofInt a0_)), some (.int (Int32.ofInt a1_)), some (.long (Int64.ofInt u1_)), none, some (.int (Int32.ofInt (u2_ + 1)))]) rfl (by decide) rfl d_M_fixedBy_60 ?_
              refine zw_goto (pc := 63) (tgt := 14) (by decide) d_M_fixedBy_63 ?_
              have hfn_ : zTkF z_ a0_ a1_ ((u2_ + 1)).toNat u1_ := by first | (exfalso; omega) | exact zTkF_a hfi_ (by omega) (by omega) hx_ (by omega) ha_ | exact zTkF_b hfi_ (by omega) (by omega) hb_ | exact zTkF_c hfi_ (by omega)
              have hfr_ := zTkF_r hfn_ (by omega) p1_
              exact ih_14 u1_ hu1_a hu1_b (u2_ + 1) (by omega) (by omega) (show 0 ≤ (u2_ + 1) by first | with_reducible assumption | assumption | omega) (show (u2_ + 1) ≤ ((z_.length : Nat) : Int) by first | with_reducible assumption | assumption | omega) (show zTkF z_ a0_ a1_ ((u2_ + 1)).toNat u1_ by exact hfn_) (show 0 ≤ u1_ ∧ u1_ ≤ 46656 by exact hfr_) (by omega)
            · skip
              refine zw_lload_n (pc := 55) (n := 3) (x := Int64.ofInt u1_) rfl d_M_fixedBy_55 ?_
              refine zw_iload_n (pc := 56) (n := 2) (x := Int32.ofInt a1_) rfl d_M_fixedBy_56 ?_
              refine zr_i2l (pc := 57) ⟨ha1_a, ha1_b⟩ d_M_fixedBy_57 ?_
              have hm_ : u1_ * a1_ = a1_ ^ ((u2_).toNat + 1) := by first | (exfalso; omega) | rw [hfi_.2.2 (by omega), Int.pow_succ]
              have hmb_ := tkp_6 (n := a1_) (by omega) (by omega) ((u2_).toNat + 1) (by omega)
              rw [← hm_] at hmb_
              refine zr_lmul (pc := 58) d_M_fixedBy_58 ?_
              refine zk_nmJ (fun v10_ hv10_ hv10_e => ?_)
              obtain ⟨hv10_a, hv10_b⟩ := hv10_
              have hb_ := z64q ⟨by omega, by omega⟩ ⟨by omega, by omega⟩ hv10_e
              refine zw_lstore_n (pc := 59) (i := 3) (L2 := [some (.ref 81), some (.int (Int32.ofInt a0_)), some (.int (Int32.ofInt a1_)), some (.long (Int64.ofInt v10_)), none, some (.int (Int32.ofInt u2_))]) rfl (by decide) rfl d_M_fixedBy_59 ?_
              refine zr_iinc (pc := 60) (i := 5) (a := u2_) (n := 1) (L2 := [some (.ref 81), some (.int (Int32.ofInt a0_)), some (.int (Int32.ofInt a1_)), some (.long (Int64.ofInt v10_)), none, some (.int (Int32.ofInt (u2_ + 1)))]) rfl (by decide) rfl d_M_fixedBy_60 ?_
              refine zw_goto (pc := 63) (tgt := 14) (by decide) d_M_fixedBy_63 ?_
              have hfn_ : zTkF z_ a0_ a1_ ((u2_ + 1)).toNat v10_ := by first | (exfalso; omega) | exact zTkF_a hfi_ (by omega) (by omega) hx_ (by omega) ha_ | exact zTkF_b hfi_ (by omega) (by omega) hb_ | exact zTkF_c hfi_ (by omega)
              have hfr_ := zTkF_r hfn_ (by omega) p1_
              exact ih_14 v10_ hv10_a hv10_b (u2_ + 1) (by omega) (by omega) (show 0 ≤ (u2_ + 1) by first | with_reducible assumption | assumption | omega) (show (u2_ + 1) ≤ ((z_.length : Nat) : Int) by first | with_reducible assumption | assumption | omega) (show zTkF z_ a0_ a1_ ((u2_ + 1)).toNat v10_ by exact hfn_) (show 0 ≤ v10_ ∧ v10_ ≤ 46656 by exact hfr_) (by omega)
          · skip
            refine zw_lload_n (pc := 27) (n := 3) (x := Int64.ofInt u1_) rfl (zdal_p dlD_M_fixedBy_118 (i := 15) rfl) ?_
            refine zw_aload_n (pc := 28) (n := 0) (x := 81) rfl (zdal_p dlD_M_fixedBy_118 (i := 16) rfl) ?_
            refine zr_getF (r := 112) (hf.w hW) (pc := 29) f_M_109 rfl (zh_112 (hf.w hW)).1 (zdal_p dlD_M_fixedBy_118 (i := 17) rfl) ?_
            refine zw_iload (pc := 32) (i := 5) (x := Int32.ofInt u2_) rfl (zdal_p dlD_M_fixedBy_118 (i := 18) rfl) ?_
            refine zr_ialdn (pc := 34) (zh_112 (hf.w hW)).2 (by decide) (by omega) (by omega) (zdal_p dlD_M_fixedBy_118 (i := 19) rfl) (fun v11_ hv11_ hv11_a hv11_b => ?_)
            have hx_ := (hv11_).trans ((p0_.2 (u2_).toNat (by omega)).1)
            refine zw_iconst (pc := 35) (v := Int32.ofInt 1) (by decide) (zdal_p dlD_M_fixedBy_118 (i := 20) rfl) ?_
            refine zr_icmp_ne (pc := 36) (tgt := 43) ⟨hv11_a, hv11_b⟩ ⟨(by decide), (by decide)⟩ (by decide) (zdal_p dlD_M_fixedBy_118 (i := 21) rfl) (fun hc_36 => ?_) (fun hc_36 => ?_)
            · skip
              refine zw_iconst (pc := 43) (v := Int32.ofInt 0) (by decide) (zdal_p dlD_M_fixedBy_119 (i := 0) rfl) ?_
              refine zr_callS hf.x (pc := 44) [.int (Int32.ofInt 0)] [.long (Int64.ofInt u1_)] l_M_256 (c_M_truth l Mz (hf.w hW) 0 (by decide) (by decide) (by omega)) rfl rfl (by decide) (Nat.le_of_ble_eq_true rfl) (zdal_p dlD_M_fixedBy_119 (i := 1) rfl) ?_
              rintro _ N12_ ⟨v13_, rfl, ⟨hv13_a, hv13_b⟩, hsN12_, hp0_N12_⟩
              obtain rfl := hsN12_.eq.symm
              replace hp0_N12_ : v13_ = 0 := hp0_N12_
              show zW l m_M_fixedBy (zn Mz + 0, zw Mz + 0) Mz 47 [some (.ref 81), some (.int (Int32.ofInt a0_)), some (.int (Int32.ofInt a1_)), some (.long (Int64.ofInt u1_)), none, some (.int (Int32.ofInt u2_))] [.int (Int32.ofInt v13_), .long (Int64.ofInt u1_)] _
              refine zr_i2l (pc := 47) ⟨hv13_a, hv13_b⟩ (zdal_p dlD_M_fixedBy_119 (i := 2) rfl) ?_
              refine zr_ladd (pc := 48) (zdal_p dlD_M_fixedBy_119 (i := 3) rfl) ?_
              refine zk_nmJ (fun v14_ hv14_ hv14_e => ?_)
              obtain ⟨hv14_a, hv14_b⟩ := hv14_
              have ha_ := z64q ⟨by omega, by omega⟩ ⟨by omega, by omega⟩ hv14_e
              refine zw_lstore_n (pc := 49) (i := 3) (L2 := [some (.ref 81), some (.int (Int32.ofInt a0_)), some (.int (Int32.ofInt a1_)), some (.long (Int64.ofInt v14_)), none, some (.int (Int32.ofInt u2_))]) rfl (by decide) rfl (zdal_p dlD_M_fixedBy_119 (i := 4) rfl) ?_
              refine zw_iload_n (pc := 50) (n := 1) (x := Int32.ofInt a0_) rfl d_M_fixedBy_50 ?_
              refine zw_iconst (pc := 51) (v := Int32.ofInt 2) (by decide) d_M_fixedBy_51 ?_
              refine zr_icmp_ne (pc := 52) (tgt := 60) ⟨ha0_a, ha0_b⟩ ⟨(by decide), (by decide)⟩ (by decide) d_M_fixedBy_52 (fun hc_52 => ?_) (fun hc_52 => ?_)
              · skip
                refine zr_iinc (pc := 60) (i := 5) (a := u2_) (n := 1) (L2 := [some (.ref 81), some (.int (Int32.ofInt a0_)), some (.int (Int32.ofInt a1_)), some (.long (Int64.ofInt v14_)), none, some (.int (Int32.ofInt (u2_ + 1)))]) rfl (by decide) rfl d_M_fixedBy_60 ?_
                refine zw_goto (pc := 63) (tgt := 14) (by decide) d_M_fixedBy_63 ?_
                have hfn_ : zTkF z_ a0_ a1_ ((u2_ + 1)).toNat v14_ := by first | (exfalso; omega) | exact zTkF_a hfi_ (by omega) (by omega) hx_ (by omega) ha_ | exact zTkF_b hfi_ (by omega) (by omega) hb_ | exact zTkF_c hfi_ (by omega)
                have hfr_ := zTkF_r hfn_ (by omega) p1_
                exact ih_14 v14_ hv14_a hv14_b (u2_ + 1) (by omega) (by omega) (show 0 ≤ (u2_ + 1) by first | with_reducible assumption | assumption | omega) (show (u2_ + 1) ≤ ((z_.length : Nat) : Int) by first | with_reducible assumption | assumption | omega) (show zTkF z_ a0_ a1_ ((u2_ + 1)).toNat v14_ by exact hfn_) (show 0 ≤ v14_ ∧ v14_ ≤ 46656 by exact hfr_) (by omega)
              · skip
                refine zw_lload_n (pc := 55) (n := 3) (x := Int64.ofInt v14_) rfl d_M_fixedBy_55 ?_
                refine zw_iload_n (pc := 56) (n := 2) (x := Int32.ofInt a1_) rfl d_M_fixedBy_56 ?_
                refine zr_i2l (pc := 57) ⟨ha1_a, ha1_b⟩ d_M_fixedBy_57 ?_
                have hm_ : v14_ * a1_ = a1_ ^ ((u2_).toNat + 1) := by first | (exfalso; omega) | rw [hfi_.2.2 (by omega), Int.pow_succ]
                have hmb_ := tkp_6 (n := a1_) (by omega) (by omega) ((u2_).toNat + 1) (by omega)
                rw [← hm_] at hmb_
                refine zr_lmul (pc := 58) d_M_fixedBy_58 ?_
                refine zk_nmJ (fun v15_ hv15_ hv15_e => ?_)
                obtain ⟨hv15_a, hv15_b⟩ := hv15_
                have hb_ := z64q ⟨by omega, by omega⟩ ⟨by omega, by omega⟩ hv15_e
                refine zw_lstore_n (pc := 59) (i := 3) (L2 := [some (.ref 81), some (.int (Int32.ofInt a0_)), some (.int (Int32.ofInt a1_)), some (.long (Int64.ofInt v15_)), none, some (.int (Int32.ofInt u2_))]) rfl (by decide) rfl d_M_fixedBy_59 ?_
                refine zr_iinc (pc := 60) (i := 5) (a := u2_) (n := 1) (L2 := [some (.ref 81), some (.int (Int32.ofInt a0_)), some (.int (Int32.ofInt a1_)), some (.long (Int64.ofInt v15_)), none, some (.int (Int32.ofInt (u2_ + 1)))]) rfl (by decide) rfl d_M_fixedBy_60 ?_
                refine zw_goto (pc := 63) (tgt := 14) (by decide) d_M_fixedBy_63 ?_
                have hfn_ : zTkF z_ a0_ a1_ ((u2_ + 1)).toNat v15_ := by first | (exfalso; omega) | exact zTkF_a hfi_ (by omega) (by omega) hx_ (by omega) ha_ | exact zTkF_b hfi_ (by omega) (by omega) hb_ | exact zTkF_c hfi_ (by omega)
                have hfr_ := zTkF_r hfn_ (by omega) p1_
                exact ih_14 v15_ hv15_a hv15_b (u2_ + 1) (by omega) (by omega) (show 0 ≤ (u2_ + 1) by first | with_reducible assumption | assumption | omega) (show (u2_ + 1) ≤ ((z_.length : Nat) : Int) by first | with_reducible assumption | assumption | omega) (show zTkF z_ a0_ a1_ ((u2_ + 1)).toNat v15_ by exact hfn_) (show 0 ≤ v15_ ∧ v15_ ≤ 46656 by exact hfr_) (by omega)
            · skip
              refine zw_iconst (pc := 39) (v := Int32.ofInt 1) (by decide) (zdal_p dlD_M_fixedBy_118 (i := 22) rfl) ?_
              refine zw_goto (pc := 40) (tgt := 44) (by decide) (zdal_p dlD_M_fixedBy_118 (i := 23) rfl) ?_
              refine zr_callS hf.x (pc := 44) [.int (Int32.ofInt 1)] [.long (Int64.ofInt u1_)] l_M_256 (c_M_truth l Mz (hf.w hW) 1 (by decide) (by decide) (by omega)) rfl rfl (by decide) (Nat.le_of_ble_eq_true rfl) (zdal_p dlD_M_fixedBy_119 (i := 1) rfl) ?_
              rintro _ N16_ ⟨v17_, rfl, ⟨hv17_a, hv17_b⟩, hsN16_, hp0_N16_⟩
              obtain rfl := hsN16_.eq.symm
              replace hp0_N16_ : v17_ = 1 := hp0_N16_
              show zW l m_M_fixedBy (zn Mz + 0, zw Mz + 0) Mz 47 [some (.ref 81), some (.int (Int32.ofInt a0_)), some (.int (Int32.ofInt a1_)), some (.long (Int64.ofInt u1_)), none, some (.int (Int32.ofInt u2_))] [.int (Int32.ofInt v17_), .long (Int64.ofInt u1_)] _
              refine zr_i2l (pc := 47) ⟨hv17_a, hv17_b⟩ (zdal_p dlD_M_fixedBy_119 (i := 2) rfl) ?_
              refine zr_ladd (pc := 48) (zdal_p dlD_M_fixedBy_119 (i := 3) rfl) ?_
              refine zk_nmJ (fun v18_ hv18_ hv18_e => ?_)
              obtain ⟨hv18_a, hv18_b⟩ := hv18_
              have ha_ := z64q ⟨by omega, by omega⟩ ⟨by omega, by omega⟩ hv18_e
              refine zw_lstore_n (pc := 49) (i := 3) (L2 := [some (.ref 81), some (.int (Int32.ofInt a0_)), some (.int (Int32.ofInt a1_)), some (.long (Int64.ofInt v18_)), none, some (.int (Int32.ofInt u2_))]) rfl (by decide) rfl (zdal_p dlD_M_fixedBy_119 (i := 4) rfl) ?_
              refine zw_iload_n (pc := 50) (n := 1) (x := Int32.ofInt a0_) rfl d_M_fixedBy_50 ?_
              refine zw_iconst (pc := 51) (v := Int32.ofInt 2) (by decide) d_M_fixedBy_51 ?_
              refine zr_icmp_ne (pc := 52) (tgt := 60) ⟨ha0_a, ha0_b⟩ ⟨(by decide), (by decide)⟩ (by decide) d_M_fixedBy_52 (fun hc_52 => ?_) (fun hc_52 => ?_)
              · skip
                refine zr_iinc (pc := 60) (i := 5) (a := u2_) (n := 1) (L2 := [some (.ref 81), some (.int (Int32.ofInt a0_)), some (.int (Int32.ofInt a1_)), some (.long (Int64.ofInt v18_)), none, some (.int (Int32.ofInt (u2_ + 1)))]) rfl (by decide) rfl d_M_fixedBy_60 ?_
                refine zw_goto (pc := 63) (tgt := 14) (by decide) d_M_fixedBy_63 ?_
                have hfn_ : zTkF z_ a0_ a1_ ((u2_ + 1)).toNat v18_ := by first | (exfalso; omega) | exact zTkF_a hfi_ (by omega) (by omega) hx_ (by omega) ha_ | exact zTkF_b hfi_ (by omega) (by omega) hb_ | exact zTkF_c hfi_ (by omega)
                have hfr_ := zTkF_r hfn_ (by omega) p1_
                exact ih_14 v18_ hv18_a hv18_b (u2_ + 1) (by omega) (by omega) (show 0 ≤ (u2_ + 1) by first | with_reducible assumption | assumption | omega) (show (u2_ + 1) ≤ ((z_.length : Nat) : Int) by first | with_reducible assumption | assumption | omega) (show zTkF z_ a0_ a1_ ((u2_ + 1)).toNat v18_ by exact hfn_) (show 0 ≤ v18_ ∧ v18_ ≤ 46656 by exact hfr_) (by omega)
              · skip
                refine zw_lload_n (pc := 55) (n := 3) (x := Int64.ofInt v18_) rfl d_M_fixedBy_55 ?_
                refine zw_iload_n (pc := 56) (n := 2) (x := Int32.ofInt a1_) rfl d_M_fixedBy_56 ?_
                refine zr_i2l (pc := 57) ⟨ha1_a, ha1_b⟩ d_M_fixedBy_57 ?_
                have hm_ : v18_ * a1_ = a1_ ^ ((u2_).toNat + 1) := by first | (exfalso; omega) | rw [hfi_.2.2 (by omega), Int.pow_succ]
                have hmb_ := tkp_6 (n := a1_) (by omega) (by omega) ((u2_).toNat + 1) (by omega)
                rw [← hm_] at hmb_
                refine zr_lmul (pc := 58) d_M_fixedBy_58 ?_
                refine zk_nmJ (fun v19_ hv19_ hv19_e => ?_)
                obtain ⟨hv19_a, hv19_b⟩ := hv19_
                have hb_ := z64q ⟨by omega, by omega⟩ ⟨by omega, by omega⟩ hv19_e
                refine zw_lstore_n (pc := 59) (i := 3) (L2 := [some (.ref 81), some (.int (Int32.ofInt a0_)), some (.int (Int32.ofInt a1_)), some (.long (Int64.ofInt v19_)), none, some (.int (Int32.ofInt u2_))]) rfl (by decide) rfl d_M_fixedBy_59 ?_
                refine zr_iinc (pc := 60) (i := 5) (a := u2_) (n := 1) (L2 := [some (.ref 81), some (.int (Int32.ofInt a0_)), some (.int (Int32.ofInt a1_)), some (.long (Int64.ofInt v19_)), none, some (.int (Int32.ofInt (u2_ + 1)))]) rfl (by decide) rfl d_M_fixedBy_60 ?_
                refine zw_goto (pc := 63) (tgt := 14) (by decide) d_M_fixedBy_63 ?_
                have hfn_ : zTkF z_ a0_ a1_ ((u2_ + 1)).toNat v19_ := by first | (exfalso; omega) | exact zTkF_a hfi_ (by omega) (by omega) hx_ (by omega) ha_ | exact zTkF_b hfi_ (by omega) (by omega) hb_ | exact zTkF_c hfi_ (by omega)
                have hfr_ := zTkF_r hfn_ (by omega) p1_
                exact ih_14 v19_ hv19_a hv19_b (u2_ + 1) (by omega) (by omega) (show 0 ≤ (u2_ + 1) by first | with_reducible assumption | assumption | omega) (show (u2_ + 1) ≤ ((z_.length : Nat) : Int) by first | with_reducible assumption | assumption | omega) (show zTkF z_ a0_ a1_ ((u2_ + 1)).toNat v19_ by exact hfn_) (show 0 ≤ v19_ ∧ v19_ ≤ 46656 by exact hfr_) (by omega)
    exact lp_14 _ 0 (by decide) (by decide) 0 (by decide) (by decide) (show 0 ≤ (0 : Int) by first | with_reducible assumption | assumption | omega) (show (0 : Int) ≤ ((z_.length : Nat) : Int) by first | with_reducible assumption | assumption | omega) (show zTkF z_ a0_ a1_ ((0 : Int)).toNat (0 : Int) by first | exact ⟨fun h_ => by omega, fun h_ => by omega, fun _ => (Int.pow_zero _).symm⟩ | exact ⟨fun _ => rfl, fun _ => rfl, fun h_ => by omega⟩) (show 0 ≤ (0 : Int) ∧ (0 : Int) ≤ 46656 by first | with_reducible assumption | assumption | omega) (Nat.lt_succ_self _)
  · skip
    refine zw_lconst (pc := 5) (v := Int64.ofInt 1) (by decide) (zdal_p dlD_M_fixedBy_118 (i := 3) rfl) ?_
    refine zw_goto (pc := 6) (tgt := 10) (by decide) (zdal_p dlD_M_fixedBy_118 (i := 4) rfl) ?_
    refine zw_lstore_n (pc := 10) (i := 3) (L2 := [some (.ref 81), some (.int (Int32.ofInt a0_)), some (.int (Int32.ofInt a1_)), some (.long (Int64.ofInt 1)), none, none]) rfl (by decide) rfl (zdal_p dlD_M_fixedBy_118 (i := 6) rfl) ?_
    refine zw_iconst (pc := 11) (v := Int32.ofInt 0) (by decide) (zdal_p dlD_M_fixedBy_118 (i := 7) rfl) ?_
    refine zw_istore (pc := 12) (i := 5) (L2 := [some (.ref 81), some (.int (Int32.ofInt a0_)), some (.int (Int32.ofInt a1_)), some (.long (Int64.ofInt 1)), none, some (.int (Int32.ofInt 0))]) (by decide) rfl (zdal_p dlD_M_fixedBy_118 (i := 8) rfl) ?_
    have lp_14 : ∀ (n : Nat) (u20_ : Int) (hu20_a : -9223372036854775808 ≤ u20_) (hu20_b : u20_ < 9223372036854775808) (u21_ : Int) (hu21_a : -2147483648 ≤ u21_) (hu21_b : u21_ < 2147483648) (i22_ : 0 ≤ u21_) (i23_ : u21_ ≤ ((z_.length : Nat) : Int)) (i24_ : zTkF z_ a0_ a1_ (u21_).toNat u20_) (i25_ : 0 ≤ u20_ ∧ u20_ ≤ 46656), (((z_.length : Nat) : Int) - u21_).toNat < n → zW l m_M_fixedBy (zn Mz + 0, zw Mz + 0) Mz 14 [some (.ref 81), some (.int (Int32.ofInt a0_)), some (.int (Int32.ofInt a1_)), some (.long (Int64.ofInt u20_)), none, some (.int (Int32.ofInt u21_))] [] (zpJ [] [113] Mz (fun v N => ((a0_ = 0 → v = ((tkone z_ : Nat) : Int)) ∧ (a0_ = 1 → v = ((tkn z_ z_.length (a1_).toNat : Nat) : Int)) ∧ (a0_ = 2 → v = a1_ ^ z_.length)))) := by
      intro n
      induction n with
      | zero =>
        intro u20_ hu20_a hu20_b u21_ hu21_a hu21_b i22_ i23_ i24_ i25_ h0
        exact absurd h0 (Nat.not_lt_zero _)
      | succ n ih_14 =>
        intro u20_ hu20_a hu20_b u21_ hu21_a hu21_b i22_ i23_ i24_ i25_ hlt_14
        have hfi_ := (show zTkF z_ a0_ a1_ (u21_).toNat u20_ by first | with_reducible assumption | assumption)
        refine zw_iload (pc := 14) (i := 5) (x := Int32.ofInt u21_) rfl (zdal_p dlD_M_fixedBy_118 (i := 9) rfl) ?_
        refine zw_aload_n (pc := 16) (n := 0) (x := 81) rfl (zdal_p dlD_M_fixedBy_118 (i := 10) rfl) ?_
        refine zr_getI0 hf hW (pc := 17) (by decide) f_M_487 rfl (zdal_p dlD_M_fixedBy_118 (i := 11) rfl) ?_
        refine zr_icmp_ge (pc := 20) (tgt := 66) ⟨hu21_a, hu21_b⟩ ⟨(ze_r Mz 81 63).1, (ze_r Mz 81 63).2⟩ (by decide) (zdal_p dlD_M_fixedBy_118 (i := 12) rfl) (fun hc_20 => ?_) (fun hc_20 => ?_)
        · skip
          have hfe_ : zTkF z_ a0_ a1_ z_.length u20_ := by have h_ := hfi_; rw [show (u21_).toNat = z_.length by omega] at h_; exact h_
          refine zw_iload_n (pc := 66) (n := 1) (x := Int32.ofInt a0_) rfl (zdal_p dlD_M_fixedBy_119 (i := 15) rfl) ?_
          refine zw_iconst (pc := 67) (v := Int32.ofInt 1) (by decide) (zdal_p dlD_M_fixedBy_119 (i := 16) rfl) ?_
          refine zr_icmp_ne (pc := 68) (tgt := 80) ⟨ha0_a, ha0_b⟩ ⟨(by decide), (by decide)⟩ (by decide) (zdal_p dlD_M_fixedBy_119 (i := 17) rfl) (fun hc_68 => ?_) (fun hc_68 => ?_)
          · skip
            refine zw_lload_n (pc := 80) (n := 3) (x := Int64.ofInt u20_) rfl (zdal_p dlD_M_fixedBy_119 (i := 23) rfl) ?_
            exact zr_lret (pc := 81) rfl ⟨by omega, by omega⟩ hf (show ((a0_ = 0 → u20_ = ((tkone z_ : Nat) : Int)) ∧ (a0_ = 1 → u20_ = ((tkn z_ z_.length (a1_).toNat : Nat) : Int)) ∧ (a0_ = 2 → u20_ = a1_ ^ z_.length)) by first | exact ⟨fun h_ => by omega, fun _ => hso_, fun h_ => by omega⟩ | exact ⟨fun h_ => hfe_.1 h_, fun h_ => by omega, fun h_ => hfe_.2.2 h_⟩) (zdal_p dlD_M_fixedBy_120 (i := 0) rfl)
          · skip
            refine zw_aload_n (pc := 71) (n := 0) (x := 81) rfl (zdal_p dlD_M_fixedBy_119 (i := 18) rfl) ?_
            refine zw_iload_n (pc := 72) (n := 2) (x := Int32.ofInt a1_) rfl (zdal_p dlD_M_fixedBy_119 (i := 19) rfl) ?_
            refine zr_callV (hf.w hW) hf.x (pc := 73) [.int (Int32.ofInt a1_)] [] l_M_490 (c_M_setsOfS l Mz (hf.w hW) a1_ ha1_a ha1_b z_ p0_ (show 0 ≤ a1_ by first | with_reducible assumption | assumption | omega) (show a1_ ≤ 6 by first | with_reducible assumption | assumption | omega)) rfl rfl rfl (by decide) (Nat.le_of_ble_eq_true rfl) (zdal_p dlD_M_fixedBy_119 (i := 20) rfl) ?_
            rintro _ N26_ ⟨v27_, rfl, ⟨hv27_a, hv27_b⟩, hsN26_, hp0_N26_⟩
            replace hp0_N26_ : v27_ = ((tkn z_ z_.length (a1_).toNat : Nat) : Int) := hp0_N26_
            have hf_N26_ : zFr [] [113] Mz N26_ := hf.tr hsN26_ (by decide) (by decide)
            have e63_N26_ : ze N26_ 81 63 = ze Mz 81 63 := hsN26_.e (by decide)
            have c28_ : zTkZ z_ N26_ := zTkZ.fr hsN26_ p0_ (by decide) (by decide)
            show zW l m_M_fixedBy (zn Mz + 0, zw Mz + 0) N26_ 76 [some (.ref 81), some (.int (Int32.ofInt a0_)), some (.int (Int32.ofInt a1_)), some (.long (Int64.ofInt u20_)), none, some (.int (Int32.ofInt u21_))] [.int (Int32.ofInt v27_)] _
            have hso_ := hp0_N26_
            refine zr_i2l (pc := 76) ⟨hv27_a, hv27_b⟩ (zdal_p dlD_M_fixedBy_119 (i := 21) rfl) ?_
            refine zw_goto (pc := 77) (tgt := 81) (by decide) (zdal_p dlD_M_fixedBy_119 (i := 22) rfl) ?_
            exact zr_lret (pc := 81) rfl ⟨by omega, by omega⟩ hf_N26_ (show ((a0_ = 0 → v27_ = ((tkone z_ : Nat) : Int)) ∧ (a0_ = 1 → v27_ = ((tkn z_ z_.length (a1_).toNat : Nat) : Int)) ∧ (a0_ = 2 → v27_ = a1_ ^ z_.length)) by first | exact ⟨fun h_ => by omega, fun _ => hso_, fun h_ => by omega⟩ | exact ⟨fun h_ => hfe_.1 h_, fun h_ => by omega, fun h_ => hfe_.2.2 h_⟩) (zdal_p dlD_M_fixedBy_120 (i := 0) rfl)
        · skip
          refine zw_iload_n (pc := 23) (n := 1) (x := Int32.ofInt a0_) rfl (zdal_p dlD_M_fixedBy_118 (i := 13) rfl) ?_
          refine zr_if_ne (pc := 24) (tgt := 50) ⟨ha0_a, ha0_b⟩ (by decide) (zdal_p dlD_M_fixedBy_118 (i := 14) rfl) (fun hc_24 => ?_) (fun hc_24 => ?_)
          · skip
            refine zw_iload_n (pc := 50) (n := 1) (x := Int32.ofInt a0_) rfl d_M_fixedBy_50 ?_
            refine zw_iconst (pc := 51) (v := Int32.ofInt 2) (by decide) d_M_fixedBy_51 ?_
            refine zr_icmp_ne (pc := 52) (tgt := 60) ⟨ha0_a, ha0_b⟩ ⟨(by decide), (by decide)⟩ (by decide) d_M_fixedBy_52 (fun hc_52 => ?_) (fun hc_52 => ?_)
            · skip
              refine zr_iinc (pc := 60) (i := 5) (a := u21_) (n := 1) (L2 := [some (.ref 81), some (.int (Int32.ofInt a0_)), some (.int (Int32.ofInt a1_)), some (.long (Int64.ofInt u20_)), none, some (.int (Int32.ofInt (u21_ + 1)))]) rfl (by decide) rfl d_M_fixedBy_60 ?_
              refine zw_goto (pc := 63) (tgt := 14) (by decide) d_M_fixedBy_63 ?_
              have hfn_ : zTkF z_ a0_ a1_ ((u21_ + 1)).toNat u20_ := by first | (exfalso; omega) | exact zTkF_a hfi_ (by omega) (by omega) hx_ (by omega) ha_ | exact zTkF_b hfi_ (by omega) (by omega) hb_ | exact zTkF_c hfi_ (by omega)
              have hfr_ := zTkF_r hfn_ (by omega) p1_
              exact ih_14 u20_ hu20_a hu20_b (u21_ + 1) (by omega) (by omega) (show 0 ≤ (u21_ + 1) by first | with_reducible assumption | assumption | omega) (show (u21_ + 1) ≤ ((z_.length : Nat) : Int) by first | with_reducible assumption | assumption | omega) (show zTkF z_ a0_ a1_ ((u21_ + 1)).toNat u20_ by exact hfn_) (show 0 ≤ u20_ ∧ u20_ ≤ 46656 by exact hfr_) (by omega)
            · skip
              refine zw_lload_n (pc := 55) (n := 3) (x := Int64.ofInt u20_) rfl d_M_fixedBy_55 ?_
              refine zw_iload_n (pc := 56) (n := 2) (x := Int32.ofInt a1_) rfl d_M_fixedBy_56 ?_
              refine zr_i2l (pc := 57) ⟨ha1_a, ha1_b⟩ d_M_fixedBy_57 ?_
              have hm_ : u20_ * a1_ = a1_ ^ ((u21_).toNat + 1) := by first | (exfalso; omega) | rw [hfi_.2.2 (by omega), Int.pow_succ]
              have hmb_ := tkp_6 (n := a1_) (by omega) (by omega) ((u21_).toNat + 1) (by omega)
              rw [← hm_] at hmb_
              refine zr_lmul (pc := 58) d_M_fixedBy_58 ?_
              refine zk_nmJ (fun v29_ hv29_ hv29_e => ?_)
              obtain ⟨hv29_a, hv29_b⟩ := hv29_
              have hb_ := z64q ⟨by omega, by omega⟩ ⟨by omega, by omega⟩ hv29_e
              refine zw_lstore_n (pc := 59) (i := 3) (L2 := [some (.ref 81), some (.int (Int32.ofInt a0_)), some (.int (Int32.ofInt a1_)), some (.long (Int64.ofInt v29_)), none, some (.int (Int32.ofInt u21_))]) rfl (by decide) rfl d_M_fixedBy_59 ?_
              refine zr_iinc (pc := 60) (i := 5) (a := u21_) (n := 1) (L2 := [some (.ref 81), some (.int (Int32.ofInt a0_)), some (.int (Int32.ofInt a1_)), some (.long (Int64.ofInt v29_)), none, some (.int (Int32.ofInt (u21_ + 1)))]) rfl (by decide) rfl d_M_fixedBy_60 ?_
              refine zw_goto (pc := 63) (tgt := 14) (by decide) d_M_fixedBy_63 ?_
              have hfn_ : zTkF z_ a0_ a1_ ((u21_ + 1)).toNat v29_ := by first | (exfalso; omega) | exact zTkF_a hfi_ (by omega) (by omega) hx_ (by omega) ha_ | exact zTkF_b hfi_ (by omega) (by omega) hb_ | exact zTkF_c hfi_ (by omega)
              have hfr_ := zTkF_r hfn_ (by omega) p1_
              exact ih_14 v29_ hv29_a hv29_b (u21_ + 1) (by omega) (by omega) (show 0 ≤ (u21_ + 1) by first | with_reducible assumption | assumption | omega) (show (u21_ + 1) ≤ ((z_.length : Nat) : Int) by first | with_reducible assumption | assumption | omega) (show zTkF z_ a0_ a1_ ((u21_ + 1)).toNat v29_ by exact hfn_) (show 0 ≤ v29_ ∧ v29_ ≤ 46656 by exact hfr_) (by omega)
          · skip
            refine zw_lload_n (pc := 27) (n := 3) (x := Int64.ofInt u20_) rfl (zdal_p dlD_M_fixedBy_118 (i := 15) rfl) ?_
            refine zw_aload_n (pc := 28) (n := 0) (x := 81) rfl (zdal_p dlD_M_fixedBy_118 (i := 16) rfl) ?_
            refine zr_getF (r := 112) (hf.w hW) (pc := 29) f_M_109 rfl (zh_112 (hf.w hW)).1 (zdal_p dlD_M_fixedBy_118 (i := 17) rfl) ?_
            refine zw_iload (pc := 32) (i := 5) (x := Int32.ofInt u21_) rfl (zdal_p dlD_M_fixedBy_118 (i := 18) rfl) ?_
            refine zr_ialdn (pc := 34) (zh_112 (hf.w hW)).2 (by decide) (by omega) (by omega) (zdal_p dlD_M_fixedBy_118 (i := 19) rfl) (fun v30_ hv30_ hv30_a hv30_b => ?_)
            have hx_ := (hv30_).trans ((p0_.2 (u21_).toNat (by omega)).1)
            refine zw_iconst (pc := 35) (v := Int32.ofInt 1) (by decide) (zdal_p dlD_M_fixedBy_118 (i := 20) rfl) ?_
            refine zr_icmp_ne (pc := 36) (tgt := 43) ⟨hv30_a, hv30_b⟩ ⟨(by decide), (by decide)⟩ (by decide) (zdal_p dlD_M_fixedBy_118 (i := 21) rfl) (fun hc_36 => ?_) (fun hc_36 => ?_)
            · skip
              refine zw_iconst (pc := 43) (v := Int32.ofInt 0) (by decide) (zdal_p dlD_M_fixedBy_119 (i := 0) rfl) ?_
              refine zr_callS hf.x (pc := 44) [.int (Int32.ofInt 0)] [.long (Int64.ofInt u20_)] l_M_256 (c_M_truth l Mz (hf.w hW) 0 (by decide) (by decide) (by omega)) rfl rfl (by decide) (Nat.le_of_ble_eq_true rfl) (zdal_p dlD_M_fixedBy_119 (i := 1) rfl) ?_
              rintro _ N31_ ⟨v32_, rfl, ⟨hv32_a, hv32_b⟩, hsN31_, hp0_N31_⟩
              obtain rfl := hsN31_.eq.symm
              replace hp0_N31_ : v32_ = 0 := hp0_N31_
              show zW l m_M_fixedBy (zn Mz + 0, zw Mz + 0) Mz 47 [some (.ref 81), some (.int (Int32.ofInt a0_)), some (.int (Int32.ofInt a1_)), some (.long (Int64.ofInt u20_)), none, some (.int (Int32.ofInt u21_))] [.int (Int32.ofInt v32_), .long (Int64.ofInt u20_)] _
              refine zr_i2l (pc := 47) ⟨hv32_a, hv32_b⟩ (zdal_p dlD_M_fixedBy_119 (i := 2) rfl) ?_
              refine zr_ladd (pc := 48) (zdal_p dlD_M_fixedBy_119 (i := 3) rfl) ?_
              refine zk_nmJ (fun v33_ hv33_ hv33_e => ?_)
              obtain ⟨hv33_a, hv33_b⟩ := hv33_
              have ha_ := z64q ⟨by omega, by omega⟩ ⟨by omega, by omega⟩ hv33_e
              refine zw_lstore_n (pc := 49) (i := 3) (L2 := [some (.ref 81), some (.int (Int32.ofInt a0_)), some (.int (Int32.ofInt a1_)), some (.long (Int64.ofInt v33_)), none, some (.int (Int32.ofInt u21_))]) rfl (by decide) rfl (zdal_p dlD_M_fixedBy_119 (i := 4) rfl) ?_
              refine zw_iload_n (pc := 50) (n := 1) (x := Int32.ofInt a0_) rfl d_M_fixedBy_50 ?_
              refine zw_iconst (pc := 51) (v := Int32.ofInt 2) (by decide) d_M_fixedBy_51 ?_
              refine zr_icmp_ne (pc := 52) (tgt := 60) ⟨ha0_a, ha0_b⟩ ⟨(by decide), (by decide)⟩ (by decide) d_M_fixedBy_52 (fun hc_52 => ?_) (fun hc_52 => ?_)
              · skip
                refine zr_iinc (pc := 60) (i := 5) (a := u21_) (n := 1) (L2 := [some (.ref 81), some (.int (Int32.ofInt a0_)), some (.int (Int32.ofInt a1_)), some (.long (Int64.ofInt v33_)), none, some (.int (Int32.ofInt (u21_ + 1)))]) rfl (by decide) rfl d_M_fixedBy_60 ?_
                refine zw_goto (pc := 63) (tgt := 14) (by decide) d_M_fixedBy_63 ?_
                have hfn_ : zTkF z_ a0_ a1_ ((u21_ + 1)).toNat v33_ := by first | (exfalso; omega) | exact zTkF_a hfi_ (by omega) (by omega) hx_ (by omega) ha_ | exact zTkF_b hfi_ (by omega) (by omega) hb_ | exact zTkF_c hfi_ (by omega)
                have hfr_ := zTkF_r hfn_ (by omega) p1_
                exact ih_14 v33_ hv33_a hv33_b (u21_ + 1) (by omega) (by omega) (show 0 ≤ (u21_ + 1) by first | with_reducible assumption | assumption | omega) (show (u21_ + 1) ≤ ((z_.length : Nat) : Int) by first | with_reducible assumption | assumption | omega) (show zTkF z_ a0_ a1_ ((u21_ + 1)).toNat v33_ by exact hfn_) (show 0 ≤ v33_ ∧ v33_ ≤ 46656 by exact hfr_) (by omega)
              · skip
                refine zw_lload_n (pc := 55) (n := 3) (x := Int64.ofInt v33_) rfl d_M_fixedBy_55 ?_
                refine zw_iload_n (pc := 56) (n := 2) (x := Int32.ofInt a1_) rfl d_M_fixedBy_56 ?_
                refine zr_i2l (pc := 57) ⟨ha1_a, ha1_b⟩ d_M_fixedBy_57 ?_
                have hm_ : v33_ * a1_ = a1_ ^ ((u21_).toNat + 1) := by first | (exfalso; omega) | rw [hfi_.2.2 (by omega), Int.pow_succ]
                have hmb_ := tkp_6 (n := a1_) (by omega) (by omega) ((u21_).toNat + 1) (by omega)
                rw [← hm_] at hmb_
                refine zr_lmul (pc := 58) d_M_fixedBy_58 ?_
                refine zk_nmJ (fun v34_ hv34_ hv34_e => ?_)
                obtain ⟨hv34_a, hv34_b⟩ := hv34_
                have hb_ := z64q ⟨by omega, by omega⟩ ⟨by omega, by omega⟩ hv34_e
                refine zw_lstore_n (pc := 59) (i := 3) (L2 := [some (.ref 81), some (.int (Int32.ofInt a0_)), some (.int (Int32.ofInt a1_)), some (.long (Int64.ofInt v34_)), none, some (.int (Int32.ofInt u21_))]) rfl (by decide) rfl d_M_fixedBy_59 ?_
                refine zr_iinc (pc := 60) (i := 5) (a := u21_) (n := 1) (L2 := [some (.ref 81), some (.int (Int32.ofInt a0_)), some (.int (Int32.ofInt a1_)), some (.long (Int64.ofInt v34_)), none, some (.int (Int32.ofInt (u21_ + 1)))]) rfl (by decide) rfl d_M_fixedBy_60 ?_
                refine zw_goto (pc := 63) (tgt := 14) (by decide) d_M_fixedBy_63 ?_
                have hfn_ : zTkF z_ a0_ a1_ ((u21_ + 1)).toNat v34_ := by first | (exfalso; omega) | exact zTkF_a hfi_ (by omega) (by omega) hx_ (by omega) ha_ | exact zTkF_b hfi_ (by omega) (by omega) hb_ | exact zTkF_c hfi_ (by omega)
                have hfr_ := zTkF_r hfn_ (by omega) p1_
                exact ih_14 v34_ hv34_a hv34_b (u21_ + 1) (by omega) (by omega) (show 0 ≤ (u21_ + 1) by first | with_reducible assumption | assumption | omega) (show (u21_ + 1) ≤ ((z_.length : Nat) : Int) by first | with_reducible assumption | assumption | omega) (show zTkF z_ a0_ a1_ ((u21_ + 1)).toNat v34_ by exact hfn_) (show 0 ≤ v34_ ∧ v34_ ≤ 46656 by exact hfr_) (by omega)
            · skip
              refine zw_iconst (pc := 39) (v := Int32.ofInt 1) (by decide) (zdal_p dlD_M_fixedBy_118 (i := 22) rfl) ?_
              refine zw_goto (pc := 40) (tgt := 44) (by decide) (zdal_p dlD_M_fixedBy_118 (i := 23) rfl) ?_
              refine zr_callS hf.x (pc := 44) [.int (Int32.ofInt 1)] [.long (Int64.ofInt u20_)] l_M_256 (c_M_truth l Mz (hf.w hW) 1 (by decide) (by decide) (by omega)) rfl rfl (by decide) (Nat.le_of_ble_eq_true rfl) (zdal_p dlD_M_fixedBy_119 (i := 1) rfl) ?_
              rintro _ N35_ ⟨v36_, rfl, ⟨hv36_a, hv36_b⟩, hsN35_, hp0_N35_⟩
              obtain rfl := hsN35_.eq.symm
              replace hp0_N35_ : v36_ = 1 := hp0_N35_
              show zW l m_M_fixedBy (zn Mz + 0, zw Mz + 0) Mz 47 [some (.ref 81), some (.int (Int32.ofInt a0_)), some (.int (Int32.ofInt a1_)), some (.long (Int64.ofInt u20_)), none, some (.int (Int32.ofInt u21_))] [.int (Int32.ofInt v36_), .long (Int64.ofInt u20_)] _
              refine zr_i2l (pc := 47) ⟨hv36_a, hv36_b⟩ (zdal_p dlD_M_fixedBy_119 (i := 2) rfl) ?_
              refine zr_ladd (pc := 48) (zdal_p dlD_M_fixedBy_119 (i := 3) rfl) ?_
              refine zk_nmJ (fun v37_ hv37_ hv37_e => ?_)
              obtain ⟨hv37_a, hv37_b⟩ := hv37_
              have ha_ := z64q ⟨by omega, by omega⟩ ⟨by omega, by omega⟩ hv37_e
              refine zw_lstore_n (pc := 49) (i := 3) (L2 := [some (.ref 81), some (.int (Int32.ofInt a0_)), some (.int (Int32.ofInt a1_)), some (.long (Int64.ofInt v37_)), none, some (.int (Int32.ofInt u21_))]) rfl (by decide) rfl (zdal_p dlD_M_fixedBy_119 (i := 4) rfl) ?_
              refine zw_iload_n (pc := 50) (n := 1) (x := Int32.ofInt a0_) rfl d_M_fixedBy_50 ?_
              refine zw_iconst (pc := 51) (v := Int32.ofInt 2) (by decide) d_M_fixedBy_51 ?_
              refine zr_icmp_ne (pc := 52) (tgt := 60) ⟨ha0_a, ha0_b⟩ ⟨(by decide), (by decide)⟩ (by decide) d_M_fixedBy_52 (fun hc_52 => ?_) (fun hc_52 => ?_)
              · skip
                refine zr_iinc (pc := 60) (i := 5) (a := u21_) (n := 1) (L2 := [some (.ref 81), some (.int (Int32.ofInt a0_)), some (.int (Int32.ofInt a1_)), some (.long (Int64.ofInt v37_)), none, some (.int (Int32.ofInt (u21_ + 1)))]) rfl (by decide) rfl d_M_fixedBy_60 ?_
                refine zw_goto (pc := 63) (tgt := 14) (by decide) d_M_fixedBy_63 ?_
                have hfn_ : zTkF z_ a0_ a1_ ((u21_ + 1)).toNat v37_ := by first | (exfalso; omega) | exact zTkF_a hfi_ (by omega) (by omega) hx_ (by omega) ha_ | exact zTkF_b hfi_ (by omega) (by omega) hb_ | exact zTkF_c hfi_ (by omega)
                have hfr_ := zTkF_r hfn_ (by omega) p1_
                exact ih_14 v37_ hv37_a hv37_b (u21_ + 1) (by omega) (by omega) (show 0 ≤ (u21_ + 1) by first | with_reducible assumption | assumption | omega) (show (u21_ + 1) ≤ ((z_.length : Nat) : Int) by first | with_reducible assumption | assumption | omega) (show zTkF z_ a0_ a1_ ((u21_ + 1)).toNat v37_ by exact hfn_) (show 0 ≤ v37_ ∧ v37_ ≤ 46656 by exact hfr_) (by omega)
              · skip
                refine zw_lload_n (pc := 55) (n := 3) (x := Int64.ofInt v37_) rfl d_M_fixedBy_55 ?_
                refine zw_iload_n (pc := 56) (n := 2) (x := Int32.ofInt a1_) rfl d_M_fixedBy_56 ?_
                refine zr_i2l (pc := 57) ⟨ha1_a, ha1_b⟩ d_M_fixedBy_57 ?_
                have hm_ : v37_ * a1_ = a1_ ^ ((u21_).toNat + 1) := by first | (exfalso; omega) | rw [hfi_.2.2 (by omega), Int.pow_succ]
                have hmb_ := tkp_6 (n := a1_) (by omega) (by omega) ((u21_).toNat + 1) (by omega)
                rw [← hm_] at hmb_
                refine zr_lmul (pc := 58) d_M_fixedBy_58 ?_
                refine zk_nmJ (fun v38_ hv38_ hv38_e => ?_)
                obtain ⟨hv38_a, hv38_b⟩ := hv38_
                have hb_ := z64q ⟨by omega, by omega⟩ ⟨by omega, by omega⟩ hv38_e
                refine zw_lstore_n (pc := 59) (i := 3) (L2 := [some (.ref 81), some (.int (Int32.ofInt a0_)), some (.int (Int32.ofInt a1_)), some (.long (Int64.ofInt v38_)), none, some (.int (Int32.ofInt u21_))]) rfl (by decide) rfl d_M_fixedBy_59 ?_
                refine zr_iinc (pc := 60) (i := 5) (a := u21_) (n := 1) (L2 := [some (.ref 81), some (.int (Int32.ofInt a0_)), some (.int (Int32.ofInt a1_)), some (.long (Int64.ofInt v38_)), none, some (.int (Int32.ofInt (u21_ + 1)))]) rfl (by decide) rfl d_M_fixedBy_60 ?_
                refine zw_goto (pc := 63) (tgt := 14) (by decide) d_M_fixedBy_63 ?_
                have hfn_ : zTkF z_ a0_ a1_ ((u21_ + 1)).toNat v38_ := by first | (exfalso; omega) | exact zTkF_a hfi_ (by omega) (by omega) hx_ (by omega) ha_ | exact zTkF_b hfi_ (by omega) (by omega) hb_ | exact zTkF_c hfi_ (by omega)
                have hfr_ := zTkF_r hfn_ (by omega) p1_
                exact ih_14 v38_ hv38_a hv38_b (u21_ + 1) (by omega) (by omega) (show 0 ≤ (u21_ + 1) by first | with_reducible assumption | assumption | omega) (show (u21_ + 1) ≤ ((z_.length : Nat) : Int) by first | with_reducible assumption | assumption | omega) (show zTkF z_ a0_ a1_ ((u21_ + 1)).toNat v38_ by exact hfn_) (show 0 ≤ v38_ ∧ v38_ ≤ 46656 by exact hfr_) (by omega)
    exact lp_14 _ 1 (by decide) (by decide) 0 (by decide) (by decide) (show 0 ≤ (0 : Int) by first | with_reducible assumption | assumption | omega) (show (0 : Int) ≤ ((z_.length : Nat) : Int) by first | with_reducible assumption | assumption | omega) (show zTkF z_ a0_ a1_ ((0 : Int)).toNat (1 : Int) by first | exact ⟨fun h_ => by omega, fun h_ => by omega, fun _ => (Int.pow_zero _).symm⟩ | exact ⟨fun _ => rfl, fun _ => rfl, fun h_ => by omega⟩) (show 0 ≤ (1 : Int) ∧ (1 : Int) ≤ 46656 by first | with_reducible assumption | assumption | omega) (Nat.lt_succ_self _)
set_option maxHeartbeats 4000000 in
theorem c_M_numbers_96_98S (l : Launch) (Mz : zMem) (hW : zMt Mz) (a2_ : Int) (ha2_a : -2147483648 ≤ a2_) (ha2_b : a2_ < 2147483648) (F_ : Nat) (K_ : Nat → Nat → Int) (hA_ : zTA F_ K_) (p0_ : zRmk F_ K_ Mz) (p1_ : 0 ≤ a2_) (p2_ : a2_ ≤ 0) (p3_ : (∀ j : Nat, j < F_ → -1000000 ≤ zg Mz 96 j ∧ zg Mz 96 j ≤ 1000000)) : zC l m_M_numbers 0 0 [.ref 81, .ref 96, .ref 98, .int (Int32.ofInt a2_)] Mz (zpV [] [98] Mz (fun N => (∀ k : Nat, k < F_ → zg N 98 k = (zsq F_ K_ (fun j_ => zg Mz 96 j_)) k))) := by
  refine zC_of (L0 := [some (.ref 81), some (.ref 96), some (.ref 98), some (.int (Int32.ofInt a2_)), none, none, none, none]) md_M_numbers (Nat.le_of_ble_eq_true rfl) rfl ?_ zQ0
  have hf : zFr [] [98] Mz Mz := zFr.rf
  have r_26 := ze_r Mz 81 26
  obtain ⟨⟨hF1_, hF27_⟩, hAr_⟩ := id hA_
  obtain ⟨hFc_, hKt_⟩ := id p0_
  refine zw_aload_n (pc := 0) (n := 0) (x := 81) rfl (zdal_p dlC_M_numbers_126 (i := 0) rfl) ?_
  refine zr_getI0 hf hW (pc := 1) (by decide) f_M_235 rfl (zdal_p dlC_M_numbers_126 (i := 1) rfl) ?_
  refine zw_iconst (pc := 4) (v := Int32.ofInt 1) (by decide) (zdal_p dlC_M_numbers_126 (i := 2) rfl) ?_
  refine zr_isub (pc := 5) (zdal_p dlC_M_numbers_126 (i := 3) rfl) ?_
  refine zw_istore (pc := 6) (i := 4) (L2 := [some (.ref 81), some (.ref 96), some (.ref 98), some (.int (Int32.ofInt a2_)), some (.int (Int32.ofInt ((ze Mz 81 26) - 1))), none, none, none]) (by decide) rfl (zdal_p dlC_M_numbers_126 (i := 4) rfl) ?_
  have lp_8 : ∀ (n : Nat) (u1_ : Int) (hu1_a : -2147483648 ≤ u1_) (hu1_b : u1_ < 2147483648) (N2_ : zMem) (hs3_ : zFr [] [98] Mz N2_) (i4_ : u1_ < F_) (i5_ : -1 ≤ u1_) (i6_ : zUw 98 F_ N2_ (zsq F_ K_ (fun j_ => zg Mz 96 j_)) u1_), (u1_ + 1).toNat < n → zW l m_M_numbers (zn Mz + 0, zw Mz + 0) N2_ 8 [some (.ref 81), some (.ref 96), some (.ref 98), some (.int (Int32.ofInt a2_)), some (.int (Int32.ofInt u1_)), none, none, none] [] (zpV [] [98] Mz (fun N => (∀ k : Nat, k < F_ → zg N 98 k = (zsq F_ K_ (fun j_ => zg Mz 96 j_)) k))) := by
    intro n
    induction n with
    | zero =>
      intro u1_ hu1_a hu1_b N2_ hs3_ i4_ i5_ i6_ h0
      exact absurd h0 (Nat.not_lt_zero _)
    | succ n ih_8 =>
      intro u1_ hu1_a hu1_b N2_ hs3_ i4_ i5_ i6_ hlt_8
      have hf_N2_ : zFr [] [98] Mz N2_ := hf.tr hs3_ (by decide) (by decide)
      have e26_N2_ : ze N2_ 81 26 = ze Mz 81 26 := hs3_.e (by decide)
      have c7_ : zRmk F_ K_ N2_ := zRmk.fr hs3_ p0_ (by decide) (by decide)
      refine zw_iload (pc := 8) (i := 4) (x := Int32.ofInt u1_) rfl (zdal_p dlC_M_numbers_126 (i := 5) rfl) ?_
      refine zr_if_lt (pc := 10) (tgt := 95) ⟨hu1_a, hu1_b⟩ (by decide) (zdal_p dlC_M_numbers_126 (i := 6) rfl) (fun hc_10 => ?_) (fun hc_10 => ?_)
      · skip
        exact zr_vret (pc := 95) rfl hf_N2_ (show (∀ k : Nat, k < F_ → zg N2_ 98 k = (zsq F_ K_ (fun j_ => zg Mz 96 j_)) k) by exact fun k_ hk_ => (show zUw 98 F_ N2_ (zsq F_ K_ (fun j_ => zg Mz 96 j_)) u1_ by first | with_reducible assumption | assumption) k_ (by omega) (by omega)) (zdal_p dlC_M_numbers_128 (i := 9) rfl)
      · skip
        refine zw_aload_n (pc := 13) (n := 1) (x := 96) rfl (zdal_p dlC_M_numbers_126 (i := 7) rfl) ?_
        refine zw_iload (pc := 14) (i := 4) (x := Int32.ofInt u1_) rfl (zdal_p dlC_M_numbers_126 (i := 8) rfl) ?_
        refine zr_laldn (pc := 16) (zh_96 (hf_N2_.w hW)).2 (by decide) (by omega) (by omega) (zdal_p dlC_M_numbers_126 (i := 9) rfl) (fun v8_ hv8_ hv8_a hv8_b => ?_)
        rw [hf_N2_.jg (by decide) (by decide)] at hv8_
        have hr0_ := hv8_
        refine zw_lstore (pc := 17) (i := 5) (L2 := [some (.ref 81), some (.ref 96), some (.ref 98), some (.int (Int32.ofInt a2_)), some (.int (Int32.ofInt u1_)), some (.long (Int64.ofInt v8_)), none, none]) (by decide) rfl (zdal_p dlC_M_numbers_126 (i := 10) rfl) ?_
        refine zw_iload (pc := 19) (i := 4) (x := Int32.ofInt u1_) rfl (zdal_p dlC_M_numbers_126 (i := 11) rfl) ?_
        refine zw_iconst (pc := 21) (v := Int32.ofInt 1) (by decide) (zdal_p dlC_M_numbers_126 (i := 12) rfl) ?_
        refine zr_iadd (pc := 22) (zdal_p dlC_M_numbers_126 (i := 13) rfl) ?_
        refine zw_istore (pc := 23) (i := 7) (L2 := [some (.ref 81), some (.ref 96), some (.ref 98), some (.int (Int32.ofInt a2_)), some (.int (Int32.ofInt u1_)), some (.long (Int64.ofInt v8_)), none, some (.int (Int32.ofInt (u1_ + 1)))]) (by decide) rfl (zdal_p dlC_M_numbers_126 (i := 14) rfl) ?_
        have hup_ := (show zUw 98 F_ N2_ (zsq F_ K_ (fun j_ => zg Mz 96 j_)) u1_ by first | with_reducible assumption | assumption)
        have lp_25 : ∀ (n : Nat) (u9_ : Int) (hu9_a : -9223372036854775808 ≤ u9_) (hu9_b : u9_ < 9223372036854775808) (u10_ : Int) (hu10_a : -2147483648 ≤ u10_) (hu10_b : u10_ < 2147483648) (i11_ : u1_ < u10_) (i12_ : u10_ ≤ F_) (i13_ : zrX F_ K_ (fun j_ => zg Mz 96 j_) u9_ u1_ u10_), (F_ - u10_).toNat < n → zW l m_M_numbers (zn Mz + 0, zw Mz + 0) N2_ 25 [some (.ref 81), some (.ref 96), some (.ref 98), some (.int (Int32.ofInt a2_)), some (.int (Int32.ofInt u1_)), some (.long (Int64.ofInt u9_)), none, some (.int (Int32.ofInt u10_))] [] (zpV [] [98] Mz (fun N => (∀ k : Nat, k < F_ → zg N 98 k = (zsq F_ K_ (fun j_ => zg Mz 96 j_)) k))) := by
          intro n
          induction n with
          | zero =>
            intro u9_ hu9_a hu9_b u10_ hu10_a hu10_b i11_ i12_ i13_ h0
            exact absurd h0 (Nat.not_lt_zero _)
          | succ n ih_25 =>
            intro u9_ hu9_a hu9_b u10_ hu10_a hu10_b i11_ i12_ i13_ hlt_25
            have hxi_ := (show zrX F_ K_ (fun j_ => zg Mz 96 j_) u9_ u1_ u10_ by first | with_reducible assumption | assumption)
            refine zw_iload (pc := 25) (i := 7) (x := Int32.ofInt u10_) rfl (zdal_p dlC_M_numbers_126 (i := 15) rfl) ?_
            refine zw_aload_n (pc := 27) (n := 0) (x := 81) rfl (zdal_p dlC_M_numbers_126 (i := 16) rfl) ?_
            refine zr_getI0 hf_N2_ hW (pc := 28) (by decide) f_M_235 rfl (zdal_p dlC_M_numbers_126 (i := 17) rfl) ?_
            refine zr_icmp_ge (pc := 31) (tgt := 66) ⟨hu10_a, hu10_b⟩ ⟨(ze_r Mz 81 26).1, (ze_r Mz 81 26).2⟩ (by decide) (zdal_p dlC_M_numbers_126 (i := 18) rfl) (fun hc_31 => ?_) (fun hc_31 => ?_)
            · skip
              refine zw_aload_n (pc := 66) (n := 2) (x := 98) rfl (zdal_p dlC_M_numbers_127 (i := 15) rfl) ?_
              refine zw_iload_n (pc := 67) (n := 3) (x := Int32.ofInt a2_) rfl (zdal_p dlC_M_numbers_127 (i := 16) rfl) ?_
              refine zw_iload (pc := 68) (i := 4) (x := Int32.ofInt u1_) rfl (zdal_p dlC_M_numbers_127 (i := 17) rfl) ?_
              refine zr_iadd (pc := 70) (zdal_p dlC_M_numbers_127 (i := 18) rfl) ?_
              refine zw_lload (pc := 71) (i := 5) (x := Int64.ofInt u9_) rfl (zdal_p dlC_M_numbers_127 (i := 19) rfl) ?_
              refine zw_aload_n (pc := 73) (n := 0) (x := 81) rfl (zdal_p dlC_M_numbers_127 (i := 20) rfl) ?_
              refine zr_getF (r := 93) (hf_N2_.w hW) (pc := 74) f_M_50 rfl (zh_93 (hf_N2_.w hW)).1 (zdal_p dlC_M_numbers_127 (i := 21) rfl) ?_
              refine zw_bipush (pc := 77) (v := Int32.ofInt 64) (by decide) (zdal_p dlC_M_numbers_127 (i := 22) rfl) ?_
              refine zw_iload (pc := 79) (i := 4) (x := Int32.ofInt u1_) rfl (zdal_p dlC_M_numbers_127 (i := 23) rfl) ?_
              refine zr_imul (pc := 81) (zdal_p dlC_M_numbers_128 (i := 0) rfl) ?_
              refine zw_iload (pc := 82) (i := 4) (x := Int32.ofInt u1_) rfl (zdal_p dlC_M_numbers_128 (i := 1) rfl) ?_
              refine zr_iadd (pc := 84) (zdal_p dlC_M_numbers_128 (i := 2) rfl) ?_
              refine zr_ialdn (pc := 85) (zh_93 (hf_N2_.w hW)).2 (by decide) (by omega) (by omega) (zdal_p dlC_M_numbers_128 (i := 3) rfl) (fun v14_ hv14_ hv14_a hv14_b => ?_)
              rw [hf_N2_.ie (by decide) (by decide)] at hv14_
              have hm_ := p0_.k (by omega) (by omega) (by omega) (by omega) hv14_
              have hm1_ := hAr_.2.2.1 (u1_).toNat (by omega)
              refine zr_i2l (pc := 86) ⟨hv14_a, hv14_b⟩ (zdal_p dlC_M_numbers_128 (i := 4) rfl) ?_
              refine zr_ldiv (pc := 87) ⟨by omega, by omega⟩ (by omega) (zdal_p dlC_M_numbers_128 (i := 5) rfl) ?_
              have hr15_ := zlquo_r u9_ v14_
              obtain ⟨q_, hq_⟩ : ∃ q, q = (zlquo u9_ v14_) := ⟨_, rfl⟩
              have hqu_ := zrX_e hA_ p3_ hxi_ (by omega) ⟨by omega, by omega⟩ (by omega) (by omega) hm_ hq_
              refine zr_last (pc := 88) (zh_98 (hf_N2_.w hW)).2 (by decide) (by decide) (by omega) (by omega) (zdal_p dlC_M_numbers_128 (i := 6) rfl) (fun N16_ hN16_ hsN16_ => ?_)
              have hf_N16_ : zFr [] [98] Mz N16_ := hf_N2_.tr hsN16_ (by decide) (by decide)
              have hb0_N16_ : zFr [] [98] Mz N16_ := hs3_.tr hsN16_ (by decide) (by decide)
              have e26_N16_ : ze N16_ 81 26 = ze N2_ 81 26 := hsN16_.e (by decide)
              have c17_ : zRmk F_ K_ N16_ := zRmk.fr hsN16_ c7_ (by decide) (by decide)
              have hN_ := hN16_
              rw [show (a2_ + u1_).toNat = (u1_).toNat by omega] at hN_
              have hu1_ := zUw_s hup_ hN_ ⟨by omega, by omega⟩ (by omega) (by rw [← hq_]; exact hqu_)
              refine zr_iinc (pc := 89) (i := 4) (a := u1_) (n := -1) (L2 := [some (.ref 81), some (.ref 96), some (.ref 98), some (.int (Int32.ofInt a2_)), some (.int (Int32.ofInt (u1_ + (-1)))), some (.long (Int64.ofInt u9_)), none, some (.int (Int32.ofInt u10_))]) rfl (by decide) rfl (zdal_p dlC_M_numbers_128 (i := 7) rfl) ?_
              refine zw_goto (pc := 92) (tgt := 8) (by decide) (zdal_p dlC_M_numbers_128 (i := 8) rfl) ?_
              refine zW_le [some (.ref 81), some (.ref 96), some (.ref 98), some (.int (Int32.ofInt a2_)), some (.int (Int32.ofInt (u1_ + (-1)))), none, none, none] (⟨rfl, rfl, rfl, rfl, rfl, trivial⟩) ?_
              exact ih_8 (u1_ + (-1)) (by omega) (by omega) N16_ hb0_N16_ (show (u1_ + (-1)) < F_ by first | with_reducible assumption | assumption | omega) (show -1 ≤ (u1_ + (-1)) by first | with_reducible assumption | assumption | omega) (show zUw 98 F_ N16_ (zsq F_ K_ (fun j_ => zg Mz 96 j_)) (u1_ + (-1)) by exact hu1_) (by omega)
            · skip
              refine zw_lload (pc := 34) (i := 5) (x := Int64.ofInt u9_) rfl (zdal_p dlC_M_numbers_126 (i := 19) rfl) ?_
              refine zw_aload_n (pc := 36) (n := 2) (x := 98) rfl (zdal_p dlC_M_numbers_126 (i := 20) rfl) ?_
              refine zw_iload_n (pc := 37) (n := 3) (x := Int32.ofInt a2_) rfl (zdal_p dlC_M_numbers_126 (i := 21) rfl) ?_
              refine zw_iload (pc := 38) (i := 7) (x := Int32.ofInt u10_) rfl (zdal_p dlC_M_numbers_126 (i := 22) rfl) ?_
              refine zr_iadd (pc := 40) (zdal_p dlC_M_numbers_126 (i := 23) rfl) ?_
              refine zr_laldn (pc := 41) (zh_98 (hf_N2_.w hW)).2 (by decide) (by omega) (by omega) (zdal_p dlC_M_numbers_127 (i := 0) rfl) (fun v18_ hv18_ hv18_a hv18_b => ?_)
              have hx_ := hv18_
              rw [show (a2_ + u10_).toNat = (u10_).toNat by omega] at hx_
              have hx2_ := hx_.trans (hup_ (u10_).toNat (by omega) (by omega))
              refine zw_aload_n (pc := 42) (n := 0) (x := 81) rfl (zdal_p dlC_M_numbers_127 (i := 1) rfl) ?_
              refine zr_getF (r := 93) (hf_N2_.w hW) (pc := 43) f_M_50 rfl (zh_93 (hf_N2_.w hW)).1 (zdal_p dlC_M_numbers_127 (i := 2) rfl) ?_
              refine zw_bipush (pc := 46) (v := Int32.ofInt 64) (by decide) (zdal_p dlC_M_numbers_127 (i := 3) rfl) ?_
              refine zw_iload (pc := 48) (i := 7) (x := Int32.ofInt u10_) rfl (zdal_p dlC_M_numbers_127 (i := 4) rfl) ?_
              refine zr_imul (pc := 50) (zdal_p dlC_M_numbers_127 (i := 5) rfl) ?_
              refine zw_iload (pc := 51) (i := 4) (x := Int32.ofInt u1_) rfl (zdal_p dlC_M_numbers_127 (i := 6) rfl) ?_
              refine zr_iadd (pc := 53) (zdal_p dlC_M_numbers_127 (i := 7) rfl) ?_
              refine zr_ialdn (pc := 54) (zh_93 (hf_N2_.w hW)).2 (by decide) (by omega) (by omega) (zdal_p dlC_M_numbers_127 (i := 8) rfl) (fun v19_ hv19_ hv19_a hv19_b => ?_)
              rw [hf_N2_.ie (by decide) (by decide)] at hv19_
              have hy_ := p0_.k (by omega) (by omega) (by omega) (by omega) hv19_
              refine zr_i2l (pc := 55) ⟨hv19_a, hv19_b⟩ (zdal_p dlC_M_numbers_127 (i := 9) rfl) ?_
              refine zr_lmul (pc := 56) (zdal_p dlC_M_numbers_127 (i := 10) rfl) ?_
              refine zr_lsub (pc := 57) (zdal_p dlC_M_numbers_127 (i := 11) rfl) ?_
              refine zk_nmJ (fun v20_ hv20_ hv20_e => ?_)
              obtain ⟨hv20_a, hv20_b⟩ := hv20_
              have hz_ := zrX_s hxi_ hv20_e (by omega) (by omega) (by omega) hx2_ hy_
              refine zw_lstore (pc := 58) (i := 5) (L2 := [some (.ref 81), some (.ref 96), some (.ref 98), some (.int (Int32.ofInt a2_)), some (.int (Int32.ofInt u1_)), some (.long (Int64.ofInt v20_)), none, some (.int (Int32.ofInt u10_))]) (by decide) rfl (zdal_p dlC_M_numbers_127 (i := 12) rfl) ?_
              refine zr_iinc (pc := 60) (i := 7) (a := u10_) (n := 1) (L2 := [some (.ref 81), some (.ref 96), some (.ref 98), some (.int (Int32.ofInt a2_)), some (.int (Int32.ofInt u1_)), some (.long (Int64.ofInt v20_)), none, some (.int (Int32.ofInt (u10_ + 1)))]) rfl (by decide) rfl (zdal_p dlC_M_numbers_127 (i := 13) rfl) ?_
              refine zw_goto (pc := 63) (tgt := 25) (by decide) (zdal_p dlC_M_numbers_127 (i := 14) rfl) ?_
              exact ih_25 v20_ hv20_a hv20_b (u10_ + 1) (by omega) (by omega) (show u1_ < (u10_ + 1) by first | with_reducible assumption | assumption | omega) (show (u10_ + 1) ≤ F_ by first | with_reducible assumption | assumption | omega) (show zrX F_ K_ (fun j_ => zg Mz 96 j_) v20_ u1_ (u10_ + 1) by exact hz_) (by omega)
        exact lp_25 _ v8_ hv8_a hv8_b (u1_ + 1) (by omega) (by omega) (show u1_ < (u1_ + 1) by first | with_reducible assumption | assumption | omega) (show (u1_ + 1) ≤ F_ by first | with_reducible assumption | assumption | omega) (show zrX F_ K_ (fun j_ => zg Mz 96 j_) v8_ u1_ (u1_ + 1) by exact zrX_0 hr0_) (Nat.lt_succ_self _)
  exact lp_8 _ ((ze Mz 81 26) - 1) (by omega) (by omega) Mz zFr.rf (show ((ze Mz 81 26) - 1) < F_ by first | with_reducible assumption | assumption | omega) (show -1 ≤ ((ze Mz 81 26) - 1) by first | with_reducible assumption | assumption | omega) (show zUw 98 F_ Mz (zsq F_ K_ (fun j_ => zg Mz 96 j_)) ((ze Mz 81 26) - 1) by exact zUw_0 (by omega)) (Nat.lt_succ_self _)
set_option maxHeartbeats 4000000 in
theorem c_M_numbers_99_98S (l : Launch) (Mz : zMem) (hW : zMt Mz) (a2_ : Int) (ha2_a : -2147483648 ≤ a2_) (ha2_b : a2_ < 2147483648) (F_ : Nat) (K_ : Nat → Nat → Int) (hA_ : zTA F_ K_) (p0_ : zRmk F_ K_ Mz) (p1_ : 0 ≤ a2_) (p2_ : a2_ ≤ 0) (p3_ : (∀ j : Nat, j < F_ → -1000000 ≤ zg Mz 99 j ∧ zg Mz 99 j ≤ 1000000)) : zC l m_M_numbers 0 0 [.ref 81, .ref 99, .ref 98, .int (Int32.ofInt a2_)] Mz (zpV [] [98] Mz (fun N => (∀ k : Nat, k < F_ → zg N 98 k = (zsq F_ K_ (fun j_ => zg Mz 99 j_)) k))) := by
  refine zC_of (L0 := [some (.ref 81), some (.ref 99), some (.ref 98), some (.int (Int32.ofInt a2_)), none, none, none, none]) md_M_numbers (Nat.le_of_ble_eq_true rfl) rfl ?_ zQ0
  have hf : zFr [] [98] Mz Mz := zFr.rf
  have r_26 := ze_r Mz 81 26
  obtain ⟨⟨hF1_, hF27_⟩, hAr_⟩ := id hA_
  obtain ⟨hFc_, hKt_⟩ := id p0_
  refine zw_aload_n (pc := 0) (n := 0) (x := 81) rfl (zdal_p dlC_M_numbers_126 (i := 0) rfl) ?_
  refine zr_getI0 hf hW (pc := 1) (by decide) f_M_235 rfl (zdal_p dlC_M_numbers_126 (i := 1) rfl) ?_
  refine zw_iconst (pc := 4) (v := Int32.ofInt 1) (by decide) (zdal_p dlC_M_numbers_126 (i := 2) rfl) ?_
  refine zr_isub (pc := 5) (zdal_p dlC_M_numbers_126 (i := 3) rfl) ?_
  refine zw_istore (pc := 6) (i := 4) (L2 := [some (.ref 81), some (.ref 99), some (.ref 98), some (.int (Int32.ofInt a2_)), some (.int (Int32.ofInt ((ze Mz 81 26) - 1))), none, none, none]) (by decide) rfl (zdal_p dlC_M_numbers_126 (i := 4) rfl) ?_
  have lp_8 : ∀ (n : Nat) (u1_ : Int) (hu1_a : -2147483648 ≤ u1_) (hu1_b : u1_ < 2147483648) (N2_ : zMem) (hs3_ : zFr [] [98] Mz N2_) (i4_ : u1_ < F_) (i5_ : -1 ≤ u1_) (i6_ : zUw 98 F_ N2_ (zsq F_ K_ (fun j_ => zg Mz 99 j_)) u1_), (u1_ + 1).toNat < n → zW l m_M_numbers (zn Mz + 0, zw Mz + 0) N2_ 8 [some (.ref 81), some (.ref 99), some (.ref 98), some (.int (Int32.ofInt a2_)), some (.int (Int32.ofInt u1_)), none, none, none] [] (zpV [] [98] Mz (fun N => (∀ k : Nat, k < F_ → zg N 98 k = (zsq F_ K_ (fun j_ => zg Mz 99 j_)) k))) := by
    intro n
    induction n with
    | zero =>
      intro u1_ hu1_a hu1_b N2_ hs3_ i4_ i5_ i6_ h0
      exact absurd h0 (Nat.not_lt_zero _)
    | succ n ih_8 =>
      intro u1_ hu1_a hu1_b N2_ hs3_ i4_ i5_ i6_ hlt_8
      have hf_N2_ : zFr [] [98] Mz N2_ := hf.tr hs3_ (by decide) (by decide)
      have e26_N2_ : ze N2_ 81 26 = ze Mz 81 26 := hs3_.e (by decide)
      have c7_ : zRmk F_ K_ N2_ := zRmk.fr hs3_ p0_ (by decide) (by decide)
      refine zw_iload (pc := 8) (i := 4) (x := Int32.ofInt u1_) rfl (zdal_p dlC_M_numbers_126 (i := 5) rfl) ?_
      refine zr_if_lt (pc := 10) (tgt := 95) ⟨hu1_a, hu1_b⟩ (by decide) (zdal_p dlC_M_numbers_126 (i := 6) rfl) (fun hc_10 => ?_) (fun hc_10 => ?_)
      · skip
        exact zr_vret (pc := 95) rfl hf_N2_ (show (∀ k : Nat, k < F_ → zg N2_ 98 k = (zsq F_ K_ (fun j_ => zg Mz 99 j_)) k) by exact fun k_ hk_ => (show zUw 98 F_ N2_ (zsq F_ K_ (fun j_ => zg Mz 99 j_)) u1_ by first | with_reducible assumption | assumption) k_ (by omega) (by omega)) (zdal_p dlC_M_numbers_128 (i := 9) rfl)
      · skip
        refine zw_aload_n (pc := 13) (n := 1) (x := 99) rfl (zdal_p dlC_M_numbers_126 (i := 7) rfl) ?_
        refine zw_iload (pc := 14) (i := 4) (x := Int32.ofInt u1_) rfl (zdal_p dlC_M_numbers_126 (i := 8) rfl) ?_
        refine zr_laldn (pc := 16) (zh_99 (hf_N2_.w hW)).2 (by decide) (by omega) (by omega) (zdal_p dlC_M_numbers_126 (i := 9) rfl) (fun v8_ hv8_ hv8_a hv8_b => ?_)
        rw [hf_N2_.jg (by decide) (by decide)] at hv8_
        have hr0_ := hv8_
        refine zw_lstore (pc := 17) (i := 5) (L2 := [some (.ref 81), some (.ref 99), some (.ref 98), some (.int (Int32.ofInt a2_)), some (.int (Int32.ofInt u1_)), some (.long (Int64.ofInt v8_)), none, none]) (by decide) rfl (zdal_p dlC_M_numbers_126 (i := 10) rfl) ?_
        refine zw_iload (pc := 19) (i := 4) (x := Int32.ofInt u1_) rfl (zdal_p dlC_M_numbers_126 (i := 11) rfl) ?_
        refine zw_iconst (pc := 21) (v := Int32.ofInt 1) (by decide) (zdal_p dlC_M_numbers_126 (i := 12) rfl) ?_
        refine zr_iadd (pc := 22) (zdal_p dlC_M_numbers_126 (i := 13) rfl) ?_
        refine zw_istore (pc := 23) (i := 7) (L2 := [some (.ref 81), some (.ref 99), some (.ref 98), some (.int (Int32.ofInt a2_)), some (.int (Int32.ofInt u1_)), some (.long (Int64.ofInt v8_)), none, some (.int (Int32.ofInt (u1_ + 1)))]) (by decide) rfl (zdal_p dlC_M_numbers_126 (i := 14) rfl) ?_
        have hup_ := (show zUw 98 F_ N2_ (zsq F_ K_ (fun j_ => zg Mz 99 j_)) u1_ by first | with_reducible assumption | assumption)
        have lp_25 : ∀ (n : Nat) (u9_ : Int) (hu9_a : -9223372036854775808 ≤ u9_) (hu9_b : u9_ < 9223372036854775808) (u10_ : Int) (hu10_a : -2147483648 ≤ u10_) (hu10_b : u10_ < 2147483648) (i11_ : u1_ < u10_) (i12_ : u10_ ≤ F_) (i13_ : zrX F_ K_ (fun j_ => zg Mz 99 j_) u9_ u1_ u10_), (F_ - u10_).toNat < n → zW l m_M_numbers (zn Mz + 0, zw Mz + 0) N2_ 25 [some (.ref 81), some (.ref 99), some (.ref 98), some (.int (Int32.ofInt a2_)), some (.int (Int32.ofInt u1_)), some (.long (Int64.ofInt u9_)), none, some (.int (Int32.ofInt u10_))] [] (zpV [] [98] Mz (fun N => (∀ k : Nat, k < F_ → zg N 98 k = (zsq F_ K_ (fun j_ => zg Mz 99 j_)) k))) := by
          intro n
          induction n with
          | zero =>
            intro u9_ hu9_a hu9_b u10_ hu10_a hu10_b i11_ i12_ i13_ h0
            exact absurd h0 (Nat.not_lt_zero _)
          | succ n ih_25 =>
            intro u9_ hu9_a hu9_b u10_ hu10_a hu10_b i11_ i12_ i13_ hlt_25
            have hxi_ := (show zrX F_ K_ (fun j_ => zg Mz 99 j_) u9_ u1_ u10_ by first | with_reducible assumption | assumption)
            refine zw_iload (pc := 25) (i := 7) (x := Int32.ofInt u10_) rfl (zdal_p dlC_M_numbers_126 (i := 15) rfl) ?_
            refine zw_aload_n (pc := 27) (n := 0) (x := 81) rfl (zdal_p dlC_M_numbers_126 (i := 16) rfl) ?_
            refine zr_getI0 hf_N2_ hW (pc := 28) (by decide) f_M_235 rfl (zdal_p dlC_M_numbers_126 (i := 17) rfl) ?_
            refine zr_icmp_ge (pc := 31) (tgt := 66) ⟨hu10_a, hu10_b⟩ ⟨(ze_r Mz 81 26).1, (ze_r Mz 81 26).2⟩ (by decide) (zdal_p dlC_M_numbers_126 (i := 18) rfl) (fun hc_31 => ?_) (fun hc_31 => ?_)
            · skip
              refine zw_aload_n (pc := 66) (n := 2) (x := 98) rfl (zdal_p dlC_M_numbers_127 (i := 15) rfl) ?_
              refine zw_iload_n (pc := 67) (n := 3) (x := Int32.ofInt a2_) rfl (zdal_p dlC_M_numbers_127 (i := 16) rfl) ?_
              refine zw_iload (pc := 68) (i := 4) (x := Int32.ofInt u1_) rfl (zdal_p dlC_M_numbers_127 (i := 17) rfl) ?_
              refine zr_iadd (pc := 70) (zdal_p dlC_M_numbers_127 (i := 18) rfl) ?_
              refine zw_lload (pc := 71) (i := 5) (x := Int64.ofInt u9_) rfl (zdal_p dlC_M_numbers_127 (i := 19) rfl) ?_
              refine zw_aload_n (pc := 73) (n := 0) (x := 81) rfl (zdal_p dlC_M_numbers_127 (i := 20) rfl) ?_
              refine zr_getF (r := 93) (hf_N2_.w hW) (pc := 74) f_M_50 rfl (zh_93 (hf_N2_.w hW)).1 (zdal_p dlC_M_numbers_127 (i := 21) rfl) ?_
              refine zw_bipush (pc := 77) (v := Int32.ofInt 64) (by decide) (zdal_p dlC_M_numbers_127 (i := 22) rfl) ?_
              refine zw_iload (pc := 79) (i := 4) (x := Int32.ofInt u1_) rfl (zdal_p dlC_M_numbers_127 (i := 23) rfl) ?_
              refine zr_imul (pc := 81) (zdal_p dlC_M_numbers_128 (i := 0) rfl) ?_
              refine zw_iload (pc := 82) (i := 4) (x := Int32.ofInt u1_) rfl (zdal_p dlC_M_numbers_128 (i := 1) rfl) ?_
              refine zr_iadd (pc := 84) (zdal_p dlC_M_numbers_128 (i := 2) rfl) ?_
              refine zr_ialdn (pc := 85) (zh_93 (hf_N2_.w hW)).2 (by decide) (by omega) (by omega) (zdal_p dlC_M_numbers_128 (i := 3) rfl) (fun v14_ hv14_ hv14_a hv14_b => ?_)
              rw [hf_N2_.ie (by decide) (by decide)] at hv14_
              have hm_ := p0_.k (by omega) (by omega) (by omega) (by omega) hv14_
              have hm1_ := hAr_.2.2.1 (u1_).toNat (by omega)
              refine zr_i2l (pc := 86) ⟨hv14_a, hv14_b⟩ (zdal_p dlC_M_numbers_128 (i := 4) rfl) ?_
              refine zr_ldiv (pc := 87) ⟨by omega, by omega⟩ (by omega) (zdal_p dlC_M_numbers_128 (i := 5) rfl) ?_
              have hr15_ := zlquo_r u9_ v14_
              obtain ⟨q_, hq_⟩ : ∃ q, q = (zlquo u9_ v14_) := ⟨_, rfl⟩
              have hqu_ := zrX_e hA_ p3_ hxi_ (by omega) ⟨by omega, by omega⟩ (by omega) (by omega) hm_ hq_
              refine zr_last (pc := 88) (zh_98 (hf_N2_.w hW)).2 (by decide) (by decide) (by omega) (by omega) (zdal_p dlC_M_numbers_128 (i := 6) rfl) (fun N16_ hN16_ hsN16_ => ?_)
              have hf_N16_ : zFr [] [98] Mz N16_ := hf_N2_.tr hsN16_ (by decide) (by decide)
              have hb0_N16_ : zFr [] [98] Mz N16_ := hs3_.tr hsN16_ (by decide) (by decide)
              have e26_N16_ : ze N16_ 81 26 = ze N2_ 81 26 := hsN16_.e (by decide)
              have c17_ : zRmk F_ K_ N16_ := zRmk.fr hsN16_ c7_ (by decide) (by decide)
              have hN_ := hN16_
              rw [show (a2_ + u1_).toNat = (u1_).toNat by omega] at hN_
              have hu1_ := zUw_s hup_ hN_ ⟨by omega, by omega⟩ (by omega) (by rw [← hq_]; exact hqu_)
              refine zr_iinc (pc := 89) (i := 4) (a := u1_) (n := -1) (L2 := [some (.ref 81), some (.ref 99), some (.ref 98), some (.int (Int32.ofInt a2_)), some (.int (Int32.ofInt (u1_ + (-1)))), some (.long (Int64.ofInt u9_)), none, some (.int (Int32.ofInt u10_))]) rfl (by decide) rfl (zdal_p dlC_M_numbers_128 (i := 7) rfl) ?_
              refine zw_goto (pc := 92) (tgt := 8) (by decide) (zdal_p dlC_M_numbers_128 (i := 8) rfl) ?_
              refine zW_le [some (.ref 81), some (.ref 99), some (.ref 98), some (.int (Int32.ofInt a2_)), some (.int (Int32.ofInt (u1_ + (-1)))), none, none, none] (⟨rfl, rfl, rfl, rfl, rfl, trivial⟩) ?_
              exact ih_8 (u1_ + (-1)) (by omega) (by omega) N16_ hb0_N16_ (show (u1_ + (-1)) < F_ by first | with_reducible assumption | assumption | omega) (show -1 ≤ (u1_ + (-1)) by first | with_reducible assumption | assumption | omega) (show zUw 98 F_ N16_ (zsq F_ K_ (fun j_ => zg Mz 99 j_)) (u1_ + (-1)) by exact hu1_) (by omega)
            · skip
              refine zw_lload (pc := 34) (i := 5) (x := Int64.ofInt u9_) rfl (zdal_p dlC_M_numbers_126 (i := 19) rfl) ?_
              refine zw_aload_n (pc := 36) (n := 2) (x := 98) rfl (zdal_p dlC_M_numbers_126 (i := 20) rfl) ?_
              refine zw_iload_n (pc := 37) (n := 3) (x := Int32.ofInt a2_) rfl (zdal_p dlC_M_numbers_126 (i := 21) rfl) ?_
              refine zw_iload (pc := 38) (i := 7) (x := Int32.ofInt u10_) rfl (zdal_p dlC_M_numbers_126 (i := 22) rfl) ?_
              refine zr_iadd (pc := 40) (zdal_p dlC_M_numbers_126 (i := 23) rfl) ?_
              refine zr_laldn (pc := 41) (zh_98 (hf_N2_.w hW)).2 (by decide) (by omega) (by omega) (zdal_p dlC_M_numbers_127 (i := 0) rfl) (fun v18_ hv18_ hv18_a hv18_b => ?_)
              have hx_ := hv18_
              rw [show (a2_ + u10_).toNat = (u10_).toNat by omega] at hx_
              have hx2_ := hx_.trans (hup_ (u10_).toNat (by omega) (by omega))
              refine zw_aload_n (pc := 42) (n := 0) (x := 81) rfl (zdal_p dlC_M_numbers_127 (i := 1) rfl) ?_
              refine zr_getF (r := 93) (hf_N2_.w hW) (pc := 43) f_M_50 rfl (zh_93 (hf_N2_.w hW)).1 (zdal_p dlC_M_numbers_127 (i := 2) rfl) ?_
              refine zw_bipush (pc := 46) (v := Int32.ofInt 64) (by decide) (zdal_p dlC_M_numbers_127 (i := 3) rfl) ?_
              refine zw_iload (pc := 48) (i := 7) (x := Int32.ofInt u10_) rfl (zdal_p dlC_M_numbers_127 (i := 4) rfl) ?_
              refine zr_imul (pc := 50) (zdal_p dlC_M_numbers_127 (i := 5) rfl) ?_
              refine zw_iload (pc := 51) (i := 4) (x := Int32.ofInt u1_) rfl (zdal_p dlC_M_numbers_127 (i := 6) rfl) ?_
              refine zr_iadd (pc := 53) (zdal_p dlC_M_numbers_127 (i := 7) rfl) ?_
              refine zr_ialdn (pc := 54) (zh_93 (hf_N2_.w hW)).2 (by decide) (by omega) (by omega) (zdal_p dlC_M_numbers_127 (i := 8) rfl) (fun v19_ hv19_ hv19_a hv19_b => ?_)
              rw [hf_N2_.ie (by decide) (by decide)] at hv19_
              have hy_ := p0_.k (by omega) (by omega) (by omega) (by omega) hv19_
              refine zr_i2l (pc := 55) ⟨hv19_a, hv19_b⟩ (zdal_p dlC_M_numbers_127 (i := 9) rfl) ?_
              refine zr_lmul (pc := 56) (zdal_p dlC_M_numbers_127 (i := 10) rfl) ?_
              refine zr_lsub (pc := 57) (zdal_p dlC_M_numbers_127 (i := 11) rfl) ?_
              refine zk_nmJ (fun v20_ hv20_ hv20_e => ?_)
              obtain ⟨hv20_a, hv20_b⟩ := hv20_
              have hz_ := zrX_s hxi_ hv20_e (by omega) (by omega) (by omega) hx2_ hy_
              refine zw_lstore (pc := 58) (i := 5) (L2 := [some (.ref 81), some (.ref 99), some (.ref 98), some (.int (Int32.ofInt a2_)), some (.int (Int32.ofInt u1_)), some (.long (Int64.ofInt v20_)), none, some (.int (Int32.ofInt u10_))]) (by decide) rfl (zdal_p dlC_M_numbers_127 (i := 12) rfl) ?_
              refine zr_iinc (pc := 60) (i := 7) (a := u10_) (n := 1) (L2 := [some (.ref 81), some (.ref 99), some (.ref 98), some (.int (Int32.ofInt a2_)), some (.int (Int32.ofInt u1_)), some (.long (Int64.ofInt v20_)), none, some (.int (Int32.ofInt (u10_ + 1)))]) rfl (by decide) rfl (zdal_p dlC_M_numbers_127 (i := 13) rfl) ?_
              refine zw_goto (pc := 63) (tgt := 25) (by decide) (zdal_p dlC_M_numbers_127 (i := 14) rfl) ?_
              exact ih_25 v20_ hv20_a hv20_b (u10_ + 1) (by omega) (by omega) (show u1_ < (u10_ + 1) by first | with_reducible assumption | assumption | omega) (show (u10_ + 1) ≤ F_ by first | with_reducible assumption | assumption | omega) (show zrX F_ K_ (fun j_ => zg Mz 99 j_) v20_ u1_ (u10_ + 1) by exact hz_) (by omega)
        exact lp_25 _ v8_ hv8_a hv8_b (u1_ + 1) (by omega) (by omega) (show u1_ < (u1_ + 1) by first | with_reducible assumption | assumption | omega) (show (u1_ + 1) ≤ F_ by first | with_reducible assumption | assumption | omega) (show zrX F_ K_ (fun j_ => zg Mz 99 j_) v8_ u1_ (u1_ + 1) by exact zrX_0 hr0_) (Nat.lt_succ_self _)
  exact lp_8 _ ((ze Mz 81 26) - 1) (by omega) (by omega) Mz zFr.rf (show ((ze Mz 81 26) - 1) < F_ by first | with_reducible assumption | assumption | omega) (show -1 ≤ ((ze Mz 81 26) - 1) by first | with_reducible assumption | assumption | omega) (show zUw 98 F_ Mz (zsq F_ K_ (fun j_ => zg Mz 99 j_)) ((ze Mz 81 26) - 1) by exact zUw_0 (by omega)) (Nat.lt_succ_self _)
