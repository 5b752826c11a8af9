theorem z6b {x y : Int} (x0 : 0 ≤ x) (x1 : x < 64) (y0 : 0 ≤ y) (y1 : y < 64) : 0 ≤ zor x y ∧ zor x y < 64 := by
  obtain ⟨m, rfl⟩ := Int.eq_ofNat_of_zero_le x0
  obtain ⟨n, rfl⟩ := Int.eq_ofNat_of_zero_le y0
  rw [zor_n m n (by omega) (by omega)]
  have := Nat.or_lt_two_pow (n := 6) (x := m) (y := n) (by omega) (by omega)
  omega
theorem z6k : ∀ k : Fin 6, 0 ≤ zshl 1 ((k.val : Nat) : Int) ∧ zshl 1 ((k.val : Nat) : Int) < 64 := by decide +kernel
theorem z6a {x k : Int} (x0 : 0 ≤ x) (x1 : x < 64) (k0 : 0 ≤ k) (k1 : k ≤ 5) : 0 ≤ zor x (zshl 1 k) ∧ zor x (zshl 1 k) < 64 := by
  obtain ⟨n, rfl⟩ := Int.eq_ofNat_of_zero_le k0
  have h := z6k ⟨n, by omega⟩
  exact z6b x0 x1 h.1 h.2
def zPo (M : zMem) (n : Int) : Prop := ∀ k : Nat, (k : Int) < n → 0 ≤ ze M 112 k
theorem zPo_s {M N P : zMem} {u v : Int} (h : zPo M u) (hN : N = zsI M 112 u.toNat (Int32.ofInt v)) (hf : zFr [63] [] N P) (u0 : 0 ≤ u) (v0 : 0 ≤ v) (v1 : v ≤ 31) : zPo P (u + 1) := by
  intro k hk
  rw [hf.ie (by decide) (by decide)]
  by_cases e : (k : Int) = u
  · rw [show k = u.toNat by omega, zs_get hN ⟨by omega, by omega⟩]
    exact v0
  · rw [zs_oth hN (by omega)]
    exact h k (by omega)
theorem zPo_0 {M : zMem} : zPo M 0 := fun k hk => absurd hk (by omega)
set_option maxHeartbeats 4000000 in
theorem c_M_laysParts (l : Launch) (Mz : zMem) (hW : zMt Mz) (a0_ : Int) (ha0_a : -2147483648 ≤ a0_) (ha0_b : a0_ < 2147483648) (T : zGT) (hO : gOK T) (p0_ : zGB T Mz) (p1_ : 1 ≤ ze Mz 81 16) (p2_ : ze Mz 81 16 ≤ 6) (p3_ : 0 ≤ a0_) : zC l m_M_laysParts 0 0 [.ref 81, .int (Int32.ofInt a0_)] Mz (zpV [63] [112] Mz (fun N => 0 ≤ ze N 81 63 ∧ ze N 81 63 ≤ 6 ∧ zPo N (ze N 81 63))) := by
  refine zC_of (L0 := [some (.ref 81), some (.int (Int32.ofInt a0_)), none, none, none, none]) md_M_laysParts (Nat.le_of_ble_eq_true rfl) rfl ?_ zQ0
  have hf : zFr [63] [112] Mz Mz := zFr.rf
  have r_16 := ze_r Mz 81 16
  have r_20 := ze_r Mz 81 20
  have r_63 := ze_r Mz 81 63
  have hG := hO.1
  have g24 := hG.2.1
  have g1 := hG.1
  have dv0 : zTab T Mz := p0_.1
  have dv1 : zB 85 144 0 5 Mz := p0_.2.1
  have dv2 : zJX T Mz := p0_.2.2.1
  have dv3 : zFirs T Mz := p0_.2.2.2.1
  have dv4 : zSSm T Mz := p0_.2.2.2.2.1
  have dv5 : zGD Mz := zGB.d hO p0_
  have gb := dv5.1
  have gn := dv0.1
  refine zw_aload_n (pc := 0) (n := 0) (x := 81) rfl (zdal_p dlD_M_laysParts_115 (i := 0) rfl) ?_
  refine zw_iconst (pc := 1) (v := Int32.ofInt 0) (by decide) (zdal_p dlD_M_laysParts_115 (i := 1) rfl) ?_
  refine zr_putI (hf.w hW) (pc := 2) f_M_487 rfl rfl ⟨by omega, by omega⟩ rfl rfl (zdal_p dlD_M_laysParts_115 (i := 2) rfl) (fun N1_ hsN1_ hvN1_ => ?_)
  have hf_N1_ : zFr [63] [112] Mz N1_ := hf.tr hsN1_ (by decide) (by decide)
  have e16_N1_ : ze N1_ 81 16 = ze Mz 81 16 := hsN1_.e (by decide)
  have e20_N1_ : ze N1_ 81 20 = ze Mz 81 20 := hsN1_.e (by decide)
  have r63_N1_ := ze_r N1_ 81 63
  have c2_ : zGB T N1_ := zGB.fr hsN1_ p0_ (by decide) (by decide)
  have c3_ : zTab T N1_ := zTab.fr hsN1_ dv0 (by decide) (by decide)
  have c4_ : zB 85 144 0 5 N1_ := zB.fr hsN1_ dv1 (by decide) (by decide)
  have c5_ : zJX T N1_ := zJX.fr hsN1_ dv2 (by decide) (by decide)
  have c6_ : zFirs T N1_ := zFirs.fr hsN1_ dv3 (by decide) (by decide)
  have c7_ : zSSm T N1_ := zSSm.fr hsN1_ dv4 (by decide) (by decide)
  have c8_ : zGD N1_ := zGD.fr hsN1_ dv5 (by decide) (by decide)
  refine zw_iconst (pc := 5) (v := Int32.ofInt 0) (by decide) (zdal_p dlD_M_laysParts_115 (i := 3) rfl) ?_
  refine zw_istore_n (pc := 6) (i := 2) (L2 := [some (.ref 81), some (.int (Int32.ofInt a0_)), some (.int (Int32.ofInt 0)), none, none, none]) rfl (by decide) rfl (zdal_p dlD_M_laysParts_115 (i := 4) rfl) ?_
  refine zw_iconst (pc := 7) (v := Int32.ofInt 0) (by decide) (zdal_p dlD_M_laysParts_115 (i := 5) rfl) ?_
  refine zw_istore_n (pc := 8) (i := 3) (L2 := [some (.ref 81), some (.int (Int32.ofInt a0_)), some (.int (Int32.ofInt 0)), some (.int (Int32.ofInt 0)), none, none]) rfl (by decide) rfl (zdal_p dlD_M_laysParts_115 (i := 6) rfl) ?_
  have lp_9 : ∀ (n : Nat) (u9_ : Int) (hu9_a : -2147483648 ≤ u9_) (hu9_b : u9_ < 2147483648) (u10_ : Int) (hu10_a : -2147483648 ≤ u10_) (hu10_b : u10_ < 2147483648) (N11_ : zMem) (hs12_ : zFr [63] [112] N1_ N11_) (i13_ : 0 ≤ u10_) (i14_ : 0 ≤ ze N11_ 81 63) (i15_ : ze N11_ 81 63 ≤ u10_) (i16_ : u10_ ≤ 6) (i17_ : 0 ≤ u9_) (i18_ : u9_ < 64) (i19_ : zPo N11_ (ze N11_ 81 63)), (ze Mz 81 16 - u10_).toNat < n → zW l m_M_laysParts (zn Mz + 0, zw Mz + 0) N11_ 9 [some (.ref 81), some (.int (Int32.ofInt a0_)), some (.int (Int32.ofInt u9_)), some (.int (Int32.ofInt u10_)), none, none] [] (zpV [63] [112] Mz (fun N => 0 ≤ ze N 81 63 ∧ ze N 81 63 ≤ 6 ∧ zPo N (ze N 81 63))) := by
    intro n
    induction n with
    | zero =>
      intro u9_ hu9_a hu9_b u10_ hu10_a hu10_b N11_ hs12_ i13_ i14_ i15_ i16_ i17_ i18_ i19_ h0
      exact absurd h0 (Nat.not_lt_zero _)
    | succ n ih_9 =>
      intro u9_ hu9_a hu9_b u10_ hu10_a hu10_b N11_ hs12_ i13_ i14_ i15_ i16_ i17_ i18_ i19_ hlt_9
      have hf_N11_ : zFr [63] [112] Mz N11_ := hf_N1_.tr hs12_ (by decide) (by decide)
      have e16_N11_ : ze N11_ 81 16 = ze N1_ 81 16 := hs12_.e (by decide)
      have e20_N11_ : ze N11_ 81 20 = ze N1_ 81 20 := hs12_.e (by decide)
      have r63_N11_ := ze_r N11_ 81 63
      have c20_ : zGB T N11_ := zGB.fr hs12_ c2_ (by decide) (by decide)
      have c21_ : zTab T N11_ := zTab.fr hs12_ c3_ (by decide) (by decide)
      have c22_ : zB 85 144 0 5 N11_ := zB.fr hs12_ c4_ (by decide) (by decide)
      have c23_ : zJX T N11_ := zJX.fr hs12_ c5_ (by decide) (by decide)
      have c24_ : zFirs T N11_ := zFirs.fr hs12_ c6_ (by decide) (by decide)
      have c25_ : zSSm T N11_ := zSSm.fr hs12_ c7_ (by decide) (by decide)
      have c26_ : zGD N11_ := zGD.fr hs12_ c8_ (by decide) (by decide)
      refine zw_iload_n (pc := 9) (n := 3) (x := Int32.ofInt u10_) rfl (zdal_p dlD_M_laysParts_115 (i := 7) rfl) ?_
      refine zw_aload_n (pc := 10) (n := 0) (x := 81) rfl (zdal_p dlD_M_laysParts_115 (i := 8) rfl) ?_
      refine zr_getI0 hf_N11_ hW (pc := 11) (by decide) f_M_382 rfl (zdal_p dlD_M_laysParts_115 (i := 9) rfl) ?_
      refine zr_icmp_ge (pc := 14) (tgt := 112) ⟨hu10_a, hu10_b⟩ ⟨(ze_r Mz 81 16).1, (ze_r Mz 81 16).2⟩ (by decide) (zdal_p dlD_M_laysParts_115 (i := 10) rfl) (fun hc_14 => ?_) (fun hc_14 => ?_)
      · skip
        exact zr_vret (pc := 112) rfl hf_N11_ ⟨(show 0 ≤ ze N11_ 81 63 by first | assumption | omega), (show ze N11_ 81 63 ≤ 6 by first | assumption | omega), (show zPo N11_ (ze N11_ 81 63) by first | assumption | omega)⟩ (zdal_p dlD_M_laysParts_117 (i := 14) rfl)
      · skip
        refine zw_iload_n (pc := 17) (n := 2) (x := Int32.ofInt u9_) rfl (zdal_p dlD_M_laysParts_115 (i := 11) rfl) ?_
        refine zw_iload_n (pc := 18) (n := 3) (x := Int32.ofInt u10_) rfl (zdal_p dlD_M_laysParts_115 (i := 12) rfl) ?_
        refine zr_callS hf_N11_.x (pc := 19) [.int (Int32.ofInt u9_), .int (Int32.ofInt u10_)] [] l_M_213 (c_M_holds l N11_ (hf_N11_.w hW) u9_ hu9_a hu9_b u10_ hu10_a hu10_b (show 0 ≤ u9_ by first | assumption | omega) (show 0 ≤ u10_ by first | assumption | omega) (show u10_ < 32 by first | assumption | omega)) rfl rfl (by decide) (Nat.le_of_ble_eq_true rfl) (zdal_p dlD_M_laysParts_115 (i := 13) rfl) ?_
        rintro _ N27_ ⟨v28_, rfl, ⟨hv28_a, hv28_b⟩, hsN27_, hp0_N27_⟩
        obtain rfl := hsN27_.eq.symm
        replace hp0_N27_ : ((v28_ = 1 ∧ zbt u9_ u10_) ∨ (v28_ = 0 ∧ ¬ zbt u9_ u10_)) := hp0_N27_
        rcases hp0_N27_ with ⟨rfl, ha19_0_hp0_N27_⟩ | ⟨rfl, ha19_0_hp0_N27_⟩
        · skip
          show zW l m_M_laysParts (zn Mz + 0, zw Mz + 0) N11_ 22 [some (.ref 81), some (.int (Int32.ofInt a0_)), some (.int (Int32.ofInt u9_)), some (.int (Int32.ofInt u10_)), none, none] [.int (Int32.ofInt 1)] _
          refine zr_if_eq (pc := 22) (tgt := 28) ⟨(by decide), (by decide)⟩ (by decide) (zdal_p dlD_M_laysParts_115 (i := 14) rfl) (fun hc_22 => ?_) (fun hc_22 => ?_)
          · skip
            exact absurd hc_22 (by decide)
          · skip
            refine zw_goto (pc := 25) (tgt := 106) (by decide) (zdal_p dlD_M_laysParts_115 (i := 15) rfl) ?_
            refine zr_iinc (pc := 106) (i := 3) (a := u10_) (n := 1) (L2 := [some (.ref 81), some (.int (Int32.ofInt a0_)), some (.int (Int32.ofInt u9_)), some (.int (Int32.ofInt (u10_ + 1))), none, none]) rfl (by decide) rfl (zdal_p dlD_M_laysParts_117 (i := 12) rfl) ?_
            refine zw_goto (pc := 109) (tgt := 9) (by decide) (zdal_p dlD_M_laysParts_117 (i := 13) rfl) ?_
            exact ih_9 u9_ hu9_a hu9_b (u10_ + 1) (by omega) (by omega) N11_ hs12_ (show 0 ≤ (u10_ + 1) by first | assumption | omega) (show 0 ≤ ze N11_ 81 63 by first | assumption | omega) (show ze N11_ 81 63 ≤ (u10_ + 1) by first | assumption | omega) (show (u10_ + 1) ≤ 6 by first | assumption | omega) (show 0 ≤ u9_ by first | assumption | omega) (show u9_ < 64 by first | assumption | omega) (show zPo N11_ (ze N11_ 81 63) by first | assumption | omega) (by omega)
        · skip
          show zW l m_M_laysParts (zn Mz + 0, zw Mz + 0) N11_ 22 [some (.ref 81), some (.int (Int32.ofInt a0_)), some (.int (Int32.ofInt u9_)), some (.int (Int32.ofInt u10_)), none, none] [.int (Int32.ofInt 0)] _
          refine zr_if_eq (pc := 22) (tgt := 28) ⟨(by decide), (by decide)⟩ (by decide) (zdal_p dlD_M_laysParts_115 (i := 14) rfl) (fun hc_22 => ?_) (fun hc_22 => ?_)
          · skip
            refine zw_iconst (pc := 28) (v := Int32.ofInt 0) (by decide) (zdal_p dlD_M_laysParts_115 (i := 16) rfl) ?_
            refine zw_istore (pc := 29) (i := 4) (L2 := [some (.ref 81), some (.int (Int32.ofInt a0_)), some (.int (Int32.ofInt u9_)), some (.int (Int32.ofInt u10_)), some (.int (Int32.ofInt 0)), none]) (by decide) rfl (zdal_p dlD_M_laysParts_115 (i := 17) rfl) ?_
            refine zw_iconst (pc := 31) (v := Int32.ofInt 0) (by decide) (zdal_p dlD_M_laysParts_115 (i := 18) rfl) ?_
            refine zw_istore (pc := 32) (i := 5) (L2 := [some (.ref 81), some (.int (Int32.ofInt a0_)), some (.int (Int32.ofInt u9_)), some (.int (Int32.ofInt u10_)), some (.int (Int32.ofInt 0)), some (.int (Int32.ofInt 0))]) (by decide) rfl (zdal_p dlD_M_laysParts_115 (i := 19) rfl) ?_
            have lp_34 : ∀ (n : Nat) (u29_ : Int) (hu29_a : -2147483648 ≤ u29_) (hu29_b : u29_ < 2147483648) (u30_ : Int) (hu30_a : -2147483648 ≤ u30_) (hu30_b : u30_ < 2147483648) (i31_ : 0 ≤ u30_) (i32_ : 0 ≤ u29_) (i33_ : u29_ < 64), (ze Mz 81 20 - u30_).toNat < n → zW l m_M_laysParts (zn Mz + 0, zw Mz + 0) N11_ 34 [some (.ref 81), some (.int (Int32.ofInt a0_)), some (.int (Int32.ofInt u9_)), some (.int (Int32.ofInt u10_)), some (.int (Int32.ofInt u29_)), some (.int (Int32.ofInt u30_))] [] (zpV [63] [112] Mz (fun N => 0 ≤ ze N 81 63 ∧ ze N 81 63 ≤ 6 ∧ zPo N (ze N 81 63))) := by
              intro n
              induction n with
              | zero =>
                intro u29_ hu29_a hu29_b u30_ hu30_a hu30_b i31_ i32_ i33_ h0
                exact absurd h0 (Nat.not_lt_zero _)
              | succ n ih_34 =>
                intro u29_ hu29_a hu29_b u30_ hu30_a hu30_b i31_ i32_ i33_ hlt_34
                refine zw_iload (pc := 34) (i := 5) (x := Int32.ofInt u30_) rfl (zdal_p dlD_M_laysParts_115 (i := 20) rfl) ?_
                refine zw_aload_n (pc := 36) (n := 0) (x := 81) rfl (zdal_p dlD_M_laysParts_115 (i := 21) rfl) ?_
                refine zr_getI0 hf_N11_ hW (pc := 37) (by decide) f_M_196 rfl (zdal_p dlD_M_laysParts_115 (i := 22) rfl) ?_
                refine zr_icmp_ge (pc := 40) (tgt := 77) ⟨hu30_a, hu30_b⟩ ⟨(ze_r Mz 81 20).1, (ze_r Mz 81 20).2⟩ (by decide) (zdal_p dlD_M_laysParts_115 (i := 23) rfl) (fun hc_40 => ?_) (fun hc_40 => ?_)
                · skip
                  refine zw_aload_n (pc := 77) (n := 0) (x := 81) rfl (zdal_p dlD_M_laysParts_116 (i := 19) rfl) ?_
                  refine zr_getF (r := 112) (hf_N11_.w hW) (pc := 78) f_M_109 rfl (zh_112 (hf_N11_.w hW)).1 (zdal_p dlD_M_laysParts_116 (i := 20) rfl) ?_
                  refine zw_aload_n (pc := 81) (n := 0) (x := 81) rfl (zdal_p dlD_M_laysParts_116 (i := 21) rfl) ?_
                  refine zr_getI (hf_N11_.w hW) (pc := 82) f_M_487 rfl (zdal_p dlD_M_laysParts_116 (i := 22) rfl) ?_
                  refine zw_iload (pc := 85) (i := 4) (x := Int32.ofInt u29_) rfl (zdal_p dlD_M_laysParts_116 (i := 23) rfl) ?_
                  refine zr_callS hf_N11_.x (pc := 87) [.int (Int32.ofInt u29_)] [.int (Int32.ofInt (ze N11_ 81 63)), .ref 112] l_M_253 (c_M_ones l N11_ (hf_N11_.w hW) u29_ hu29_a hu29_b (show 0 ≤ u29_ by first | assumption | omega)) rfl rfl (by decide) (Nat.le_of_ble_eq_true rfl) (zdal_p dlD_M_laysParts_117 (i := 0) rfl) ?_
                  rintro _ N34_ ⟨v35_, rfl, ⟨hv35_a, hv35_b⟩, hsN34_, ⟨hp0_N34_, hp1_N34_, hp2_N34_⟩⟩
                  obtain rfl := hsN34_.eq.symm
                  show zW l m_M_laysParts (zn Mz + 0, zw Mz + 0) N11_ 90 [some (.ref 81), some (.int (Int32.ofInt a0_)), some (.int (Int32.ofInt u9_)), some (.int (Int32.ofInt u10_)), some (.int (Int32.ofInt u29_)), some (.int (Int32.ofInt u30_))] [.int (Int32.ofInt v35_), .int (Int32.ofInt (ze N11_ 81 63)), .ref 112] _
                  refine zr_iast (pc := 90) (zh_112 (hf_N11_.w hW)).2 (by decide) (by decide) (by omega) (by omega) (zdal_p dlD_M_laysParts_117 (i := 1) rfl) (fun N36_ hN36_ hsN36_ => ?_)
                  have hf_N36_ : zFr [63] [112] Mz N36_ := hf_N11_.tr hsN36_ (by decide) (by decide)
                  have hb0_N36_ : zFr [63] [112] N1_ N36_ := hs12_.tr hsN36_ (by decide) (by decide)
                  have e16_N36_ : ze N36_ 81 16 = ze N11_ 81 16 := hsN36_.e (by decide)
                  have e20_N36_ : ze N36_ 81 20 = ze N11_ 81 20 := hsN36_.e (by decide)
                  have e63_N36_ : ze N36_ 81 63 = ze N11_ 81 63 := hsN36_.e (by decide)
                  have c37_ : zGB T N36_ := zGB.fr hsN36_ c20_ (by decide) (by decide)
                  have c38_ : zTab T N36_ := zTab.fr hsN36_ c21_ (by decide) (by decide)
                  have c39_ : zB 85 144 0 5 N36_ := zB.fr hsN36_ c22_ (by decide) (by decide)
                  have c40_ : zJX T N36_ := zJX.fr hsN36_ c23_ (by decide) (by decide)
                  have c41_ : zFirs T N36_ := zFirs.fr hsN36_ c24_ (by decide) (by decide)
                  have c42_ : zSSm T N36_ := zSSm.fr hsN36_ c25_ (by decide) (by decide)
                  have c43_ : zGD N36_ := zGD.fr hsN36_ c26_ (by decide) (by decide)
                  refine zw_aload_n (pc := 91) (n := 0) (x := 81) rfl (zdal_p dlD_M_laysParts_117 (i := 2) rfl) ?_
                  refine zw_dup (pc := 92) rfl (zdal_p dlD_M_laysParts_117 (i := 3) rfl) ?_
                  refine zr_getI (hf_N36_.w hW) (pc := 93) f_M_487 rfl (zdal_p dlD_M_laysParts_117 (i := 4) rfl) ?_
                  refine zw_iconst (pc := 96) (v := Int32.ofInt 1) (by decide) (zdal_p dlD_M_laysParts_117 (i := 5) rfl) ?_
                  refine zr_iadd (pc := 97) (zdal_p dlD_M_laysParts_117 (i := 6) rfl) ?_
                  refine zr_putI (hf_N36_.w hW) (pc := 98) f_M_487 rfl rfl ⟨by omega, by omega⟩ rfl rfl (zdal_p dlD_M_laysParts_117 (i := 7) rfl) (fun N44_ hsN44_ hvN44_ => ?_)
                  have hf_N44_ : zFr [63] [112] Mz N44_ := hf_N36_.tr hsN44_ (by decide) (by decide)
                  have hb0_N44_ : zFr [63] [112] N1_ N44_ := hb0_N36_.tr hsN44_ (by decide) (by decide)
                  have e16_N44_ : ze N44_ 81 16 = ze N36_ 81 16 := hsN44_.e (by decide)
                  have e20_N44_ : ze N44_ 81 20 = ze N36_ 81 20 := hsN44_.e (by decide)
                  have r63_N44_ := ze_r N44_ 81 63
                  have c45_ : zGB T N44_ := zGB.fr hsN44_ c37_ (by decide) (by decide)
                  have c46_ : zTab T N44_ := zTab.fr hsN44_ c38_ (by decide) (by decide)
                  have c47_ : zB 85 144 0 5 N44_ := zB.fr hsN44_ c39_ (by decide) (by decide)
                  have c48_ : zJX T N44_ := zJX.fr hsN44_ c40_ (by decide) (by decide)
                  have c49_ : zFirs T N44_ := zFirs.fr hsN44_ c41_ (by decide) (by decide)
                  have c50_ : zSSm T N44_ := zSSm.fr hsN44_ c42_ (by decide) (by decide)
                  have c51_ : zGD N44_ := zGD.fr hsN44_ c43_ (by decide) (by decide)
                  have hPs := zPo_s (show zPo N11_ (ze N11_ 81 63) by assumption) hN36_ hsN44_ (by omega) (by omega) (by omega)
                  rw [show ze N11_ 81 63 + 1 = ze N44_ 81 63 by omega] at hPs
                  refine zw_iload_n (pc := 101) (n := 2) (x := Int32.ofInt u9_) rfl (zdal_p dlD_M_laysParts_117 (i := 8) rfl) ?_
                  refine zw_iload (pc := 102) (i := 4) (x := Int32.ofInt u29_) rfl (zdal_p dlD_M_laysParts_117 (i := 9) rfl) ?_
                  refine zr_ior (pc := 104) (zdal_p dlD_M_laysParts_117 (i := 10) rfl) ?_
                  have hr52_ := zor_r u9_ u29_
                  have hz7 := z6b (x := u9_) (y := u29_) (by omega) (by omega) (by omega) (by omega)
                  refine zw_istore_n (pc := 105) (i := 2) (L2 := [some (.ref 81), some (.int (Int32.ofInt a0_)), some (.int (Int32.ofInt (zor u9_ u29_))), some (.int (Int32.ofInt u10_)), some (.int (Int32.ofInt u29_)), some (.int (Int32.ofInt u30_))]) rfl (by decide) rfl (zdal_p dlD_M_laysParts_117 (i := 11) rfl) ?_
                  refine zr_iinc (pc := 106) (i := 3) (a := u10_) (n := 1) (L2 := [some (.ref 81), some (.int (Int32.ofInt a0_)), some (.int (Int32.ofInt (zor u9_ u29_))), some (.int (Int32.ofInt (u10_ + 1))), some (.int (Int32.ofInt u29_)), some (.int (Int32.ofInt u30_))]) rfl (by decide) rfl (zdal_p dlD_M_laysParts_117 (i := 12) rfl) ?_
                  refine zw_goto (pc := 109) (tgt := 9) (by decide) (zdal_p dlD_M_laysParts_117 (i := 13) rfl) ?_
                  refine zW_le [some (.ref 81), some (.int (Int32.ofInt a0_)), some (.int (Int32.ofInt (zor u9_ u29_))), some (.int (Int32.ofInt (u10_ + 1))), none, none] (⟨rfl, rfl, rfl, rfl, trivial⟩) ?_
                  exact ih_9 (zor u9_ u29_) (by omega) (by omega) (u10_ + 1) (by omega) (by omega) N44_ hb0_N44_ (show 0 ≤ (u10_ + 1) by first | assumption | omega) (show 0 ≤ ze N44_ 81 63 by first | assumption | omega) (show ze N44_ 81 63 ≤ (u10_ + 1) by first | assumption | omega) (show (u10_ + 1) ≤ 6 by first | assumption | omega) (show 0 ≤ (zor u9_ u29_) by first | assumption | omega) (show (zor u9_ u29_) < 64 by first | assumption | omega) (show zPo N44_ (ze N44_ 81 63) by first | assumption | omega) (by omega)
                · skip
                  refine zw_iload_n (pc := 43) (n := 1) (x := Int32.ofInt a0_) rfl (zdal_p dlD_M_laysParts_116 (i := 0) rfl) ?_
                  refine zw_iload (pc := 44) (i := 5) (x := Int32.ofInt u30_) rfl (zdal_p dlD_M_laysParts_116 (i := 1) rfl) ?_
                  refine zr_callS hf_N11_.x (pc := 46) [.int (Int32.ofInt a0_), .int (Int32.ofInt u30_)] [] l_M_213 (c_M_holds l N11_ (hf_N11_.w hW) a0_ ha0_a ha0_b u30_ hu30_a hu30_b (show 0 ≤ a0_ by first | assumption | omega) (show 0 ≤ u30_ by first | assumption | omega) (show u30_ < 32 by first | assumption | omega)) rfl rfl (by decide) (Nat.le_of_ble_eq_true rfl) (zdal_p dlD_M_laysParts_116 (i := 2) rfl) ?_
                  rintro _ N53_ ⟨v54_, rfl, ⟨hv54_a, hv54_b⟩, hsN53_, hp0_N53_⟩
                  obtain rfl := hsN53_.eq.symm
                  replace hp0_N53_ : ((v54_ = 1 ∧ zbt a0_ u30_) ∨ (v54_ = 0 ∧ ¬ zbt a0_ u30_)) := hp0_N53_
                  rcases hp0_N53_ with ⟨rfl, ha46_0_hp0_N53_⟩ | ⟨rfl, ha46_0_hp0_N53_⟩
                  · skip
                    show zW l m_M_laysParts (zn Mz + 0, zw Mz + 0) N11_ 49 [some (.ref 81), some (.int (Int32.ofInt a0_)), some (.int (Int32.ofInt u9_)), some (.int (Int32.ofInt u10_)), some (.int (Int32.ofInt u29_)), some (.int (Int32.ofInt u30_))] [.int (Int32.ofInt 1)] _
                    refine zr_if_eq (pc := 49) (tgt := 71) ⟨(by decide), (by decide)⟩ (by decide) (zdal_p dlD_M_laysParts_116 (i := 3) rfl) (fun hc_49 => ?_) (fun hc_49 => ?_)
                    · skip
                      exact absurd hc_49 (by decide)
                    · skip
                      refine zw_iload (pc := 52) (i := 4) (x := Int32.ofInt u29_) rfl (zdal_p dlD_M_laysParts_116 (i := 4) rfl) ?_
                      refine zw_iconst (pc := 54) (v := Int32.ofInt 1) (by decide) (zdal_p dlD_M_laysParts_116 (i := 5) rfl) ?_
                      refine zw_aload_n (pc := 55) (n := 0) (x := 81) rfl (zdal_p dlD_M_laysParts_116 (i := 6) rfl) ?_
                      refine zr_getF (r := 85) (hf_N11_.w hW) (pc := 56) f_M_26 rfl (zh_85 (hf_N11_.w hW)).1 (zdal_p dlD_M_laysParts_116 (i := 7) rfl) ?_
                      refine zw_bipush (pc := 59) (v := Int32.ofInt 6) (by decide) (zdal_p dlD_M_laysParts_116 (i := 8) rfl) ?_
                      refine zw_iload (pc := 61) (i := 5) (x := Int32.ofInt u30_) rfl (zdal_p dlD_M_laysParts_116 (i := 9) rfl) ?_
                      refine zr_imul (pc := 63) (zdal_p dlD_M_laysParts_116 (i := 10) rfl) ?_
                      refine zw_iload_n (pc := 64) (n := 3) (x := Int32.ofInt u10_) rfl (zdal_p dlD_M_laysParts_116 (i := 11) rfl) ?_
                      refine zr_iadd (pc := 65) (zdal_p dlD_M_laysParts_116 (i := 12) rfl) ?_
                      refine zr_ialdn (pc := 66) (zh_85 (hf_N11_.w hW)).2 (by decide) (by omega) (by omega) (zdal_p dlD_M_laysParts_116 (i := 13) rfl) (fun v55_ hv55_ hv55_a hv55_b => ?_)
                      have hr56_ := c22_.g (e := (6 * u30_) + u10_) (by omega) (by omega)
                      rw [← hv55_] at hr56_
                      rw [hf_N11_.ie (by decide) (by decide)] at hv55_
                      have hz6 := z6a (x := u29_) (k := v55_) (by omega) (by omega) (by omega) (by omega)
                      refine zr_ishl (pc := 67) (zdal_p dlD_M_laysParts_116 (i := 14) rfl) ?_
                      have hr57_ := zshl_r 1 v55_
                      refine zr_ior (pc := 68) (zdal_p dlD_M_laysParts_116 (i := 15) rfl) ?_
                      have hr58_ := zor_r u29_ (zshl 1 v55_)
                      refine zw_istore (pc := 69) (i := 4) (L2 := [some (.ref 81), some (.int (Int32.ofInt a0_)), some (.int (Int32.ofInt u9_)), some (.int (Int32.ofInt u10_)), some (.int (Int32.ofInt (zor u29_ (zshl 1 v55_)))), some (.int (Int32.ofInt u30_))]) (by decide) rfl (zdal_p dlD_M_laysParts_116 (i := 16) rfl) ?_
                      refine zr_iinc (pc := 71) (i := 5) (a := u30_) (n := 1) (L2 := [some (.ref 81), some (.int (Int32.ofInt a0_)), some (.int (Int32.ofInt u9_)), some (.int (Int32.ofInt u10_)), some (.int (Int32.ofInt (zor u29_ (zshl 1 v55_)))), some (.int (Int32.ofInt (u30_ + 1)))]) rfl (by decide) rfl (zdal_p dlD_M_laysParts_116 (i := 17) rfl) ?_
                      refine zw_goto (pc := 74) (tgt := 34) (by decide) (zdal_p dlD_M_laysParts_116 (i := 18) rfl) ?_
                      exact ih_34 (zor u29_ (zshl 1 v55_)) (by omega) (by omega) (u30_ + 1) (by omega) (by omega) (show 0 ≤ (u30_ + 1) by first | assumption | omega) (show 0 ≤ (zor u29_ (zshl 1 v55_)) by first | assumption | omega) (show (zor u29_ (zshl 1 v55_)) < 64 by first | assumption | omega) (by omega)
                  · skip
                    show zW l m_M_laysParts (zn Mz + 0, zw Mz + 0) N11_ 49 [some (.ref 81), some (.int (Int32.ofInt a0_)), some (.int (Int32.ofInt u9_)), some (.int (Int32.ofInt u10_)), some (.int (Int32.ofInt u29_)), some (.int (Int32.ofInt u30_))] [.int (Int32.ofInt 0)] _
                    refine zr_if_eq (pc := 49) (tgt := 71) ⟨(by decide), (by decide)⟩ (by decide) (zdal_p dlD_M_laysParts_116 (i := 3) rfl) (fun hc_49 => ?_) (fun hc_49 => ?_)
                    · skip
                      refine zr_iinc (pc := 71) (i := 5) (a := u30_) (n := 1) (L2 := [some (.ref 81), some (.int (Int32.ofInt a0_)), some (.int (Int32.ofInt u9_)), some (.int (Int32.ofInt u10_)), some (.int (Int32.ofInt u29_)), some (.int (Int32.ofInt (u30_ + 1)))]) rfl (by decide) rfl (zdal_p dlD_M_laysParts_116 (i := 17) rfl) ?_
                      refine zw_goto (pc := 74) (tgt := 34) (by decide) (zdal_p dlD_M_laysParts_116 (i := 18) rfl) ?_
                      exact ih_34 u29_ hu29_a hu29_b (u30_ + 1) (by omega) (by omega) (show 0 ≤ (u30_ + 1) by first | assumption | omega) (show 0 ≤ u29_ by first | assumption | omega) (show u29_ < 64 by first | assumption | omega) (by omega)
                    · skip
                      exact absurd hc_49 (by decide)
            exact lp_34 _ 0 (by decide) (by decide) 0 (by decide) (by decide) (show 0 ≤ (0 : Int) by first | assumption | omega) (show 0 ≤ (0 : Int) by first | assumption | omega) (show (0 : Int) < 64 by first | assumption | omega) (Nat.lt_succ_self _)
          · skip
            exact absurd hc_22 (by decide)
  exact lp_9 _ 0 (by decide) (by decide) 0 (by decide) (by decide) N1_ zFr.rf (show 0 ≤ (0 : Int) by first | assumption | omega) (show 0 ≤ ze N1_ 81 63 by first | assumption | omega) (show ze N1_ 81 63 ≤ (0 : Int) by first | assumption | omega) (show (0 : Int) ≤ 6 by first | assumption | omega) (show 0 ≤ (0 : Int) by first | assumption | omega) (show (0 : Int) < 64 by first | assumption | omega) (show zPo N1_ (ze N1_ 81 63) by rw [show ze N1_ 81 63 = 0 by omega]; exact zPo_0) (Nat.lt_succ_self _)
set_option maxHeartbeats 4000000 in
theorem c_M_setsOf (l : Launch) (Mz : zMem) (hW : zMt Mz) (a0_ : Int) (ha0_a : -2147483648 ≤ a0_) (ha0_b : a0_ < 2147483648) (p0_ : 0 ≤ ze Mz 81 63) (p1_ : ze Mz 81 63 ≤ 6) (p2_ : zPo Mz (ze Mz 81 63)) (p3_ : 0 ≤ a0_) (p4_ : a0_ ≤ 6) : zC l m_M_setsOf 0 0 [.ref 81, .int (Int32.ofInt a0_)] Mz (zpI [] [113] Mz (fun v N => True)) := by
  refine zC_of (L0 := [some (.ref 81), some (.int (Int32.ofInt a0_)), none, none]) md_M_setsOf (Nat.le_of_ble_eq_true rfl) rfl ?_ zQ0
  have hf : zFr [] [113] Mz Mz := zFr.rf
  have r_63 := ze_r Mz 81 63
  refine zw_iconst (pc := 0) (v := Int32.ofInt 0) (by decide) (zdal_p dlD_M_setsOf_121 (i := 0) rfl) ?_
  refine zw_istore_n (pc := 1) (i := 2) (L2 := [some (.ref 81), some (.int (Int32.ofInt a0_)), some (.int (Int32.ofInt 0)), none]) rfl (by decide) rfl (zdal_p dlD_M_setsOf_121 (i := 1) rfl) ?_
  have lp_2 : ∀ (n : Nat) (u1_ : Int) (hu1_a : -2147483648 ≤ u1_) (hu1_b : u1_ < 2147483648) (N2_ : zMem) (hs3_ : zFr [] [113] Mz N2_) (i4_ : 0 ≤ u1_), (7 - u1_).toNat < n → zW l m_M_setsOf (zn Mz + 0, zw Mz + 0) N2_ 2 [some (.ref 81), some (.int (Int32.ofInt a0_)), some (.int (Int32.ofInt u1_)), none] [] (zpI [] [113] Mz (fun v N => True)) := by
    intro n
    induction n with
    | zero =>
      intro u1_ hu1_a hu1_b N2_ hs3_ i4_ h0
      exact absurd h0 (Nat.not_lt_zero _)
    | succ n ih_2 =>
      intro u1_ hu1_a hu1_b N2_ hs3_ i4_ hlt_2
      have hf_N2_ : zFr [] [113] Mz N2_ := hf.tr hs3_ (by decide) (by decide)
      have e63_N2_ : ze N2_ 81 63 = ze Mz 81 63 := hs3_.e (by decide)
      refine zw_iload_n (pc := 2) (n := 2) (x := Int32.ofInt u1_) rfl (zdal_p dlD_M_setsOf_121 (i := 2) rfl) ?_
      refine zw_bipush (pc := 3) (v := Int32.ofInt 7) (by decide) (zdal_p dlD_M_setsOf_121 (i := 3) rfl) ?_
      refine zr_icmp_ge (pc := 5) (tgt := 32) ⟨hu1_a, hu1_b⟩ ⟨(by decide), (by decide)⟩ (by decide) (zdal_p dlD_M_setsOf_121 (i := 4) rfl) (fun hc_5 => ?_) (fun hc_5 => ?_)
      · skip
        refine zw_iconst (pc := 32) (v := Int32.ofInt 0) (by decide) (zdal_p dlD_M_setsOf_121 (i := 17) rfl) ?_
        refine zw_istore_n (pc := 33) (i := 2) (L2 := [some (.ref 81), some (.int (Int32.ofInt a0_)), some (.int (Int32.ofInt 0)), none]) rfl (by decide) rfl (zdal_p dlD_M_setsOf_121 (i := 18) rfl) ?_
        have lp_34 : ∀ (n : Nat) (u5_ : Int) (hu5_a : -2147483648 ≤ u5_) (hu5_b : u5_ < 2147483648) (N6_ : zMem) (hs7_ : zFr [] [113] N2_ N6_) (i8_ : 0 ≤ u5_), (ze Mz 81 63 - u5_).toNat < n → zW l m_M_setsOf (zn Mz + 0, zw Mz + 0) N6_ 34 [some (.ref 81), some (.int (Int32.ofInt a0_)), some (.int (Int32.ofInt u5_)), none] [] (zpI [] [113] Mz (fun v N => True)) := by
          intro n
          induction n with
          | zero =>
            intro u5_ hu5_a hu5_b N6_ hs7_ i8_ h0
            exact absurd h0 (Nat.not_lt_zero _)
          | succ n ih_34 =>
            intro u5_ hu5_a hu5_b N6_ hs7_ i8_ hlt_34
            have hf_N6_ : zFr [] [113] Mz N6_ := hf_N2_.tr hs7_ (by decide) (by decide)
            have e63_N6_ : ze N6_ 81 63 = ze N2_ 81 63 := hs7_.e (by decide)
            refine zw_iload_n (pc := 34) (n := 2) (x := Int32.ofInt u5_) rfl (zdal_p dlD_M_setsOf_121 (i := 19) rfl) ?_
            refine zw_aload_n (pc := 35) (n := 0) (x := 81) rfl (zdal_p dlD_M_setsOf_121 (i := 20) rfl) ?_
            refine zr_getI0 hf_N6_ hW (pc := 36) (by decide) f_M_487 rfl (zdal_p dlD_M_setsOf_121 (i := 21) rfl) ?_
            refine zr_icmp_ge (pc := 39) (tgt := 89) ⟨hu5_a, hu5_b⟩ ⟨(ze_r Mz 81 63).1, (ze_r Mz 81 63).2⟩ (by decide) (zdal_p dlD_M_setsOf_121 (i := 22) rfl) (fun hc_39 => ?_) (fun hc_39 => ?_)
            · skip
              refine zw_aload_n (pc := 89) (n := 0) (x := 81) rfl (zdal_p dlD_M_setsOf_123 (i := 3) rfl) ?_
              refine zr_getF (r := 113) (hf_N6_.w hW) (pc := 90) f_M_112 rfl (zh_113 (hf_N6_.w hW)).1 (zdal_p dlD_M_setsOf_123 (i := 4) rfl) ?_
              refine zw_iload_n (pc := 93) (n := 1) (x := Int32.ofInt a0_) rfl (zdal_p dlD_M_setsOf_123 (i := 5) rfl) ?_
              refine zr_ialdn (pc := 94) (zh_113 (hf_N6_.w hW)).2 (by decide) (by omega) (by omega) (zdal_p dlD_M_setsOf_123 (i := 6) rfl) (fun v9_ hv9_ hv9_a hv9_b => ?_)
              exact zr_iret (pc := 95) (ty := .int) rfl rfl ⟨by omega, by omega⟩ hf_N6_ trivial (zdal_p dlD_M_setsOf_123 (i := 7) rfl)
            · skip
              refine zw_bipush (pc := 42) (v := Int32.ofInt 6) (by decide) (zdal_p dlD_M_setsOf_121 (i := 23) rfl) ?_
              refine zw_istore_n (pc := 44) (i := 3) (L2 := [some (.ref 81), some (.int (Int32.ofInt a0_)), some (.int (Int32.ofInt u5_)), some (.int (Int32.ofInt 6))]) rfl (by decide) rfl (zdal_p dlD_M_setsOf_122 (i := 0) rfl) ?_
              have lp_45 : ∀ (n : Nat) (u10_ : Int) (hu10_a : -2147483648 ≤ u10_) (hu10_b : u10_ < 2147483648) (N11_ : zMem) (hs12_ : zFr [] [113] N6_ N11_) (i13_ : u10_ ≤ 6) (i14_ : -1 ≤ u10_), (u10_ + 1).toNat < n → zW l m_M_setsOf (zn Mz + 0, zw Mz + 0) N11_ 45 [some (.ref 81), some (.int (Int32.ofInt a0_)), some (.int (Int32.ofInt u5_)), some (.int (Int32.ofInt u10_))] [] (zpI [] [113] Mz (fun v N => True)) := by
                intro n
                induction n with
                | zero =>
                  intro u10_ hu10_a hu10_b N11_ hs12_ i13_ i14_ h0
                  exact absurd h0 (Nat.not_lt_zero _)
                | succ n ih_45 =>
                  intro u10_ hu10_a hu10_b N11_ hs12_ i13_ i14_ hlt_45
                  have hf_N11_ : zFr [] [113] Mz N11_ := hf_N6_.tr hs12_ (by decide) (by decide)
                  have hb0_N11_ : zFr [] [113] N2_ N11_ := hs7_.tr hs12_ (by decide) (by decide)
                  have e63_N11_ : ze N11_ 81 63 = ze N6_ 81 63 := hs12_.e (by decide)
                  refine zw_iload_n (pc := 45) (n := 3) (x := Int32.ofInt u10_) rfl (zdal_p dlD_M_setsOf_122 (i := 1) rfl) ?_
                  refine zw_aload_n (pc := 46) (n := 0) (x := 81) rfl (zdal_p dlD_M_setsOf_122 (i := 2) rfl) ?_
                  refine zr_getF (r := 112) (hf_N11_.w hW) (pc := 47) f_M_109 rfl (zh_112 (hf_N11_.w hW)).1 (zdal_p dlD_M_setsOf_122 (i := 3) rfl) ?_
                  refine zw_iload_n (pc := 50) (n := 2) (x := Int32.ofInt u5_) rfl (zdal_p dlD_M_setsOf_122 (i := 4) rfl) ?_
                  refine zr_ialdn (pc := 51) (zh_112 (hf_N11_.w hW)).2 (by decide) (by omega) (by omega) (zdal_p dlD_M_setsOf_122 (i := 5) rfl) (fun v15_ hv15_ hv15_a hv15_b => ?_)
                  rw [hf_N11_.ie (by decide) (by decide)] at hv15_
                  have hp := p2_ (u5_).toNat (by omega)
                  refine zr_icmp_lt (pc := 52) (tgt := 83) ⟨hu10_a, hu10_b⟩ ⟨hv15_a, hv15_b⟩ (by decide) (zdal_p dlD_M_setsOf_122 (i := 6) rfl) (fun hc_52 => ?_) (fun hc_52 => ?_)
                  · skip
                    refine zr_iinc (pc := 83) (i := 2) (a := u5_) (n := 1) (L2 := [some (.ref 81), some (.int (Int32.ofInt a0_)), some (.int (Int32.ofInt (u5_ + 1))), some (.int (Int32.ofInt u10_))]) rfl (by decide) rfl (zdal_p dlD_M_setsOf_123 (i := 1) rfl) ?_
                    refine zw_goto (pc := 86) (tgt := 34) (by decide) (zdal_p dlD_M_setsOf_123 (i := 2) rfl) ?_
                    refine zW_le [some (.ref 81), some (.int (Int32.ofInt a0_)), some (.int (Int32.ofInt (u5_ + 1))), none] (⟨rfl, rfl, rfl, trivial⟩) ?_
                    exact ih_34 (u5_ + 1) (by omega) (by omega) N11_ hb0_N11_ (show 0 ≤ (u5_ + 1) by first | assumption | omega) (by omega)
                  · skip
                    refine zw_aload_n (pc := 55) (n := 0) (x := 81) rfl (zdal_p dlD_M_setsOf_122 (i := 7) rfl) ?_
                    refine zr_getF (r := 113) (hf_N11_.w hW) (pc := 56) f_M_112 rfl (zh_113 (hf_N11_.w hW)).1 (zdal_p dlD_M_setsOf_122 (i := 8) rfl) ?_
                    refine zw_iload_n (pc := 59) (n := 3) (x := Int32.ofInt u10_) rfl (zdal_p dlD_M_setsOf_122 (i := 9) rfl) ?_
                    refine zw_dup2 (pc := 60) rfl rfl (zdal_p dlD_M_setsOf_122 (i := 10) rfl) ?_
                    refine zr_ialdn (pc := 61) (zh_113 (hf_N11_.w hW)).2 (by decide) (by omega) (by omega) (zdal_p dlD_M_setsOf_122 (i := 11) rfl) (fun v16_ hv16_ hv16_a hv16_b => ?_)
                    refine zw_aload_n (pc := 62) (n := 0) (x := 81) rfl (zdal_p dlD_M_setsOf_122 (i := 12) rfl) ?_
                    refine zr_getF (r := 113) (hf_N11_.w hW) (pc := 63) f_M_112 rfl (zh_113 (hf_N11_.w hW)).1 (zdal_p dlD_M_setsOf_122 (i := 13) rfl) ?_
                    refine zw_iload_n (pc := 66) (n := 3) (x := Int32.ofInt u10_) rfl (zdal_p dlD_M_setsOf_122 (i := 14) rfl) ?_
                    refine zw_aload_n (pc := 67) (n := 0) (x := 81) rfl (zdal_p dlD_M_setsOf_122 (i := 15) rfl) ?_
                    refine zr_getF (r := 112) (hf_N11_.w hW) (pc := 68) f_M_109 rfl (zh_112 (hf_N11_.w hW)).1 (zdal_p dlD_M_setsOf_122 (i := 16) rfl) ?_
                    refine zw_iload_n (pc := 71) (n := 2) (x := Int32.ofInt u5_) rfl (zdal_p dlD_M_setsOf_122 (i := 17) rfl) ?_
                    refine zr_ialdn (pc := 72) (zh_112 (hf_N11_.w hW)).2 (by decide) (by omega) (by omega) (zdal_p dlD_M_setsOf_122 (i := 18) rfl) (fun v17_ hv17_ hv17_a hv17_b => ?_)
                    rw [hf_N11_.ie (by decide) (by decide)] at hv17_
                    have hp := p2_ (u5_).toNat (by omega)
                    refine zr_isub (pc := 73) (zdal_p dlD_M_setsOf_122 (i := 19) rfl) ?_
                    refine zr_ialdn (pc := 74) (zh_113 (hf_N11_.w hW)).2 (by decide) (by omega) (by omega) (zdal_p dlD_M_setsOf_122 (i := 20) rfl) (fun v18_ hv18_ hv18_a hv18_b => ?_)
                    refine zr_iadd (pc := 75) (zdal_p dlD_M_setsOf_122 (i := 21) rfl) ?_
                    refine zr_nmI (fun v19_ hv19_ => ?_)
                    obtain ⟨hv19_a, hv19_b⟩ := hv19_
                    refine zr_iast (pc := 76) (zh_113 (hf_N11_.w hW)).2 (by decide) (by decide) (by omega) (by omega) (zdal_p dlD_M_setsOf_122 (i := 22) rfl) (fun N20_ hN20_ hsN20_ => ?_)
                    have hf_N20_ : zFr [] [113] Mz N20_ := hf_N11_.tr hsN20_ (by decide) (by decide)
                    have hb0_N20_ : zFr [] [113] N2_ N20_ := hb0_N11_.tr hsN20_ (by decide) (by decide)
                    have hb1_N20_ : zFr [] [113] N6_ N20_ := hs12_.tr hsN20_ (by decide) (by decide)
                    have e63_N20_ : ze N20_ 81 63 = ze N11_ 81 63 := hsN20_.e (by decide)
                    refine zr_iinc (pc := 77) (i := 3) (a := u10_) (n := -1) (L2 := [some (.ref 81), some (.int (Int32.ofInt a0_)), some (.int (Int32.ofInt u5_)), some (.int (Int32.ofInt (u10_ + (-1))))]) rfl (by decide) rfl (zdal_p dlD_M_setsOf_122 (i := 23) rfl) ?_
                    refine zw_goto (pc := 80) (tgt := 45) (by decide) (zdal_p dlD_M_setsOf_123 (i := 0) rfl) ?_
                    exact ih_45 (u10_ + (-1)) (by omega) (by omega) N20_ hb1_N20_ (show (u10_ + (-1)) ≤ 6 by first | assumption | omega) (show -1 ≤ (u10_ + (-1)) by first | assumption | omega) (by omega)
              exact lp_45 _ 6 (by decide) (by decide) N6_ zFr.rf (show (6 : Int) ≤ 6 by first | assumption | omega) (show -1 ≤ (6 : Int) by first | assumption | omega) (Nat.lt_succ_self _)
        exact lp_34 _ 0 (by decide) (by decide) N2_ zFr.rf (show 0 ≤ (0 : Int) by first | assumption | omega) (Nat.lt_succ_self _)
      · skip
        refine zw_aload_n (pc := 8) (n := 0) (x := 81) rfl (zdal_p dlD_M_setsOf_121 (i := 5) rfl) ?_
        refine zr_getF (r := 113) (hf_N2_.w hW) (pc := 9) f_M_112 rfl (zh_113 (hf_N2_.w hW)).1 (zdal_p dlD_M_setsOf_121 (i := 6) rfl) ?_
        refine zw_iload_n (pc := 12) (n := 2) (x := Int32.ofInt u1_) rfl (zdal_p dlD_M_setsOf_121 (i := 7) rfl) ?_
        refine zw_iload_n (pc := 13) (n := 2) (x := Int32.ofInt u1_) rfl (zdal_p dlD_M_setsOf_121 (i := 8) rfl) ?_
        refine zr_if_ne (pc := 14) (tgt := 21) ⟨hu1_a, hu1_b⟩ (by decide) (zdal_p dlD_M_setsOf_121 (i := 9) rfl) (fun hc_14 => ?_) (fun hc_14 => ?_)
        · skip
          refine zw_iconst (pc := 21) (v := Int32.ofInt 0) (by decide) (zdal_p dlD_M_setsOf_121 (i := 12) rfl) ?_
          refine zr_callS hf_N2_.x (pc := 22) [.int (Int32.ofInt 0)] [.int (Int32.ofInt u1_), .ref 113] l_M_256 (c_M_truth l N2_ (hf_N2_.w hW) 0 (by decide) (by decide) (by omega)) rfl rfl (by decide) (Nat.le_of_ble_eq_true rfl) (zdal_p dlD_M_setsOf_121 (i := 13) rfl) ?_
          rintro _ N21_ ⟨v22_, rfl, ⟨hv22_a, hv22_b⟩, hsN21_, hp0_N21_⟩
          obtain rfl := hsN21_.eq.symm
          replace hp0_N21_ : v22_ = 0 := hp0_N21_
          show zW l m_M_setsOf (zn Mz + 0, zw Mz + 0) N2_ 25 [some (.ref 81), some (.int (Int32.ofInt a0_)), some (.int (Int32.ofInt u1_)), none] [.int (Int32.ofInt v22_), .int (Int32.ofInt u1_), .ref 113] (zpI [] [113] Mz (fun v N => True))
          refine zr_iast (pc := 25) (zh_113 (hf_N2_.w hW)).2 (by decide) (by decide) (by omega) (by omega) (zdal_p dlD_M_setsOf_121 (i := 14) rfl) (fun N23_ hN23_ hsN23_ => ?_)
          have hf_N23_ : zFr [] [113] Mz N23_ := hf_N2_.tr hsN23_ (by decide) (by decide)
          have hb0_N23_ : zFr [] [113] Mz N23_ := hs3_.tr hsN23_ (by decide) (by decide)
          have e63_N23_ : ze N23_ 81 63 = ze N2_ 81 63 := hsN23_.e (by decide)
          refine zr_iinc (pc := 26) (i := 2) (a := u1_) (n := 1) (L2 := [some (.ref 81), some (.int (Int32.ofInt a0_)), some (.int (Int32.ofInt (u1_ + 1))), none]) rfl (by decide) rfl (zdal_p dlD_M_setsOf_121 (i := 15) rfl) ?_
          refine zw_goto (pc := 29) (tgt := 2) (by decide) (zdal_p dlD_M_setsOf_121 (i := 16) rfl) ?_
          exact ih_2 (u1_ + 1) (by omega) (by omega) N23_ hb0_N23_ (show 0 ≤ (u1_ + 1) by first | assumption | omega) (by omega)
        · skip
          refine zw_iconst (pc := 17) (v := Int32.ofInt 1) (by decide) (zdal_p dlD_M_setsOf_121 (i := 10) rfl) ?_
          refine zw_goto (pc := 18) (tgt := 22) (by decide) (zdal_p dlD_M_setsOf_121 (i := 11) rfl) ?_
          refine zr_callS hf_N2_.x (pc := 22) [.int (Int32.ofInt 1)] [.int (Int32.ofInt u1_), .ref 113] l_M_256 (c_M_truth l N2_ (hf_N2_.w hW) 1 (by decide) (by decide) (by omega)) rfl rfl (by decide) (Nat.le_of_ble_eq_true rfl) (zdal_p dlD_M_setsOf_121 (i := 13) rfl) ?_
          rintro _ N24_ ⟨v25_, rfl, ⟨hv25_a, hv25_b⟩, hsN24_, hp0_N24_⟩
          obtain rfl := hsN24_.eq.symm
          replace hp0_N24_ : v25_ = 1 := hp0_N24_
          show zW l m_M_setsOf (zn Mz + 0, zw Mz + 0) N2_ 25 [some (.ref 81), some (.int (Int32.ofInt a0_)), some (.int (Int32.ofInt u1_)), none] [.int (Int32.ofInt v25_), .int (Int32.ofInt u1_), .ref 113] (zpI [] [113] Mz (fun v N => True))
          refine zr_iast (pc := 25) (zh_113 (hf_N2_.w hW)).2 (by decide) (by decide) (by omega) (by omega) (zdal_p dlD_M_setsOf_121 (i := 14) rfl) (fun N26_ hN26_ hsN26_ => ?_)
          have hf_N26_ : zFr [] [113] Mz N26_ := hf_N2_.tr hsN26_ (by decide) (by decide)
          have hb0_N26_ : zFr [] [113] Mz N26_ := hs3_.tr hsN26_ (by decide) (by decide)
          have e63_N26_ : ze N26_ 81 63 = ze N2_ 81 63 := hsN26_.e (by decide)
          refine zr_iinc (pc := 26) (i := 2) (a := u1_) (n := 1) (L2 := [some (.ref 81), some (.int (Int32.ofInt a0_)), some (.int (Int32.ofInt (u1_ + 1))), none]) rfl (by decide) rfl (zdal_p dlD_M_setsOf_121 (i := 15) rfl) ?_
          refine zw_goto (pc := 29) (tgt := 2) (by decide) (zdal_p dlD_M_setsOf_121 (i := 16) rfl) ?_
          exact ih_2 (u1_ + 1) (by omega) (by omega) N26_ hb0_N26_ (show 0 ≤ (u1_ + 1) by first | assumption | omega) (by omega)
  exact lp_2 _ 0 (by decide) (by decide) Mz zFr.rf (show 0 ≤ (0 : Int) by first | assumption | omega) (Nat.lt_succ_self _)
set_option maxHeartbeats 4000000 in
theorem c_M_fixedBy (l : Launch) (Mz : zMem) (hW : zMt Mz) (a0_ : Int) (ha0_a : -2147483648 ≤ a0_) (ha0_b : a0_ < 2147483648) (a1_ : Int) (ha1_a : -2147483648 ≤ a1_) (ha1_b : a1_ < 2147483648) (p0_ : 0 ≤ ze Mz 81 63) (p1_ : ze Mz 81 63 ≤ 6) (p2_ : zPo Mz (ze Mz 81 63)) (p3_ : (a0_ ≠ 1 ∨ (0 ≤ a1_ ∧ a1_ ≤ 6))) : zC l m_M_fixedBy 0 0 [.ref 81, .int (Int32.ofInt a0_), .int (Int32.ofInt a1_)] Mz (zpJ [] [113] Mz (fun v N => True)) := by
  refine zC_of (L0 := [some (.ref 81), some (.int (Int32.ofInt a0_)), some (.int (Int32.ofInt a1_)), none, none, none]) md_M_fixedBy (Nat.le_of_ble_eq_true rfl) rfl ?_ zQ0
  have hf : zFr [] [113] Mz Mz := zFr.rf
  have r_63 := ze_r Mz 81 63
  refine zw_iload_n (pc := 0) (n := 1) (x := Int32.ofInt a0_) rfl (zdal_p dlD_M_fixedBy_118 (i := 0) rfl) ?_
  refine zw_iconst (pc := 1) (v := Int32.ofInt 2) (by decide) (zdal_p dlD_M_fixedBy_118 (i := 1) rfl) ?_
  refine zr_icmp_ne (pc := 2) (tgt := 9) ⟨ha0_a, ha0_b⟩ ⟨(by decide), (by decide)⟩ (by decide) (zdal_p dlD_M_fixedBy_118 (i := 2) rfl) (fun hc_2 => ?_) (fun hc_2 => ?_)
  · skip
    refine zw_lconst (pc := 9) (v := Int64.ofInt 0) (by decide) (zdal_p dlD_M_fixedBy_118 (i := 5) rfl) ?_
    refine zw_lstore_n (pc := 10) (i := 3) (L2 := [some (.ref 81), some (.int (Int32.ofInt a0_)), some (.int (Int32.ofInt a1_)), some (.long (Int64.ofInt 0)), none, none]) rfl (by decide) rfl (zdal_p dlD_M_fixedBy_118 (i := 6) rfl) ?_
    refine zw_iconst (pc := 11) (v := Int32.ofInt 0) (by decide) (zdal_p dlD_M_fixedBy_118 (i := 7) rfl) ?_
    refine zw_istore (pc := 12) (i := 5) (L2 := [some (.ref 81), some (.int (Int32.ofInt a0_)), some (.int (Int32.ofInt a1_)), some (.long (Int64.ofInt 0)), none, some (.int (Int32.ofInt 0))]) (by decide) rfl (zdal_p dlD_M_fixedBy_118 (i := 8) rfl) ?_
    have lp_14 : ∀ (n : Nat) (u1_ : Int) (hu1_a : -9223372036854775808 ≤ u1_) (hu1_b : u1_ < 9223372036854775808) (u2_ : Int) (hu2_a : -2147483648 ≤ u2_) (hu2_b : u2_ < 2147483648) (i3_ : 0 ≤ u2_), (ze Mz 81 63 - u2_).toNat < n → zW l m_M_fixedBy (zn Mz + 0, zw Mz + 0) Mz 14 [some (.ref 81), some (.int (Int32.ofInt a0_)), some (.int (Int32.ofInt a1_)), some (.long (Int64.ofInt u1_)), none, some (.int (Int32.ofInt u2_))] [] (zpJ [] [113] Mz (fun v N => True)) := by
      intro n
      induction n with
      | zero =>
        intro u1_ hu1_a hu1_b u2_ hu2_a hu2_b i3_ h0
        exact absurd h0 (Nat.not_lt_zero _)
      | succ n ih_14 =>
        intro u1_ hu1_a hu1_b u2_ hu2_a hu2_b i3_ hlt_14
        refine zw_iload (pc := 14) (i := 5) (x := Int32.ofInt u2_) rfl (zdal_p dlD_M_fixedBy_118 (i := 9) rfl) ?_
        refine zw_aload_n (pc := 16) (n := 0) (x := 81) rfl (zdal_p dlD_M_fixedBy_118 (i := 10) rfl) ?_
        refine zr_getI0 hf hW (pc := 17) (by decide) f_M_487 rfl (zdal_p dlD_M_fixedBy_118 (i := 11) rfl) ?_
        refine zr_icmp_ge (pc := 20) (tgt := 66) ⟨hu2_a, hu2_b⟩ ⟨(ze_r Mz 81 63).1, (ze_r Mz 81 63).2⟩ (by decide) (zdal_p dlD_M_fixedBy_118 (i := 12) rfl) (fun hc_20 => ?_) (fun hc_20 => ?_)
        · skip
          refine zw_iload_n (pc := 66) (n := 1) (x := Int32.ofInt a0_) rfl (zdal_p dlD_M_fixedBy_119 (i := 15) rfl) ?_
          refine zw_iconst (pc := 67) (v := Int32.ofInt 1) (by decide) (zdal_p dlD_M_fixedBy_119 (i := 16) rfl) ?_
          refine zr_icmp_ne (pc := 68) (tgt := 80) ⟨ha0_a, ha0_b⟩ ⟨(by decide), (by decide)⟩ (by decide) (zdal_p dlD_M_fixedBy_119 (i := 17) rfl) (fun hc_68 => ?_) (fun hc_68 => ?_)
          · skip
            refine zw_lload_n (pc := 80) (n := 3) (x := Int64.ofInt u1_) rfl (zdal_p dlD_M_fixedBy_119 (i := 23) rfl) ?_
            exact zr_lret (pc := 81) rfl ⟨by omega, by omega⟩ hf trivial (zdal_p dlD_M_fixedBy_120 (i := 0) rfl)
          · skip
            refine zw_aload_n (pc := 71) (n := 0) (x := 81) rfl (zdal_p dlD_M_fixedBy_119 (i := 18) rfl) ?_
            refine zw_iload_n (pc := 72) (n := 2) (x := Int32.ofInt a1_) rfl (zdal_p dlD_M_fixedBy_119 (i := 19) rfl) ?_
            refine zr_callV (hf.w hW) hf.x (pc := 73) [.int (Int32.ofInt a1_)] [] l_M_490 (c_M_setsOf l Mz (hf.w hW) a1_ ha1_a ha1_b (show 0 ≤ ze Mz 81 63 by first | assumption | omega) (show ze Mz 81 63 ≤ 6 by first | assumption | omega) (show zPo Mz (ze Mz 81 63) by first | assumption | omega) (show 0 ≤ a1_ by first | assumption | omega) (show a1_ ≤ 6 by first | assumption | omega)) rfl rfl rfl (by decide) (Nat.le_of_ble_eq_true rfl) (zdal_p dlD_M_fixedBy_119 (i := 20) rfl) ?_
            rintro _ N4_ ⟨v5_, rfl, ⟨hv5_a, hv5_b⟩, hsN4_, -⟩
            have hf_N4_ : zFr [] [113] Mz N4_ := hf.tr hsN4_ (by decide) (by decide)
            have e63_N4_ : ze N4_ 81 63 = ze Mz 81 63 := hsN4_.e (by decide)
            show zW l m_M_fixedBy (zn Mz + 0, zw Mz + 0) N4_ 76 [some (.ref 81), some (.int (Int32.ofInt a0_)), some (.int (Int32.ofInt a1_)), some (.long (Int64.ofInt u1_)), none, some (.int (Int32.ofInt u2_))] [.int (Int32.ofInt v5_)] (zpJ [] [113] Mz (fun v N => True))
            refine zr_i2l (pc := 76) ⟨hv5_a, hv5_b⟩ (zdal_p dlD_M_fixedBy_119 (i := 21) rfl) ?_
            refine zw_goto (pc := 77) (tgt := 81) (by decide) (zdal_p dlD_M_fixedBy_119 (i := 22) rfl) ?_
            exact zr_lret (pc := 81) rfl ⟨by omega, by omega⟩ hf_N4_ trivial (zdal_p dlD_M_fixedBy_120 (i := 0) rfl)
        · skip
          refine zw_iload_n (pc := 23) (n := 1) (x := Int32.ofInt a0_) rfl (zdal_p dlD_M_fixedBy_118 (i := 13) rfl) ?_
          refine zr_if_ne (pc := 24) (tgt := 50) ⟨ha0_a, ha0_b⟩ (by decide) (zdal_p dlD_M_fixedBy_118 (i := 14) rfl) (fun hc_24 => ?_) (fun hc_24 => ?_)
          · skip
            refine zw_iload_n (pc := 50) (n := 1) (x := Int32.ofInt a0_) rfl d_M_fixedBy_50 ?_
            refine zw_iconst (pc := 51) (v := Int32.ofInt 2) (by decide) d_M_fixedBy_51 ?_
            refine zr_icmp_ne (pc := 52) (tgt := 60) ⟨ha0_a, ha0_b⟩ ⟨(by decide), (by decide)⟩ (by decide) d_M_fixedBy_52 (fun hc_52 => ?_) (fun hc_52 => ?_)
            · skip
              refine zr_iinc (pc := 60) (i := 5) (a := u2_) (n := 1) (L2 := [some (.ref 81), some (.int (Int32.ofInt a0_)), some (.int (Int32.ofInt a1_)), some (.long (Int64.ofInt u1_)), none, some (.int (Int32.ofInt (u2_ + 1)))]) rfl (by decide) rfl d_M_fixedBy_60 ?_
              refine zw_goto (pc := 63) (tgt := 14) (by decide) d_M_fixedBy_63 ?_
              exact ih_14 u1_ hu1_a hu1_b (u2_ + 1) (by omega) (by omega) (show 0 ≤ (u2_ + 1) by first | assumption | omega) (by omega)
            · skip
              refine zw_lload_n (pc := 55) (n := 3) (x := Int64.ofInt u1_) rfl d_M_fixedBy_55 ?_
              refine zw_iload_n (pc := 56) (n := 2) (x := Int32.ofInt a1_) rfl d_M_fixedBy_56 ?_
              refine zr_i2l (pc := 57) ⟨ha1_a, ha1_b⟩ d_M_fixedBy_57 ?_
              refine zr_lmul (pc := 58) d_M_fixedBy_58 ?_
              refine zr_nmJ (fun v6_ hv6_ => ?_)
              obtain ⟨hv6_a, hv6_b⟩ := hv6_
              refine zw_lstore_n (pc := 59) (i := 3) (L2 := [some (.ref 81), some (.int (Int32.ofInt a0_)), some (.int (Int32.ofInt a1_)), some (.long (Int64.ofInt v6_)), none, some (.int (Int32.ofInt u2_))]) rfl (by decide) rfl d_M_fixedBy_59 ?_
              refine zr_iinc (pc := 60) (i := 5) (a := u2_) (n := 1) (L2 := [some (.ref 81), some (.int (Int32.ofInt a0_)), some (.int (Int32.ofInt a1_)), some (.long (Int64.ofInt v6_)), none, some (.int (Int32.ofInt (u2_ + 1)))]) rfl (by decide) rfl d_M_fixedBy_60 ?_
              refine zw_goto (pc := 63) (tgt := 14) (by decide) d_M_fixedBy_63 ?_
              exact ih_14 v6_ hv6_a hv6_b (u2_ + 1) (by omega) (by omega) (show 0 ≤ (u2_ + 1) by first | assumption | omega) (by omega)
          · skip
            refine zw_lload_n (pc := 27) (n := 3) (x := Int64.ofInt u1_) rfl (zdal_p dlD_M_fixedBy_118 (i := 15) rfl) ?_
            refine zw_aload_n (pc := 28) (n := 0) (x := 81) rfl (zdal_p dlD_M_fixedBy_118 (i := 16) rfl) ?_
            refine zr_getF (r := 112) (hf.w hW) (pc := 29) f_M_109 rfl (zh_112 (hf.w hW)).1 (zdal_p dlD_M_fixedBy_118 (i := 17) rfl) ?_
            refine zw_iload (pc := 32) (i := 5) (x := Int32.ofInt u2_) rfl (zdal_p dlD_M_fixedBy_118 (i := 18) rfl) ?_
            refine zr_ialdn (pc := 34) (zh_112 (hf.w hW)).2 (by decide) (by omega) (by omega) (zdal_p dlD_M_fixedBy_118 (i := 19) rfl) (fun v7_ hv7_ hv7_a hv7_b => ?_)
            refine zw_iconst (pc := 35) (v := Int32.ofInt 1) (by decide) (zdal_p dlD_M_fixedBy_118 (i := 20) rfl) ?_
            refine zr_icmp_ne (pc := 36) (tgt := 43) ⟨hv7_a, hv7_b⟩ ⟨(by decide), (by decide)⟩ (by decide) (zdal_p dlD_M_fixedBy_118 (i := 21) rfl) (fun hc_36 => ?_) (fun hc_36 => ?_)
            · skip
              refine zw_iconst (pc := 43) (v := Int32.ofInt 0) (by decide) (zdal_p dlD_M_fixedBy_119 (i := 0) rfl) ?_
              refine zr_callS hf.x (pc := 44) [.int (Int32.ofInt 0)] [.long (Int64.ofInt u1_)] l_M_256 (c_M_truth l Mz (hf.w hW) 0 (by decide) (by decide) (by omega)) rfl rfl (by decide) (Nat.le_of_ble_eq_true rfl) (zdal_p dlD_M_fixedBy_119 (i := 1) rfl) ?_
              rintro _ N8_ ⟨v9_, rfl, ⟨hv9_a, hv9_b⟩, hsN8_, hp0_N8_⟩
              obtain rfl := hsN8_.eq.symm
              replace hp0_N8_ : v9_ = 0 := hp0_N8_
              show zW l m_M_fixedBy (zn Mz + 0, zw Mz + 0) Mz 47 [some (.ref 81), some (.int (Int32.ofInt a0_)), some (.int (Int32.ofInt a1_)), some (.long (Int64.ofInt u1_)), none, some (.int (Int32.ofInt u2_))] [.int (Int32.ofInt v9_), .long (Int64.ofInt u1_)] (zpJ [] [113] Mz (fun v N => True))
              refine zr_i2l (pc := 47) ⟨hv9_a, hv9_b⟩ (zdal_p dlD_M_fixedBy_119 (i := 2) rfl) ?_
              refine zr_ladd (pc := 48) (zdal_p dlD_M_fixedBy_119 (i := 3) rfl) ?_
              refine zr_nmJ (fun v10_ hv10_ => ?_)
              obtain ⟨hv10_a, hv10_b⟩ := hv10_
              refine zw_lstore_n (pc := 49) (i := 3) (L2 := [some (.ref 81), some (.int (Int32.ofInt a0_)), some (.int (Int32.ofInt a1_)), some (.long (Int64.ofInt v10_)), none, some (.int (Int32.ofInt u2_))]) rfl (by decide) rfl (zdal_p dlD_M_fixedBy_119 (i := 4) rfl) ?_
              refine zw_iload_n (pc := 50) (n := 1) (x := Int32.ofInt a0_) rfl d_M_fixedBy_50 ?_
              refine zw_iconst (pc := 51) (v := Int32.ofInt 2) (by decide) d_M_fixedBy_51 ?_
              refine zr_icmp_ne (pc := 52) (tgt := 60) ⟨ha0_a, ha0_b⟩ ⟨(by decide), (by decide)⟩ (by decide) d_M_fixedBy_52 (fun hc_52 => ?_) (fun hc_52 => ?_)
              · skip
                refine zr_iinc (pc := 60) (i := 5) (a := u2_) (n := 1) (L2 := [some (.ref 81), some (.int (Int32.ofInt a0_)), some (.int (Int32.ofInt a1_)), some (.long (Int64.ofInt v10_)), none, some (.int (Int32.ofInt (u2_ + 1)))]) rfl (by decide) rfl d_M_fixedBy_60 ?_
                refine zw_goto (pc := 63) (tgt := 14) (by decide) d_M_fixedBy_63 ?_
                exact ih_14 v10_ hv10_a hv10_b (u2_ + 1) (by omega) (by omega) (show 0 ≤ (u2_ + 1) by first | assumption | omega) (by omega)
              · skip
                refine zw_lload_n (pc := 55) (n := 3) (x := Int64.ofInt v10_) rfl d_M_fixedBy_55 ?_
                refine zw_iload_n (pc := 56) (n := 2) (x := Int32.ofInt a1_) rfl d_M_fixedBy_56 ?_
                refine zr_i2l (pc := 57) ⟨ha1_a, ha1_b⟩ d_M_fixedBy_57 ?_
                refine zr_lmul (pc := 58) d_M_fixedBy_58 ?_
                refine zr_nmJ (fun v11_ hv11_ => ?_)
                obtain ⟨hv11_a, hv11_b⟩ := hv11_
                refine zw_lstore_n (pc := 59) (i := 3) (L2 := [some (.ref 81), some (.int (Int32.ofInt a0_)), some (.int (Int32.ofInt a1_)), some (.long (Int64.ofInt v11_)), none, some (.int (Int32.ofInt u2_))]) rfl (by decide) rfl d_M_fixedBy_59 ?_
                refine zr_iinc (pc := 60) (i := 5) (a := u2_) (n := 1) (L2 := [some (.ref 81), some (.int (Int32.ofInt a0_)), some (.int (Int32.ofInt a1_)), some (.long (Int64.ofInt v11_)), none, some (.int (Int32.ofInt (u2_ + 1)))]) rfl (by decide) rfl d_M_fixedBy_60 ?_
                refine zw_goto (pc := 63) (tgt := 14) (by decide) d_M_fixedBy_63 ?_
                exact ih_14 v11_ hv11_a hv11_b (u2_ + 1) (by omega) (by omega) (show 0 ≤ (u2_ + 1) by first | assumption | omega) (by omega)
            · skip
              refine zw_iconst (pc := 39) (v := Int32.ofInt 1) (by decide) (zdal_p dlD_M_fixedBy_118 (i := 22) rfl) ?_
              refine zw_goto (pc := 40) (tgt := 44) (by decide) (zdal_p dlD_M_fixedBy_118 (i := 23) rfl) ?_
              refine zr_callS hf.x (pc := 44) [.int (Int32.ofInt 1)] [.long (Int64.ofInt u1_)] l_M_256 (c_M_truth l Mz (hf.w hW) 1 (by decide) (by decide) (by omega)) rfl rfl (by decide) (Nat.le_of_ble_eq_true rfl) (zdal_p dlD_M_fixedBy_119 (i := 1) rfl) ?_
              rintro _ N12_ ⟨v13_, rfl, ⟨hv13_a, hv13_b⟩, hsN12_, hp0_N12_⟩
              obtain rfl := hsN12_.eq.symm
              replace hp0_N12_ : v13_ = 1 := hp0_N12_
              show zW l m_M_fixedBy (zn Mz + 0, zw Mz + 0) Mz 47 [some (.ref 81), some (.int (Int32.ofInt a0_)), some (.int (Int32.ofInt a1_)), some (.long (Int64.ofInt u1_)), none, some (.int (Int32.ofInt u2_))] [.int (Int32.ofInt v13_), .long (Int64.ofInt u1_)] (zpJ [] [113] Mz (fun v N => True))
              refine zr_i2l (pc := 47) ⟨hv13_a, hv13_b⟩ (zdal_p dlD_M_fixedBy_119 (i := 2) rfl) ?_
              refine zr_ladd (pc := 48) (zdal_p dlD_M_fixedBy_119 (i := 3) rfl) ?_
              refine zr_nmJ (fun v14_ hv14_ => ?_)
              obtain ⟨hv14_a, hv14_b⟩ := hv14_
              refine zw_lstore_n (pc := 49) (i := 3) (L2 := [some (.ref 81), some (.int (Int32.ofInt a0_)), some (.int (Int32.ofInt a1_)), some (.long (Int64.ofInt v14_)), none, some (.int (Int32.ofInt u2_))]) rfl (by decide) rfl (zdal_p dlD_M_fixedBy_119 (i := 4) rfl) ?_
              refine zw_iload_n (pc := 50) (n := 1) (x := Int32.ofInt a0_) rfl d_M_fixedBy_50 ?_
              refine zw_iconst (pc := 51) (v := Int32.ofInt 2) (by decide) d_M_fixedBy_51 ?_
              refine zr_icmp_ne (pc := 52) (tgt := 60) ⟨ha0_a, ha0_b⟩ ⟨(by decide), (by decide)⟩ (by decide) d_M_fixedBy_52 (fun hc_52 => ?_) (fun hc_52 => ?_)
              · skip
                refine zr_iinc (pc := 60) (i := 5) (a := u2_) (n := 1) (L2 := [some (.ref 81), some (.int (Int32.ofInt a0_)), some (.int (Int32.ofInt a1_)), some (.long (Int64.ofInt v14_)), none, some (.int (Int32.ofInt (u2_ + 1)))]) rfl (by decide) rfl d_M_fixedBy_60 ?_
                refine zw_goto (pc := 63) (tgt := 14) (by decide) d_M_fixedBy_63 ?_
                exact ih_14 v14_ hv14_a hv14_b (u2_ + 1) (by omega) (by omega) (show 0 ≤ (u2_ + 1) by first | assumption | omega) (by omega)
              · skip
                refine zw_lload_n (pc := 55) (n := 3) (x := Int64.ofInt v14_) rfl d_M_fixedBy_55 ?_
                refine zw_iload_n (pc := 56) (n := 2) (x := Int32.ofInt a1_) rfl d_M_fixedBy_56 ?_
                refine zr_i2l (pc := 57) ⟨ha1_a, ha1_b⟩ d_M_fixedBy_57 ?_
                refine zr_lmul (pc := 58) d_M_fixedBy_58 ?_
                refine zr_nmJ (fun v15_ hv15_ => ?_)
                obtain ⟨hv15_a, hv15_b⟩ := hv15_
                refine zw_lstore_n (pc := 59) (i := 3) (L2 := [some (.ref 81), some (.int (Int32.ofInt a0_)), some (.int (Int32.ofInt a1_)), some (.long (Int64.ofInt v15_)), none, some (.int (Int32.ofInt u2_))]) rfl (by decide) rfl d_M_fixedBy_59 ?_
                refine zr_iinc (pc := 60) (i := 5) (a := u2_) (n := 1) (L2 := [some (.ref 81), some (.int (Int32.ofInt a0_)), some (.int (Int32.ofInt a1_)), some (.long (Int64.ofInt v15_)), none, some (.int (Int32.ofInt (u2_ + 1)))]) rfl (by decide) rfl d_M_fixedBy_60 ?_
                refine zw_goto (pc := 63) (tgt := 14) (by decide) d_M_fixedBy_63 ?_
                exact ih_14 v15_ hv15_a hv15_b (u2_ + 1) (by omega) (by omega) (show 0 ≤ (u2_ + 1) by first | assumption | omega) (by omega)
    exact lp_14 _ 0 (by decide) (by decide) 0 (by decide) (by decide) (show 0 ≤ (0 : Int) by first | assumption | omega) (Nat.lt_succ_self _)
  · skip
    refine zw_lconst (pc := 5) (v := Int64.ofInt 1) (by decide) (zdal_p dlD_M_fixedBy_118 (i := 3) rfl) ?_
    refine zw_goto (pc := 6) (tgt := 10) (by decide) (zdal_p dlD_M_fixedBy_118 (i := 4) rfl) ?_
    refine zw_lstore_n (pc := 10) (i := 3) (L2 := [some (.ref 81), some (.int (Int32.ofInt a0_)), some (.int (Int32.ofInt a1_)), some (.long (Int64.ofInt 1)), none, none]) rfl (by decide) rfl (zdal_p dlD_M_fixedBy_118 (i := 6) rfl) ?_
    refine zw_iconst (pc := 11) (v := Int32.ofInt 0) (by decide) (zdal_p dlD_M_fixedBy_118 (i := 7) rfl) ?_
    refine zw_istore (pc := 12) (i := 5) (L2 := [some (.ref 81), some (.int (Int32.ofInt a0_)), some (.int (Int32.ofInt a1_)), some (.long (Int64.ofInt 1)), none, some (.int (Int32.ofInt 0))]) (by decide) rfl (zdal_p dlD_M_fixedBy_118 (i := 8) rfl) ?_
    have lp_14 : ∀ (n : Nat) (u16_ : Int) (hu16_a : -9223372036854775808 ≤ u16_) (hu16_b : u16_ < 9223372036854775808) (u17_ : Int) (hu17_a : -2147483648 ≤ u17_) (hu17_b : u17_ < 2147483648) (i18_ : 0 ≤ u17_), (ze Mz 81 63 - u17_).toNat < n → zW l m_M_fixedBy (zn Mz + 0, zw Mz + 0) Mz 14 [some (.ref 81), some (.int (Int32.ofInt a0_)), some (.int (Int32.ofInt a1_)), some (.long (Int64.ofInt u16_)), none, some (.int (Int32.ofInt u17_))] [] (zpJ [] [113] Mz (fun v N => True)) := by
      intro n
      induction n with
      | zero =>
        intro u16_ hu16_a hu16_b u17_ hu17_a hu17_b i18_ h0
        exact absurd h0 (Nat.not_lt_zero _)
      | succ n ih_14 =>
        intro u16_ hu16_a hu16_b u17_ hu17_a hu17_b i18_ hlt_14
        refine zw_iload (pc := 14) (i := 5) (x := Int32.ofInt u17_) rfl (zdal_p dlD_M_fixedBy_118 (i := 9) rfl) ?_
        refine zw_aload_n (pc := 16) (n := 0) (x := 81) rfl (zdal_p dlD_M_fixedBy_118 (i := 10) rfl) ?_
        refine zr_getI0 hf hW (pc := 17) (by decide) f_M_487 rfl (zdal_p dlD_M_fixedBy_118 (i := 11) rfl) ?_
        refine zr_icmp_ge (pc := 20) (tgt := 66) ⟨hu17_a, hu17_b⟩ ⟨(ze_r Mz 81 63).1, (ze_r Mz 81 63).2⟩ (by decide) (zdal_p dlD_M_fixedBy_118 (i := 12) rfl) (fun hc_20 => ?_) (fun hc_20 => ?_)
        · skip
          refine zw_iload_n (pc := 66) (n := 1) (x := Int32.ofInt a0_) rfl (zdal_p dlD_M_fixedBy_119 (i := 15) rfl) ?_
          refine zw_iconst (pc := 67) (v := Int32.ofInt 1) (by decide) (zdal_p dlD_M_fixedBy_119 (i := 16) rfl) ?_
          refine zr_icmp_ne (pc := 68) (tgt := 80) ⟨ha0_a, ha0_b⟩ ⟨(by decide), (by decide)⟩ (by decide) (zdal_p dlD_M_fixedBy_119 (i := 17) rfl) (fun hc_68 => ?_) (fun hc_68 => ?_)
          · skip
            refine zw_lload_n (pc := 80) (n := 3) (x := Int64.ofInt u16_) rfl (zdal_p dlD_M_fixedBy_119 (i := 23) rfl) ?_
            exact zr_lret (pc := 81) rfl ⟨by omega, by omega⟩ hf trivial (zdal_p dlD_M_fixedBy_120 (i := 0) rfl)
          · skip
            refine zw_aload_n (pc := 71) (n := 0) (x := 81) rfl (zdal_p dlD_M_fixedBy_119 (i := 18) rfl) ?_
            refine zw_iload_n (pc := 72) (n := 2) (x := Int32.ofInt a1_) rfl (zdal_p dlD_M_fixedBy_119 (i := 19) rfl) ?_
            refine zr_callV (hf.w hW) hf.x (pc := 73) [.int (Int32.ofInt a1_)] [] l_M_490 (c_M_setsOf l Mz (hf.w hW) a1_ ha1_a ha1_b (show 0 ≤ ze Mz 81 63 by first | assumption | omega) (show ze Mz 81 63 ≤ 6 by first | assumption | omega) (show zPo Mz (ze Mz 81 63) by first | assumption | omega) (show 0 ≤ a1_ by first | assumption | omega) (show a1_ ≤ 6 by first | assumption | omega)) rfl rfl rfl (by decide) (Nat.le_of_ble_eq_true rfl) (zdal_p dlD_M_fixedBy_119 (i := 20) rfl) ?_
            rintro _ N19_ ⟨v20_, rfl, ⟨hv20_a, hv20_b⟩, hsN19_, -⟩
            have hf_N19_ : zFr [] [113] Mz N19_ := hf.tr hsN19_ (by decide) (by decide)
            have e63_N19_ : ze N19_ 81 63 = ze Mz 81 63 := hsN19_.e (by decide)
            show zW l m_M_fixedBy (zn Mz + 0, zw Mz + 0) N19_ 76 [some (.ref 81), some (.int (Int32.ofInt a0_)), some (.int (Int32.ofInt a1_)), some (.long (Int64.ofInt u16_)), none, some (.int (Int32.ofInt u17_))] [.int (Int32.ofInt v20_)] (zpJ [] [113] Mz (fun v N => True))
            refine zr_i2l (pc := 76) ⟨hv20_a, hv20_b⟩ (zdal_p dlD_M_fixedBy_119 (i := 21) rfl) ?_
            refine zw_goto (pc := 77) (tgt := 81) (by decide) (zdal_p dlD_M_fixedBy_119 (i := 22) rfl) ?_
            exact zr_lret (pc := 81) rfl ⟨by omega, by omega⟩ hf_N19_ trivial (zdal_p dlD_M_fixedBy_120 (i := 0) rfl)
        · skip
          refine zw_iload_n (pc := 23) (n := 1) (x := Int32.ofInt a0_) rfl (zdal_p dlD_M_fixedBy_118 (i := 13) rfl) ?_
          refine zr_if_ne (pc := 24) (tgt := 50) ⟨ha0_a, ha0_b⟩ (by decide) (zdal_p dlD_M_fixedBy_118 (i := 14) rfl) (fun hc_24 => ?_) (fun hc_24 => ?_)
          · skip
            refine zw_iload_n (pc := 50) (n := 1) (x := Int32.ofInt a0_) rfl d_M_fixedBy_50 ?_
            refine zw_iconst (pc := 51) (v := Int32.ofInt 2) (by decide) d_M_fixedBy_51 ?_
            refine zr_icmp_ne (pc := 52) (tgt := 60) ⟨ha0_a, ha0_b⟩ ⟨(by decide), (by decide)⟩ (by decide) d_M_fixedBy_52 (fun hc_52 => ?_) (fun hc_52 => ?_)
            · skip
              refine zr_iinc (pc := 60) (i := 5) (a := u17_) (n := 1) (L2 := [some (.ref 81), some (.int (Int32.ofInt a0_)), some (.int (Int32.ofInt a1_)), some (.long (Int64.ofInt u16_)), none, some (.int (Int32.ofInt (u17_ + 1)))]) rfl (by decide) rfl d_M_fixedBy_60 ?_
              refine zw_goto (pc := 63) (tgt := 14) (by decide) d_M_fixedBy_63 ?_
              exact ih_14 u16_ hu16_a hu16_b (u17_ + 1) (by omega) (by omega) (show 0 ≤ (u17_ + 1) by first | assumption | omega) (by omega)
            · skip
              refine zw_lload_n (pc := 55) (n := 3) (x := Int64.ofInt u16_) rfl d_M_fixedBy_55 ?_
              refine zw_iload_n (pc := 56) (n := 2) (x := Int32.ofInt a1_) rfl d_M_fixedBy_56 ?_
              refine zr_i2l (pc := 57) ⟨ha1_a, ha1_b⟩ d_M_fixedBy_57 ?_
              refine zr_lmul (pc := 58) d_M_fixedBy_58 ?_
              refine zr_nmJ (fun v21_ hv21_ => ?_)
              obtain ⟨hv21_a, hv21_b⟩ := hv21_
              refine zw_lstore_n (pc := 59) (i := 3) (L2 := [some (.ref 81), some (.int (Int32.ofInt a0_)), some (.int (Int32.ofInt a1_)), some (.long (Int64.ofInt v21_)), none, some (.int (Int32.ofInt u17_))]) rfl (by decide) rfl d_M_fixedBy_59 ?_
              refine zr_iinc (pc := 60) (i := 5) (a := u17_) (n := 1) (L2 := [some (.ref 81), some (.int (Int32.ofInt a0_)), some (.int (Int32.ofInt a1_)), some (.long (Int64.ofInt v21_)), none, some (.int (Int32.ofInt (u17_ + 1)))]) rfl (by decide) rfl d_M_fixedBy_60 ?_
              refine zw_goto (pc := 63) (tgt := 14) (by decide) d_M_fixedBy_63 ?_
              exact ih_14 v21_ hv21_a hv21_b (u17_ + 1) (by omega) (by omega) (show 0 ≤ (u17_ + 1) by first | assumption | omega) (by omega)
          · skip
            refine zw_lload_n (pc := 27) (n := 3) (x := Int64.ofInt u16_) rfl (zdal_p dlD_M_fixedBy_118 (i := 15) rfl) ?_
            refine zw_aload_n (pc := 28) (n := 0) (x := 81) rfl (zdal_p dlD_M_fixedBy_118 (i := 16) rfl) ?_
            refine zr_getF (r := 112) (hf.w hW) (pc := 29) f_M_109 rfl (zh_112 (hf.w hW)).1 (zdal_p dlD_M_fixedBy_118 (i := 17) rfl) ?_
            refine zw_iload (pc := 32) (i := 5) (x := Int32.ofInt u17_) rfl (zdal_p dlD_M_fixedBy_118 (i := 18) rfl) ?_
            refine zr_ialdn (pc := 34) (zh_112 (hf.w hW)).2 (by decide) (by omega) (by omega) (zdal_p dlD_M_fixedBy_118 (i := 19) rfl) (fun v22_ hv22_ hv22_a hv22_b => ?_)
            refine zw_iconst (pc := 35) (v := Int32.ofInt 1) (by decide) (zdal_p dlD_M_fixedBy_118 (i := 20) rfl) ?_
            refine zr_icmp_ne (pc := 36) (tgt := 43) ⟨hv22_a, hv22_b⟩ ⟨(by decide), (by decide)⟩ (by decide) (zdal_p dlD_M_fixedBy_118 (i := 21) rfl) (fun hc_36 => ?_) (fun hc_36 => ?_)
            · skip
              refine zw_iconst (pc := 43) (v := Int32.ofInt 0) (by decide) (zdal_p dlD_M_fixedBy_119 (i := 0) rfl) ?_
              refine zr_callS hf.x (pc := 44) [.int (Int32.ofInt 0)] [.long (Int64.ofInt u16_)] l_M_256 (c_M_truth l Mz (hf.w hW) 0 (by decide) (by decide) (by omega)) rfl rfl (by decide) (Nat.le_of_ble_eq_true rfl) (zdal_p dlD_M_fixedBy_119 (i := 1) rfl) ?_
              rintro _ N23_ ⟨v24_, rfl, ⟨hv24_a, hv24_b⟩, hsN23_, hp0_N23_⟩
              obtain rfl := hsN23_.eq.symm
              replace hp0_N23_ : v24_ = 0 := hp0_N23_
              show zW l m_M_fixedBy (zn Mz + 0, zw Mz + 0) Mz 47 [some (.ref 81), some (.int (Int32.ofInt a0_)), some (.int (Int32.ofInt a1_)), some (.long (Int64.ofInt u16_)), none, some (.int (Int32.ofInt u17_))] [.int (Int32.ofInt v24_), .long (Int64.ofInt u16_)] (zpJ [] [113] Mz (fun v N => True))
              refine zr_i2l (pc := 47) ⟨hv24_a, hv24_b⟩ (zdal_p dlD_M_fixedBy_119 (i := 2) rfl) ?_
              refine zr_ladd (pc := 48) (zdal_p dlD_M_fixedBy_119 (i := 3) rfl) ?_
              refine zr_nmJ (fun v25_ hv25_ => ?_)
              obtain ⟨hv25_a, hv25_b⟩ := hv25_
              refine zw_lstore_n (pc := 49) (i := 3) (L2 := [some (.ref 81), some (.int (Int32.ofInt a0_)), some (.int (Int32.ofInt a1_)), some (.long (Int64.ofInt v25_)), none, some (.int (Int32.ofInt u17_))]) rfl (by decide) rfl (zdal_p dlD_M_fixedBy_119 (i := 4) rfl) ?_
              refine zw_iload_n (pc := 50) (n := 1) (x := Int32.ofInt a0_) rfl d_M_fixedBy_50 ?_
              refine zw_iconst (pc := 51) (v := Int32.ofInt 2) (by decide) d_M_fixedBy_51 ?_
              refine zr_icmp_ne (pc := 52) (tgt := 60) ⟨ha0_a, ha0_b⟩ ⟨(by decide), (by decide)⟩ (by decide) d_M_fixedBy_52 (fun hc_52 => ?_) (fun hc_52 => ?_)
              · skip
                refine zr_iinc (pc := 60) (i := 5) (a := u17_) (n := 1) (L2 := [some (.ref 81), some (.int (Int32.ofInt a0_)), some (.int (Int32.ofInt a1_)), some (.long (Int64.ofInt v25_)), none, some (.int (Int32.ofInt (u17_ + 1)))]) rfl (by decide) rfl d_M_fixedBy_60 ?_
                refine zw_goto (pc := 63) (tgt := 14) (by decide) d_M_fixedBy_63 ?_
                exact ih_14 v25_ hv25_a hv25_b (u17_ + 1) (by omega) (by omega) (show 0 ≤ (u17_ + 1) by first | assumption | omega) (by omega)
              · skip
                refine zw_lload_n (pc := 55) (n := 3) (x := Int64.ofInt v25_) rfl d_M_fixedBy_55 ?_
                refine zw_iload_n (pc := 56) (n := 2) (x := Int32.ofInt a1_) rfl d_M_fixedBy_56 ?_
                refine zr_i2l (pc := 57) ⟨ha1_a, ha1_b⟩ d_M_fixedBy_57 ?_
                refine zr_lmul (pc := 58) d_M_fixedBy_58 ?_
                refine zr_nmJ (fun v26_ hv26_ => ?_)
                obtain ⟨hv26_a, hv26_b⟩ := hv26_
                refine zw_lstore_n (pc := 59) (i := 3) (L2 := [some (.ref 81), some (.int (Int32.ofInt a0_)), some (.int (Int32.ofInt a1_)), some (.long (Int64.ofInt v26_)), none, some (.int (Int32.ofInt u17_))]) rfl (by decide) rfl d_M_fixedBy_59 ?_
                refine zr_iinc (pc := 60) (i := 5) (a := u17_) (n := 1) (L2 := [some (.ref 81), some (.int (Int32.ofInt a0_)), some (.int (Int32.ofInt a1_)), some (.long (Int64.ofInt v26_)), none, some (.int (Int32.ofInt (u17_ + 1)))]) rfl (by decide) rfl d_M_fixedBy_60 ?_
                refine zw_goto (pc := 63) (tgt := 14) (by decide) d_M_fixedBy_63 ?_
                exact ih_14 v26_ hv26_a hv26_b (u17_ + 1) (by omega) (by omega) (show 0 ≤ (u17_ + 1) by first | assumption | omega) (by omega)
            · skip
              refine zw_iconst (pc := 39) (v := Int32.ofInt 1) (by decide) (zdal_p dlD_M_fixedBy_118 (i := 22) rfl) ?_
              refine zw_goto (pc := 40) (tgt := 44) (by decide) (zdal_p dlD_M_fixedBy_118 (i := 23) rfl) ?_
              refine zr_callS hf.x (pc := 44) [.int (Int32.ofInt 1)] [.long (Int64.ofInt u16_)] l_M_256 (c_M_truth l Mz (hf.w hW) 1 (by decide) (by decide) (by omega)) rfl rfl (by decide) (Nat.le_of_ble_eq_true rfl) (zdal_p dlD_M_fixedBy_119 (i := 1) rfl) ?_
              rintro _ N27_ ⟨v28_, rfl, ⟨hv28_a, hv28_b⟩, hsN27_, hp0_N27_⟩
              obtain rfl := hsN27_.eq.symm
              replace hp0_N27_ : v28_ = 1 := hp0_N27_
              show zW l m_M_fixedBy (zn Mz + 0, zw Mz + 0) Mz 47 [some (.ref 81), some (.int (Int32.ofInt a0_)), some (.int (Int32.ofInt a1_)), some (.long (Int64.ofInt u16_)), none, some (.int (Int32.ofInt u17_))] [.int (Int32.ofInt v28_), .long (Int64.ofInt u16_)] (zpJ [] [113] Mz (fun v N => True))
              refine zr_i2l (pc := 47) ⟨hv28_a, hv28_b⟩ (zdal_p dlD_M_fixedBy_119 (i := 2) rfl) ?_
              refine zr_ladd (pc := 48) (zdal_p dlD_M_fixedBy_119 (i := 3) rfl) ?_
              refine zr_nmJ (fun v29_ hv29_ => ?_)
              obtain ⟨hv29_a, hv29_b⟩ := hv29_
              refine zw_lstore_n (pc := 49) (i := 3) (L2 := [some (.ref 81), some (.int (Int32.ofInt a0_)), some (.int (Int32.ofInt a1_)), some (.long (Int64.ofInt v29_)), none, some (.int (Int32.ofInt u17_))]) rfl (by decide) rfl (zdal_p dlD_M_fixedBy_119 (i := 4) rfl) ?_
              refine zw_iload_n (pc := 50) (n := 1) (x := Int32.ofInt a0_) rfl d_M_fixedBy_50 ?_
              refine zw_iconst (pc := 51) (v := Int32.ofInt 2) (by decide) d_M_fixedBy_51 ?_
              refine zr_icmp_ne (pc := 52) (tgt := 60) ⟨ha0_a, ha0_b⟩ ⟨(by decide), (by decide)⟩ (by decide) d_M_fixedBy_52 (fun hc_52 => ?_) (fun hc_52 => ?_)
              · skip
                refine zr_iinc (pc := 60) (i := 5) (a := u17_) (n := 1) (L2 := [some (.ref 81), some (.int (Int32.ofInt a0_)), some (.int (Int32.ofInt a1_)), some (.long (Int64.ofInt v29_)), none, some (.int (Int32.ofInt (u17_ + 1)))]) rfl (by decide) rfl d_M_fixedBy_60 ?_
                refine zw_goto (pc := 63) (tgt := 14) (by decide) d_M_fixedBy_63 ?_
                exact ih_14 v29_ hv29_a hv29_b (u17_ + 1) (by omega) (by omega) (show 0 ≤ (u17_ + 1) by first | assumption | omega) (by omega)
              · skip
                refine zw_lload_n (pc := 55) (n := 3) (x := Int64.ofInt v29_) rfl d_M_fixedBy_55 ?_
                refine zw_iload_n (pc := 56) (n := 2) (x := Int32.ofInt a1_) rfl d_M_fixedBy_56 ?_
                refine zr_i2l (pc := 57) ⟨ha1_a, ha1_b⟩ d_M_fixedBy_57 ?_
                refine zr_lmul (pc := 58) d_M_fixedBy_58 ?_
                refine zr_nmJ (fun v30_ hv30_ => ?_)
                obtain ⟨hv30_a, hv30_b⟩ := hv30_
                refine zw_lstore_n (pc := 59) (i := 3) (L2 := [some (.ref 81), some (.int (Int32.ofInt a0_)), some (.int (Int32.ofInt a1_)), some (.long (Int64.ofInt v30_)), none, some (.int (Int32.ofInt u17_))]) rfl (by decide) rfl d_M_fixedBy_59 ?_
                refine zr_iinc (pc := 60) (i := 5) (a := u17_) (n := 1) (L2 := [some (.ref 81), some (.int (Int32.ofInt a0_)), some (.int (Int32.ofInt a1_)), some (.long (Int64.ofInt v30_)), none, some (.int (Int32.ofInt (u17_ + 1)))]) rfl (by decide) rfl d_M_fixedBy_60 ?_
                refine zw_goto (pc := 63) (tgt := 14) (by decide) d_M_fixedBy_63 ?_
                exact ih_14 v30_ hv30_a hv30_b (u17_ + 1) (by omega) (by omega) (show 0 ≤ (u17_ + 1) by first | assumption | omega) (by omega)
    exact lp_14 _ 1 (by decide) (by decide) 0 (by decide) (by decide) (show 0 ≤ (0 : Int) by first | assumption | omega) (Nat.lt_succ_self _)
set_option maxHeartbeats 4000000 in
theorem c_M_numbers_96_98 (l : Launch) (Mz : zMem) (hW : zMt Mz) (a2_ : Int) (ha2_a : -2147483648 ≤ a2_) (ha2_b : a2_ < 2147483648) (p0_ : zGD Mz) (p1_ : 0 ≤ a2_) (p2_ : a2_ ≤ 0) : zC l m_M_numbers 0 0 [.ref 81, .ref 96, .ref 98, .int (Int32.ofInt a2_)] Mz (zpV [] [98] Mz (fun N => True)) := by
  refine zC_of (L0 := [some (.ref 81), some (.ref 96), some (.ref 98), some (.int (Int32.ofInt a2_)), none, none, none, none]) md_M_numbers (Nat.le_of_ble_eq_true rfl) rfl ?_ zQ0
  have hf : zFr [] [98] Mz Mz := zFr.rf
  have r_26 := ze_r Mz 81 26
  have gb := p0_.1
  refine zw_aload_n (pc := 0) (n := 0) (x := 81) rfl (zdal_p dlC_M_numbers_126 (i := 0) rfl) ?_
  refine zr_getI0 hf hW (pc := 1) (by decide) f_M_235 rfl (zdal_p dlC_M_numbers_126 (i := 1) rfl) ?_
  refine zw_iconst (pc := 4) (v := Int32.ofInt 1) (by decide) (zdal_p dlC_M_numbers_126 (i := 2) rfl) ?_
  refine zr_isub (pc := 5) (zdal_p dlC_M_numbers_126 (i := 3) rfl) ?_
  refine zw_istore (pc := 6) (i := 4) (L2 := [some (.ref 81), some (.ref 96), some (.ref 98), some (.int (Int32.ofInt a2_)), some (.int (Int32.ofInt ((ze Mz 81 26) - 1))), none, none, none]) (by decide) rfl (zdal_p dlC_M_numbers_126 (i := 4) rfl) ?_
  have lp_8 : ∀ (n : Nat) (u1_ : Int) (hu1_a : -2147483648 ≤ u1_) (hu1_b : u1_ < 2147483648) (N2_ : zMem) (hs3_ : zFr [] [98] Mz N2_) (i4_ : u1_ ≤ (ze Mz 81 26) - 1) (i5_ : u1_ ≥ -1), (u1_ + 1).toNat < n → zW l m_M_numbers (zn Mz + 0, zw Mz + 0) N2_ 8 [some (.ref 81), some (.ref 96), some (.ref 98), some (.int (Int32.ofInt a2_)), some (.int (Int32.ofInt u1_)), none, none, none] [] (zpV [] [98] Mz (fun N => True)) := by
    intro n
    induction n with
    | zero =>
      intro u1_ hu1_a hu1_b N2_ hs3_ i4_ i5_ h0
      exact absurd h0 (Nat.not_lt_zero _)
    | succ n ih_8 =>
      intro u1_ hu1_a hu1_b N2_ hs3_ i4_ i5_ hlt_8
      have hf_N2_ : zFr [] [98] Mz N2_ := hf.tr hs3_ (by decide) (by decide)
      have e26_N2_ : ze N2_ 81 26 = ze Mz 81 26 := hs3_.e (by decide)
      have c6_ : zGD N2_ := zGD.fr hs3_ p0_ (by decide) (by decide)
      refine zw_iload (pc := 8) (i := 4) (x := Int32.ofInt u1_) rfl (zdal_p dlC_M_numbers_126 (i := 5) rfl) ?_
      refine zr_if_lt (pc := 10) (tgt := 95) ⟨hu1_a, hu1_b⟩ (by decide) (zdal_p dlC_M_numbers_126 (i := 6) rfl) (fun hc_10 => ?_) (fun hc_10 => ?_)
      · skip
        exact zr_vret (pc := 95) rfl hf_N2_ trivial (zdal_p dlC_M_numbers_128 (i := 9) rfl)
      · skip
        refine zw_aload_n (pc := 13) (n := 1) (x := 96) rfl (zdal_p dlC_M_numbers_126 (i := 7) rfl) ?_
        refine zw_iload (pc := 14) (i := 4) (x := Int32.ofInt u1_) rfl (zdal_p dlC_M_numbers_126 (i := 8) rfl) ?_
        refine zr_laldn (pc := 16) (zh_96 (hf_N2_.w hW)).2 (by decide) (by omega) (by omega) (zdal_p dlC_M_numbers_126 (i := 9) rfl) (fun v7_ hv7_ hv7_a hv7_b => ?_)
        rw [hf_N2_.jg (by decide) (by decide)] at hv7_
        refine zw_lstore (pc := 17) (i := 5) (L2 := [some (.ref 81), some (.ref 96), some (.ref 98), some (.int (Int32.ofInt a2_)), some (.int (Int32.ofInt u1_)), some (.long (Int64.ofInt v7_)), none, none]) (by decide) rfl (zdal_p dlC_M_numbers_126 (i := 10) rfl) ?_
        refine zw_iload (pc := 19) (i := 4) (x := Int32.ofInt u1_) rfl (zdal_p dlC_M_numbers_126 (i := 11) rfl) ?_
        refine zw_iconst (pc := 21) (v := Int32.ofInt 1) (by decide) (zdal_p dlC_M_numbers_126 (i := 12) rfl) ?_
        refine zr_iadd (pc := 22) (zdal_p dlC_M_numbers_126 (i := 13) rfl) ?_
        refine zw_istore (pc := 23) (i := 7) (L2 := [some (.ref 81), some (.ref 96), some (.ref 98), some (.int (Int32.ofInt a2_)), some (.int (Int32.ofInt u1_)), some (.long (Int64.ofInt v7_)), none, some (.int (Int32.ofInt (u1_ + 1)))]) (by decide) rfl (zdal_p dlC_M_numbers_126 (i := 14) rfl) ?_
        have lp_25 : ∀ (n : Nat) (u8_ : Int) (hu8_a : -9223372036854775808 ≤ u8_) (hu8_b : u8_ < 9223372036854775808) (u9_ : Int) (hu9_a : -2147483648 ≤ u9_) (hu9_b : u9_ < 2147483648) (i10_ : u1_ + 1 ≤ u9_), (ze Mz 81 26 - u9_).toNat < n → zW l m_M_numbers (zn Mz + 0, zw Mz + 0) N2_ 25 [some (.ref 81), some (.ref 96), some (.ref 98), some (.int (Int32.ofInt a2_)), some (.int (Int32.ofInt u1_)), some (.long (Int64.ofInt u8_)), none, some (.int (Int32.ofInt u9_))] [] (zpV [] [98] Mz (fun N => True)) := by
          intro n
          induction n with
          | zero =>
            intro u8_ hu8_a hu8_b u9_ hu9_a hu9_b i10_ h0
            exact absurd h0 (Nat.not_lt_zero _)
          | succ n ih_25 =>
            intro u8_ hu8_a hu8_b u9_ hu9_a hu9_b i10_ hlt_25
            refine zw_iload (pc := 25) (i := 7) (x := Int32.ofInt u9_) rfl (zdal_p dlC_M_numbers_126 (i := 15) rfl) ?_
            refine zw_aload_n (pc := 27) (n := 0) (x := 81) rfl (zdal_p dlC_M_numbers_126 (i := 16) rfl) ?_
            refine zr_getI0 hf_N2_ hW (pc := 28) (by decide) f_M_235 rfl (zdal_p dlC_M_numbers_126 (i := 17) rfl) ?_
            refine zr_icmp_ge (pc := 31) (tgt := 66) ⟨hu9_a, hu9_b⟩ ⟨(ze_r Mz 81 26).1, (ze_r Mz 81 26).2⟩ (by decide) (zdal_p dlC_M_numbers_126 (i := 18) rfl) (fun hc_31 => ?_) (fun hc_31 => ?_)
            · skip
              refine zw_aload_n (pc := 66) (n := 2) (x := 98) rfl (zdal_p dlC_M_numbers_127 (i := 15) rfl) ?_
              refine zw_iload_n (pc := 67) (n := 3) (x := Int32.ofInt a2_) rfl (zdal_p dlC_M_numbers_127 (i := 16) rfl) ?_
              refine zw_iload (pc := 68) (i := 4) (x := Int32.ofInt u1_) rfl (zdal_p dlC_M_numbers_127 (i := 17) rfl) ?_
              refine zr_iadd (pc := 70) (zdal_p dlC_M_numbers_127 (i := 18) rfl) ?_
              refine zw_lload (pc := 71) (i := 5) (x := Int64.ofInt u8_) rfl (zdal_p dlC_M_numbers_127 (i := 19) rfl) ?_
              refine zw_aload_n (pc := 73) (n := 0) (x := 81) rfl (zdal_p dlC_M_numbers_127 (i := 20) rfl) ?_
              refine zr_getF (r := 93) (hf_N2_.w hW) (pc := 74) f_M_50 rfl (zh_93 (hf_N2_.w hW)).1 (zdal_p dlC_M_numbers_127 (i := 21) rfl) ?_
              refine zw_bipush (pc := 77) (v := Int32.ofInt 64) (by decide) (zdal_p dlC_M_numbers_127 (i := 22) rfl) ?_
              refine zw_iload (pc := 79) (i := 4) (x := Int32.ofInt u1_) rfl (zdal_p dlC_M_numbers_127 (i := 23) rfl) ?_
              refine zr_imul (pc := 81) (zdal_p dlC_M_numbers_128 (i := 0) rfl) ?_
              refine zw_iload (pc := 82) (i := 4) (x := Int32.ofInt u1_) rfl (zdal_p dlC_M_numbers_128 (i := 1) rfl) ?_
              refine zr_iadd (pc := 84) (zdal_p dlC_M_numbers_128 (i := 2) rfl) ?_
              refine zr_ialdn (pc := 85) (zh_93 (hf_N2_.w hW)).2 (by decide) (by omega) (by omega) (zdal_p dlC_M_numbers_128 (i := 3) rfl) (fun v11_ hv11_ hv11_a hv11_b => ?_)
              rw [hf_N2_.ie (by decide) (by decide)] at hv11_
              refine zr_i2l (pc := 86) ⟨hv11_a, hv11_b⟩ (zdal_p dlC_M_numbers_128 (i := 4) rfl) ?_
              refine zr_ldiv (pc := 87) ⟨by omega, by omega⟩ (by rw [hv11_]; exact p0_.2 _ (by omega) (by omega)) (zdal_p dlC_M_numbers_128 (i := 5) rfl) ?_
              have hr12_ := zlquo_r u8_ v11_
              refine zr_last (pc := 88) (zh_98 (hf_N2_.w hW)).2 (by decide) (by decide) (by omega) (by omega) (zdal_p dlC_M_numbers_128 (i := 6) rfl) (fun N13_ hN13_ hsN13_ => ?_)
              have hf_N13_ : zFr [] [98] Mz N13_ := hf_N2_.tr hsN13_ (by decide) (by decide)
              have hb0_N13_ : zFr [] [98] Mz N13_ := hs3_.tr hsN13_ (by decide) (by decide)
              have e26_N13_ : ze N13_ 81 26 = ze N2_ 81 26 := hsN13_.e (by decide)
              have c14_ : zGD N13_ := zGD.fr hsN13_ c6_ (by decide) (by decide)
              refine zr_iinc (pc := 89) (i := 4) (a := u1_) (n := -1) (L2 := [some (.ref 81), some (.ref 96), some (.ref 98), some (.int (Int32.ofInt a2_)), some (.int (Int32.ofInt (u1_ + (-1)))), some (.long (Int64.ofInt u8_)), none, some (.int (Int32.ofInt u9_))]) rfl (by decide) rfl (zdal_p dlC_M_numbers_128 (i := 7) rfl) ?_
              refine zw_goto (pc := 92) (tgt := 8) (by decide) (zdal_p dlC_M_numbers_128 (i := 8) rfl) ?_
              refine zW_le [some (.ref 81), some (.ref 96), some (.ref 98), some (.int (Int32.ofInt a2_)), some (.int (Int32.ofInt (u1_ + (-1)))), none, none, none] (⟨rfl, rfl, rfl, rfl, rfl, trivial⟩) ?_
              exact ih_8 (u1_ + (-1)) (by omega) (by omega) N13_ hb0_N13_ (show (u1_ + (-1)) ≤ (ze Mz 81 26) - 1 by first | assumption | omega) (show (u1_ + (-1)) ≥ -1 by first | assumption | omega) (by omega)
            · skip
              refine zw_lload (pc := 34) (i := 5) (x := Int64.ofInt u8_) rfl (zdal_p dlC_M_numbers_126 (i := 19) rfl) ?_
              refine zw_aload_n (pc := 36) (n := 2) (x := 98) rfl (zdal_p dlC_M_numbers_126 (i := 20) rfl) ?_
              refine zw_iload_n (pc := 37) (n := 3) (x := Int32.ofInt a2_) rfl (zdal_p dlC_M_numbers_126 (i := 21) rfl) ?_
              refine zw_iload (pc := 38) (i := 7) (x := Int32.ofInt u9_) rfl (zdal_p dlC_M_numbers_126 (i := 22) rfl) ?_
              refine zr_iadd (pc := 40) (zdal_p dlC_M_numbers_126 (i := 23) rfl) ?_
              refine zr_laldn (pc := 41) (zh_98 (hf_N2_.w hW)).2 (by decide) (by omega) (by omega) (zdal_p dlC_M_numbers_127 (i := 0) rfl) (fun v15_ hv15_ hv15_a hv15_b => ?_)
              refine zw_aload_n (pc := 42) (n := 0) (x := 81) rfl (zdal_p dlC_M_numbers_127 (i := 1) rfl) ?_
              refine zr_getF (r := 93) (hf_N2_.w hW) (pc := 43) f_M_50 rfl (zh_93 (hf_N2_.w hW)).1 (zdal_p dlC_M_numbers_127 (i := 2) rfl) ?_
              refine zw_bipush (pc := 46) (v := Int32.ofInt 64) (by decide) (zdal_p dlC_M_numbers_127 (i := 3) rfl) ?_
              refine zw_iload (pc := 48) (i := 7) (x := Int32.ofInt u9_) rfl (zdal_p dlC_M_numbers_127 (i := 4) rfl) ?_
              refine zr_imul (pc := 50) (zdal_p dlC_M_numbers_127 (i := 5) rfl) ?_
              refine zw_iload (pc := 51) (i := 4) (x := Int32.ofInt u1_) rfl (zdal_p dlC_M_numbers_127 (i := 6) rfl) ?_
              refine zr_iadd (pc := 53) (zdal_p dlC_M_numbers_127 (i := 7) rfl) ?_
              refine zr_ialdn (pc := 54) (zh_93 (hf_N2_.w hW)).2 (by decide) (by omega) (by omega) (zdal_p dlC_M_numbers_127 (i := 8) rfl) (fun v16_ hv16_ hv16_a hv16_b => ?_)
              rw [hf_N2_.ie (by decide) (by decide)] at hv16_
              refine zr_i2l (pc := 55) ⟨hv16_a, hv16_b⟩ (zdal_p dlC_M_numbers_127 (i := 9) rfl) ?_
              refine zr_lmul (pc := 56) (zdal_p dlC_M_numbers_127 (i := 10) rfl) ?_
              refine zr_lsub (pc := 57) (zdal_p dlC_M_numbers_127 (i := 11) rfl) ?_
              refine zr_nmJ (fun v17_ hv17_ => ?_)
              obtain ⟨hv17_a, hv17_b⟩ := hv17_
              refine zw_lstore (pc := 58) (i := 5) (L2 := [some (.ref 81), some (.ref 96), some (.ref 98), some (.int (Int32.ofInt a2_)), some (.int (Int32.ofInt u1_)), some (.long (Int64.ofInt v17_)), none, some (.int (Int32.ofInt u9_))]) (by decide) rfl (zdal_p dlC_M_numbers_127 (i := 12) rfl) ?_
              refine zr_iinc (pc := 60) (i := 7) (a := u9_) (n := 1) (L2 := [some (.ref 81), some (.ref 96), some (.ref 98), some (.int (Int32.ofInt a2_)), some (.int (Int32.ofInt u1_)), some (.long (Int64.ofInt v17_)), none, some (.int (Int32.ofInt (u9_ + 1)))]) rfl (by decide) rfl (zdal_p dlC_M_numbers_127 (i := 13) rfl) ?_
              refine zw_goto (pc := 63) (tgt := 25) (by decide) (zdal_p dlC_M_numbers_127 (i := 14) rfl) ?_
              exact ih_25 v17_ hv17_a hv17_b (u9_ + 1) (by omega) (by omega) (show u1_ + 1 ≤ (u9_ + 1) by first | assumption | omega) (by omega)
        exact lp_25 _ v7_ hv7_a hv7_b (u1_ + 1) (by omega) (by omega) (show u1_ + 1 ≤ (u1_ + 1) by first | assumption | omega) (Nat.lt_succ_self _)
  exact lp_8 _ ((ze Mz 81 26) - 1) (by omega) (by omega) Mz zFr.rf (show ((ze Mz 81 26) - 1) ≤ (ze Mz 81 26) - 1 by first | assumption | omega) (show ((ze Mz 81 26) - 1) ≥ -1 by first | assumption | omega) (Nat.lt_succ_self _)
set_option maxHeartbeats 4000000 in
theorem c_M_take (l : Launch) (Mz : zMem) (hW : zMt Mz) (a0_ : Int) (ha0_a : -2147483648 ≤ a0_) (ha0_b : a0_ < 2147483648) (a1_ : Int) (ha1_a : -2147483648 ≤ a1_) (ha1_b : a1_ < 2147483648) (T : zGT) (hO : gOK T) (p0_ : zGB T Mz) (p1_ : 1 ≤ ze Mz 81 16) (p2_ : ze Mz 81 16 ≤ 6) (p3_ : 0 ≤ ze Mz 81 60) (p4_ : ze Mz 81 60 ≤ 12) : zC l m_M_take 0 0 [.ref 81, .int (Int32.ofInt a0_), .int (Int32.ofInt a1_)] Mz (zpI [60, 63] [96, 98, 111, 112, 113] Mz (fun v N => 0 ≤ ze N 81 60 ∧ ze N 81 60 ≤ 12)) := by
  refine zC_of (L0 := [some (.ref 81), some (.int (Int32.ofInt a0_)), some (.int (Int32.ofInt a1_)), none]) md_M_take (Nat.le_of_ble_eq_true rfl) rfl ?_ zQ0
  have hf : zFr [60, 63] [96, 98, 111, 112, 113] Mz Mz := zFr.rf
  have r_16 := ze_r Mz 81 16
  have r_26 := ze_r Mz 81 26
  have r_60 := ze_r Mz 81 60
  have r_63 := ze_r Mz 81 63
  have hG := hO.1
  have g24 := hG.2.1
  have g1 := hG.1
  have dv0 : zTab T Mz := p0_.1
  have dv1 : zB 85 144 0 5 Mz := p0_.2.1
  have dv2 : zJX T Mz := p0_.2.2.1
  have dv3 : zFirs T Mz := p0_.2.2.2.1
  have dv4 : zSSm T Mz := p0_.2.2.2.2.1
  have dv5 : zGD Mz := zGB.d hO p0_
  have gb := dv5.1
  have gn := dv0.1
  refine zw_iload_n (pc := 0) (n := 1) (x := Int32.ofInt a0_) rfl (zdal_p dlD_M_take_112 (i := 0) rfl) ?_
  refine zr_i2l (pc := 1) ⟨ha0_a, ha0_b⟩ (zdal_p dlD_M_take_112 (i := 1) rfl) ?_
  refine zw_lconst (pc := 2) (v := Int64.ofInt 0) (by decide) (zdal_p dlD_M_take_112 (i := 2) rfl) ?_
  refine zr_ldc2 (pc := 3) (n := 2) (by decide) k_M_493 (zdal_p dlD_M_take_112 (i := 3) rfl) ?_
  refine zr_callS hf.x (pc := 6) [.long (Int64.ofInt a0_), .long (Int64.ofInt 0), .long (Int64.ofInt 2)] [] l_M_131 (c_M_isIn l Mz (hf.w hW) a0_ (by omega) (by omega) 0 (by decide) (by decide) 2 (by decide) (by decide)) rfl rfl (by decide) (Nat.le_of_ble_eq_true rfl) (zdal_p dlD_M_take_112 (i := 4) rfl) ?_
  rintro _ N1_ ⟨v2_, rfl, ⟨hv2_a, hv2_b⟩, hsN1_, hp0_N1_⟩
  obtain rfl := hsN1_.eq.symm
  replace hp0_N1_ : ((v2_ = 1 ∧ 0 ≤ a0_ ∧ a0_ ≤ 2) ∨ (v2_ = 0 ∧ (a0_ < 0 ∨ 2 < a0_))) := hp0_N1_
  rcases hp0_N1_ with ⟨rfl, ha6_0_hp0_N1_, ha6_1_hp0_N1_⟩ | ⟨rfl, ha6_0_hp0_N1_⟩
  · skip
    show zW l m_M_take (zn Mz + 0, zw Mz + 0) Mz 9 [some (.ref 81), some (.int (Int32.ofInt a0_)), some (.int (Int32.ofInt a1_)), none] [.int (Int32.ofInt 1)] _
    refine zr_if_eq (pc := 9) (tgt := 28) ⟨(by decide), (by decide)⟩ (by decide) (zdal_p dlD_M_take_112 (i := 5) rfl) (fun hc_9 => ?_) (fun hc_9 => ?_)
    · skip
      exact absurd hc_9 (by decide)
    · skip
      refine zw_iload_n (pc := 12) (n := 1) (x := Int32.ofInt a0_) rfl (zdal_p dlD_M_take_112 (i := 6) rfl) ?_
      refine zr_if_le (pc := 13) (tgt := 30) ⟨ha0_a, ha0_b⟩ (by decide) (zdal_p dlD_M_take_112 (i := 7) rfl) (fun hc_13 => ?_) (fun hc_13 => ?_)
      · skip
        refine zw_iconst (pc := 30) (v := Int32.ofInt 0) (by decide) (zdal_p dlD_M_take_112 (i := 16) rfl) ?_
        refine zw_istore_n (pc := 31) (i := 3) (L2 := [some (.ref 81), some (.int (Int32.ofInt a0_)), some (.int (Int32.ofInt a1_)), some (.int (Int32.ofInt 0))]) rfl (by decide) rfl (zdal_p dlD_M_take_112 (i := 17) rfl) ?_
        have lp_32 : ∀ (n : Nat) (u3_ : Int) (hu3_a : -2147483648 ≤ u3_) (hu3_b : u3_ < 2147483648) (N4_ : zMem) (hs5_ : zFr [63] [96, 112, 113] Mz N4_) (i6_ : 0 ≤ u3_), (ze Mz 81 26 - u3_).toNat < n → zW l m_M_take (zn Mz + 0, zw Mz + 0) N4_ 32 [some (.ref 81), some (.int (Int32.ofInt a0_)), some (.int (Int32.ofInt a1_)), some (.int (Int32.ofInt u3_))] [] (zpI [60, 63] [96, 98, 111, 112, 113] Mz (fun v N => 0 ≤ ze N 81 60 ∧ ze N 81 60 ≤ 12)) := by
          intro n
          induction n with
          | zero =>
            intro u3_ hu3_a hu3_b N4_ hs5_ i6_ h0
            exact absurd h0 (Nat.not_lt_zero _)
          | succ n ih_32 =>
            intro u3_ hu3_a hu3_b N4_ hs5_ i6_ hlt_32
            have hf_N4_ : zFr [60, 63] [96, 98, 111, 112, 113] Mz N4_ := hf.tr hs5_ (by decide) (by decide)
            have e16_N4_ : ze N4_ 81 16 = ze Mz 81 16 := hs5_.e (by decide)
            have e26_N4_ : ze N4_ 81 26 = ze Mz 81 26 := hs5_.e (by decide)
            have e60_N4_ : ze N4_ 81 60 = ze Mz 81 60 := hs5_.e (by decide)
            have r63_N4_ := ze_r N4_ 81 63
            have c7_ : zGB T N4_ := zGB.fr hs5_ p0_ (by decide) (by decide)
            have c8_ : zTab T N4_ := zTab.fr hs5_ dv0 (by decide) (by decide)
            have c9_ : zB 85 144 0 5 N4_ := zB.fr hs5_ dv1 (by decide) (by decide)
            have c10_ : zJX T N4_ := zJX.fr hs5_ dv2 (by decide) (by decide)
            have c11_ : zFirs T N4_ := zFirs.fr hs5_ dv3 (by decide) (by decide)
            have c12_ : zSSm T N4_ := zSSm.fr hs5_ dv4 (by decide) (by decide)
            have c13_ : zGD N4_ := zGD.fr hs5_ dv5 (by decide) (by decide)
            refine zw_iload_n (pc := 32) (n := 3) (x := Int32.ofInt u3_) rfl (zdal_p dlD_M_take_112 (i := 18) rfl) ?_
            refine zw_aload_n (pc := 33) (n := 0) (x := 81) rfl (zdal_p dlD_M_take_112 (i := 19) rfl) ?_
            refine zr_getI0 hf_N4_ hW (pc := 34) (by decide) f_M_235 rfl (zdal_p dlD_M_take_112 (i := 20) rfl) ?_
            refine zr_icmp_ge (pc := 37) (tgt := 68) ⟨hu3_a, hu3_b⟩ ⟨(ze_r Mz 81 26).1, (ze_r Mz 81 26).2⟩ (by decide) (zdal_p dlD_M_take_112 (i := 21) rfl) (fun hc_37 => ?_) (fun hc_37 => ?_)
            · skip
              refine zw_aload_n (pc := 68) (n := 0) (x := 81) rfl (zdal_p dlD_M_take_113 (i := 14) rfl) ?_
              refine zr_callV (hf_N4_.w hW) hf_N4_.x (pc := 69) [] [] l_M_481 (c_M_act l N4_ (hf_N4_.w hW) (show 0 ≤ ze N4_ 81 60 by first | assumption | omega) (show ze N4_ 81 60 ≤ 12 by first | assumption | omega)) rfl rfl rfl (by decide) (Nat.le_of_ble_eq_true rfl) (zdal_p dlD_M_take_113 (i := 15) rfl) ?_
              rintro _ N14_ ⟨rfl, hsN14_, ⟨hp0_N14_, hp1_N14_⟩⟩
              have hf_N14_ : zFr [60, 63] [96, 98, 111, 112, 113] Mz N14_ := hf_N4_.tr hsN14_ (by decide) (by decide)
              have e16_N14_ : ze N14_ 81 16 = ze N4_ 81 16 := hsN14_.e (by decide)
              have e26_N14_ : ze N14_ 81 26 = ze N4_ 81 26 := hsN14_.e (by decide)
              have r60_N14_ := ze_r N14_ 81 60
              have e63_N14_ : ze N14_ 81 63 = ze N4_ 81 63 := hsN14_.e (by decide)
              have c16_ : zGB T N14_ := zGB.fr hsN14_ c7_ (by decide) (by decide)
              have c17_ : zTab T N14_ := zTab.fr hsN14_ c8_ (by decide) (by decide)
              have c18_ : zB 85 144 0 5 N14_ := zB.fr hsN14_ c9_ (by decide) (by decide)
              have c19_ : zJX T N14_ := zJX.fr hsN14_ c10_ (by decide) (by decide)
              have c20_ : zFirs T N14_ := zFirs.fr hsN14_ c11_ (by decide) (by decide)
              have c21_ : zSSm T N14_ := zSSm.fr hsN14_ c12_ (by decide) (by decide)
              have c22_ : zGD N14_ := zGD.fr hsN14_ c13_ (by decide) (by decide)
              show zW l m_M_take (zn Mz + 0, zw Mz + 0) N14_ 72 [some (.ref 81), some (.int (Int32.ofInt a0_)), some (.int (Int32.ofInt a1_)), some (.int (Int32.ofInt u3_))] [] _
              refine zw_aload_n (pc := 72) (n := 0) (x := 81) rfl (zdal_p dlD_M_take_113 (i := 16) rfl) ?_
              refine zw_aload_n (pc := 73) (n := 0) (x := 81) rfl (zdal_p dlD_M_take_113 (i := 17) rfl) ?_
              refine zr_getF (r := 96) (hf_N14_.w hW) (pc := 74) f_M_60 rfl (zh_96 (hf_N14_.w hW)).1 (zdal_p dlD_M_take_113 (i := 18) rfl) ?_
              refine zw_aload_n (pc := 77) (n := 0) (x := 81) rfl (zdal_p dlD_M_take_113 (i := 19) rfl) ?_
              refine zr_getF (r := 98) (hf_N14_.w hW) (pc := 78) f_M_66 rfl (zh_98 (hf_N14_.w hW)).1 (zdal_p dlD_M_take_113 (i := 20) rfl) ?_
              refine zw_iconst (pc := 81) (v := Int32.ofInt 0) (by decide) (zdal_p dlD_M_take_113 (i := 21) rfl) ?_
              refine zr_callV (hf_N14_.w hW) hf_N14_.x (pc := 82) [.ref 96, .ref 98, .int (Int32.ofInt 0)] [] l_M_289 (c_M_numbers_96_98 l N14_ (hf_N14_.w hW) 0 (by decide) (by decide) c22_ (show 0 ≤ 0 by first | assumption | omega) (show 0 ≤ 0 by first | assumption | omega)) rfl rfl rfl (by decide) (Nat.le_of_ble_eq_true rfl) (zdal_p dlD_M_take_113 (i := 22) rfl) ?_
              rintro _ N23_ ⟨rfl, hsN23_, -⟩
              have hf_N23_ : zFr [60, 63] [96, 98, 111, 112, 113] Mz N23_ := hf_N14_.tr hsN23_ (by decide) (by decide)
              have e16_N23_ : ze N23_ 81 16 = ze N14_ 81 16 := hsN23_.e (by decide)
              have e26_N23_ : ze N23_ 81 26 = ze N14_ 81 26 := hsN23_.e (by decide)
              have e60_N23_ : ze N23_ 81 60 = ze N14_ 81 60 := hsN23_.e (by decide)
              have e63_N23_ : ze N23_ 81 63 = ze N14_ 81 63 := hsN23_.e (by decide)
              have c25_ : zGB T N23_ := zGB.fr hsN23_ c16_ (by decide) (by decide)
              have c26_ : zTab T N23_ := zTab.fr hsN23_ c17_ (by decide) (by decide)
              have c27_ : zB 85 144 0 5 N23_ := zB.fr hsN23_ c18_ (by decide) (by decide)
              have c28_ : zJX T N23_ := zJX.fr hsN23_ c19_ (by decide) (by decide)
              have c29_ : zFirs T N23_ := zFirs.fr hsN23_ c20_ (by decide) (by decide)
              have c30_ : zSSm T N23_ := zSSm.fr hsN23_ c21_ (by decide) (by decide)
              have c31_ : zGD N23_ := zGD.fr hsN23_ c22_ (by decide) (by decide)
              show zW l m_M_take (zn Mz + 0, zw Mz + 0) N23_ 85 [some (.ref 81), some (.int (Int32.ofInt a0_)), some (.int (Int32.ofInt a1_)), some (.int (Int32.ofInt u3_))] [] _
              refine zw_aload_n (pc := 85) (n := 0) (x := 81) rfl (zdal_p dlD_M_take_113 (i := 23) rfl) ?_
              refine zr_getF (r := 96) (hf_N23_.w hW) (pc := 86) f_M_60 rfl (zh_96 (hf_N23_.w hW)).1 (zdal_p dlD_M_take_114 (i := 0) rfl) ?_
              refine zw_iconst (pc := 89) (v := Int32.ofInt 0) (by decide) (zdal_p dlD_M_take_114 (i := 1) rfl) ?_
              refine zr_laldn (pc := 90) (zh_96 (hf_N23_.w hW)).2 (by decide) (by omega) (by omega) (zdal_p dlD_M_take_114 (i := 2) rfl) (fun v32_ hv32_ hv32_a hv32_b => ?_)
              refine zr_l2i (pc := 91) (zdal_p dlD_M_take_114 (i := 3) rfl) ?_
              refine zr_nmI (fun v33_ hv33_ => ?_)
              obtain ⟨hv33_a, hv33_b⟩ := hv33_
              exact zr_iret (pc := 92) (ty := .int) rfl rfl ⟨by omega, by omega⟩ hf_N23_ ⟨(show 0 ≤ ze N23_ 81 60 by first | assumption | omega), (show ze N23_ 81 60 ≤ 12 by first | assumption | omega)⟩ (zdal_p dlD_M_take_114 (i := 4) rfl)
            · skip
              refine zw_aload_n (pc := 40) (n := 0) (x := 81) rfl (zdal_p dlD_M_take_112 (i := 22) rfl) ?_
              refine zw_aload_n (pc := 41) (n := 0) (x := 81) rfl (zdal_p dlD_M_take_112 (i := 23) rfl) ?_
              refine zr_getF (r := 91) (hf_N4_.w hW) (pc := 42) f_M_44 rfl (zh_91 (hf_N4_.w hW)).1 (zdal_p dlD_M_take_113 (i := 0) rfl) ?_
              refine zw_iload_n (pc := 45) (n := 3) (x := Int32.ofInt u3_) rfl (zdal_p dlD_M_take_113 (i := 1) rfl) ?_
              refine zr_ialdn (pc := 46) (zh_91 (hf_N4_.w hW)).2 (by decide) (by omega) (by omega) (zdal_p dlD_M_take_113 (i := 2) rfl) (fun v34_ hv34_ hv34_a hv34_b => ?_)
              rw [hf_N4_.ie (by decide) (by decide)] at hv34_
              have hf_x := dv3.g hO (e := u3_) (by omega) (by omega)
              refine zr_callV (hf_N4_.w hW) hf_N4_.x (pc := 47) [.int (Int32.ofInt v34_)] [] l_M_497 (c_M_laysParts l N4_ (hf_N4_.w hW) v34_ hv34_a hv34_b T hO c7_ (show 1 ≤ ze N4_ 81 16 by first | assumption | omega) (show ze N4_ 81 16 ≤ 6 by first | assumption | omega) (show 0 ≤ v34_ by first | assumption | omega)) rfl rfl rfl (by decide) (Nat.le_of_ble_eq_true rfl) (zdal_p dlD_M_take_113 (i := 3) rfl) ?_
              rintro _ N35_ ⟨rfl, hsN35_, ⟨hp0_N35_, hp1_N35_, hp2_N35_⟩⟩
              have hf_N35_ : zFr [60, 63] [96, 98, 111, 112, 113] Mz N35_ := hf_N4_.tr hsN35_ (by decide) (by decide)
              have hb0_N35_ : zFr [63] [96, 112, 113] Mz N35_ := hs5_.tr hsN35_ (by decide) (by decide)
              have e16_N35_ : ze N35_ 81 16 = ze N4_ 81 16 := hsN35_.e (by decide)
              have e26_N35_ : ze N35_ 81 26 = ze N4_ 81 26 := hsN35_.e (by decide)
              have e60_N35_ : ze N35_ 81 60 = ze N4_ 81 60 := hsN35_.e (by decide)
              have r63_N35_ := ze_r N35_ 81 63
              have c37_ : zGB T N35_ := zGB.fr hsN35_ c7_ (by decide) (by decide)
              have c38_ : zTab T N35_ := zTab.fr hsN35_ c8_ (by decide) (by decide)
              have c39_ : zB 85 144 0 5 N35_ := zB.fr hsN35_ c9_ (by decide) (by decide)
              have c40_ : zJX T N35_ := zJX.fr hsN35_ c10_ (by decide) (by decide)
              have c41_ : zFirs T N35_ := zFirs.fr hsN35_ c11_ (by decide) (by decide)
              have c42_ : zSSm T N35_ := zSSm.fr hsN35_ c12_ (by decide) (by decide)
              have c43_ : zGD N35_ := zGD.fr hsN35_ c13_ (by decide) (by decide)
              show zW l m_M_take (zn Mz + 0, zw Mz + 0) N35_ 50 [some (.ref 81), some (.int (Int32.ofInt a0_)), some (.int (Int32.ofInt a1_)), some (.int (Int32.ofInt u3_))] [] _
              refine zw_aload_n (pc := 50) (n := 0) (x := 81) rfl (zdal_p dlD_M_take_113 (i := 4) rfl) ?_
              refine zr_getF (r := 96) (hf_N35_.w hW) (pc := 51) f_M_60 rfl (zh_96 (hf_N35_.w hW)).1 (zdal_p dlD_M_take_113 (i := 5) rfl) ?_
              refine zw_iload_n (pc := 54) (n := 3) (x := Int32.ofInt u3_) rfl (zdal_p dlD_M_take_113 (i := 6) rfl) ?_
              refine zw_aload_n (pc := 55) (n := 0) (x := 81) rfl (zdal_p dlD_M_take_113 (i := 7) rfl) ?_
              refine zw_iload_n (pc := 56) (n := 1) (x := Int32.ofInt a0_) rfl (zdal_p dlD_M_take_113 (i := 8) rfl) ?_
              refine zw_iload_n (pc := 57) (n := 2) (x := Int32.ofInt a1_) rfl (zdal_p dlD_M_take_113 (i := 9) rfl) ?_
              refine zr_callV (hf_N35_.w hW) hf_N35_.x (pc := 58) [.int (Int32.ofInt a0_), .int (Int32.ofInt a1_)] [.int (Int32.ofInt u3_), .ref 96] l_M_500 (c_M_fixedBy l N35_ (hf_N35_.w hW) a0_ ha0_a ha0_b a1_ ha1_a ha1_b (show 0 ≤ ze N35_ 81 63 by first | assumption | omega) (show ze N35_ 81 63 ≤ 6 by first | assumption | omega) (show zPo N35_ (ze N35_ 81 63) by assumption) (show (a0_ ≠ 1 ∨ (0 ≤ a1_ ∧ a1_ ≤ 6)) by first | assumption | omega)) rfl rfl rfl (by decide) (Nat.le_of_ble_eq_true rfl) (zdal_p dlD_M_take_113 (i := 10) rfl) ?_
              rintro _ N44_ ⟨v45_, rfl, ⟨hv45_a, hv45_b⟩, hsN44_, -⟩
              have hf_N44_ : zFr [60, 63] [96, 98, 111, 112, 113] Mz N44_ := hf_N35_.tr hsN44_ (by decide) (by decide)
              have hb0_N44_ : zFr [63] [96, 112, 113] Mz N44_ := hb0_N35_.tr hsN44_ (by decide) (by decide)
              have e16_N44_ : ze N44_ 81 16 = ze N35_ 81 16 := hsN44_.e (by decide)
              have e26_N44_ : ze N44_ 81 26 = ze N35_ 81 26 := hsN44_.e (by decide)
              have e60_N44_ : ze N44_ 81 60 = ze N35_ 81 60 := hsN44_.e (by decide)
              have e63_N44_ : ze N44_ 81 63 = ze N35_ 81 63 := hsN44_.e (by decide)
              have c46_ : zGB T N44_ := zGB.fr hsN44_ c37_ (by decide) (by decide)
              have c47_ : zTab T N44_ := zTab.fr hsN44_ c38_ (by decide) (by decide)
              have c48_ : zB 85 144 0 5 N44_ := zB.fr hsN44_ c39_ (by decide) (by decide)
              have c49_ : zJX T N44_ := zJX.fr hsN44_ c40_ (by decide) (by decide)
              have c50_ : zFirs T N44_ := zFirs.fr hsN44_ c41_ (by decide) (by decide)
              have c51_ : zSSm T N44_ := zSSm.fr hsN44_ c42_ (by decide) (by decide)
              have c52_ : zGD N44_ := zGD.fr hsN44_ c43_ (by decide) (by decide)
              show zW l m_M_take (zn Mz + 0, zw Mz + 0) N44_ 61 [some (.ref 81), some (.int (Int32.ofInt a0_)), some (.int (Int32.ofInt a1_)), some (.int (Int32.ofInt u3_))] [.long (Int64.ofInt v45_), .int (Int32.ofInt u3_), .ref 96] _
              refine zr_last (pc := 61) (zh_96 (hf_N44_.w hW)).2 (by decide) (by decide) (by omega) (by omega) (zdal_p dlD_M_take_113 (i := 11) rfl) (fun N53_ hN53_ hsN53_ => ?_)
              have hf_N53_ : zFr [60, 63] [96, 98, 111, 112, 113] Mz N53_ := hf_N44_.tr hsN53_ (by decide) (by decide)
              have hb0_N53_ : zFr [63] [96, 112, 113] Mz N53_ := hb0_N44_.tr hsN53_ (by decide) (by decide)
              have e16_N53_ : ze N53_ 81 16 = ze N44_ 81 16 := hsN53_.e (by decide)
              have e26_N53_ : ze N53_ 81 26 = ze N44_ 81 26 := hsN53_.e (by decide)
              have e60_N53_ : ze N53_ 81 60 = ze N44_ 81 60 := hsN53_.e (by decide)
              have e63_N53_ : ze N53_ 81 63 = ze N44_ 81 63 := hsN53_.e (by decide)
              have c54_ : zGB T N53_ := zGB.fr hsN53_ c46_ (by decide) (by decide)
              have c55_ : zTab T N53_ := zTab.fr hsN53_ c47_ (by decide) (by decide)
              have c56_ : zB 85 144 0 5 N53_ := zB.fr hsN53_ c48_ (by decide) (by decide)
              have c57_ : zJX T N53_ := zJX.fr hsN53_ c49_ (by decide) (by decide)
              have c58_ : zFirs T N53_ := zFirs.fr hsN53_ c50_ (by decide) (by decide)
              have c59_ : zSSm T N53_ := zSSm.fr hsN53_ c51_ (by decide) (by decide)
              have c60_ : zGD N53_ := zGD.fr hsN53_ c52_ (by decide) (by decide)
              refine zr_iinc (pc := 62) (i := 3) (a := u3_) (n := 1) (L2 := [some (.ref 81), some (.int (Int32.ofInt a0_)), some (.int (Int32.ofInt a1_)), some (.int (Int32.ofInt (u3_ + 1)))]) rfl (by decide) rfl (zdal_p dlD_M_take_113 (i := 12) rfl) ?_
              refine zw_goto (pc := 65) (tgt := 32) (by decide) (zdal_p dlD_M_take_113 (i := 13) rfl) ?_
              exact ih_32 (u3_ + 1) (by omega) (by omega) N53_ hb0_N53_ (show 0 ≤ (u3_ + 1) by first | assumption | omega) (by omega)
        exact lp_32 _ 0 (by decide) (by decide) Mz zFr.rf (show 0 ≤ (0 : Int) by first | assumption | omega) (Nat.lt_succ_self _)
      · skip
        refine zw_iload_n (pc := 16) (n := 2) (x := Int32.ofInt a1_) rfl (zdal_p dlD_M_take_112 (i := 8) rfl) ?_
        refine zr_i2l (pc := 17) ⟨ha1_a, ha1_b⟩ (zdal_p dlD_M_take_112 (i := 9) rfl) ?_
        refine zw_lconst (pc := 18) (v := Int64.ofInt 0) (by decide) (zdal_p dlD_M_take_112 (i := 10) rfl) ?_
        refine zr_ldc2 (pc := 19) (n := 6) (by decide) k_M_495 (zdal_p dlD_M_take_112 (i := 11) rfl) ?_
        refine zr_callS hf.x (pc := 22) [.long (Int64.ofInt a1_), .long (Int64.ofInt 0), .long (Int64.ofInt 6)] [] l_M_131 (c_M_isIn l Mz (hf.w hW) a1_ (by omega) (by omega) 0 (by decide) (by decide) 6 (by decide) (by decide)) rfl rfl (by decide) (Nat.le_of_ble_eq_true rfl) (zdal_p dlD_M_take_112 (i := 12) rfl) ?_
        rintro _ N61_ ⟨v62_, rfl, ⟨hv62_a, hv62_b⟩, hsN61_, hp0_N61_⟩
        obtain rfl := hsN61_.eq.symm
        replace hp0_N61_ : ((v62_ = 1 ∧ 0 ≤ a1_ ∧ a1_ ≤ 6) ∨ (v62_ = 0 ∧ (a1_ < 0 ∨ 6 < a1_))) := hp0_N61_
        rcases hp0_N61_ with ⟨rfl, ha22_0_hp0_N61_, ha22_1_hp0_N61_⟩ | ⟨rfl, ha22_0_hp0_N61_⟩
        · skip
          show zW l m_M_take (zn Mz + 0, zw Mz + 0) Mz 25 [some (.ref 81), some (.int (Int32.ofInt a0_)), some (.int (Int32.ofInt a1_)), none] [.int (Int32.ofInt 1)] _
          refine zr_if_ne (pc := 25) (tgt := 30) ⟨(by decide), (by decide)⟩ (by decide) (zdal_p dlD_M_take_112 (i := 13) rfl) (fun hc_25 => ?_) (fun hc_25 => ?_)
          · skip
            refine zw_iconst (pc := 30) (v := Int32.ofInt 0) (by decide) (zdal_p dlD_M_take_112 (i := 16) rfl) ?_
            refine zw_istore_n (pc := 31) (i := 3) (L2 := [some (.ref 81), some (.int (Int32.ofInt a0_)), some (.int (Int32.ofInt a1_)), some (.int (Int32.ofInt 0))]) rfl (by decide) rfl (zdal_p dlD_M_take_112 (i := 17) rfl) ?_
            have lp_32 : ∀ (n : Nat) (u63_ : Int) (hu63_a : -2147483648 ≤ u63_) (hu63_b : u63_ < 2147483648) (N64_ : zMem) (hs65_ : zFr [63] [96, 112, 113] Mz N64_) (i66_ : 0 ≤ u63_), (ze Mz 81 26 - u63_).toNat < n → zW l m_M_take (zn Mz + 0, zw Mz + 0) N64_ 32 [some (.ref 81), some (.int (Int32.ofInt a0_)), some (.int (Int32.ofInt a1_)), some (.int (Int32.ofInt u63_))] [] (zpI [60, 63] [96, 98, 111, 112, 113] Mz (fun v N => 0 ≤ ze N 81 60 ∧ ze N 81 60 ≤ 12)) := by
              intro n
              induction n with
              | zero =>
                intro u63_ hu63_a hu63_b N64_ hs65_ i66_ h0
                exact absurd h0 (Nat.not_lt_zero _)
              | succ n ih_32 =>
                intro u63_ hu63_a hu63_b N64_ hs65_ i66_ hlt_32
                have hf_N64_ : zFr [60, 63] [96, 98, 111, 112, 113] Mz N64_ := hf.tr hs65_ (by decide) (by decide)
                have e16_N64_ : ze N64_ 81 16 = ze Mz 81 16 := hs65_.e (by decide)
                have e26_N64_ : ze N64_ 81 26 = ze Mz 81 26 := hs65_.e (by decide)
                have e60_N64_ : ze N64_ 81 60 = ze Mz 81 60 := hs65_.e (by decide)
                have r63_N64_ := ze_r N64_ 81 63
                have c67_ : zGB T N64_ := zGB.fr hs65_ p0_ (by decide) (by decide)
                have c68_ : zTab T N64_ := zTab.fr hs65_ dv0 (by decide) (by decide)
                have c69_ : zB 85 144 0 5 N64_ := zB.fr hs65_ dv1 (by decide) (by decide)
                have c70_ : zJX T N64_ := zJX.fr hs65_ dv2 (by decide) (by decide)
                have c71_ : zFirs T N64_ := zFirs.fr hs65_ dv3 (by decide) (by decide)
                have c72_ : zSSm T N64_ := zSSm.fr hs65_ dv4 (by decide) (by decide)
                have c73_ : zGD N64_ := zGD.fr hs65_ dv5 (by decide) (by decide)
                refine zw_iload_n (pc := 32) (n := 3) (x := Int32.ofInt u63_) rfl (zdal_p dlD_M_take_112 (i := 18) rfl) ?_
                refine zw_aload_n (pc := 33) (n := 0) (x := 81) rfl (zdal_p dlD_M_take_112 (i := 19) rfl) ?_
                refine zr_getI0 hf_N64_ hW (pc := 34) (by decide) f_M_235 rfl (zdal_p dlD_M_take_112 (i := 20) rfl) ?_
                refine zr_icmp_ge (pc := 37) (tgt := 68) ⟨hu63_a, hu63_b⟩ ⟨(ze_r Mz 81 26).1, (ze_r Mz 81 26).2⟩ (by decide) (zdal_p dlD_M_take_112 (i := 21) rfl) (fun hc_37 => ?_) (fun hc_37 => ?_)
                · skip
                  refine zw_aload_n (pc := 68) (n := 0) (x := 81) rfl (zdal_p dlD_M_take_113 (i := 14) rfl) ?_
                  refine zr_callV (hf_N64_.w hW) hf_N64_.x (pc := 69) [] [] l_M_481 (c_M_act l N64_ (hf_N64_.w hW) (show 0 ≤ ze N64_ 81 60 by first | assumption | omega) (show ze N64_ 81 60 ≤ 12 by first | assumption | omega)) rfl rfl rfl (by decide) (Nat.le_of_ble_eq_true rfl) (zdal_p dlD_M_take_113 (i := 15) rfl) ?_
                  rintro _ N74_ ⟨rfl, hsN74_, ⟨hp0_N74_, hp1_N74_⟩⟩
                  have hf_N74_ : zFr [60, 63] [96, 98, 111, 112, 113] Mz N74_ := hf_N64_.tr hsN74_ (by decide) (by decide)
                  have e16_N74_ : ze N74_ 81 16 = ze N64_ 81 16 := hsN74_.e (by decide)
                  have e26_N74_ : ze N74_ 81 26 = ze N64_ 81 26 := hsN74_.e (by decide)
                  have r60_N74_ := ze_r N74_ 81 60
                  have e63_N74_ : ze N74_ 81 63 = ze N64_ 81 63 := hsN74_.e (by decide)
                  have c76_ : zGB T N74_ := zGB.fr hsN74_ c67_ (by decide) (by decide)
                  have c77_ : zTab T N74_ := zTab.fr hsN74_ c68_ (by decide) (by decide)
                  have c78_ : zB 85 144 0 5 N74_ := zB.fr hsN74_ c69_ (by decide) (by decide)
                  have c79_ : zJX T N74_ := zJX.fr hsN74_ c70_ (by decide) (by decide)
                  have c80_ : zFirs T N74_ := zFirs.fr hsN74_ c71_ (by decide) (by decide)
                  have c81_ : zSSm T N74_ := zSSm.fr hsN74_ c72_ (by decide) (by decide)
                  have c82_ : zGD N74_ := zGD.fr hsN74_ c73_ (by decide) (by decide)
                  show zW l m_M_take (zn Mz + 0, zw Mz + 0) N74_ 72 [some (.ref 81), some (.int (Int32.ofInt a0_)), some (.int (Int32.ofInt a1_)), some (.int (Int32.ofInt u63_))] [] _
                  refine zw_aload_n (pc := 72) (n := 0) (x := 81) rfl (zdal_p dlD_M_take_113 (i := 16) rfl) ?_
                  refine zw_aload_n (pc := 73) (n := 0) (x := 81) rfl (zdal_p dlD_M_take_113 (i := 17) rfl) ?_
                  refine zr_getF (r := 96) (hf_N74_.w hW) (pc := 74) f_M_60 rfl (zh_96 (hf_N74_.w hW)).1 (zdal_p dlD_M_take_113 (i := 18) rfl) ?_
                  refine zw_aload_n (pc := 77) (n := 0) (x := 81) rfl (zdal_p dlD_M_take_113 (i := 19) rfl) ?_
                  refine zr_getF (r := 98) (hf_N74_.w hW) (pc := 78) f_M_66 rfl (zh_98 (hf_N74_.w hW)).1 (zdal_p dlD_M_take_113 (i := 20) rfl) ?_
                  refine zw_iconst (pc := 81) (v := Int32.ofInt 0) (by decide) (zdal_p dlD_M_take_113 (i := 21) rfl) ?_
                  refine zr_callV (hf_N74_.w hW) hf_N74_.x (pc := 82) [.ref 96, .ref 98, .int (Int32.ofInt 0)] [] l_M_289 (c_M_numbers_96_98 l N74_ (hf_N74_.w hW) 0 (by decide) (by decide) c82_ (show 0 ≤ 0 by first | assumption | omega) (show 0 ≤ 0 by first | assumption | omega)) rfl rfl rfl (by decide) (Nat.le_of_ble_eq_true rfl) (zdal_p dlD_M_take_113 (i := 22) rfl) ?_
                  rintro _ N83_ ⟨rfl, hsN83_, -⟩
                  have hf_N83_ : zFr [60, 63] [96, 98, 111, 112, 113] Mz N83_ := hf_N74_.tr hsN83_ (by decide) (by decide)
                  have e16_N83_ : ze N83_ 81 16 = ze N74_ 81 16 := hsN83_.e (by decide)
                  have e26_N83_ : ze N83_ 81 26 = ze N74_ 81 26 := hsN83_.e (by decide)
                  have e60_N83_ : ze N83_ 81 60 = ze N74_ 81 60 := hsN83_.e (by decide)
                  have e63_N83_ : ze N83_ 81 63 = ze N74_ 81 63 := hsN83_.e (by decide)
                  have c85_ : zGB T N83_ := zGB.fr hsN83_ c76_ (by decide) (by decide)
                  have c86_ : zTab T N83_ := zTab.fr hsN83_ c77_ (by decide) (by decide)
                  have c87_ : zB 85 144 0 5 N83_ := zB.fr hsN83_ c78_ (by decide) (by decide)
                  have c88_ : zJX T N83_ := zJX.fr hsN83_ c79_ (by decide) (by decide)
                  have c89_ : zFirs T N83_ := zFirs.fr hsN83_ c80_ (by decide) (by decide)
                  have c90_ : zSSm T N83_ := zSSm.fr hsN83_ c81_ (by decide) (by decide)
                  have c91_ : zGD N83_ := zGD.fr hsN83_ c82_ (by decide) (by decide)
                  show zW l m_M_take (zn Mz + 0, zw Mz + 0) N83_ 85 [some (.ref 81), some (.int (Int32.ofInt a0_)), some (.int (Int32.ofInt a1_)), some (.int (Int32.ofInt u63_))] [] _
                  refine zw_aload_n (pc := 85) (n := 0) (x := 81) rfl (zdal_p dlD_M_take_113 (i := 23) rfl) ?_
                  refine zr_getF (r := 96) (hf_N83_.w hW) (pc := 86) f_M_60 rfl (zh_96 (hf_N83_.w hW)).1 (zdal_p dlD_M_take_114 (i := 0) rfl) ?_
                  refine zw_iconst (pc := 89) (v := Int32.ofInt 0) (by decide) (zdal_p dlD_M_take_114 (i := 1) rfl) ?_
                  refine zr_laldn (pc := 90) (zh_96 (hf_N83_.w hW)).2 (by decide) (by omega) (by omega) (zdal_p dlD_M_take_114 (i := 2) rfl) (fun v92_ hv92_ hv92_a hv92_b => ?_)
                  refine zr_l2i (pc := 91) (zdal_p dlD_M_take_114 (i := 3) rfl) ?_
                  refine zr_nmI (fun v93_ hv93_ => ?_)
                  obtain ⟨hv93_a, hv93_b⟩ := hv93_
                  exact zr_iret (pc := 92) (ty := .int) rfl rfl ⟨by omega, by omega⟩ hf_N83_ ⟨(show 0 ≤ ze N83_ 81 60 by first | assumption | omega), (show ze N83_ 81 60 ≤ 12 by first | assumption | omega)⟩ (zdal_p dlD_M_take_114 (i := 4) rfl)
                · skip
                  refine zw_aload_n (pc := 40) (n := 0) (x := 81) rfl (zdal_p dlD_M_take_112 (i := 22) rfl) ?_
                  refine zw_aload_n (pc := 41) (n := 0) (x := 81) rfl (zdal_p dlD_M_take_112 (i := 23) rfl) ?_
                  refine zr_getF (r := 91) (hf_N64_.w hW) (pc := 42) f_M_44 rfl (zh_91 (hf_N64_.w hW)).1 (zdal_p dlD_M_take_113 (i := 0) rfl) ?_
                  refine zw_iload_n (pc := 45) (n := 3) (x := Int32.ofInt u63_) rfl (zdal_p dlD_M_take_113 (i := 1) rfl) ?_
                  refine zr_ialdn (pc := 46) (zh_91 (hf_N64_.w hW)).2 (by decide) (by omega) (by omega) (zdal_p dlD_M_take_113 (i := 2) rfl) (fun v94_ hv94_ hv94_a hv94_b => ?_)
                  rw [hf_N64_.ie (by decide) (by decide)] at hv94_
                  have hf_x := dv3.g hO (e := u63_) (by omega) (by omega)
                  refine zr_callV (hf_N64_.w hW) hf_N64_.x (pc := 47) [.int (Int32.ofInt v94_)] [] l_M_497 (c_M_laysParts l N64_ (hf_N64_.w hW) v94_ hv94_a hv94_b T hO c67_ (show 1 ≤ ze N64_ 81 16 by first | assumption | omega) (show ze N64_ 81 16 ≤ 6 by first | assumption | omega) (show 0 ≤ v94_ by first | assumption | omega)) rfl rfl rfl (by decide) (Nat.le_of_ble_eq_true rfl) (zdal_p dlD_M_take_113 (i := 3) rfl) ?_
                  rintro _ N95_ ⟨rfl, hsN95_, ⟨hp0_N95_, hp1_N95_, hp2_N95_⟩⟩
                  have hf_N95_ : zFr [60, 63] [96, 98, 111, 112, 113] Mz N95_ := hf_N64_.tr hsN95_ (by decide) (by decide)
                  have hb0_N95_ : zFr [63] [96, 112, 113] Mz N95_ := hs65_.tr hsN95_ (by decide) (by decide)
                  have e16_N95_ : ze N95_ 81 16 = ze N64_ 81 16 := hsN95_.e (by decide)
                  have e26_N95_ : ze N95_ 81 26 = ze N64_ 81 26 := hsN95_.e (by decide)
                  have e60_N95_ : ze N95_ 81 60 = ze N64_ 81 60 := hsN95_.e (by decide)
                  have r63_N95_ := ze_r N95_ 81 63
                  have c97_ : zGB T N95_ := zGB.fr hsN95_ c67_ (by decide) (by decide)
                  have c98_ : zTab T N95_ := zTab.fr hsN95_ c68_ (by decide) (by decide)
                  have c99_ : zB 85 144 0 5 N95_ := zB.fr hsN95_ c69_ (by decide) (by decide)
                  have c100_ : zJX T N95_ := zJX.fr hsN95_ c70_ (by decide) (by decide)
                  have c101_ : zFirs T N95_ := zFirs.fr hsN95_ c71_ (by decide) (by decide)
                  have c102_ : zSSm T N95_ := zSSm.fr hsN95_ c72_ (by decide) (by decide)
                  have c103_ : zGD N95_ := zGD.fr hsN95_ c73_ (by decide) (by decide)
                  show zW l m_M_take (zn Mz + 0, zw Mz + 0) N95_ 50 [some (.ref 81), some (.int (Int32.ofInt a0_)), some (.int (Int32.ofInt a1_)), some (.int (Int32.ofInt u63_))] [] _
                  refine zw_aload_n (pc := 50) (n := 0) (x := 81) rfl (zdal_p dlD_M_take_113 (i := 4) rfl) ?_
                  refine zr_getF (r := 96) (hf_N95_.w hW) (pc := 51) f_M_60 rfl (zh_96 (hf_N95_.w hW)).1 (zdal_p dlD_M_take_113 (i := 5) rfl) ?_
                  refine zw_iload_n (pc := 54) (n := 3) (x := Int32.ofInt u63_) rfl (zdal_p dlD_M_take_113 (i := 6) rfl) ?_
                  refine zw_aload_n (pc := 55) (n := 0) (x := 81) rfl (zdal_p dlD_M_take_113 (i := 7) rfl) ?_
                  refine zw_iload_n (pc := 56) (n := 1) (x := Int32.ofInt a0_) rfl (zdal_p dlD_M_take_113 (i := 8) rfl) ?_
                  refine zw_iload_n (pc := 57) (n := 2) (x := Int32.ofInt a1_) rfl (zdal_p dlD_M_take_113 (i := 9) rfl) ?_
                  refine zr_callV (hf_N95_.w hW) hf_N95_.x (pc := 58) [.int (Int32.ofInt a0_), .int (Int32.ofInt a1_)] [.int (Int32.ofInt u63_), .ref 96] l_M_500 (c_M_fixedBy l N95_ (hf_N95_.w hW) a0_ ha0_a ha0_b a1_ ha1_a ha1_b (show 0 ≤ ze N95_ 81 63 by first | assumption | omega) (show ze N95_ 81 63 ≤ 6 by first | assumption | omega) (show zPo N95_ (ze N95_ 81 63) by assumption) (show (a0_ ≠ 1 ∨ (0 ≤ a1_ ∧ a1_ ≤ 6)) by first | assumption | omega)) rfl rfl rfl (by decide) (Nat.le_of_ble_eq_true rfl) (zdal_p dlD_M_take_113 (i := 10) rfl) ?_
                  rintro _ N104_ ⟨v105_, rfl, ⟨hv105_a, hv105_b⟩, hsN104_, -⟩
                  have hf_N104_ : zFr [60, 63] [96, 98, 111, 112, 113] Mz N104_ := hf_N95_.tr hsN104_ (by decide) (by decide)
                  have hb0_N104_ : zFr [63] [96, 112, 113] Mz N104_ := hb0_N95_.tr hsN104_ (by decide) (by decide)
                  have e16_N104_ : ze N104_ 81 16 = ze N95_ 81 16 := hsN104_.e (by decide)
                  have e26_N104_ : ze N104_ 81 26 = ze N95_ 81 26 := hsN104_.e (by decide)
                  have e60_N104_ : ze N104_ 81 60 = ze N95_ 81 60 := hsN104_.e (by decide)
                  have e63_N104_ : ze N104_ 81 63 = ze N95_ 81 63 := hsN104_.e (by decide)
                  have c106_ : zGB T N104_ := zGB.fr hsN104_ c97_ (by decide) (by decide)
                  have c107_ : zTab T N104_ := zTab.fr hsN104_ c98_ (by decide) (by decide)
                  have c108_ : zB 85 144 0 5 N104_ := zB.fr hsN104_ c99_ (by decide) (by decide)
                  have c109_ : zJX T N104_ := zJX.fr hsN104_ c100_ (by decide) (by decide)
                  have c110_ : zFirs T N104_ := zFirs.fr hsN104_ c101_ (by decide) (by decide)
                  have c111_ : zSSm T N104_ := zSSm.fr hsN104_ c102_ (by decide) (by decide)
                  have c112_ : zGD N104_ := zGD.fr hsN104_ c103_ (by decide) (by decide)
                  show zW l m_M_take (zn Mz + 0, zw Mz + 0) N104_ 61 [some (.ref 81), some (.int (Int32.ofInt a0_)), some (.int (Int32.ofInt a1_)), some (.int (Int32.ofInt u63_))] [.long (Int64.ofInt v105_), .int (Int32.ofInt u63_), .ref 96] _
                  refine zr_last (pc := 61) (zh_96 (hf_N104_.w hW)).2 (by decide) (by decide) (by omega) (by omega) (zdal_p dlD_M_take_113 (i := 11) rfl) (fun N113_ hN113_ hsN113_ => ?_)
                  have hf_N113_ : zFr [60, 63] [96, 98, 111, 112, 113] Mz N113_ := hf_N104_.tr hsN113_ (by decide) (by decide)
                  have hb0_N113_ : zFr [63] [96, 112, 113] Mz N113_ := hb0_N104_.tr hsN113_ (by decide) (by decide)
                  have e16_N113_ : ze N113_ 81 16 = ze N104_ 81 16 := hsN113_.e (by decide)
                  have e26_N113_ : ze N113_ 81 26 = ze N104_ 81 26 := hsN113_.e (by decide)
                  have e60_N113_ : ze N113_ 81 60 = ze N104_ 81 60 := hsN113_.e (by decide)
                  have e63_N113_ : ze N113_ 81 63 = ze N104_ 81 63 := hsN113_.e (by decide)
                  have c114_ : zGB T N113_ := zGB.fr hsN113_ c106_ (by decide) (by decide)
                  have c115_ : zTab T N113_ := zTab.fr hsN113_ c107_ (by decide) (by decide)
                  have c116_ : zB 85 144 0 5 N113_ := zB.fr hsN113_ c108_ (by decide) (by decide)
                  have c117_ : zJX T N113_ := zJX.fr hsN113_ c109_ (by decide) (by decide)
                  have c118_ : zFirs T N113_ := zFirs.fr hsN113_ c110_ (by decide) (by decide)
                  have c119_ : zSSm T N113_ := zSSm.fr hsN113_ c111_ (by decide) (by decide)
                  have c120_ : zGD N113_ := zGD.fr hsN113_ c112_ (by decide) (by decide)
                  refine zr_iinc (pc := 62) (i := 3) (a := u63_) (n := 1) (L2 := [some (.ref 81), some (.int (Int32.ofInt a0_)), some (.int (Int32.ofInt a1_)), some (.int (Int32.ofInt (u63_ + 1)))]) rfl (by decide) rfl (zdal_p dlD_M_take_113 (i := 12) rfl) ?_
                  refine zw_goto (pc := 65) (tgt := 32) (by decide) (zdal_p dlD_M_take_113 (i := 13) rfl) ?_
                  exact ih_32 (u63_ + 1) (by omega) (by omega) N113_ hb0_N113_ (show 0 ≤ (u63_ + 1) by first | assumption | omega) (by omega)
            exact lp_32 _ 0 (by decide) (by decide) Mz zFr.rf (show 0 ≤ (0 : Int) by first | assumption | omega) (Nat.lt_succ_self _)
          · skip
            exact absurd hc_25 (by decide)
        · skip
          show zW l m_M_take (zn Mz + 0, zw Mz + 0) Mz 25 [some (.ref 81), some (.int (Int32.ofInt a0_)), some (.int (Int32.ofInt a1_)), none] [.int (Int32.ofInt 0)] _
          refine zr_if_ne (pc := 25) (tgt := 30) ⟨(by decide), (by decide)⟩ (by decide) (zdal_p dlD_M_take_112 (i := 13) rfl) (fun hc_25 => ?_) (fun hc_25 => ?_)
          · skip
            exact absurd hc_25 (by decide)
          · skip
            refine zw_iconst (pc := 28) (v := Int32.ofInt (-1)) (by decide) (zdal_p dlD_M_take_112 (i := 14) rfl) ?_
            exact zr_iret (pc := 29) (ty := .int) rfl rfl ⟨by omega, by omega⟩ hf ⟨(show 0 ≤ ze Mz 81 60 by first | assumption | omega), (show ze Mz 81 60 ≤ 12 by first | assumption | omega)⟩ (zdal_p dlD_M_take_112 (i := 15) rfl)
  · skip
    show zW l m_M_take (zn Mz + 0, zw Mz + 0) Mz 9 [some (.ref 81), some (.int (Int32.ofInt a0_)), some (.int (Int32.ofInt a1_)), none] [.int (Int32.ofInt 0)] _
    refine zr_if_eq (pc := 9) (tgt := 28) ⟨(by decide), (by decide)⟩ (by decide) (zdal_p dlD_M_take_112 (i := 5) rfl) (fun hc_9 => ?_) (fun hc_9 => ?_)
    · skip
      refine zw_iconst (pc := 28) (v := Int32.ofInt (-1)) (by decide) (zdal_p dlD_M_take_112 (i := 14) rfl) ?_
      exact zr_iret (pc := 29) (ty := .int) rfl rfl ⟨by omega, by omega⟩ hf ⟨(show 0 ≤ ze Mz 81 60 by first | assumption | omega), (show ze Mz 81 60 ≤ 12 by first | assumption | omega)⟩ (zdal_p dlD_M_take_112 (i := 15) rfl)
    · skip
      exact absurd hc_9 (by decide)
