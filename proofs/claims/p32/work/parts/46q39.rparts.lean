theorem z6b {x y : Int} (x0 : 0 ≤ x) (x1 : x < 64) (y0 : 0 ≤ y) (y1 : y < 64) : 0 ≤ zor x y ∧ zor x y < 64 := by
  obtain ⟨m, rfl⟩ := Int.eq_ofNat_of_zero_le x0
  obtain ⟨n, rfl⟩ := Int.eq_ofNat_of_zero_le y0
  rw [zor_n m n (by omega) (by omega)]
  have := Nat.or_lt_two_pow (n := 6) (x := m) (y := n) (by omega) (by omega)
  omega
theorem z6k : ∀ k : Fin 6, 0 ≤ zshl 1 ((k.val : Nat) : Int) ∧ zshl 1 ((k.val : Nat) : Int) < 64 := by decide +kernel
theorem z6a {x k : Int} (x0 : 0 ≤ x) (x1 : x < 64) (k0 : 0 ≤ k) (k1 : k ≤ 5) : 0 ≤ zor x (zshl 1 k) ∧ zor x (zshl 1 k) < 64 := by
  obtain ⟨n, rfl⟩ := Int.eq_ofNat_of_zero_le k0
  have h := z6k ⟨n, by omega⟩
  exact z6b x0 x1 h.1 h.2
def zPo (M : zMem) (n : Int) : Prop := ∀ k : Nat, (k : Int) < n → 0 ≤ ze M 112 k
theorem zPo_s {M N P : zMem} {u v : Int} (h : zPo M u) (hN : N = zsI M 112 u.toNat (Int32.ofInt v)) (hf : zFr [63] [] N P) (u0 : 0 ≤ u) (v0 : 0 ≤ v) (v1 : v ≤ 31) : zPo P (u + 1) := by
  intro k hk
  rw [hf.ie (by decide) (by decide)]
  by_cases e : (k : Int) = u
  · rw [show k = u.toNat by (exact zo_2187 e hk u0), zs_get hN ⟨by (exact zo_168 v0), by (exact zo_922 v1)⟩]
    exact v0
  · rw [zs_oth hN (by (exact zo_148 u0 e))]
    exact h k (by (exact zo_130 hk e))
theorem zPo_0 {M : zMem} : zPo M 0 := fun k hk => absurd hk (by (exact zo_131))
set_option maxHeartbeats 4000000 in
theorem c_M_laysParts (l : Launch) (Mz : zMem) (hW : zMt Mz) (a0_ : Int) (ha0_a : -2147483648 ≤ a0_) (ha0_b : a0_ < 2147483648) (T : zGT) (hO : gOK T) (p0_ : zGB T Mz) (p1_ : 1 ≤ ze Mz 81 16) (p2_ : ze Mz 81 16 ≤ 6) (p3_ : 0 ≤ a0_) : zC l m_M_laysParts 0 0 [.ref 81, .int (Int32.ofInt a0_)] Mz (zpV [63] [112] Mz (fun N => 0 ≤ ze N 81 63 ∧ ze N 81 63 ≤ 6 ∧ zPo N (ze N 81 63))) := by
  refine zC_of (L0 := [some (.ref 81), some (.int (Int32.ofInt a0_)), none, none, none, none]) md_M_laysParts (Nat.le_of_ble_eq_true rfl) rfl ?_ zQ0
  have hf : zFr [63] [112] Mz Mz := zFr.rf
  have r_16 := ze_r Mz 81 16
  have r_20 := ze_r Mz 81 20
  have r_63 := ze_r Mz 81 63
  have hG := hO.1
  have g24 := hG.2.1
  have g1 := hG.1
  have dv0 : zTab T Mz := p0_.1
  have dv1 : zB 85 144 0 5 Mz := p0_.2.1
  have dv2 : zJX T Mz := p0_.2.2.1
  have dv3 : zFirs T Mz := p0_.2.2.2.1
  have dv4 : zSSm T Mz := p0_.2.2.2.2.1
  have dv5 : zGD Mz := zGB.d hO p0_
  have gb := dv5.1
  have gn := dv0.1
  refine zw_aload_n (pc := 0) (n := 0) (x := 81) rfl (zdal_p dlD_M_laysParts_115 (i := 0) rfl) ?_
  refine zw_iconst (pc := 1) (v := Int32.ofInt 0) (by decide) (zdal_p dlD_M_laysParts_115 (i := 1) rfl) ?_
  refine zr_putI (hf.w hW) (pc := 2) f_M_487 rfl rfl ⟨by (decide), by (decide)⟩ rfl rfl (zdal_p dlD_M_laysParts_115 (i := 2) rfl) (fun N1_ hsN1_ hvN1_ => ?_)
  have hf_N1_ : zFr [63] [112] Mz N1_ := hf.tr hsN1_ (by decide) (by decide)
  have e16_N1_ : ze N1_ 81 16 = ze Mz 81 16 := hsN1_.e (by decide)
  have e20_N1_ : ze N1_ 81 20 = ze Mz 81 20 := hsN1_.e (by decide)
  have r63_N1_ := ze_r N1_ 81 63
  have c4_ : zB 85 144 0 5 N1_ := zB.fr hsN1_ dv1 (by decide) (by decide)
  refine zw_iconst (pc := 5) (v := Int32.ofInt 0) (by decide) (zdal_p dlD_M_laysParts_115 (i := 3) rfl) ?_
  refine zw_istore_n (pc := 6) (i := 2) (L2 := [some (.ref 81), some (.int (Int32.ofInt a0_)), some (.int (Int32.ofInt 0)), none, none, none]) rfl (by decide) rfl (zdal_p dlD_M_laysParts_115 (i := 4) rfl) ?_
  refine zw_iconst (pc := 7) (v := Int32.ofInt 0) (by decide) (zdal_p dlD_M_laysParts_115 (i := 5) rfl) ?_
  refine zw_istore_n (pc := 8) (i := 3) (L2 := [some (.ref 81), some (.int (Int32.ofInt a0_)), some (.int (Int32.ofInt 0)), some (.int (Int32.ofInt 0)), none, none]) rfl (by decide) rfl (zdal_p dlD_M_laysParts_115 (i := 6) rfl) ?_
  have lp_9 : ∀ (n : Nat) (u9_ : Int) (hu9_a : -2147483648 ≤ u9_) (hu9_b : u9_ < 2147483648) (u10_ : Int) (hu10_a : -2147483648 ≤ u10_) (hu10_b : u10_ < 2147483648) (N11_ : zMem) (hs12_ : zFr [63] [112] N1_ N11_) (i13_ : 0 ≤ u10_) (i14_ : 0 ≤ ze N11_ 81 63) (i15_ : ze N11_ 81 63 ≤ u10_) (i16_ : u10_ ≤ 6) (i17_ : 0 ≤ u9_) (i18_ : u9_ < 64) (i19_ : zPo N11_ (ze N11_ 81 63)), (ze Mz 81 16 - u10_).toNat < n → zW l m_M_laysParts (zn Mz + 0, zw Mz + 0) N11_ 9 [some (.ref 81), some (.int (Int32.ofInt a0_)), some (.int (Int32.ofInt u9_)), some (.int (Int32.ofInt u10_)), none, none] [] (zpV [63] [112] Mz (fun N => 0 ≤ ze N 81 63 ∧ ze N 81 63 ≤ 6 ∧ zPo N (ze N 81 63))) := by
    intro n
    induction n with
    | zero =>
      intro u9_ hu9_a hu9_b u10_ hu10_a hu10_b N11_ hs12_ i13_ i14_ i15_ i16_ i17_ i18_ i19_ h0
      exact absurd h0 (Nat.not_lt_zero _)
    | succ n ih_9 =>
      intro u9_ hu9_a hu9_b u10_ hu10_a hu10_b N11_ hs12_ i13_ i14_ i15_ i16_ i17_ i18_ i19_ hlt_9
      have hf_N11_ : zFr [63] [112] Mz N11_ := hf_N1_.tr hs12_ (by decide) (by decide)
      have e16_N11_ : ze N11_ 81 16 = ze N1_ 81 16 := hs12_.e (by decide)
      have e20_N11_ : ze N11_ 81 20 = ze N1_ 81 20 := hs12_.e (by decide)
      have r63_N11_ := ze_r N11_ 81 63
      have c22_ : zB 85 144 0 5 N11_ := zB.fr hs12_ c4_ (by decide) (by decide)
      refine zw_iload_n (pc := 9) (n := 3) (x := Int32.ofInt u10_) rfl (zdal_p dlD_M_laysParts_115 (i := 7) rfl) ?_
      refine zw_aload_n (pc := 10) (n := 0) (x := 81) rfl (zdal_p dlD_M_laysParts_115 (i := 8) rfl) ?_
      refine zr_getI0 hf_N11_ hW (pc := 11) (by decide) f_M_382 rfl (zdal_p dlD_M_laysParts_115 (i := 9) rfl) ?_
      refine zr_icmp_ge (pc := 14) (tgt := 112) ⟨hu10_a, hu10_b⟩ ⟨(ze_r Mz 81 16).1, (ze_r Mz 81 16).2⟩ (by decide) (zdal_p dlD_M_laysParts_115 (i := 10) rfl) (fun hc_14 => ?_) (fun hc_14 => ?_)
      · skip
        exact zr_vret (pc := 112) rfl hf_N11_ ⟨(show 0 ≤ ze N11_ 81 63 by first | with_reducible assumption | assumption | omega), (show ze N11_ 81 63 ≤ 6 by first | with_reducible assumption | assumption | omega), (show zPo N11_ (ze N11_ 81 63) by first | with_reducible assumption | assumption | omega)⟩ (zdal_p dlD_M_laysParts_117 (i := 14) rfl)
      · skip
        refine zw_iload_n (pc := 17) (n := 2) (x := Int32.ofInt u9_) rfl (zdal_p dlD_M_laysParts_115 (i := 11) rfl) ?_
        refine zw_iload_n (pc := 18) (n := 3) (x := Int32.ofInt u10_) rfl (zdal_p dlD_M_laysParts_115 (i := 12) rfl) ?_
        refine zr_callS hf_N11_.x (pc := 19) [.int (Int32.ofInt u9_), .int (Int32.ofInt u10_)] [] l_M_213 (c_M_holds l N11_ (hf_N11_.w hW) u9_ hu9_a hu9_b u10_ hu10_a hu10_b (show 0 ≤ u9_ by first | with_reducible assumption | assumption | omega) (show 0 ≤ u10_ by first | with_reducible assumption | assumption | omega) (show u10_ < 32 by first | with_reducible assumption | assumption | omega)) rfl rfl (by decide) (Nat.le_of_ble_eq_true rfl) (zdal_p dlD_M_laysParts_115 (i := 13) rfl) ?_
        rintro _ N27_ ⟨v28_, rfl, ⟨hv28_a, hv28_b⟩, hsN27_, hp0_N27_⟩
        obtain rfl := hsN27_.eq.symm
        replace hp0_N27_ : ((v28_ = 1 ∧ zbt u9_ u10_) ∨ (v28_ = 0 ∧ ¬ zbt u9_ u10_)) := hp0_N27_
        rcases hp0_N27_ with ⟨rfl, ha19_0_hp0_N27_⟩ | ⟨rfl, ha19_0_hp0_N27_⟩
        · skip
          show zW l m_M_laysParts (zn Mz + 0, zw Mz + 0) N11_ 22 [some (.ref 81), some (.int (Int32.ofInt a0_)), some (.int (Int32.ofInt u9_)), some (.int (Int32.ofInt u10_)), none, none] [.int (Int32.ofInt 1)] _
          refine zr_if_eq (pc := 22) (tgt := 28) ⟨(by decide), (by decide)⟩ (by decide) (zdal_p dlD_M_laysParts_115 (i := 14) rfl) (fun hc_22 => ?_) (fun hc_22 => ?_)
          · skip
            exact absurd hc_22 (by decide)
          · skip
            refine zw_goto (pc := 25) (tgt := 106) (by decide) (zdal_p dlD_M_laysParts_115 (i := 15) rfl) ?_
            refine zr_iinc (pc := 106) (i := 3) (a := u10_) (n := 1) (L2 := [some (.ref 81), some (.int (Int32.ofInt a0_)), some (.int (Int32.ofInt u9_)), some (.int (Int32.ofInt (u10_ + 1))), none, none]) rfl (by decide) rfl (zdal_p dlD_M_laysParts_117 (i := 12) rfl) ?_
            refine zw_goto (pc := 109) (tgt := 9) (by decide) (zdal_p dlD_M_laysParts_117 (i := 13) rfl) ?_
            exact ih_9 u9_ hu9_a hu9_b (u10_ + 1) (by (exact zo_74 i13_)) (by (exact zo_854 i16_)) N11_ hs12_ (show 0 ≤ (u10_ + 1) by first | with_reducible assumption | (exact zo_76 i13_) | assumption) (show 0 ≤ ze N11_ 81 63 by first | with_reducible assumption | assumption | omega) (show ze N11_ 81 63 ≤ (u10_ + 1) by first | with_reducible assumption | (exact zo_961 i15_) | assumption) (show (u10_ + 1) ≤ 6 by first | with_reducible assumption | assumption | omega) (show 0 ≤ u9_ by first | with_reducible assumption | assumption | omega) (show u9_ < 64 by first | with_reducible assumption | assumption | omega) (show zPo N11_ (ze N11_ 81 63) by first | with_reducible assumption | assumption | omega) (by (exact zo_147 hc_14 hlt_9))
        · skip
          show zW l m_M_laysParts (zn Mz + 0, zw Mz + 0) N11_ 22 [some (.ref 81), some (.int (Int32.ofInt a0_)), some (.int (Int32.ofInt u9_)), some (.int (Int32.ofInt u10_)), none, none] [.int (Int32.ofInt 0)] _
          refine zr_if_eq (pc := 22) (tgt := 28) ⟨(by decide), (by decide)⟩ (by decide) (zdal_p dlD_M_laysParts_115 (i := 14) rfl) (fun hc_22 => ?_) (fun hc_22 => ?_)
          · skip
            refine zw_iconst (pc := 28) (v := Int32.ofInt 0) (by decide) (zdal_p dlD_M_laysParts_115 (i := 16) rfl) ?_
            refine zw_istore (pc := 29) (i := 4) (L2 := [some (.ref 81), some (.int (Int32.ofInt a0_)), some (.int (Int32.ofInt u9_)), some (.int (Int32.ofInt u10_)), some (.int (Int32.ofInt 0)), none]) (by decide) rfl (zdal_p dlD_M_laysParts_115 (i := 17) rfl) ?_
            refine zw_iconst (pc := 31) (v := Int32.ofInt 0) (by decide) (zdal_p dlD_M_laysParts_115 (i := 18) rfl) ?_
            refine zw_istore (pc := 32) (i := 5) (L2 := [some (.ref 81), some (.int (Int32.ofInt a0_)), some (.int (Int32.ofInt u9_)), some (.int (Int32.ofInt u10_)), some (.int (Int32.ofInt 0)), some (.int (Int32.ofInt 0))]) (by decide) rfl (zdal_p dlD_M_laysParts_115 (i := 19) rfl) ?_
            have lp_34 : ∀ (n : Nat) (u29_ : Int) (hu29_a : -2147483648 ≤ u29_) (hu29_b : u29_ < 2147483648) (u30_ : Int) (hu30_a : -2147483648 ≤ u30_) (hu30_b : u30_ < 2147483648) (i31_ : 0 ≤ u30_) (i32_ : 0 ≤ u29_) (i33_ : u29_ < 64), (ze Mz 81 20 - u30_).toNat < n → zW l m_M_laysParts (zn Mz + 0, zw Mz + 0) N11_ 34 [some (.ref 81), some (.int (Int32.ofInt a0_)), some (.int (Int32.ofInt u9_)), some (.int (Int32.ofInt u10_)), some (.int (Int32.ofInt u29_)), some (.int (Int32.ofInt u30_))] [] (zpV [63] [112] Mz (fun N => 0 ≤ ze N 81 63 ∧ ze N 81 63 ≤ 6 ∧ zPo N (ze N 81 63))) := by
              intro n
              induction n with
              | zero =>
                intro u29_ hu29_a hu29_b u30_ hu30_a hu30_b i31_ i32_ i33_ h0
                exact absurd h0 (Nat.not_lt_zero _)
              | succ n ih_34 =>
                intro u29_ hu29_a hu29_b u30_ hu30_a hu30_b i31_ i32_ i33_ hlt_34
                refine zw_iload (pc := 34) (i := 5) (x := Int32.ofInt u30_) rfl (zdal_p dlD_M_laysParts_115 (i := 20) rfl) ?_
                refine zw_aload_n (pc := 36) (n := 0) (x := 81) rfl (zdal_p dlD_M_laysParts_115 (i := 21) rfl) ?_
                refine zr_getI0 hf_N11_ hW (pc := 37) (by decide) f_M_196 rfl (zdal_p dlD_M_laysParts_115 (i := 22) rfl) ?_
                refine zr_icmp_ge (pc := 40) (tgt := 77) ⟨hu30_a, hu30_b⟩ ⟨(ze_r Mz 81 20).1, (ze_r Mz 81 20).2⟩ (by decide) (zdal_p dlD_M_laysParts_115 (i := 23) rfl) (fun hc_40 => ?_) (fun hc_40 => ?_)
                · skip
                  refine zw_aload_n (pc := 77) (n := 0) (x := 81) rfl (zdal_p dlD_M_laysParts_116 (i := 19) rfl) ?_
                  refine zr_getF (r := 112) (hf_N11_.w hW) (pc := 78) f_M_109 rfl (zh_112 (hf_N11_.w hW)).1 (zdal_p dlD_M_laysParts_116 (i := 20) rfl) ?_
                  refine zw_aload_n (pc := 81) (n := 0) (x := 81) rfl (zdal_p dlD_M_laysParts_116 (i := 21) rfl) ?_
                  refine zr_getI (hf_N11_.w hW) (pc := 82) f_M_487 rfl (zdal_p dlD_M_laysParts_116 (i := 22) rfl) ?_
                  refine zw_iload (pc := 85) (i := 4) (x := Int32.ofInt u29_) rfl (zdal_p dlD_M_laysParts_116 (i := 23) rfl) ?_
                  refine zr_callS hf_N11_.x (pc := 87) [.int (Int32.ofInt u29_)] [.int (Int32.ofInt (ze N11_ 81 63)), .ref 112] l_M_253 (c_M_ones l N11_ (hf_N11_.w hW) u29_ hu29_a hu29_b (show 0 ≤ u29_ by first | with_reducible assumption | assumption | omega)) rfl rfl (by decide) (Nat.le_of_ble_eq_true rfl) (zdal_p dlD_M_laysParts_117 (i := 0) rfl) ?_
                  rintro _ N34_ ⟨v35_, rfl, ⟨hv35_a, hv35_b⟩, hsN34_, ⟨hp0_N34_, hp1_N34_, hp2_N34_⟩⟩
                  obtain rfl := hsN34_.eq.symm
                  show zW l m_M_laysParts (zn Mz + 0, zw Mz + 0) N11_ 90 [some (.ref 81), some (.int (Int32.ofInt a0_)), some (.int (Int32.ofInt u9_)), some (.int (Int32.ofInt u10_)), some (.int (Int32.ofInt u29_)), some (.int (Int32.ofInt u30_))] [.int (Int32.ofInt v35_), .int (Int32.ofInt (ze N11_ 81 63)), .ref 112] _
                  refine zr_iast (pc := 90) (zh_112 (hf_N11_.w hW)).2 (by decide) (by decide) (by (exact i14_)) (by omega) (zdal_p dlD_M_laysParts_117 (i := 1) rfl) (fun N36_ hN36_ hsN36_ => ?_)
                  have hf_N36_ : zFr [63] [112] Mz N36_ := hf_N11_.tr hsN36_ (by decide) (by decide)
                  have hb0_N36_ : zFr [63] [112] N1_ N36_ := hs12_.tr hsN36_ (by decide) (by decide)
                  have e16_N36_ : ze N36_ 81 16 = ze N11_ 81 16 := hsN36_.e (by decide)
                  have e20_N36_ : ze N36_ 81 20 = ze N11_ 81 20 := hsN36_.e (by decide)
                  have e63_N36_ : ze N36_ 81 63 = ze N11_ 81 63 := hsN36_.e (by decide)
                  refine zw_aload_n (pc := 91) (n := 0) (x := 81) rfl (zdal_p dlD_M_laysParts_117 (i := 2) rfl) ?_
                  refine zw_dup (pc := 92) rfl (zdal_p dlD_M_laysParts_117 (i := 3) rfl) ?_
                  refine zr_getI (hf_N36_.w hW) (pc := 93) f_M_487 rfl (zdal_p dlD_M_laysParts_117 (i := 4) rfl) ?_
                  refine zw_iconst (pc := 96) (v := Int32.ofInt 1) (by decide) (zdal_p dlD_M_laysParts_117 (i := 5) rfl) ?_
                  refine zr_iadd (pc := 97) (zdal_p dlD_M_laysParts_117 (i := 6) rfl) ?_
                  refine zr_putI (hf_N36_.w hW) (pc := 98) f_M_487 rfl rfl ⟨by (exact zo_1205 e63_N36_ i14_), by omega⟩ rfl rfl (zdal_p dlD_M_laysParts_117 (i := 7) rfl) (fun N44_ hsN44_ hvN44_ => ?_)
                  have hf_N44_ : zFr [63] [112] Mz N44_ := hf_N36_.tr hsN44_ (by decide) (by decide)
                  have hb0_N44_ : zFr [63] [112] N1_ N44_ := hb0_N36_.tr hsN44_ (by decide) (by decide)
                  have e16_N44_ : ze N44_ 81 16 = ze N36_ 81 16 := hsN44_.e (by decide)
                  have e20_N44_ : ze N44_ 81 20 = ze N36_ 81 20 := hsN44_.e (by decide)
                  have r63_N44_ := ze_r N44_ 81 63
                  have hPs := zPo_s (show zPo N11_ (ze N11_ 81 63) by first | with_reducible assumption | assumption) hN36_ hsN44_ (by (exact i14_)) (by (exact hp1_N34_)) (by (exact hp2_N34_))
                  rw [show ze N11_ 81 63 + 1 = ze N44_ 81 63 by omega] at hPs
                  refine zw_iload_n (pc := 101) (n := 2) (x := Int32.ofInt u9_) rfl (zdal_p dlD_M_laysParts_117 (i := 8) rfl) ?_
                  refine zw_iload (pc := 102) (i := 4) (x := Int32.ofInt u29_) rfl (zdal_p dlD_M_laysParts_117 (i := 9) rfl) ?_
                  refine zr_ior (pc := 104) (zdal_p dlD_M_laysParts_117 (i := 10) rfl) ?_
                  have hr52_ := zor_r u9_ u29_
                  have hz7 := z6b (x := u9_) (y := u29_) (by (exact i17_)) (by (exact i18_)) (by (exact i32_)) (by (exact i33_))
                  refine zw_istore_n (pc := 105) (i := 2) (L2 := [some (.ref 81), some (.int (Int32.ofInt a0_)), some (.int (Int32.ofInt (zor u9_ u29_))), some (.int (Int32.ofInt u10_)), some (.int (Int32.ofInt u29_)), some (.int (Int32.ofInt u30_))]) rfl (by decide) rfl (zdal_p dlD_M_laysParts_117 (i := 11) rfl) ?_
                  refine zr_iinc (pc := 106) (i := 3) (a := u10_) (n := 1) (L2 := [some (.ref 81), some (.int (Int32.ofInt a0_)), some (.int (Int32.ofInt (zor u9_ u29_))), some (.int (Int32.ofInt (u10_ + 1))), some (.int (Int32.ofInt u29_)), some (.int (Int32.ofInt u30_))]) rfl (by decide) rfl (zdal_p dlD_M_laysParts_117 (i := 12) rfl) ?_
                  refine zw_goto (pc := 109) (tgt := 9) (by decide) (zdal_p dlD_M_laysParts_117 (i := 13) rfl) ?_
                  refine zW_le [some (.ref 81), some (.int (Int32.ofInt a0_)), some (.int (Int32.ofInt (zor u9_ u29_))), some (.int (Int32.ofInt (u10_ + 1))), none, none] (⟨rfl, rfl, rfl, rfl, trivial⟩) ?_
                  exact ih_9 (zor u9_ u29_) (by (exact zo_168 hz7.1)) (by omega) (u10_ + 1) (by (exact zo_74 i13_)) (by (exact zo_854 i16_)) N44_ hb0_N44_ (show 0 ≤ (u10_ + 1) by first | with_reducible assumption | (exact zo_76 i13_) | assumption) (show 0 ≤ ze N44_ 81 63 by first | with_reducible assumption | assumption | omega) (show ze N44_ 81 63 ≤ (u10_ + 1) by first | with_reducible assumption | assumption | omega) (show (u10_ + 1) ≤ 6 by first | with_reducible assumption | assumption | omega) (show 0 ≤ (zor u9_ u29_) by first | with_reducible assumption | (exact zo_57 hz7.1) | assumption) (show (zor u9_ u29_) < 64 by first | with_reducible assumption | assumption | omega) (show zPo N44_ (ze N44_ 81 63) by first | with_reducible assumption | assumption | omega) (by (exact zo_147 hc_14 hlt_9))
                · skip
                  refine zw_iload_n (pc := 43) (n := 1) (x := Int32.ofInt a0_) rfl (zdal_p dlD_M_laysParts_116 (i := 0) rfl) ?_
                  refine zw_iload (pc := 44) (i := 5) (x := Int32.ofInt u30_) rfl (zdal_p dlD_M_laysParts_116 (i := 1) rfl) ?_
                  refine zr_callS hf_N11_.x (pc := 46) [.int (Int32.ofInt a0_), .int (Int32.ofInt u30_)] [] l_M_213 (c_M_holds l N11_ (hf_N11_.w hW) a0_ ha0_a ha0_b u30_ hu30_a hu30_b (show 0 ≤ a0_ by first | with_reducible assumption | assumption | omega) (show 0 ≤ u30_ by first | with_reducible assumption | assumption | omega) (show u30_ < 32 by first | with_reducible assumption | (exact zo_918 gb.2.1 hc_40) | assumption)) rfl rfl (by decide) (Nat.le_of_ble_eq_true rfl) (zdal_p dlD_M_laysParts_116 (i := 2) rfl) ?_
                  rintro _ N53_ ⟨v54_, rfl, ⟨hv54_a, hv54_b⟩, hsN53_, hp0_N53_⟩
                  obtain rfl := hsN53_.eq.symm
                  replace hp0_N53_ : ((v54_ = 1 ∧ zbt a0_ u30_) ∨ (v54_ = 0 ∧ ¬ zbt a0_ u30_)) := hp0_N53_
                  rcases hp0_N53_ with ⟨rfl, ha46_0_hp0_N53_⟩ | ⟨rfl, ha46_0_hp0_N53_⟩
                  · skip
                    show zW l m_M_laysParts (zn Mz + 0, zw Mz + 0) N11_ 49 [some (.ref 81), some (.int (Int32.ofInt a0_)), some (.int (Int32.ofInt u9_)), some (.int (Int32.ofInt u10_)), some (.int (Int32.ofInt u29_)), some (.int (Int32.ofInt u30_))] [.int (Int32.ofInt 1)] _
                    refine zr_if_eq (pc := 49) (tgt := 71) ⟨(by decide), (by decide)⟩ (by decide) (zdal_p dlD_M_laysParts_116 (i := 3) rfl) (fun hc_49 => ?_) (fun hc_49 => ?_)
                    · skip
                      exact absurd hc_49 (by decide)
                    · skip
                      refine zw_iload (pc := 52) (i := 4) (x := Int32.ofInt u29_) rfl (zdal_p dlD_M_laysParts_116 (i := 4) rfl) ?_
                      refine zw_iconst (pc := 54) (v := Int32.ofInt 1) (by decide) (zdal_p dlD_M_laysParts_116 (i := 5) rfl) ?_
                      refine zw_aload_n (pc := 55) (n := 0) (x := 81) rfl (zdal_p dlD_M_laysParts_116 (i := 6) rfl) ?_
                      refine zr_getF (r := 85) (hf_N11_.w hW) (pc := 56) f_M_26 rfl (zh_85 (hf_N11_.w hW)).1 (zdal_p dlD_M_laysParts_116 (i := 7) rfl) ?_
                      refine zw_bipush (pc := 59) (v := Int32.ofInt 6) (by decide) (zdal_p dlD_M_laysParts_116 (i := 8) rfl) ?_
                      refine zw_iload (pc := 61) (i := 5) (x := Int32.ofInt u30_) rfl (zdal_p dlD_M_laysParts_116 (i := 9) rfl) ?_
                      refine zr_imul (pc := 63) (zdal_p dlD_M_laysParts_116 (i := 10) rfl) ?_
                      refine zw_iload_n (pc := 64) (n := 3) (x := Int32.ofInt u10_) rfl (zdal_p dlD_M_laysParts_116 (i := 11) rfl) ?_
                      refine zr_iadd (pc := 65) (zdal_p dlD_M_laysParts_116 (i := 12) rfl) ?_
                      refine zr_ialdn (pc := 66) (zh_85 (hf_N11_.w hW)).2 (by decide) (by (exact zo_709 i13_ i31_)) (by omega) (zdal_p dlD_M_laysParts_116 (i := 13) rfl) (fun v55_ hv55_ hv55_a hv55_b => ?_)
                      have hr56_ := c22_.g (e := (6 * u30_) + u10_) (by (exact zo_709 i13_ i31_)) (by omega)
                      rw [← hv55_] at hr56_
                      rw [hf_N11_.ie (by decide) (by decide)] at hv55_
                      have hz6 := z6a (x := u29_) (k := v55_) (by (exact i32_)) (by (exact i33_)) (by (exact zo_57 hr56_.1)) (by omega)
                      refine zr_ishl (pc := 67) (zdal_p dlD_M_laysParts_116 (i := 14) rfl) ?_
                      have hr57_ := zshl_r 1 v55_
                      refine zr_ior (pc := 68) (zdal_p dlD_M_laysParts_116 (i := 15) rfl) ?_
                      have hr58_ := zor_r u29_ (zshl 1 v55_)
                      refine zw_istore (pc := 69) (i := 4) (L2 := [some (.ref 81), some (.int (Int32.ofInt a0_)), some (.int (Int32.ofInt u9_)), some (.int (Int32.ofInt u10_)), some (.int (Int32.ofInt (zor u29_ (zshl 1 v55_)))), some (.int (Int32.ofInt u30_))]) (by decide) rfl (zdal_p dlD_M_laysParts_116 (i := 16) rfl) ?_
                      refine zr_iinc (pc := 71) (i := 5) (a := u30_) (n := 1) (L2 := [some (.ref 81), some (.int (Int32.ofInt a0_)), some (.int (Int32.ofInt u9_)), some (.int (Int32.ofInt u10_)), some (.int (Int32.ofInt (zor u29_ (zshl 1 v55_)))), some (.int (Int32.ofInt (u30_ + 1)))]) rfl (by decide) rfl (zdal_p dlD_M_laysParts_116 (i := 17) rfl) ?_
                      refine zw_goto (pc := 74) (tgt := 34) (by decide) (zdal_p dlD_M_laysParts_116 (i := 18) rfl) ?_
                      exact ih_34 (zor u29_ (zshl 1 v55_)) (by (exact zo_168 hz6.1)) (by omega) (u30_ + 1) (by (exact zo_74 i31_)) (by (exact zo_919 gb.2.1 hc_40)) (show 0 ≤ (u30_ + 1) by first | with_reducible assumption | (exact zo_76 i31_) | assumption) (show 0 ≤ (zor u29_ (zshl 1 v55_)) by first | with_reducible assumption | (exact zo_57 hz6.1) | assumption) (show (zor u29_ (zshl 1 v55_)) < 64 by first | with_reducible assumption | assumption | omega) (by (exact zo_147 hc_40 hlt_34))
                  · skip
                    show zW l m_M_laysParts (zn Mz + 0, zw Mz + 0) N11_ 49 [some (.ref 81), some (.int (Int32.ofInt a0_)), some (.int (Int32.ofInt u9_)), some (.int (Int32.ofInt u10_)), some (.int (Int32.ofInt u29_)), some (.int (Int32.ofInt u30_))] [.int (Int32.ofInt 0)] _
                    refine zr_if_eq (pc := 49) (tgt := 71) ⟨(by decide), (by decide)⟩ (by decide) (zdal_p dlD_M_laysParts_116 (i := 3) rfl) (fun hc_49 => ?_) (fun hc_49 => ?_)
                    · skip
                      refine zr_iinc (pc := 71) (i := 5) (a := u30_) (n := 1) (L2 := [some (.ref 81), some (.int (Int32.ofInt a0_)), some (.int (Int32.ofInt u9_)), some (.int (Int32.ofInt u10_)), some (.int (Int32.ofInt u29_)), some (.int (Int32.ofInt (u30_ + 1)))]) rfl (by decide) rfl (zdal_p dlD_M_laysParts_116 (i := 17) rfl) ?_
                      refine zw_goto (pc := 74) (tgt := 34) (by decide) (zdal_p dlD_M_laysParts_116 (i := 18) rfl) ?_
                      exact ih_34 u29_ hu29_a hu29_b (u30_ + 1) (by (exact zo_74 i31_)) (by (exact zo_919 gb.2.1 hc_40)) (show 0 ≤ (u30_ + 1) by first | with_reducible assumption | (exact zo_76 i31_) | assumption) (show 0 ≤ u29_ by first | with_reducible assumption | assumption | omega) (show u29_ < 64 by first | with_reducible assumption | assumption | omega) (by (exact zo_147 hc_40 hlt_34))
                    · skip
                      exact absurd hc_49 (by decide)
            exact lp_34 _ 0 (by decide) (by decide) 0 (by decide) (by decide) (show 0 ≤ (0 : Int) by first | with_reducible assumption | (decide) | assumption) (show 0 ≤ (0 : Int) by first | with_reducible assumption | (decide) | assumption) (show (0 : Int) < 64 by first | with_reducible assumption | (decide) | assumption) (Nat.lt_succ_self _)
          · skip
            exact absurd hc_22 (by decide)
  exact lp_9 _ 0 (by decide) (by decide) 0 (by decide) (by decide) N1_ zFr.rf (show 0 ≤ (0 : Int) by first | with_reducible assumption | (decide) | assumption) (show 0 ≤ ze N1_ 81 63 by first | with_reducible assumption | (exact zo_718 hvN1_) | assumption) (show ze N1_ 81 63 ≤ (0 : Int) by first | with_reducible assumption | (exact zo_2497 hvN1_) | assumption) (show (0 : Int) ≤ 6 by first | with_reducible assumption | (decide) | assumption) (show 0 ≤ (0 : Int) by first | with_reducible assumption | (decide) | assumption) (show (0 : Int) < 64 by first | with_reducible assumption | (decide) | assumption) (show zPo N1_ (ze N1_ 81 63) by rw [show ze N1_ 81 63 = 0 by (exact hvN1_)]; exact zPo_0) (Nat.lt_succ_self _)
set_option maxHeartbeats 4000000 in
theorem c_M_setsOf (l : Launch) (Mz : zMem) (hW : zMt Mz) (a0_ : Int) (ha0_a : -2147483648 ≤ a0_) (ha0_b : a0_ < 2147483648) (p0_ : 0 ≤ ze Mz 81 63) (p1_ : ze Mz 81 63 ≤ 6) (p2_ : zPo Mz (ze Mz 81 63)) (p3_ : 0 ≤ a0_) (p4_ : a0_ ≤ 6) : zC l m_M_setsOf 0 0 [.ref 81, .int (Int32.ofInt a0_)] Mz (zpI [] [113] Mz (fun v N => True)) := by
  refine zC_of (L0 := [some (.ref 81), some (.int (Int32.ofInt a0_)), none, none]) md_M_setsOf (Nat.le_of_ble_eq_true rfl) rfl ?_ zQ0
  have hf : zFr [] [113] Mz Mz := zFr.rf
  have r_63 := ze_r Mz 81 63
  refine zw_iconst (pc := 0) (v := Int32.ofInt 0) (by decide) (zdal_p dlD_M_setsOf_121 (i := 0) rfl) ?_
  refine zw_istore_n (pc := 1) (i := 2) (L2 := [some (.ref 81), some (.int (Int32.ofInt a0_)), some (.int (Int32.ofInt 0)), none]) rfl (by decide) rfl (zdal_p dlD_M_setsOf_121 (i := 1) rfl) ?_
  have lp_2 : ∀ (n : Nat) (u1_ : Int) (hu1_a : -2147483648 ≤ u1_) (hu1_b : u1_ < 2147483648) (N2_ : zMem) (hs3_ : zFr [] [113] Mz N2_) (i4_ : 0 ≤ u1_), (7 - u1_).toNat < n → zW l m_M_setsOf (zn Mz + 0, zw Mz + 0) N2_ 2 [some (.ref 81), some (.int (Int32.ofInt a0_)), some (.int (Int32.ofInt u1_)), none] [] (zpI [] [113] Mz (fun v N => True)) := by
    intro n
    induction n with
    | zero =>
      intro u1_ hu1_a hu1_b N2_ hs3_ i4_ h0
      exact absurd h0 (Nat.not_lt_zero _)
    | succ n ih_2 =>
      intro u1_ hu1_a hu1_b N2_ hs3_ i4_ hlt_2
      have hf_N2_ : zFr [] [113] Mz N2_ := hf.tr hs3_ (by decide) (by decide)
      have e63_N2_ : ze N2_ 81 63 = ze Mz 81 63 := hs3_.e (by decide)
      refine zw_iload_n (pc := 2) (n := 2) (x := Int32.ofInt u1_) rfl (zdal_p dlD_M_setsOf_121 (i := 2) rfl) ?_
      refine zw_bipush (pc := 3) (v := Int32.ofInt 7) (by decide) (zdal_p dlD_M_setsOf_121 (i := 3) rfl) ?_
      refine zr_icmp_ge (pc := 5) (tgt := 32) ⟨hu1_a, hu1_b⟩ ⟨(by decide), (by decide)⟩ (by decide) (zdal_p dlD_M_setsOf_121 (i := 4) rfl) (fun hc_5 => ?_) (fun hc_5 => ?_)
      · skip
        refine zw_iconst (pc := 32) (v := Int32.ofInt 0) (by decide) (zdal_p dlD_M_setsOf_121 (i := 17) rfl) ?_
        refine zw_istore_n (pc := 33) (i := 2) (L2 := [some (.ref 81), some (.int (Int32.ofInt a0_)), some (.int (Int32.ofInt 0)), none]) rfl (by decide) rfl (zdal_p dlD_M_setsOf_121 (i := 18) rfl) ?_
        have lp_34 : ∀ (n : Nat) (u5_ : Int) (hu5_a : -2147483648 ≤ u5_) (hu5_b : u5_ < 2147483648) (N6_ : zMem) (hs7_ : zFr [] [113] N2_ N6_) (i8_ : 0 ≤ u5_), (ze Mz 81 63 - u5_).toNat < n → zW l m_M_setsOf (zn Mz + 0, zw Mz + 0) N6_ 34 [some (.ref 81), some (.int (Int32.ofInt a0_)), some (.int (Int32.ofInt u5_)), none] [] (zpI [] [113] Mz (fun v N => True)) := by
          intro n
          induction n with
          | zero =>
            intro u5_ hu5_a hu5_b N6_ hs7_ i8_ h0
            exact absurd h0 (Nat.not_lt_zero _)
          | succ n ih_34 =>
            intro u5_ hu5_a hu5_b N6_ hs7_ i8_ hlt_34
            have hf_N6_ : zFr [] [113] Mz N6_ := hf_N2_.tr hs7_ (by decide) (by decide)
            have e63_N6_ : ze N6_ 81 63 = ze N2_ 81 63 := hs7_.e (by decide)
            refine zw_iload_n (pc := 34) (n := 2) (x := Int32.ofInt u5_) rfl (zdal_p dlD_M_setsOf_121 (i := 19) rfl) ?_
            refine zw_aload_n (pc := 35) (n := 0) (x := 81) rfl (zdal_p dlD_M_setsOf_121 (i := 20) rfl) ?_
            refine zr_getI0 hf_N6_ hW (pc := 36) (by decide) f_M_487 rfl (zdal_p dlD_M_setsOf_121 (i := 21) rfl) ?_
            refine zr_icmp_ge (pc := 39) (tgt := 89) ⟨hu5_a, hu5_b⟩ ⟨(ze_r Mz 81 63).1, (ze_r Mz 81 63).2⟩ (by decide) (zdal_p dlD_M_setsOf_121 (i := 22) rfl) (fun hc_39 => ?_) (fun hc_39 => ?_)
            · skip
              refine zw_aload_n (pc := 89) (n := 0) (x := 81) rfl (zdal_p dlD_M_setsOf_123 (i := 3) rfl) ?_
              refine zr_getF (r := 113) (hf_N6_.w hW) (pc := 90) f_M_112 rfl (zh_113 (hf_N6_.w hW)).1 (zdal_p dlD_M_setsOf_123 (i := 4) rfl) ?_
              refine zw_iload_n (pc := 93) (n := 1) (x := Int32.ofInt a0_) rfl (zdal_p dlD_M_setsOf_123 (i := 5) rfl) ?_
              refine zr_ialdn (pc := 94) (zh_113 (hf_N6_.w hW)).2 (by decide) (by (exact p3_)) (by (exact zo_2498 p4_)) (zdal_p dlD_M_setsOf_123 (i := 6) rfl) (fun v9_ hv9_ hv9_a hv9_b => ?_)
              exact zr_iret (pc := 95) (ty := .int) rfl rfl ⟨by (exact hv9_a), by (exact hv9_b)⟩ hf_N6_ trivial (zdal_p dlD_M_setsOf_123 (i := 7) rfl)
            · skip
              refine zw_bipush (pc := 42) (v := Int32.ofInt 6) (by decide) (zdal_p dlD_M_setsOf_121 (i := 23) rfl) ?_
              refine zw_istore_n (pc := 44) (i := 3) (L2 := [some (.ref 81), some (.int (Int32.ofInt a0_)), some (.int (Int32.ofInt u5_)), some (.int (Int32.ofInt 6))]) rfl (by decide) rfl (zdal_p dlD_M_setsOf_122 (i := 0) rfl) ?_
              have lp_45 : ∀ (n : Nat) (u10_ : Int) (hu10_a : -2147483648 ≤ u10_) (hu10_b : u10_ < 2147483648) (N11_ : zMem) (hs12_ : zFr [] [113] N6_ N11_) (i13_ : u10_ ≤ 6) (i14_ : -1 ≤ u10_), (u10_ + 1).toNat < n → zW l m_M_setsOf (zn Mz + 0, zw Mz + 0) N11_ 45 [some (.ref 81), some (.int (Int32.ofInt a0_)), some (.int (Int32.ofInt u5_)), some (.int (Int32.ofInt u10_))] [] (zpI [] [113] Mz (fun v N => True)) := by
                intro n
                induction n with
                | zero =>
                  intro u10_ hu10_a hu10_b N11_ hs12_ i13_ i14_ h0
                  exact absurd h0 (Nat.not_lt_zero _)
                | succ n ih_45 =>
                  intro u10_ hu10_a hu10_b N11_ hs12_ i13_ i14_ hlt_45
                  have hf_N11_ : zFr [] [113] Mz N11_ := hf_N6_.tr hs12_ (by decide) (by decide)
                  have hb0_N11_ : zFr [] [113] N2_ N11_ := hs7_.tr hs12_ (by decide) (by decide)
                  have e63_N11_ : ze N11_ 81 63 = ze N6_ 81 63 := hs12_.e (by decide)
                  refine zw_iload_n (pc := 45) (n := 3) (x := Int32.ofInt u10_) rfl (zdal_p dlD_M_setsOf_122 (i := 1) rfl) ?_
                  refine zw_aload_n (pc := 46) (n := 0) (x := 81) rfl (zdal_p dlD_M_setsOf_122 (i := 2) rfl) ?_
                  refine zr_getF (r := 112) (hf_N11_.w hW) (pc := 47) f_M_109 rfl (zh_112 (hf_N11_.w hW)).1 (zdal_p dlD_M_setsOf_122 (i := 3) rfl) ?_
                  refine zw_iload_n (pc := 50) (n := 2) (x := Int32.ofInt u5_) rfl (zdal_p dlD_M_setsOf_122 (i := 4) rfl) ?_
                  refine zr_ialdn (pc := 51) (zh_112 (hf_N11_.w hW)).2 (by decide) (by (exact i8_)) (by (exact zo_670 hc_39 p1_)) (zdal_p dlD_M_setsOf_122 (i := 5) rfl) (fun v15_ hv15_ hv15_a hv15_b => ?_)
                  rw [hf_N11_.ie (by decide) (by decide)] at hv15_
                  have hp := p2_ (u5_).toNat (by (exact zo_695 hc_39 i8_))
                  refine zr_icmp_lt (pc := 52) (tgt := 83) ⟨hu10_a, hu10_b⟩ ⟨hv15_a, hv15_b⟩ (by decide) (zdal_p dlD_M_setsOf_122 (i := 6) rfl) (fun hc_52 => ?_) (fun hc_52 => ?_)
                  · skip
                    refine zr_iinc (pc := 83) (i := 2) (a := u5_) (n := 1) (L2 := [some (.ref 81), some (.int (Int32.ofInt a0_)), some (.int (Int32.ofInt (u5_ + 1))), some (.int (Int32.ofInt u10_))]) rfl (by decide) rfl (zdal_p dlD_M_setsOf_123 (i := 1) rfl) ?_
                    refine zw_goto (pc := 86) (tgt := 34) (by decide) (zdal_p dlD_M_setsOf_123 (i := 2) rfl) ?_
                    refine zW_le [some (.ref 81), some (.int (Int32.ofInt a0_)), some (.int (Int32.ofInt (u5_ + 1))), none] (⟨rfl, rfl, rfl, trivial⟩) ?_
                    exact ih_34 (u5_ + 1) (by (exact zo_74 i8_)) (by (exact zo_671 hc_39 p1_)) N11_ hb0_N11_ (show 0 ≤ (u5_ + 1) by first | with_reducible assumption | (exact zo_76 i8_) | assumption) (by (exact zo_147 hc_39 hlt_34))
                  · skip
                    refine zw_aload_n (pc := 55) (n := 0) (x := 81) rfl (zdal_p dlD_M_setsOf_122 (i := 7) rfl) ?_
                    refine zr_getF (r := 113) (hf_N11_.w hW) (pc := 56) f_M_112 rfl (zh_113 (hf_N11_.w hW)).1 (zdal_p dlD_M_setsOf_122 (i := 8) rfl) ?_
                    refine zw_iload_n (pc := 59) (n := 3) (x := Int32.ofInt u10_) rfl (zdal_p dlD_M_setsOf_122 (i := 9) rfl) ?_
                    refine zw_dup2 (pc := 60) rfl rfl (zdal_p dlD_M_setsOf_122 (i := 10) rfl) ?_
                    refine zr_ialdn (pc := 61) (zh_113 (hf_N11_.w hW)).2 (by decide) (by omega) (by (exact zo_2498 i13_)) (zdal_p dlD_M_setsOf_122 (i := 11) rfl) (fun v16_ hv16_ hv16_a hv16_b => ?_)
                    refine zw_aload_n (pc := 62) (n := 0) (x := 81) rfl (zdal_p dlD_M_setsOf_122 (i := 12) rfl) ?_
                    refine zr_getF (r := 113) (hf_N11_.w hW) (pc := 63) f_M_112 rfl (zh_113 (hf_N11_.w hW)).1 (zdal_p dlD_M_setsOf_122 (i := 13) rfl) ?_
                    refine zw_iload_n (pc := 66) (n := 3) (x := Int32.ofInt u10_) rfl (zdal_p dlD_M_setsOf_122 (i := 14) rfl) ?_
                    refine zw_aload_n (pc := 67) (n := 0) (x := 81) rfl (zdal_p dlD_M_setsOf_122 (i := 15) rfl) ?_
                    refine zr_getF (r := 112) (hf_N11_.w hW) (pc := 68) f_M_109 rfl (zh_112 (hf_N11_.w hW)).1 (zdal_p dlD_M_setsOf_122 (i := 16) rfl) ?_
                    refine zw_iload_n (pc := 71) (n := 2) (x := Int32.ofInt u5_) rfl (zdal_p dlD_M_setsOf_122 (i := 17) rfl) ?_
                    refine zr_ialdn (pc := 72) (zh_112 (hf_N11_.w hW)).2 (by decide) (by (exact i8_)) (by (exact zo_670 hc_39 p1_)) (zdal_p dlD_M_setsOf_122 (i := 18) rfl) (fun v17_ hv17_ hv17_a hv17_b => ?_)
                    rw [hf_N11_.ie (by decide) (by decide)] at hv17_
                    have hp := p2_ (u5_).toNat (by (exact zo_695 hc_39 i8_))
                    refine zr_isub (pc := 73) (zdal_p dlD_M_setsOf_122 (i := 19) rfl) ?_
                    refine zr_ialdn (pc := 74) (zh_113 (hf_N11_.w hW)).2 (by decide) (by omega) (by omega) (zdal_p dlD_M_setsOf_122 (i := 20) rfl) (fun v18_ hv18_ hv18_a hv18_b => ?_)
                    refine zr_iadd (pc := 75) (zdal_p dlD_M_setsOf_122 (i := 21) rfl) ?_
                    refine zr_nmI (fun v19_ hv19_ => ?_)
                    obtain ⟨hv19_a, hv19_b⟩ := hv19_
                    refine zr_iast (pc := 76) (zh_113 (hf_N11_.w hW)).2 (by decide) (by decide) (by omega) (by (exact zo_2498 i13_)) (zdal_p dlD_M_setsOf_122 (i := 22) rfl) (fun N20_ hN20_ hsN20_ => ?_)
                    have hf_N20_ : zFr [] [113] Mz N20_ := hf_N11_.tr hsN20_ (by decide) (by decide)
                    have hb0_N20_ : zFr [] [113] N2_ N20_ := hb0_N11_.tr hsN20_ (by decide) (by decide)
                    have hb1_N20_ : zFr [] [113] N6_ N20_ := hs12_.tr hsN20_ (by decide) (by decide)
                    have e63_N20_ : ze N20_ 81 63 = ze N11_ 81 63 := hsN20_.e (by decide)
                    refine zr_iinc (pc := 77) (i := 3) (a := u10_) (n := -1) (L2 := [some (.ref 81), some (.int (Int32.ofInt a0_)), some (.int (Int32.ofInt u5_)), some (.int (Int32.ofInt (u10_ + (-1))))]) rfl (by decide) rfl (zdal_p dlD_M_setsOf_122 (i := 23) rfl) ?_
                    refine zw_goto (pc := 80) (tgt := 45) (by decide) (zdal_p dlD_M_setsOf_123 (i := 0) rfl) ?_
                    exact ih_45 (u10_ + (-1)) (by omega) (by omega) N20_ hb1_N20_ (show (u10_ + (-1)) ≤ 6 by first | with_reducible assumption | assumption | omega) (show -1 ≤ (u10_ + (-1)) by first | with_reducible assumption | assumption | omega) (by omega)
              exact lp_45 _ 6 (by decide) (by decide) N6_ zFr.rf (show (6 : Int) ≤ 6 by first | with_reducible assumption | (decide) | assumption) (show -1 ≤ (6 : Int) by first | with_reducible assumption | (decide) | assumption) (Nat.lt_succ_self _)
        exact lp_34 _ 0 (by decide) (by decide) N2_ zFr.rf (show 0 ≤ (0 : Int) by first | with_reducible assumption | (decide) | assumption) (Nat.lt_succ_self _)
      · skip
        refine zw_aload_n (pc := 8) (n := 0) (x := 81) rfl (zdal_p dlD_M_setsOf_121 (i := 5) rfl) ?_
        refine zr_getF (r := 113) (hf_N2_.w hW) (pc := 9) f_M_112 rfl (zh_113 (hf_N2_.w hW)).1 (zdal_p dlD_M_setsOf_121 (i := 6) rfl) ?_
        refine zw_iload_n (pc := 12) (n := 2) (x := Int32.ofInt u1_) rfl (zdal_p dlD_M_setsOf_121 (i := 7) rfl) ?_
        refine zw_iload_n (pc := 13) (n := 2) (x := Int32.ofInt u1_) rfl (zdal_p dlD_M_setsOf_121 (i := 8) rfl) ?_
        refine zr_if_ne (pc := 14) (tgt := 21) ⟨hu1_a, hu1_b⟩ (by decide) (zdal_p dlD_M_setsOf_121 (i := 9) rfl) (fun hc_14 => ?_) (fun hc_14 => ?_)
        · skip
          refine zw_iconst (pc := 21) (v := Int32.ofInt 0) (by decide) (zdal_p dlD_M_setsOf_121 (i := 12) rfl) ?_
          refine zr_callS hf_N2_.x (pc := 22) [.int (Int32.ofInt 0)] [.int (Int32.ofInt u1_), .ref 113] l_M_256 (c_M_truth l N2_ (hf_N2_.w hW) 0 (by decide) (by decide) (by (decide))) rfl rfl (by decide) (Nat.le_of_ble_eq_true rfl) (zdal_p dlD_M_setsOf_121 (i := 13) rfl) ?_
          rintro _ N21_ ⟨v22_, rfl, ⟨hv22_a, hv22_b⟩, hsN21_, hp0_N21_⟩
          obtain rfl := hsN21_.eq.symm
          replace hp0_N21_ : v22_ = 0 := hp0_N21_
          show zW l m_M_setsOf (zn Mz + 0, zw Mz + 0) N2_ 25 [some (.ref 81), some (.int (Int32.ofInt a0_)), some (.int (Int32.ofInt u1_)), none] [.int (Int32.ofInt v22_), .int (Int32.ofInt u1_), .ref 113] (zpI [] [113] Mz (fun v N => True))
          refine zr_iast (pc := 25) (zh_113 (hf_N2_.w hW)).2 (by decide) (by decide) (by (exact i4_)) (by omega) (zdal_p dlD_M_setsOf_121 (i := 14) rfl) (fun N23_ hN23_ hsN23_ => ?_)
          have hf_N23_ : zFr [] [113] Mz N23_ := hf_N2_.tr hsN23_ (by decide) (by decide)
          have hb0_N23_ : zFr [] [113] Mz N23_ := hs3_.tr hsN23_ (by decide) (by decide)
          have e63_N23_ : ze N23_ 81 63 = ze N2_ 81 63 := hsN23_.e (by decide)
          refine zr_iinc (pc := 26) (i := 2) (a := u1_) (n := 1) (L2 := [some (.ref 81), some (.int (Int32.ofInt a0_)), some (.int (Int32.ofInt (u1_ + 1))), none]) rfl (by decide) rfl (zdal_p dlD_M_setsOf_121 (i := 15) rfl) ?_
          refine zw_goto (pc := 29) (tgt := 2) (by decide) (zdal_p dlD_M_setsOf_121 (i := 16) rfl) ?_
          exact ih_2 (u1_ + 1) (by (exact zo_74 i4_)) (by omega) N23_ hb0_N23_ (show 0 ≤ (u1_ + 1) by first | with_reducible assumption | (exact zo_76 i4_) | assumption) (by omega)
        · skip
          refine zw_iconst (pc := 17) (v := Int32.ofInt 1) (by decide) (zdal_p dlD_M_setsOf_121 (i := 10) rfl) ?_
          refine zw_goto (pc := 18) (tgt := 22) (by decide) (zdal_p dlD_M_setsOf_121 (i := 11) rfl) ?_
          refine zr_callS hf_N2_.x (pc := 22) [.int (Int32.ofInt 1)] [.int (Int32.ofInt u1_), .ref 113] l_M_256 (c_M_truth l N2_ (hf_N2_.w hW) 1 (by decide) (by decide) (by (decide))) rfl rfl (by decide) (Nat.le_of_ble_eq_true rfl) (zdal_p dlD_M_setsOf_121 (i := 13) rfl) ?_
          rintro _ N24_ ⟨v25_, rfl, ⟨hv25_a, hv25_b⟩, hsN24_, hp0_N24_⟩
          obtain rfl := hsN24_.eq.symm
          replace hp0_N24_ : v25_ = 1 := hp0_N24_
          show zW l m_M_setsOf (zn Mz + 0, zw Mz + 0) N2_ 25 [some (.ref 81), some (.int (Int32.ofInt a0_)), some (.int (Int32.ofInt u1_)), none] [.int (Int32.ofInt v25_), .int (Int32.ofInt u1_), .ref 113] (zpI [] [113] Mz (fun v N => True))
          refine zr_iast (pc := 25) (zh_113 (hf_N2_.w hW)).2 (by decide) (by decide) (by (exact i4_)) (by omega) (zdal_p dlD_M_setsOf_121 (i := 14) rfl) (fun N26_ hN26_ hsN26_ => ?_)
          have hf_N26_ : zFr [] [113] Mz N26_ := hf_N2_.tr hsN26_ (by decide) (by decide)
          have hb0_N26_ : zFr [] [113] Mz N26_ := hs3_.tr hsN26_ (by decide) (by decide)
          have e63_N26_ : ze N26_ 81 63 = ze N2_ 81 63 := hsN26_.e (by decide)
          refine zr_iinc (pc := 26) (i := 2) (a := u1_) (n := 1) (L2 := [some (.ref 81), some (.int (Int32.ofInt a0_)), some (.int (Int32.ofInt (u1_ + 1))), none]) rfl (by decide) rfl (zdal_p dlD_M_setsOf_121 (i := 15) rfl) ?_
          refine zw_goto (pc := 29) (tgt := 2) (by decide) (zdal_p dlD_M_setsOf_121 (i := 16) rfl) ?_
          exact ih_2 (u1_ + 1) (by (exact zo_74 i4_)) (by omega) N26_ hb0_N26_ (show 0 ≤ (u1_ + 1) by first | with_reducible assumption | (exact zo_76 i4_) | assumption) (by omega)
  exact lp_2 _ 0 (by decide) (by decide) Mz zFr.rf (show 0 ≤ (0 : Int) by first | with_reducible assumption | (decide) | assumption) (Nat.lt_succ_self _)
set_option maxHeartbeats 4000000 in
theorem c_M_fixedBy (l : Launch) (Mz : zMem) (hW : zMt Mz) (a0_ : Int) (ha0_a : -2147483648 ≤ a0_) (ha0_b : a0_ < 2147483648) (a1_ : Int) (ha1_a : -2147483648 ≤ a1_) (ha1_b : a1_ < 2147483648) (p0_ : 0 ≤ ze Mz 81 63) (p1_ : ze Mz 81 63 ≤ 6) (p2_ : zPo Mz (ze Mz 81 63)) (p3_ : (a0_ ≠ 1 ∨ (0 ≤ a1_ ∧ a1_ ≤ 6))) : zC l m_M_fixedBy 0 0 [.ref 81, .int (Int32.ofInt a0_), .int (Int32.ofInt a1_)] Mz (zpJ [] [113] Mz (fun v N => True)) := by
  refine zC_of (L0 := [some (.ref 81), some (.int (Int32.ofInt a0_)), some (.int (Int32.ofInt a1_)), none, none, none]) md_M_fixedBy (Nat.le_of_ble_eq_true rfl) rfl ?_ zQ0
  have hf : zFr [] [113] Mz Mz := zFr.rf
  have r_63 := ze_r Mz 81 63
  refine zw_iload_n (pc := 0) (n := 1) (x := Int32.ofInt a0_) rfl (zdal_p dlD_M_fixedBy_118 (i := 0) rfl) ?_
  refine zw_iconst (pc := 1) (v := Int32.ofInt 2) (by decide) (zdal_p dlD_M_fixedBy_118 (i := 1) rfl) ?_
  refine zr_icmp_ne (pc := 2) (tgt := 9) ⟨ha0_a, ha0_b⟩ ⟨(by decide), (by decide)⟩ (by decide) (zdal_p dlD_M_fixedBy_118 (i := 2) rfl) (fun hc_2 => ?_) (fun hc_2 => ?_)
  · skip
    refine zw_lconst (pc := 9) (v := Int64.ofInt 0) (by decide) (zdal_p dlD_M_fixedBy_118 (i := 5) rfl) ?_
    refine zw_lstore_n (pc := 10) (i := 3) (L2 := [some (.ref 81), some (.int (Int32.ofInt a0_)), some (.int (Int32.ofInt a1_)), some (.long (Int64.ofInt 0)), none, none]) rfl (by decide) rfl (zdal_p dlD_M_fixedBy_118 (i := 6) rfl) ?_
    refine zw_iconst (pc := 11) (v := Int32.ofInt 0) (by decide) (zdal_p dlD_M_fixedBy_118 (i := 7) rfl) ?_
    refine zw_istore (pc := 12) (i := 5) (L2 := [some (.ref 81), some (.int (Int32.ofInt a0_)), some (.int (Int32.ofInt a1_)), some (.long (Int64.ofInt 0)), none, some (.int (Int32.ofInt 0))]) (by decide) rfl (zdal_p dlD_M_fixedBy_118 (i := 8) rfl) ?_
    have lp_14 : ∀ (n : Nat) (u1_ : Int) (hu1_a : -9223372036854775808 ≤ u1_) (hu1_b : u1_ < 9223372036854775808) (u2_ : Int) (hu2_a : -2147483648 ≤ u2_) (hu2_b : u2_ < 2147483648) (i3_ : 0 ≤ u2_), (ze Mz 81 63 - u2_).toNat < n → zW l m_M_fixedBy (zn Mz + 0, zw Mz + 0) Mz 14 [some (.ref 81), some (.int (Int32.ofInt a0_)), some (.int (Int32.ofInt a1_)), some (.long (Int64.ofInt u1_)), none, some (.int (Int32.ofInt u2_))] [] (zpJ [] [113] Mz (fun v N => True)) := by
      intro n
      induction n with
      | zero =>
        intro u1_ hu1_a hu1_b u2_ hu2_a hu2_b i3_ h0
        exact absurd h0 (Nat.not_lt_zero _)
      | succ n ih_14 =>
        intro u1_ hu1_a hu1_b u2_ hu2_a hu2_b i3_ hlt_14
        refine zw_iload (pc := 14) (i := 5) (x := Int32.ofInt u2_) rfl (zdal_p dlD_M_fixedBy_118 (i := 9) rfl) ?_
        refine zw_aload_n (pc := 16) (n := 0) (x := 81) rfl (zdal_p dlD_M_fixedBy_118 (i := 10) rfl) ?_
        refine zr_getI0 hf hW (pc := 17) (by decide) f_M_487 rfl (zdal_p dlD_M_fixedBy_118 (i := 11) rfl) ?_
        refine zr_icmp_ge (pc := 20) (tgt := 66) ⟨hu2_a, hu2_b⟩ ⟨(ze_r Mz 81 63).1, (ze_r Mz 81 63).2⟩ (by decide) (zdal_p dlD_M_fixedBy_118 (i := 12) rfl) (fun hc_20 => ?_) (fun hc_20 => ?_)
        · skip
          refine zw_iload_n (pc := 66) (n := 1) (x := Int32.ofInt a0_) rfl (zdal_p dlD_M_fixedBy_119 (i := 15) rfl) ?_
          refine zw_iconst (pc := 67) (v := Int32.ofInt 1) (by decide) (zdal_p dlD_M_fixedBy_119 (i := 16) rfl) ?_
          refine zr_icmp_ne (pc := 68) (tgt := 80) ⟨ha0_a, ha0_b⟩ ⟨(by decide), (by decide)⟩ (by decide) (zdal_p dlD_M_fixedBy_119 (i := 17) rfl) (fun hc_68 => ?_) (fun hc_68 => ?_)
          · skip
            refine zw_lload_n (pc := 80) (n := 3) (x := Int64.ofInt u1_) rfl (zdal_p dlD_M_fixedBy_119 (i := 23) rfl) ?_
            exact zr_lret (pc := 81) rfl ⟨by (exact hu1_a), by (exact hu1_b)⟩ hf trivial (zdal_p dlD_M_fixedBy_120 (i := 0) rfl)
          · skip
            refine zw_aload_n (pc := 71) (n := 0) (x := 81) rfl (zdal_p dlD_M_fixedBy_119 (i := 18) rfl) ?_
            refine zw_iload_n (pc := 72) (n := 2) (x := Int32.ofInt a1_) rfl (zdal_p dlD_M_fixedBy_119 (i := 19) rfl) ?_
            refine zr_callV (hf.w hW) hf.x (pc := 73) [.int (Int32.ofInt a1_)] [] l_M_490 (c_M_setsOf l Mz (hf.w hW) a1_ ha1_a ha1_b (show 0 ≤ ze Mz 81 63 by first | with_reducible assumption | assumption | omega) (show ze Mz 81 63 ≤ 6 by first | with_reducible assumption | assumption | omega) (show zPo Mz (ze Mz 81 63) by first | with_reducible assumption | assumption | omega) (show 0 ≤ a1_ by first | with_reducible assumption | assumption | omega) (show a1_ ≤ 6 by first | with_reducible assumption | assumption | omega)) rfl rfl rfl (by decide) (Nat.le_of_ble_eq_true rfl) (zdal_p dlD_M_fixedBy_119 (i := 20) rfl) ?_
            rintro _ N4_ ⟨v5_, rfl, ⟨hv5_a, hv5_b⟩, hsN4_, -⟩
            have hf_N4_ : zFr [] [113] Mz N4_ := hf.tr hsN4_ (by decide) (by decide)
            show zW l m_M_fixedBy (zn Mz + 0, zw Mz + 0) N4_ 76 [some (.ref 81), some (.int (Int32.ofInt a0_)), some (.int (Int32.ofInt a1_)), some (.long (Int64.ofInt u1_)), none, some (.int (Int32.ofInt u2_))] [.int (Int32.ofInt v5_)] (zpJ [] [113] Mz (fun v N => True))
            refine zr_i2l (pc := 76) ⟨hv5_a, hv5_b⟩ (zdal_p dlD_M_fixedBy_119 (i := 21) rfl) ?_
            refine zw_goto (pc := 77) (tgt := 81) (by decide) (zdal_p dlD_M_fixedBy_119 (i := 22) rfl) ?_
            exact zr_lret (pc := 81) rfl ⟨by (exact zo_282 hv5_a), by (exact zo_283 hv5_b)⟩ hf_N4_ trivial (zdal_p dlD_M_fixedBy_120 (i := 0) rfl)
        · skip
          refine zw_iload_n (pc := 23) (n := 1) (x := Int32.ofInt a0_) rfl (zdal_p dlD_M_fixedBy_118 (i := 13) rfl) ?_
          refine zr_if_ne (pc := 24) (tgt := 50) ⟨ha0_a, ha0_b⟩ (by decide) (zdal_p dlD_M_fixedBy_118 (i := 14) rfl) (fun hc_24 => ?_) (fun hc_24 => ?_)
          · skip
            refine zw_iload_n (pc := 50) (n := 1) (x := Int32.ofInt a0_) rfl (zdal_p dlD_M_fixedBy_119 (i := 5) rfl) ?_
            refine zw_iconst (pc := 51) (v := Int32.ofInt 2) (by decide) (zdal_p dlD_M_fixedBy_119 (i := 6) rfl) ?_
            refine zr_icmp_ne (pc := 52) (tgt := 60) ⟨ha0_a, ha0_b⟩ ⟨(by decide), (by decide)⟩ (by decide) (zdal_p dlD_M_fixedBy_119 (i := 7) rfl) (fun hc_52 => ?_) (fun hc_52 => ?_)
            · skip
              refine zr_iinc (pc := 60) (i := 5) (a := u2_) (n := 1) (L2 := [some (.ref 81), some (.int (Int32.ofInt a0_)), some (.int (Int32.ofInt a1_)), some (.long (Int64.ofInt u1_)), none, some (.int (Int32.ofInt (u2_ + 1)))]) rfl (by decide) rfl d_M_fixedBy_60 ?_
              refine zw_goto (pc := 63) (tgt := 14) (by decide) d_M_fixedBy_63 ?_
              exact ih_14 u1_ hu1_a hu1_b (u2_ + 1) (by (exact zo_74 i3_)) (by (exact zo_671 hc_20 p1_)) (show 0 ≤ (u2_ + 1) by first | with_reducible assumption | (exact zo_76 i3_) | assumption) (by (exact zo_147 hc_20 hlt_14))
            · skip
              refine zw_lload_n (pc := 55) (n := 3) (x := Int64.ofInt u1_) rfl (zdal_p dlD_M_fixedBy_119 (i := 8) rfl) ?_
              refine zw_iload_n (pc := 56) (n := 2) (x := Int32.ofInt a1_) rfl (zdal_p dlD_M_fixedBy_119 (i := 9) rfl) ?_
              refine zr_i2l (pc := 57) ⟨ha1_a, ha1_b⟩ (zdal_p dlD_M_fixedBy_119 (i := 10) rfl) ?_
              refine zr_lmul (pc := 58) (zdal_p dlD_M_fixedBy_119 (i := 11) rfl) ?_
              refine zr_nmJ (fun v6_ hv6_ => ?_)
              obtain ⟨hv6_a, hv6_b⟩ := hv6_
              refine zw_lstore_n (pc := 59) (i := 3) (L2 := [some (.ref 81), some (.int (Int32.ofInt a0_)), some (.int (Int32.ofInt a1_)), some (.long (Int64.ofInt v6_)), none, some (.int (Int32.ofInt u2_))]) rfl (by decide) rfl (zdal_p dlD_M_fixedBy_119 (i := 12) rfl) ?_
              refine zr_iinc (pc := 60) (i := 5) (a := u2_) (n := 1) (L2 := [some (.ref 81), some (.int (Int32.ofInt a0_)), some (.int (Int32.ofInt a1_)), some (.long (Int64.ofInt v6_)), none, some (.int (Int32.ofInt (u2_ + 1)))]) rfl (by decide) rfl d_M_fixedBy_60 ?_
              refine zw_goto (pc := 63) (tgt := 14) (by decide) d_M_fixedBy_63 ?_
              exact ih_14 v6_ hv6_a hv6_b (u2_ + 1) (by (exact zo_74 i3_)) (by (exact zo_671 hc_20 p1_)) (show 0 ≤ (u2_ + 1) by first | with_reducible assumption | (exact zo_76 i3_) | assumption) (by (exact zo_147 hc_20 hlt_14))
          · skip
            refine zw_lload_n (pc := 27) (n := 3) (x := Int64.ofInt u1_) rfl (zdal_p dlD_M_fixedBy_118 (i := 15) rfl) ?_
            refine zw_aload_n (pc := 28) (n := 0) (x := 81) rfl (zdal_p dlD_M_fixedBy_118 (i := 16) rfl) ?_
            refine zr_getF (r := 112) (hf.w hW) (pc := 29) f_M_109 rfl (zh_112 (hf.w hW)).1 (zdal_p dlD_M_fixedBy_118 (i := 17) rfl) ?_
            refine zw_iload (pc := 32) (i := 5) (x := Int32.ofInt u2_) rfl (zdal_p dlD_M_fixedBy_118 (i := 18) rfl) ?_
            refine zr_ialdn (pc := 34) (zh_112 (hf.w hW)).2 (by decide) (by (exact i3_)) (by (exact zo_670 hc_20 p1_)) (zdal_p dlD_M_fixedBy_118 (i := 19) rfl) (fun v7_ hv7_ hv7_a hv7_b => ?_)
            refine zw_iconst (pc := 35) (v := Int32.ofInt 1) (by decide) (zdal_p dlD_M_fixedBy_118 (i := 20) rfl) ?_
            have j_44 : ∀ (u8_ : Int) (hu8_a : -9223372036854775808 ≤ u8_) (hu8_b : u8_ < 9223372036854775808) (u9_ : Int) (hu9_a : -2147483648 ≤ u9_) (hu9_b : u9_ < 2147483648) (hu9_z : u9_ = 0 ∨ u9_ = 1), zW l m_M_fixedBy (zn Mz + 0, zw Mz + 0) Mz 44 [some (.ref 81), some (.int (Int32.ofInt a0_)), some (.int (Int32.ofInt a1_)), some (.long (Int64.ofInt u1_)), none, some (.int (Int32.ofInt u2_))] [.int (Int32.ofInt u9_), .long (Int64.ofInt u8_)] (zpJ [] [113] Mz (fun v N => True)) := by
              intro u8_ hu8_a hu8_b u9_ hu9_a hu9_b hu9_z
              refine zr_callS hf.x (pc := 44) [.int (Int32.ofInt u9_)] [.long (Int64.ofInt u8_)] l_M_256 (c_M_truth l Mz (hf.w hW) u9_ hu9_a hu9_b (by (exact hu9_z))) rfl rfl (by decide) (Nat.le_of_ble_eq_true rfl) (zdal_p dlD_M_fixedBy_119 (i := 1) rfl) ?_
              rintro _ N10_ ⟨v11_, rfl, ⟨hv11_a, hv11_b⟩, hsN10_, hp0_N10_⟩
              obtain rfl := hsN10_.eq.symm
              replace hp0_N10_ : v11_ = u9_ := hp0_N10_
              show zW l m_M_fixedBy (zn Mz + 0, zw Mz + 0) Mz 47 [some (.ref 81), some (.int (Int32.ofInt a0_)), some (.int (Int32.ofInt a1_)), some (.long (Int64.ofInt u1_)), none, some (.int (Int32.ofInt u2_))] [.int (Int32.ofInt v11_), .long (Int64.ofInt u8_)] (zpJ [] [113] Mz (fun v N => True))
              refine zr_i2l (pc := 47) ⟨hv11_a, hv11_b⟩ (zdal_p dlD_M_fixedBy_119 (i := 2) rfl) ?_
              refine zr_ladd (pc := 48) (zdal_p dlD_M_fixedBy_119 (i := 3) rfl) ?_
              refine zr_nmJ (fun v12_ hv12_ => ?_)
              obtain ⟨hv12_a, hv12_b⟩ := hv12_
              refine zw_lstore_n (pc := 49) (i := 3) (L2 := [some (.ref 81), some (.int (Int32.ofInt a0_)), some (.int (Int32.ofInt a1_)), some (.long (Int64.ofInt v12_)), none, some (.int (Int32.ofInt u2_))]) rfl (by decide) rfl (zdal_p dlD_M_fixedBy_119 (i := 4) rfl) ?_
              refine zw_iload_n (pc := 50) (n := 1) (x := Int32.ofInt a0_) rfl (zdal_p dlD_M_fixedBy_119 (i := 5) rfl) ?_
              refine zw_iconst (pc := 51) (v := Int32.ofInt 2) (by decide) (zdal_p dlD_M_fixedBy_119 (i := 6) rfl) ?_
              refine zr_icmp_ne (pc := 52) (tgt := 60) ⟨ha0_a, ha0_b⟩ ⟨(by decide), (by decide)⟩ (by decide) (zdal_p dlD_M_fixedBy_119 (i := 7) rfl) (fun hc_52 => ?_) (fun hc_52 => ?_)
              · skip
                refine zr_iinc (pc := 60) (i := 5) (a := u2_) (n := 1) (L2 := [some (.ref 81), some (.int (Int32.ofInt a0_)), some (.int (Int32.ofInt a1_)), some (.long (Int64.ofInt v12_)), none, some (.int (Int32.ofInt (u2_ + 1)))]) rfl (by decide) rfl d_M_fixedBy_60 ?_
                refine zw_goto (pc := 63) (tgt := 14) (by decide) d_M_fixedBy_63 ?_
                exact ih_14 v12_ hv12_a hv12_b (u2_ + 1) (by (exact zo_74 i3_)) (by (exact zo_671 hc_20 p1_)) (show 0 ≤ (u2_ + 1) by first | with_reducible assumption | (exact zo_76 i3_) | assumption) (by (exact zo_147 hc_20 hlt_14))
              · skip
                refine zw_lload_n (pc := 55) (n := 3) (x := Int64.ofInt v12_) rfl (zdal_p dlD_M_fixedBy_119 (i := 8) rfl) ?_
                refine zw_iload_n (pc := 56) (n := 2) (x := Int32.ofInt a1_) rfl (zdal_p dlD_M_fixedBy_119 (i := 9) rfl) ?_
                refine zr_i2l (pc := 57) ⟨ha1_a, ha1_b⟩ (zdal_p dlD_M_fixedBy_119 (i := 10) rfl) ?_
                refine zr_lmul (pc := 58) (zdal_p dlD_M_fixedBy_119 (i := 11) rfl) ?_
                refine zr_nmJ (fun v13_ hv13_ => ?_)
                obtain ⟨hv13_a, hv13_b⟩ := hv13_
                refine zw_lstore_n (pc := 59) (i := 3) (L2 := [some (.ref 81), some (.int (Int32.ofInt a0_)), some (.int (Int32.ofInt a1_)), some (.long (Int64.ofInt v13_)), none, some (.int (Int32.ofInt u2_))]) rfl (by decide) rfl (zdal_p dlD_M_fixedBy_119 (i := 12) rfl) ?_
                refine zr_iinc (pc := 60) (i := 5) (a := u2_) (n := 1) (L2 := [some (.ref 81), some (.int (Int32.ofInt a0_)), some (.int (Int32.ofInt a1_)), some (.long (Int64.ofInt v13_)), none, some (.int (Int32.ofInt (u2_ + 1)))]) rfl (by decide) rfl d_M_fixedBy_60 ?_
                refine zw_goto (pc := 63) (tgt := 14) (by decide) d_M_fixedBy_63 ?_
                exact ih_14 v13_ hv13_a hv13_b (u2_ + 1) (by (exact zo_74 i3_)) (by (exact zo_671 hc_20 p1_)) (show 0 ≤ (u2_ + 1) by first | with_reducible assumption | (exact zo_76 i3_) | assumption) (by (exact zo_147 hc_20 hlt_14))
            refine zr_icmp_ne (pc := 36) (tgt := 43) ⟨hv7_a, hv7_b⟩ ⟨(by decide), (by decide)⟩ (by decide) (zdal_p dlD_M_fixedBy_118 (i := 21) rfl) (fun hc_36 => ?_) (fun hc_36 => ?_)
            · skip
              refine zw_iconst (pc := 43) (v := Int32.ofInt 0) (by decide) (zdal_p dlD_M_fixedBy_119 (i := 0) rfl) ?_
              exact j_44 u1_ hu1_a hu1_b 0 (by decide) (by decide) (by (decide))
            · skip
              refine zw_iconst (pc := 39) (v := Int32.ofInt 1) (by decide) (zdal_p dlD_M_fixedBy_118 (i := 22) rfl) ?_
              refine zw_goto (pc := 40) (tgt := 44) (by decide) (zdal_p dlD_M_fixedBy_118 (i := 23) rfl) ?_
              exact j_44 u1_ hu1_a hu1_b 1 (by decide) (by decide) (by (decide))
    exact lp_14 _ 0 (by decide) (by decide) 0 (by decide) (by decide) (show 0 ≤ (0 : Int) by first | with_reducible assumption | (decide) | assumption) (Nat.lt_succ_self _)
  · skip
    refine zw_lconst (pc := 5) (v := Int64.ofInt 1) (by decide) (zdal_p dlD_M_fixedBy_118 (i := 3) rfl) ?_
    refine zw_goto (pc := 6) (tgt := 10) (by decide) (zdal_p dlD_M_fixedBy_118 (i := 4) rfl) ?_
    refine zw_lstore_n (pc := 10) (i := 3) (L2 := [some (.ref 81), some (.int (Int32.ofInt a0_)), some (.int (Int32.ofInt a1_)), some (.long (Int64.ofInt 1)), none, none]) rfl (by decide) rfl (zdal_p dlD_M_fixedBy_118 (i := 6) rfl) ?_
    refine zw_iconst (pc := 11) (v := Int32.ofInt 0) (by decide) (zdal_p dlD_M_fixedBy_118 (i := 7) rfl) ?_
    refine zw_istore (pc := 12) (i := 5) (L2 := [some (.ref 81), some (.int (Int32.ofInt a0_)), some (.int (Int32.ofInt a1_)), some (.long (Int64.ofInt 1)), none, some (.int (Int32.ofInt 0))]) (by decide) rfl (zdal_p dlD_M_fixedBy_118 (i := 8) rfl) ?_
    have lp_14 : ∀ (n : Nat) (u14_ : Int) (hu14_a : -9223372036854775808 ≤ u14_) (hu14_b : u14_ < 9223372036854775808) (u15_ : Int) (hu15_a : -2147483648 ≤ u15_) (hu15_b : u15_ < 2147483648) (i16_ : 0 ≤ u15_), (ze Mz 81 63 - u15_).toNat < n → zW l m_M_fixedBy (zn Mz + 0, zw Mz + 0) Mz 14 [some (.ref 81), some (.int (Int32.ofInt a0_)), some (.int (Int32.ofInt a1_)), some (.long (Int64.ofInt u14_)), none, some (.int (Int32.ofInt u15_))] [] (zpJ [] [113] Mz (fun v N => True)) := by
      intro n
      induction n with
      | zero =>
        intro u14_ hu14_a hu14_b u15_ hu15_a hu15_b i16_ h0
        exact absurd h0 (Nat.not_lt_zero _)
      | succ n ih_14 =>
        intro u14_ hu14_a hu14_b u15_ hu15_a hu15_b i16_ hlt_14
        refine zw_iload (pc := 14) (i := 5) (x := Int32.ofInt u15_) rfl (zdal_p dlD_M_fixedBy_118 (i := 9) rfl) ?_
        refine zw_aload_n (pc := 16) (n := 0) (x := 81) rfl (zdal_p dlD_M_fixedBy_118 (i := 10) rfl) ?_
        refine zr_getI0 hf hW (pc := 17) (by decide) f_M_487 rfl (zdal_p dlD_M_fixedBy_118 (i := 11) rfl) ?_
        refine zr_icmp_ge (pc := 20) (tgt := 66) ⟨hu15_a, hu15_b⟩ ⟨(ze_r Mz 81 63).1, (ze_r Mz 81 63).2⟩ (by decide) (zdal_p dlD_M_fixedBy_118 (i := 12) rfl) (fun hc_20 => ?_) (fun hc_20 => ?_)
        · skip
          refine zw_iload_n (pc := 66) (n := 1) (x := Int32.ofInt a0_) rfl (zdal_p dlD_M_fixedBy_119 (i := 15) rfl) ?_
          refine zw_iconst (pc := 67) (v := Int32.ofInt 1) (by decide) (zdal_p dlD_M_fixedBy_119 (i := 16) rfl) ?_
          refine zr_icmp_ne (pc := 68) (tgt := 80) ⟨ha0_a, ha0_b⟩ ⟨(by decide), (by decide)⟩ (by decide) (zdal_p dlD_M_fixedBy_119 (i := 17) rfl) (fun hc_68 => ?_) (fun hc_68 => ?_)
          · skip
            refine zw_lload_n (pc := 80) (n := 3) (x := Int64.ofInt u14_) rfl (zdal_p dlD_M_fixedBy_119 (i := 23) rfl) ?_
            exact zr_lret (pc := 81) rfl ⟨by (exact hu14_a), by (exact hu14_b)⟩ hf trivial (zdal_p dlD_M_fixedBy_120 (i := 0) rfl)
          · skip
            refine zw_aload_n (pc := 71) (n := 0) (x := 81) rfl (zdal_p dlD_M_fixedBy_119 (i := 18) rfl) ?_
            refine zw_iload_n (pc := 72) (n := 2) (x := Int32.ofInt a1_) rfl (zdal_p dlD_M_fixedBy_119 (i := 19) rfl) ?_
            refine zr_callV (hf.w hW) hf.x (pc := 73) [.int (Int32.ofInt a1_)] [] l_M_490 (c_M_setsOf l Mz (hf.w hW) a1_ ha1_a ha1_b (show 0 ≤ ze Mz 81 63 by first | with_reducible assumption | assumption | omega) (show ze Mz 81 63 ≤ 6 by first | with_reducible assumption | assumption | omega) (show zPo Mz (ze Mz 81 63) by first | with_reducible assumption | assumption | omega) (show 0 ≤ a1_ by first | with_reducible assumption | assumption | omega) (show a1_ ≤ 6 by first | with_reducible assumption | assumption | omega)) rfl rfl rfl (by decide) (Nat.le_of_ble_eq_true rfl) (zdal_p dlD_M_fixedBy_119 (i := 20) rfl) ?_
            rintro _ N17_ ⟨v18_, rfl, ⟨hv18_a, hv18_b⟩, hsN17_, -⟩
            have hf_N17_ : zFr [] [113] Mz N17_ := hf.tr hsN17_ (by decide) (by decide)
            show zW l m_M_fixedBy (zn Mz + 0, zw Mz + 0) N17_ 76 [some (.ref 81), some (.int (Int32.ofInt a0_)), some (.int (Int32.ofInt a1_)), some (.long (Int64.ofInt u14_)), none, some (.int (Int32.ofInt u15_))] [.int (Int32.ofInt v18_)] (zpJ [] [113] Mz (fun v N => True))
            refine zr_i2l (pc := 76) ⟨hv18_a, hv18_b⟩ (zdal_p dlD_M_fixedBy_119 (i := 21) rfl) ?_
            refine zw_goto (pc := 77) (tgt := 81) (by decide) (zdal_p dlD_M_fixedBy_119 (i := 22) rfl) ?_
            exact zr_lret (pc := 81) rfl ⟨by (exact zo_282 hv18_a), by (exact zo_283 hv18_b)⟩ hf_N17_ trivial (zdal_p dlD_M_fixedBy_120 (i := 0) rfl)
        · skip
          refine zw_iload_n (pc := 23) (n := 1) (x := Int32.ofInt a0_) rfl (zdal_p dlD_M_fixedBy_118 (i := 13) rfl) ?_
          refine zr_if_ne (pc := 24) (tgt := 50) ⟨ha0_a, ha0_b⟩ (by decide) (zdal_p dlD_M_fixedBy_118 (i := 14) rfl) (fun hc_24 => ?_) (fun hc_24 => ?_)
          · skip
            refine zw_iload_n (pc := 50) (n := 1) (x := Int32.ofInt a0_) rfl (zdal_p dlD_M_fixedBy_119 (i := 5) rfl) ?_
            refine zw_iconst (pc := 51) (v := Int32.ofInt 2) (by decide) (zdal_p dlD_M_fixedBy_119 (i := 6) rfl) ?_
            refine zr_icmp_ne (pc := 52) (tgt := 60) ⟨ha0_a, ha0_b⟩ ⟨(by decide), (by decide)⟩ (by decide) (zdal_p dlD_M_fixedBy_119 (i := 7) rfl) (fun hc_52 => ?_) (fun hc_52 => ?_)
            · skip
              refine zr_iinc (pc := 60) (i := 5) (a := u15_) (n := 1) (L2 := [some (.ref 81), some (.int (Int32.ofInt a0_)), some (.int (Int32.ofInt a1_)), some (.long (Int64.ofInt u14_)), none, some (.int (Int32.ofInt (u15_ + 1)))]) rfl (by decide) rfl d_M_fixedBy_60 ?_
              refine zw_goto (pc := 63) (tgt := 14) (by decide) d_M_fixedBy_63 ?_
              exact ih_14 u14_ hu14_a hu14_b (u15_ + 1) (by (exact zo_74 i16_)) (by (exact zo_671 hc_20 p1_)) (show 0 ≤ (u15_ + 1) by first | with_reducible assumption | (exact zo_76 i16_) | assumption) (by (exact zo_147 hc_20 hlt_14))
            · skip
              refine zw_lload_n (pc := 55) (n := 3) (x := Int64.ofInt u14_) rfl (zdal_p dlD_M_fixedBy_119 (i := 8) rfl) ?_
              refine zw_iload_n (pc := 56) (n := 2) (x := Int32.ofInt a1_) rfl (zdal_p dlD_M_fixedBy_119 (i := 9) rfl) ?_
              refine zr_i2l (pc := 57) ⟨ha1_a, ha1_b⟩ (zdal_p dlD_M_fixedBy_119 (i := 10) rfl) ?_
              refine zr_lmul (pc := 58) (zdal_p dlD_M_fixedBy_119 (i := 11) rfl) ?_
              refine zr_nmJ (fun v19_ hv19_ => ?_)
              obtain ⟨hv19_a, hv19_b⟩ := hv19_
              refine zw_lstore_n (pc := 59) (i := 3) (L2 := [some (.ref 81), some (.int (Int32.ofInt a0_)), some (.int (Int32.ofInt a1_)), some (.long (Int64.ofInt v19_)), none, some (.int (Int32.ofInt u15_))]) rfl (by decide) rfl (zdal_p dlD_M_fixedBy_119 (i := 12) rfl) ?_
              refine zr_iinc (pc := 60) (i := 5) (a := u15_) (n := 1) (L2 := [some (.ref 81), some (.int (Int32.ofInt a0_)), some (.int (Int32.ofInt a1_)), some (.long (Int64.ofInt v19_)), none, some (.int (Int32.ofInt (u15_ + 1)))]) rfl (by decide) rfl d_M_fixedBy_60 ?_
              refine zw_goto (pc := 63) (tgt := 14) (by decide) d_M_fixedBy_63 ?_
              exact ih_14 v19_ hv19_a hv19_b (u15_ + 1) (by (exact zo_74 i16_)) (by (exact zo_671 hc_20 p1_)) (show 0 ≤ (u15_ + 1) by first | with_reducible assumption | (exact zo_76 i16_) | assumption) (by (exact zo_147 hc_20 hlt_14))
          · skip
            refine zw_lload_n (pc := 27) (n := 3) (x := Int64.ofInt u14_) rfl (zdal_p dlD_M_fixedBy_118 (i := 15) rfl) ?_
            refine zw_aload_n (pc := 28) (n := 0) (x := 81) rfl (zdal_p dlD_M_fixedBy_118 (i := 16) rfl) ?_
            refine zr_getF (r := 112) (hf.w hW) (pc := 29) f_M_109 rfl (zh_112 (hf.w hW)).1 (zdal_p dlD_M_fixedBy_118 (i := 17) rfl) ?_
            refine zw_iload (pc := 32) (i := 5) (x := Int32.ofInt u15_) rfl (zdal_p dlD_M_fixedBy_118 (i := 18) rfl) ?_
            refine zr_ialdn (pc := 34) (zh_112 (hf.w hW)).2 (by decide) (by (exact i16_)) (by (exact zo_670 hc_20 p1_)) (zdal_p dlD_M_fixedBy_118 (i := 19) rfl) (fun v20_ hv20_ hv20_a hv20_b => ?_)
            refine zw_iconst (pc := 35) (v := Int32.ofInt 1) (by decide) (zdal_p dlD_M_fixedBy_118 (i := 20) rfl) ?_
            have j_44 : ∀ (u21_ : Int) (hu21_a : -9223372036854775808 ≤ u21_) (hu21_b : u21_ < 9223372036854775808) (u22_ : Int) (hu22_a : -2147483648 ≤ u22_) (hu22_b : u22_ < 2147483648) (hu22_z : u22_ = 0 ∨ u22_ = 1), zW l m_M_fixedBy (zn Mz + 0, zw Mz + 0) Mz 44 [some (.ref 81), some (.int (Int32.ofInt a0_)), some (.int (Int32.ofInt a1_)), some (.long (Int64.ofInt u14_)), none, some (.int (Int32.ofInt u15_))] [.int (Int32.ofInt u22_), .long (Int64.ofInt u21_)] (zpJ [] [113] Mz (fun v N => True)) := by
              intro u21_ hu21_a hu21_b u22_ hu22_a hu22_b hu22_z
              refine zr_callS hf.x (pc := 44) [.int (Int32.ofInt u22_)] [.long (Int64.ofInt u21_)] l_M_256 (c_M_truth l Mz (hf.w hW) u22_ hu22_a hu22_b (by (exact hu22_z))) rfl rfl (by decide) (Nat.le_of_ble_eq_true rfl) (zdal_p dlD_M_fixedBy_119 (i := 1) rfl) ?_
              rintro _ N23_ ⟨v24_, rfl, ⟨hv24_a, hv24_b⟩, hsN23_, hp0_N23_⟩
              obtain rfl := hsN23_.eq.symm
              replace hp0_N23_ : v24_ = u22_ := hp0_N23_
              show zW l m_M_fixedBy (zn Mz + 0, zw Mz + 0) Mz 47 [some (.ref 81), some (.int (Int32.ofInt a0_)), some (.int (Int32.ofInt a1_)), some (.long (Int64.ofInt u14_)), none, some (.int (Int32.ofInt u15_))] [.int (Int32.ofInt v24_), .long (Int64.ofInt u21_)] (zpJ [] [113] Mz (fun v N => True))
              refine zr_i2l (pc := 47) ⟨hv24_a, hv24_b⟩ (zdal_p dlD_M_fixedBy_119 (i := 2) rfl) ?_
              refine zr_ladd (pc := 48) (zdal_p dlD_M_fixedBy_119 (i := 3) rfl) ?_
              refine zr_nmJ (fun v25_ hv25_ => ?_)
              obtain ⟨hv25_a, hv25_b⟩ := hv25_
              refine zw_lstore_n (pc := 49) (i := 3) (L2 := [some (.ref 81), some (.int (Int32.ofInt a0_)), some (.int (Int32.ofInt a1_)), some (.long (Int64.ofInt v25_)), none, some (.int (Int32.ofInt u15_))]) rfl (by decide) rfl (zdal_p dlD_M_fixedBy_119 (i := 4) rfl) ?_
              refine zw_iload_n (pc := 50) (n := 1) (x := Int32.ofInt a0_) rfl (zdal_p dlD_M_fixedBy_119 (i := 5) rfl) ?_
              refine zw_iconst (pc := 51) (v := Int32.ofInt 2) (by decide) (zdal_p dlD_M_fixedBy_119 (i := 6) rfl) ?_
              refine zr_icmp_ne (pc := 52) (tgt := 60) ⟨ha0_a, ha0_b⟩ ⟨(by decide), (by decide)⟩ (by decide) (zdal_p dlD_M_fixedBy_119 (i := 7) rfl) (fun hc_52 => ?_) (fun hc_52 => ?_)
              · skip
                refine zr_iinc (pc := 60) (i := 5) (a := u15_) (n := 1) (L2 := [some (.ref 81), some (.int (Int32.ofInt a0_)), some (.int (Int32.ofInt a1_)), some (.long (Int64.ofInt v25_)), none, some (.int (Int32.ofInt (u15_ + 1)))]) rfl (by decide) rfl d_M_fixedBy_60 ?_
                refine zw_goto (pc := 63) (tgt := 14) (by decide) d_M_fixedBy_63 ?_
                exact ih_14 v25_ hv25_a hv25_b (u15_ + 1) (by (exact zo_74 i16_)) (by (exact zo_671 hc_20 p1_)) (show 0 ≤ (u15_ + 1) by first | with_reducible assumption | (exact zo_76 i16_) | assumption) (by (exact zo_147 hc_20 hlt_14))
              · skip
                refine zw_lload_n (pc := 55) (n := 3) (x := Int64.ofInt v25_) rfl (zdal_p dlD_M_fixedBy_119 (i := 8) rfl) ?_
                refine zw_iload_n (pc := 56) (n := 2) (x := Int32.ofInt a1_) rfl (zdal_p dlD_M_fixedBy_119 (i := 9) rfl) ?_
                refine zr_i2l (pc := 57) ⟨ha1_a, ha1_b⟩ (zdal_p dlD_M_fixedBy_119 (i := 10) rfl) ?_
                refine zr_lmul (pc := 58) (zdal_p dlD_M_fixedBy_119 (i := 11) rfl) ?_
                refine zr_nmJ (fun v26_ hv26_ => ?_)
                obtain ⟨hv26_a, hv26_b⟩ := hv26_
                refine zw_lstore_n (pc := 59) (i := 3) (L2 := [some (.ref 81), some (.int (Int32.ofInt a0_)), some (.int (Int32.ofInt a1_)), some (.long (Int64.ofInt v26_)), none, some (.int (Int32.ofInt u15_))]) rfl (by decide) rfl (zdal_p dlD_M_fixedBy_119 (i := 12) rfl) ?_
                refine zr_iinc (pc := 60) (i := 5) (a := u15_) (n := 1) (L2 := [some (.ref 81), some (.int (Int32.ofInt a0_)), some (.int (Int32.ofInt a1_)), some (.long (Int64.ofInt v26_)), none, some (.int (Int32.ofInt (u15_ + 1)))]) rfl (by decide) rfl d_M_fixedBy_60 ?_
                refine zw_goto (pc := 63) (tgt := 14) (by decide) d_M_fixedBy_63 ?_
                exact ih_14 v26_ hv26_a hv26_b (u15_ + 1) (by (exact zo_74 i16_)) (by (exact zo_671 hc_20 p1_)) (show 0 ≤ (u15_ + 1) by first | with_reducible assumption | (exact zo_76 i16_) | assumption) (by (exact zo_147 hc_20 hlt_14))
            refine zr_icmp_ne (pc := 36) (tgt := 43) ⟨hv20_a, hv20_b⟩ ⟨(by decide), (by decide)⟩ (by decide) (zdal_p dlD_M_fixedBy_118 (i := 21) rfl) (fun hc_36 => ?_) (fun hc_36 => ?_)
            · skip
              refine zw_iconst (pc := 43) (v := Int32.ofInt 0) (by decide) (zdal_p dlD_M_fixedBy_119 (i := 0) rfl) ?_
              exact j_44 u14_ hu14_a hu14_b 0 (by decide) (by decide) (by (decide))
            · skip
              refine zw_iconst (pc := 39) (v := Int32.ofInt 1) (by decide) (zdal_p dlD_M_fixedBy_118 (i := 22) rfl) ?_
              refine zw_goto (pc := 40) (tgt := 44) (by decide) (zdal_p dlD_M_fixedBy_118 (i := 23) rfl) ?_
              exact j_44 u14_ hu14_a hu14_b 1 (by decide) (by decide) (by (decide))
    exact lp_14 _ 1 (by decide) (by decide) 0 (by decide) (by decide) (show 0 ≤ (0 : Int) by first | with_reducible assumption | (decide) | assumption) (Nat.lt_succ_self _)
set_option maxHeartbeats 4000000 in
theorem c_M_numbers_96_98 (l : Launch) (Mz : zMem) (hW : zMt Mz) (a2_ : Int) (ha2_a : -2147483648 ≤ a2_) (ha2_b : a2_ < 2147483648) (p0_ : zGD Mz) (p1_ : 0 ≤ a2_) (p2_ : a2_ ≤ 0) : zC l m_M_numbers 0 0 [.ref 81, .ref 96, .ref 98, .int (Int32.ofInt a2_)] Mz (zpV [] [98] Mz (fun N => True)) := by
  refine zC_of (L0 := [some (.ref 81), some (.ref 96), some (.ref 98), some (.int (Int32.ofInt a2_)), none, none, none, none]) md_M_numbers (Nat.le_of_ble_eq_true rfl) rfl ?_ zQ0
  have hf : zFr [] [98] Mz Mz := zFr.rf
  have r_26 := ze_r Mz 81 26
  have gb := p0_.1
  refine zw_aload_n (pc := 0) (n := 0) (x := 81) rfl (zdal_p dlC_M_numbers_126 (i := 0) rfl) ?_
  refine zr_getI0 hf hW (pc := 1) (by decide) f_M_235 rfl (zdal_p dlC_M_numbers_126 (i := 1) rfl) ?_
  refine zw_iconst (pc := 4) (v := Int32.ofInt 1) (by decide) (zdal_p dlC_M_numbers_126 (i := 2) rfl) ?_
  refine zr_isub (pc := 5) (zdal_p dlC_M_numbers_126 (i := 3) rfl) ?_
  refine zw_istore (pc := 6) (i := 4) (L2 := [some (.ref 81), some (.ref 96), some (.ref 98), some (.int (Int32.ofInt a2_)), some (.int (Int32.ofInt ((ze Mz 81 26) - 1))), none, none, none]) (by decide) rfl (zdal_p dlC_M_numbers_126 (i := 4) rfl) ?_
  have lp_8 : ∀ (n : Nat) (u1_ : Int) (hu1_a : -2147483648 ≤ u1_) (hu1_b : u1_ < 2147483648) (N2_ : zMem) (hs3_ : zFr [] [98] Mz N2_) (i4_ : u1_ ≤ (ze Mz 81 26) - 1) (i5_ : u1_ ≥ -1), (u1_ + 1).toNat < n → zW l m_M_numbers (zn Mz + 0, zw Mz + 0) N2_ 8 [some (.ref 81), some (.ref 96), some (.ref 98), some (.int (Int32.ofInt a2_)), some (.int (Int32.ofInt u1_)), none, none, none] [] (zpV [] [98] Mz (fun N => True)) := by
    intro n
    induction n with
    | zero =>
      intro u1_ hu1_a hu1_b N2_ hs3_ i4_ i5_ h0
      exact absurd h0 (Nat.not_lt_zero _)
    | succ n ih_8 =>
      intro u1_ hu1_a hu1_b N2_ hs3_ i4_ i5_ hlt_8
      have hf_N2_ : zFr [] [98] Mz N2_ := hf.tr hs3_ (by decide) (by decide)
      refine zw_iload (pc := 8) (i := 4) (x := Int32.ofInt u1_) rfl (zdal_p dlC_M_numbers_126 (i := 5) rfl) ?_
      refine zr_if_lt (pc := 10) (tgt := 95) ⟨hu1_a, hu1_b⟩ (by decide) (zdal_p dlC_M_numbers_126 (i := 6) rfl) (fun hc_10 => ?_) (fun hc_10 => ?_)
      · skip
        exact zr_vret (pc := 95) rfl hf_N2_ trivial (zdal_p dlC_M_numbers_128 (i := 9) rfl)
      · skip
        refine zw_aload_n (pc := 13) (n := 1) (x := 96) rfl (zdal_p dlC_M_numbers_126 (i := 7) rfl) ?_
        refine zw_iload (pc := 14) (i := 4) (x := Int32.ofInt u1_) rfl (zdal_p dlC_M_numbers_126 (i := 8) rfl) ?_
        refine zr_laldn (pc := 16) (zh_96 (hf_N2_.w hW)).2 (by decide) (by (exact hc_10)) (by (exact zo_887 gb.2.2.2.2.2 hu1_b i4_)) (zdal_p dlC_M_numbers_126 (i := 9) rfl) (fun v7_ hv7_ hv7_a hv7_b => ?_)
        rw [hf_N2_.jg (by decide) (by decide)] at hv7_
        refine zw_lstore (pc := 17) (i := 5) (L2 := [some (.ref 81), some (.ref 96), some (.ref 98), some (.int (Int32.ofInt a2_)), some (.int (Int32.ofInt u1_)), some (.long (Int64.ofInt v7_)), none, none]) (by decide) rfl (zdal_p dlC_M_numbers_126 (i := 10) rfl) ?_
        refine zw_iload (pc := 19) (i := 4) (x := Int32.ofInt u1_) rfl (zdal_p dlC_M_numbers_126 (i := 11) rfl) ?_
        refine zw_iconst (pc := 21) (v := Int32.ofInt 1) (by decide) (zdal_p dlC_M_numbers_126 (i := 12) rfl) ?_
        refine zr_iadd (pc := 22) (zdal_p dlC_M_numbers_126 (i := 13) rfl) ?_
        refine zw_istore (pc := 23) (i := 7) (L2 := [some (.ref 81), some (.ref 96), some (.ref 98), some (.int (Int32.ofInt a2_)), some (.int (Int32.ofInt u1_)), some (.long (Int64.ofInt v7_)), none, some (.int (Int32.ofInt (u1_ + 1)))]) (by decide) rfl (zdal_p dlC_M_numbers_126 (i := 14) rfl) ?_
        have lp_25 : ∀ (n : Nat) (u8_ : Int) (hu8_a : -9223372036854775808 ≤ u8_) (hu8_b : u8_ < 9223372036854775808) (u9_ : Int) (hu9_a : -2147483648 ≤ u9_) (hu9_b : u9_ < 2147483648) (i10_ : u1_ + 1 ≤ u9_), (ze Mz 81 26 - u9_).toNat < n → zW l m_M_numbers (zn Mz + 0, zw Mz + 0) N2_ 25 [some (.ref 81), some (.ref 96), some (.ref 98), some (.int (Int32.ofInt a2_)), some (.int (Int32.ofInt u1_)), some (.long (Int64.ofInt u8_)), none, some (.int (Int32.ofInt u9_))] [] (zpV [] [98] Mz (fun N => True)) := by
          intro n
          induction n with
          | zero =>
            intro u8_ hu8_a hu8_b u9_ hu9_a hu9_b i10_ h0
            exact absurd h0 (Nat.not_lt_zero _)
          | succ n ih_25 =>
            intro u8_ hu8_a hu8_b u9_ hu9_a hu9_b i10_ hlt_25
            refine zw_iload (pc := 25) (i := 7) (x := Int32.ofInt u9_) rfl (zdal_p dlC_M_numbers_126 (i := 15) rfl) ?_
            refine zw_aload_n (pc := 27) (n := 0) (x := 81) rfl (zdal_p dlC_M_numbers_126 (i := 16) rfl) ?_
            refine zr_getI0 hf_N2_ hW (pc := 28) (by decide) f_M_235 rfl (zdal_p dlC_M_numbers_126 (i := 17) rfl) ?_
            refine zr_icmp_ge (pc := 31) (tgt := 66) ⟨hu9_a, hu9_b⟩ ⟨(ze_r Mz 81 26).1, (ze_r Mz 81 26).2⟩ (by decide) (zdal_p dlC_M_numbers_126 (i := 18) rfl) (fun hc_31 => ?_) (fun hc_31 => ?_)
            · skip
              refine zw_aload_n (pc := 66) (n := 2) (x := 98) rfl (zdal_p dlC_M_numbers_127 (i := 15) rfl) ?_
              refine zw_iload_n (pc := 67) (n := 3) (x := Int32.ofInt a2_) rfl (zdal_p dlC_M_numbers_127 (i := 16) rfl) ?_
              refine zw_iload (pc := 68) (i := 4) (x := Int32.ofInt u1_) rfl (zdal_p dlC_M_numbers_127 (i := 17) rfl) ?_
              refine zr_iadd (pc := 70) (zdal_p dlC_M_numbers_127 (i := 18) rfl) ?_
              refine zw_lload (pc := 71) (i := 5) (x := Int64.ofInt u8_) rfl (zdal_p dlC_M_numbers_127 (i := 19) rfl) ?_
              refine zw_aload_n (pc := 73) (n := 0) (x := 81) rfl (zdal_p dlC_M_numbers_127 (i := 20) rfl) ?_
              refine zr_getF (r := 93) (hf_N2_.w hW) (pc := 74) f_M_50 rfl (zh_93 (hf_N2_.w hW)).1 (zdal_p dlC_M_numbers_127 (i := 21) rfl) ?_
              refine zw_bipush (pc := 77) (v := Int32.ofInt 64) (by decide) (zdal_p dlC_M_numbers_127 (i := 22) rfl) ?_
              refine zw_iload (pc := 79) (i := 4) (x := Int32.ofInt u1_) rfl (zdal_p dlC_M_numbers_127 (i := 23) rfl) ?_
              refine zr_imul (pc := 81) (zdal_p dlC_M_numbers_128 (i := 0) rfl) ?_
              refine zw_iload (pc := 82) (i := 4) (x := Int32.ofInt u1_) rfl (zdal_p dlC_M_numbers_128 (i := 1) rfl) ?_
              refine zr_iadd (pc := 84) (zdal_p dlC_M_numbers_128 (i := 2) rfl) ?_
              refine zr_ialdn (pc := 85) (zh_93 (hf_N2_.w hW)).2 (by decide) (by (exact zo_888 hc_10)) (by (exact zo_889 gb.2.2.2.2.2 hu1_b i4_)) (zdal_p dlC_M_numbers_128 (i := 3) rfl) (fun v11_ hv11_ hv11_a hv11_b => ?_)
              rw [hf_N2_.ie (by decide) (by decide)] at hv11_
              refine zr_i2l (pc := 86) ⟨hv11_a, hv11_b⟩ (zdal_p dlC_M_numbers_128 (i := 4) rfl) ?_
              refine zr_ldiv (pc := 87) ⟨by (exact zo_282 hv11_a), by (exact zo_283 hv11_b)⟩ (by rw [hv11_]; exact p0_.2 _ (by (exact hc_10)) (by (exact zo_890 i4_))) (zdal_p dlC_M_numbers_128 (i := 5) rfl) ?_
              have hr12_ := zlquo_r u8_ v11_
              refine zr_last (pc := 88) (zh_98 (hf_N2_.w hW)).2 (by decide) (by decide) (by (exact zo_833 hc_10 p1_)) (by (exact zo_891 gb.2.2.2.2.2 hu1_b i4_ p2_)) (zdal_p dlC_M_numbers_128 (i := 6) rfl) (fun N13_ hN13_ hsN13_ => ?_)
              have hf_N13_ : zFr [] [98] Mz N13_ := hf_N2_.tr hsN13_ (by decide) (by decide)
              have hb0_N13_ : zFr [] [98] Mz N13_ := hs3_.tr hsN13_ (by decide) (by decide)
              refine zr_iinc (pc := 89) (i := 4) (a := u1_) (n := -1) (L2 := [some (.ref 81), some (.ref 96), some (.ref 98), some (.int (Int32.ofInt a2_)), some (.int (Int32.ofInt (u1_ + (-1)))), some (.long (Int64.ofInt u8_)), none, some (.int (Int32.ofInt u9_))]) rfl (by decide) rfl (zdal_p dlC_M_numbers_128 (i := 7) rfl) ?_
              refine zw_goto (pc := 92) (tgt := 8) (by decide) (zdal_p dlC_M_numbers_128 (i := 8) rfl) ?_
              refine zW_le [some (.ref 81), some (.ref 96), some (.ref 98), some (.int (Int32.ofInt a2_)), some (.int (Int32.ofInt (u1_ + (-1)))), none, none, none] (⟨rfl, rfl, rfl, rfl, rfl, trivial⟩) ?_
              exact ih_8 (u1_ + (-1)) (by (exact zo_892 hc_10)) (by (exact zo_893 hu1_b)) N13_ hb0_N13_ (show (u1_ + (-1)) ≤ (ze Mz 81 26) - 1 by first | with_reducible assumption | (exact zo_894 i4_) | assumption) (show (u1_ + (-1)) ≥ -1 by first | with_reducible assumption | (exact zo_895 hc_10) | assumption) (by (exact zo_896 hc_10 hlt_8 hu1_b))
            · skip
              refine zw_lload (pc := 34) (i := 5) (x := Int64.ofInt u8_) rfl (zdal_p dlC_M_numbers_126 (i := 19) rfl) ?_
              refine zw_aload_n (pc := 36) (n := 2) (x := 98) rfl (zdal_p dlC_M_numbers_126 (i := 20) rfl) ?_
              refine zw_iload_n (pc := 37) (n := 3) (x := Int32.ofInt a2_) rfl (zdal_p dlC_M_numbers_126 (i := 21) rfl) ?_
              refine zw_iload (pc := 38) (i := 7) (x := Int32.ofInt u9_) rfl (zdal_p dlC_M_numbers_126 (i := 22) rfl) ?_
              refine zr_iadd (pc := 40) (zdal_p dlC_M_numbers_126 (i := 23) rfl) ?_
              refine zr_laldn (pc := 41) (zh_98 (hf_N2_.w hW)).2 (by decide) (by (exact zo_897 hc_10 hu9_a i10_ p1_)) (by (exact zo_834 gb.2.2.2.2.2 hc_31 p2_)) (zdal_p dlC_M_numbers_127 (i := 0) rfl) (fun v15_ hv15_ hv15_a hv15_b => ?_)
              refine zw_aload_n (pc := 42) (n := 0) (x := 81) rfl (zdal_p dlC_M_numbers_127 (i := 1) rfl) ?_
              refine zr_getF (r := 93) (hf_N2_.w hW) (pc := 43) f_M_50 rfl (zh_93 (hf_N2_.w hW)).1 (zdal_p dlC_M_numbers_127 (i := 2) rfl) ?_
              refine zw_bipush (pc := 46) (v := Int32.ofInt 64) (by decide) (zdal_p dlC_M_numbers_127 (i := 3) rfl) ?_
              refine zw_iload (pc := 48) (i := 7) (x := Int32.ofInt u9_) rfl (zdal_p dlC_M_numbers_127 (i := 4) rfl) ?_
              refine zr_imul (pc := 50) (zdal_p dlC_M_numbers_127 (i := 5) rfl) ?_
              refine zw_iload (pc := 51) (i := 4) (x := Int32.ofInt u1_) rfl (zdal_p dlC_M_numbers_127 (i := 6) rfl) ?_
              refine zr_iadd (pc := 53) (zdal_p dlC_M_numbers_127 (i := 7) rfl) ?_
              refine zr_ialdn (pc := 54) (zh_93 (hf_N2_.w hW)).2 (by decide) (by (exact zo_898 hc_10 i10_)) (by (exact zo_899 gb.2.2.2.2.2 hc_31 i4_)) (zdal_p dlC_M_numbers_127 (i := 8) rfl) (fun v16_ hv16_ hv16_a hv16_b => ?_)
              rw [hf_N2_.ie (by decide) (by decide)] at hv16_
              refine zr_i2l (pc := 55) ⟨hv16_a, hv16_b⟩ (zdal_p dlC_M_numbers_127 (i := 9) rfl) ?_
              refine zr_lmul (pc := 56) (zdal_p dlC_M_numbers_127 (i := 10) rfl) ?_
              refine zr_lsub (pc := 57) (zdal_p dlC_M_numbers_127 (i := 11) rfl) ?_
              refine zr_nmJ (fun v17_ hv17_ => ?_)
              obtain ⟨hv17_a, hv17_b⟩ := hv17_
              refine zw_lstore (pc := 58) (i := 5) (L2 := [some (.ref 81), some (.ref 96), some (.ref 98), some (.int (Int32.ofInt a2_)), some (.int (Int32.ofInt u1_)), some (.long (Int64.ofInt v17_)), none, some (.int (Int32.ofInt u9_))]) (by decide) rfl (zdal_p dlC_M_numbers_127 (i := 12) rfl) ?_
              refine zr_iinc (pc := 60) (i := 7) (a := u9_) (n := 1) (L2 := [some (.ref 81), some (.ref 96), some (.ref 98), some (.int (Int32.ofInt a2_)), some (.int (Int32.ofInt u1_)), some (.long (Int64.ofInt v17_)), none, some (.int (Int32.ofInt (u9_ + 1)))]) rfl (by decide) rfl (zdal_p dlC_M_numbers_127 (i := 13) rfl) ?_
              refine zw_goto (pc := 63) (tgt := 25) (by decide) (zdal_p dlC_M_numbers_127 (i := 14) rfl) ?_
              exact ih_25 v17_ hv17_a hv17_b (u9_ + 1) (by (exact zo_679 hu9_a)) (by (exact zo_832 gb.2.2.2.2.2 hc_31)) (show u1_ + 1 ≤ (u9_ + 1) by first | with_reducible assumption | (exact zo_900 i10_) | assumption) (by (exact zo_147 hc_31 hlt_25))
        exact lp_25 _ v7_ hv7_a hv7_b (u1_ + 1) (by (exact zo_74 hc_10)) (by (exact zo_901 gb.2.2.2.2.2 hu1_b i4_)) (show u1_ + 1 ≤ (u1_ + 1) by first | with_reducible assumption | (exact zo_902) | assumption) (Nat.lt_succ_self _)
  exact lp_8 _ ((ze Mz 81 26) - 1) (by (exact zo_63 gb.2.2.2.2.1)) (by (exact zo_903 gb.2.2.2.2.2)) Mz zFr.rf (show ((ze Mz 81 26) - 1) ≤ (ze Mz 81 26) - 1 by first | with_reducible assumption | (exact zo_904) | assumption) (show ((ze Mz 81 26) - 1) ≥ -1 by first | with_reducible assumption | (exact zo_905 gb.2.2.2.2.1) | assumption) (Nat.lt_succ_self _)
set_option maxHeartbeats 4000000 in
theorem c_M_take (l : Launch) (Mz : zMem) (hW : zMt Mz) (a0_ : Int) (ha0_a : -2147483648 ≤ a0_) (ha0_b : a0_ < 2147483648) (a1_ : Int) (ha1_a : -2147483648 ≤ a1_) (ha1_b : a1_ < 2147483648) (T : zGT) (hO : gOK T) (p0_ : zGB T Mz) (p1_ : 1 ≤ ze Mz 81 16) (p2_ : ze Mz 81 16 ≤ 6) (p3_ : 0 ≤ ze Mz 81 60) (p4_ : ze Mz 81 60 ≤ 12) : zC l m_M_take 0 0 [.ref 81, .int (Int32.ofInt a0_), .int (Int32.ofInt a1_)] Mz (zpI [60, 63] [96, 98, 111, 112, 113] Mz (fun v N => 0 ≤ ze N 81 60 ∧ ze N 81 60 ≤ 12)) := by
  refine zC_of (L0 := [some (.ref 81), some (.int (Int32.ofInt a0_)), some (.int (Int32.ofInt a1_)), none]) md_M_take (Nat.le_of_ble_eq_true rfl) rfl ?_ zQ0
  have hf : zFr [60, 63] [96, 98, 111, 112, 113] Mz Mz := zFr.rf
  have r_16 := ze_r Mz 81 16
  have r_26 := ze_r Mz 81 26
  have r_60 := ze_r Mz 81 60
  have r_63 := ze_r Mz 81 63
  have hG := hO.1
  have g24 := hG.2.1
  have g1 := hG.1
  have dv0 : zTab T Mz := p0_.1
  have dv1 : zB 85 144 0 5 Mz := p0_.2.1
  have dv2 : zJX T Mz := p0_.2.2.1
  have dv3 : zFirs T Mz := p0_.2.2.2.1
  have dv4 : zSSm T Mz := p0_.2.2.2.2.1
  have dv5 : zGD Mz := zGB.d hO p0_
  have gb := dv5.1
  have gn := dv0.1
  refine zw_iload_n (pc := 0) (n := 1) (x := Int32.ofInt a0_) rfl (zdal_p dlD_M_take_112 (i := 0) rfl) ?_
  refine zr_i2l (pc := 1) ⟨ha0_a, ha0_b⟩ (zdal_p dlD_M_take_112 (i := 1) rfl) ?_
  refine zw_lconst (pc := 2) (v := Int64.ofInt 0) (by decide) (zdal_p dlD_M_take_112 (i := 2) rfl) ?_
  refine zr_ldc2 (pc := 3) (n := 2) (by decide) k_M_493 (zdal_p dlD_M_take_112 (i := 3) rfl) ?_
  refine zr_callS hf.x (pc := 6) [.long (Int64.ofInt a0_), .long (Int64.ofInt 0), .long (Int64.ofInt 2)] [] l_M_131 (c_M_isIn l Mz (hf.w hW) a0_ (by (exact zo_282 ha0_a)) (by (exact zo_283 ha0_b)) 0 (by decide) (by decide) 2 (by decide) (by decide)) rfl rfl (by decide) (Nat.le_of_ble_eq_true rfl) (zdal_p dlD_M_take_112 (i := 4) rfl) ?_
  rintro _ N1_ ⟨v2_, rfl, ⟨hv2_a, hv2_b⟩, hsN1_, hp0_N1_⟩
  obtain rfl := hsN1_.eq.symm
  replace hp0_N1_ : ((v2_ = 1 ∧ 0 ≤ a0_ ∧ a0_ ≤ 2) ∨ (v2_ = 0 ∧ (a0_ < 0 ∨ 2 < a0_))) := hp0_N1_
  rcases hp0_N1_ with ⟨rfl, ha6_0_hp0_N1_, ha6_1_hp0_N1_⟩ | ⟨rfl, ha6_0_hp0_N1_⟩
  · skip
    show zW l m_M_take (zn Mz + 0, zw Mz + 0) Mz 9 [some (.ref 81), some (.int (Int32.ofInt a0_)), some (.int (Int32.ofInt a1_)), none] [.int (Int32.ofInt 1)] _
    refine zr_if_eq (pc := 9) (tgt := 28) ⟨(by decide), (by decide)⟩ (by decide) (zdal_p dlD_M_take_112 (i := 5) rfl) (fun hc_9 => ?_) (fun hc_9 => ?_)
    · skip
      exact absurd hc_9 (by decide)
    · skip
      refine zw_iload_n (pc := 12) (n := 1) (x := Int32.ofInt a0_) rfl (zdal_p dlD_M_take_112 (i := 6) rfl) ?_
      refine zr_if_le (pc := 13) (tgt := 30) ⟨ha0_a, ha0_b⟩ (by decide) (zdal_p dlD_M_take_112 (i := 7) rfl) (fun hc_13 => ?_) (fun hc_13 => ?_)
      · skip
        refine zw_iconst (pc := 30) (v := Int32.ofInt 0) (by decide) (zdal_p dlD_M_take_112 (i := 16) rfl) ?_
        refine zw_istore_n (pc := 31) (i := 3) (L2 := [some (.ref 81), some (.int (Int32.ofInt a0_)), some (.int (Int32.ofInt a1_)), some (.int (Int32.ofInt 0))]) rfl (by decide) rfl (zdal_p dlD_M_take_112 (i := 17) rfl) ?_
        have lp_32 : ∀ (n : Nat) (u3_ : Int) (hu3_a : -2147483648 ≤ u3_) (hu3_b : u3_ < 2147483648) (N4_ : zMem) (hs5_ : zFr [63] [96, 112, 113] Mz N4_) (i6_ : 0 ≤ u3_), (ze Mz 81 26 - u3_).toNat < n → zW l m_M_take (zn Mz + 0, zw Mz + 0) N4_ 32 [some (.ref 81), some (.int (Int32.ofInt a0_)), some (.int (Int32.ofInt a1_)), some (.int (Int32.ofInt u3_))] [] (zpI [60, 63] [96, 98, 111, 112, 113] Mz (fun v N => 0 ≤ ze N 81 60 ∧ ze N 81 60 ≤ 12)) := by
          intro n
          induction n with
          | zero =>
            intro u3_ hu3_a hu3_b N4_ hs5_ i6_ h0
            exact absurd h0 (Nat.not_lt_zero _)
          | succ n ih_32 =>
            intro u3_ hu3_a hu3_b N4_ hs5_ i6_ hlt_32
            have hf_N4_ : zFr [60, 63] [96, 98, 111, 112, 113] Mz N4_ := hf.tr hs5_ (by decide) (by decide)
            have e16_N4_ : ze N4_ 81 16 = ze Mz 81 16 := hs5_.e (by decide)
            have e60_N4_ : ze N4_ 81 60 = ze Mz 81 60 := hs5_.e (by decide)
            have c7_ : zGB T N4_ := zGB.fr hs5_ p0_ (by decide) (by decide)
            have c13_ : zGD N4_ := zGD.fr hs5_ dv5 (by decide) (by decide)
            refine zw_iload_n (pc := 32) (n := 3) (x := Int32.ofInt u3_) rfl (zdal_p dlD_M_take_112 (i := 18) rfl) ?_
            refine zw_aload_n (pc := 33) (n := 0) (x := 81) rfl (zdal_p dlD_M_take_112 (i := 19) rfl) ?_
            refine zr_getI0 hf_N4_ hW (pc := 34) (by decide) f_M_235 rfl (zdal_p dlD_M_take_112 (i := 20) rfl) ?_
            refine zr_icmp_ge (pc := 37) (tgt := 68) ⟨hu3_a, hu3_b⟩ ⟨(ze_r Mz 81 26).1, (ze_r Mz 81 26).2⟩ (by decide) (zdal_p dlD_M_take_112 (i := 21) rfl) (fun hc_37 => ?_) (fun hc_37 => ?_)
            · skip
              refine zw_aload_n (pc := 68) (n := 0) (x := 81) rfl (zdal_p dlD_M_take_113 (i := 14) rfl) ?_
              refine zr_callV (hf_N4_.w hW) hf_N4_.x (pc := 69) [] [] l_M_481 (c_M_act l N4_ (hf_N4_.w hW) (show 0 ≤ ze N4_ 81 60 by first | with_reducible assumption | (exact zo_720 e60_N4_ p3_) | assumption) (show ze N4_ 81 60 ≤ 12 by first | with_reducible assumption | (exact zo_829 e60_N4_ p4_) | assumption)) rfl rfl rfl (by decide) (Nat.le_of_ble_eq_true rfl) (zdal_p dlD_M_take_113 (i := 15) rfl) ?_
              rintro _ N14_ ⟨rfl, hsN14_, ⟨hp0_N14_, hp1_N14_⟩⟩
              have hf_N14_ : zFr [60, 63] [96, 98, 111, 112, 113] Mz N14_ := hf_N4_.tr hsN14_ (by decide) (by decide)
              have c22_ : zGD N14_ := zGD.fr hsN14_ c13_ (by decide) (by decide)
              show zW l m_M_take (zn Mz + 0, zw Mz + 0) N14_ 72 [some (.ref 81), some (.int (Int32.ofInt a0_)), some (.int (Int32.ofInt a1_)), some (.int (Int32.ofInt u3_))] [] _
              refine zw_aload_n (pc := 72) (n := 0) (x := 81) rfl (zdal_p dlD_M_take_113 (i := 16) rfl) ?_
              refine zw_aload_n (pc := 73) (n := 0) (x := 81) rfl (zdal_p dlD_M_take_113 (i := 17) rfl) ?_
              refine zr_getF (r := 96) (hf_N14_.w hW) (pc := 74) f_M_60 rfl (zh_96 (hf_N14_.w hW)).1 (zdal_p dlD_M_take_113 (i := 18) rfl) ?_
              refine zw_aload_n (pc := 77) (n := 0) (x := 81) rfl (zdal_p dlD_M_take_113 (i := 19) rfl) ?_
              refine zr_getF (r := 98) (hf_N14_.w hW) (pc := 78) f_M_66 rfl (zh_98 (hf_N14_.w hW)).1 (zdal_p dlD_M_take_113 (i := 20) rfl) ?_
              refine zw_iconst (pc := 81) (v := Int32.ofInt 0) (by decide) (zdal_p dlD_M_take_113 (i := 21) rfl) ?_
              refine zr_callV (hf_N14_.w hW) hf_N14_.x (pc := 82) [.ref 96, .ref 98, .int (Int32.ofInt 0)] [] l_M_289 (c_M_numbers_96_98 l N14_ (hf_N14_.w hW) 0 (by decide) (by decide) c22_ (show 0 ≤ 0 by first | with_reducible assumption | (decide) | assumption) (show 0 ≤ 0 by first | with_reducible assumption | (decide) | assumption)) rfl rfl rfl (by decide) (Nat.le_of_ble_eq_true rfl) (zdal_p dlD_M_take_113 (i := 22) rfl) ?_
              rintro _ N23_ ⟨rfl, hsN23_, -⟩
              have hf_N23_ : zFr [60, 63] [96, 98, 111, 112, 113] Mz N23_ := hf_N14_.tr hsN23_ (by decide) (by decide)
              have e60_N23_ : ze N23_ 81 60 = ze N14_ 81 60 := hsN23_.e (by decide)
              show zW l m_M_take (zn Mz + 0, zw Mz + 0) N23_ 85 [some (.ref 81), some (.int (Int32.ofInt a0_)), some (.int (Int32.ofInt a1_)), some (.int (Int32.ofInt u3_))] [] _
              refine zw_aload_n (pc := 85) (n := 0) (x := 81) rfl (zdal_p dlD_M_take_113 (i := 23) rfl) ?_
              refine zr_getF (r := 96) (hf_N23_.w hW) (pc := 86) f_M_60 rfl (zh_96 (hf_N23_.w hW)).1 (zdal_p dlD_M_take_114 (i := 0) rfl) ?_
              refine zw_iconst (pc := 89) (v := Int32.ofInt 0) (by decide) (zdal_p dlD_M_take_114 (i := 1) rfl) ?_
              refine zr_laldn (pc := 90) (zh_96 (hf_N23_.w hW)).2 (by decide) (by (decide)) (by (decide)) (zdal_p dlD_M_take_114 (i := 2) rfl) (fun v32_ hv32_ hv32_a hv32_b => ?_)
              refine zr_l2i (pc := 91) (zdal_p dlD_M_take_114 (i := 3) rfl) ?_
              refine zr_nmI (fun v33_ hv33_ => ?_)
              obtain ⟨hv33_a, hv33_b⟩ := hv33_
              exact zr_iret (pc := 92) (ty := .int) rfl rfl ⟨by (exact hv33_a), by (exact hv33_b)⟩ hf_N23_ ⟨(show 0 ≤ ze N23_ 81 60 by first | with_reducible assumption | (exact zo_568 e60_N23_ hp0_N14_) | assumption), (show ze N23_ 81 60 ≤ 12 by first | with_reducible assumption | (exact zo_829 e60_N23_ hp1_N14_) | assumption)⟩ (zdal_p dlD_M_take_114 (i := 4) rfl)
            · skip
              refine zw_aload_n (pc := 40) (n := 0) (x := 81) rfl (zdal_p dlD_M_take_112 (i := 22) rfl) ?_
              refine zw_aload_n (pc := 41) (n := 0) (x := 81) rfl (zdal_p dlD_M_take_112 (i := 23) rfl) ?_
              refine zr_getF (r := 91) (hf_N4_.w hW) (pc := 42) f_M_44 rfl (zh_91 (hf_N4_.w hW)).1 (zdal_p dlD_M_take_113 (i := 0) rfl) ?_
              refine zw_iload_n (pc := 45) (n := 3) (x := Int32.ofInt u3_) rfl (zdal_p dlD_M_take_113 (i := 1) rfl) ?_
              refine zr_ialdn (pc := 46) (zh_91 (hf_N4_.w hW)).2 (by decide) (by (exact i6_)) (by (exact zo_831 gb.2.2.2.2.2 hc_37)) (zdal_p dlD_M_take_113 (i := 2) rfl) (fun v34_ hv34_ hv34_a hv34_b => ?_)
              rw [hf_N4_.ie (by decide) (by decide)] at hv34_
              have hf_x := dv3.g hO (e := u3_) (by (exact i6_)) (by (exact hc_37))
              refine zr_callV (hf_N4_.w hW) hf_N4_.x (pc := 47) [.int (Int32.ofInt v34_)] [] l_M_497 (c_M_laysParts l N4_ (hf_N4_.w hW) v34_ hv34_a hv34_b T hO c7_ (show 1 ≤ ze N4_ 81 16 by first | with_reducible assumption | (exact zo_533 e16_N4_ p1_) | assumption) (show ze N4_ 81 16 ≤ 6 by first | with_reducible assumption | (exact zo_810 e16_N4_ p2_) | assumption) (show 0 ≤ v34_ by first | with_reducible assumption | (exact zo_574 hf_x.2.1 hv34_ hv34_a) | assumption)) rfl rfl rfl (by decide) (Nat.le_of_ble_eq_true rfl) (zdal_p dlD_M_take_113 (i := 3) rfl) ?_
              rintro _ N35_ ⟨rfl, hsN35_, ⟨hp0_N35_, hp1_N35_, hp2_N35_⟩⟩
              have hf_N35_ : zFr [60, 63] [96, 98, 111, 112, 113] Mz N35_ := hf_N4_.tr hsN35_ (by decide) (by decide)
              have hb0_N35_ : zFr [63] [96, 112, 113] Mz N35_ := hs5_.tr hsN35_ (by decide) (by decide)
              show zW l m_M_take (zn Mz + 0, zw Mz + 0) N35_ 50 [some (.ref 81), some (.int (Int32.ofInt a0_)), some (.int (Int32.ofInt a1_)), some (.int (Int32.ofInt u3_))] [] _
              refine zw_aload_n (pc := 50) (n := 0) (x := 81) rfl (zdal_p dlD_M_take_113 (i := 4) rfl) ?_
              refine zr_getF (r := 96) (hf_N35_.w hW) (pc := 51) f_M_60 rfl (zh_96 (hf_N35_.w hW)).1 (zdal_p dlD_M_take_113 (i := 5) rfl) ?_
              refine zw_iload_n (pc := 54) (n := 3) (x := Int32.ofInt u3_) rfl (zdal_p dlD_M_take_113 (i := 6) rfl) ?_
              refine zw_aload_n (pc := 55) (n := 0) (x := 81) rfl (zdal_p dlD_M_take_113 (i := 7) rfl) ?_
              refine zw_iload_n (pc := 56) (n := 1) (x := Int32.ofInt a0_) rfl (zdal_p dlD_M_take_113 (i := 8) rfl) ?_
              refine zw_iload_n (pc := 57) (n := 2) (x := Int32.ofInt a1_) rfl (zdal_p dlD_M_take_113 (i := 9) rfl) ?_
              refine zr_callV (hf_N35_.w hW) hf_N35_.x (pc := 58) [.int (Int32.ofInt a0_), .int (Int32.ofInt a1_)] [.int (Int32.ofInt u3_), .ref 96] l_M_500 (c_M_fixedBy l N35_ (hf_N35_.w hW) a0_ ha0_a ha0_b a1_ ha1_a ha1_b (show 0 ≤ ze N35_ 81 63 by first | with_reducible assumption | assumption | omega) (show ze N35_ 81 63 ≤ 6 by first | with_reducible assumption | assumption | omega) (show zPo N35_ (ze N35_ 81 63) by first | with_reducible assumption | assumption) (show (a0_ ≠ 1 ∨ (0 ≤ a1_ ∧ a1_ ≤ 6)) by first | with_reducible assumption | assumption | omega)) rfl rfl rfl (by decide) (Nat.le_of_ble_eq_true rfl) (zdal_p dlD_M_take_113 (i := 10) rfl) ?_
              rintro _ N44_ ⟨v45_, rfl, ⟨hv45_a, hv45_b⟩, hsN44_, -⟩
              have hf_N44_ : zFr [60, 63] [96, 98, 111, 112, 113] Mz N44_ := hf_N35_.tr hsN44_ (by decide) (by decide)
              have hb0_N44_ : zFr [63] [96, 112, 113] Mz N44_ := hb0_N35_.tr hsN44_ (by decide) (by decide)
              show zW l m_M_take (zn Mz + 0, zw Mz + 0) N44_ 61 [some (.ref 81), some (.int (Int32.ofInt a0_)), some (.int (Int32.ofInt a1_)), some (.int (Int32.ofInt u3_))] [.long (Int64.ofInt v45_), .int (Int32.ofInt u3_), .ref 96] _
              refine zr_last (pc := 61) (zh_96 (hf_N44_.w hW)).2 (by decide) (by decide) (by (exact i6_)) (by (exact zo_831 gb.2.2.2.2.2 hc_37)) (zdal_p dlD_M_take_113 (i := 11) rfl) (fun N53_ hN53_ hsN53_ => ?_)
              have hf_N53_ : zFr [60, 63] [96, 98, 111, 112, 113] Mz N53_ := hf_N44_.tr hsN53_ (by decide) (by decide)
              have hb0_N53_ : zFr [63] [96, 112, 113] Mz N53_ := hb0_N44_.tr hsN53_ (by decide) (by decide)
              refine zr_iinc (pc := 62) (i := 3) (a := u3_) (n := 1) (L2 := [some (.ref 81), some (.int (Int32.ofInt a0_)), some (.int (Int32.ofInt a1_)), some (.int (Int32.ofInt (u3_ + 1)))]) rfl (by decide) rfl (zdal_p dlD_M_take_113 (i := 12) rfl) ?_
              refine zw_goto (pc := 65) (tgt := 32) (by decide) (zdal_p dlD_M_take_113 (i := 13) rfl) ?_
              exact ih_32 (u3_ + 1) (by (exact zo_74 i6_)) (by (exact zo_832 gb.2.2.2.2.2 hc_37)) N53_ hb0_N53_ (show 0 ≤ (u3_ + 1) by first | with_reducible assumption | (exact zo_76 i6_) | assumption) (by (exact zo_147 hc_37 hlt_32))
        exact lp_32 _ 0 (by decide) (by decide) Mz zFr.rf (show 0 ≤ (0 : Int) by first | with_reducible assumption | (decide) | assumption) (Nat.lt_succ_self _)
      · skip
        refine zw_iload_n (pc := 16) (n := 2) (x := Int32.ofInt a1_) rfl (zdal_p dlD_M_take_112 (i := 8) rfl) ?_
        refine zr_i2l (pc := 17) ⟨ha1_a, ha1_b⟩ (zdal_p dlD_M_take_112 (i := 9) rfl) ?_
        refine zw_lconst (pc := 18) (v := Int64.ofInt 0) (by decide) (zdal_p dlD_M_take_112 (i := 10) rfl) ?_
        refine zr_ldc2 (pc := 19) (n := 6) (by decide) k_M_495 (zdal_p dlD_M_take_112 (i := 11) rfl) ?_
        refine zr_callS hf.x (pc := 22) [.long (Int64.ofInt a1_), .long (Int64.ofInt 0), .long (Int64.ofInt 6)] [] l_M_131 (c_M_isIn l Mz (hf.w hW) a1_ (by (exact zo_282 ha1_a)) (by (exact zo_283 ha1_b)) 0 (by decide) (by decide) 6 (by decide) (by decide)) rfl rfl (by decide) (Nat.le_of_ble_eq_true rfl) (zdal_p dlD_M_take_112 (i := 12) rfl) ?_
        rintro _ N61_ ⟨v62_, rfl, ⟨hv62_a, hv62_b⟩, hsN61_, hp0_N61_⟩
        obtain rfl := hsN61_.eq.symm
        replace hp0_N61_ : ((v62_ = 1 ∧ 0 ≤ a1_ ∧ a1_ ≤ 6) ∨ (v62_ = 0 ∧ (a1_ < 0 ∨ 6 < a1_))) := hp0_N61_
        rcases hp0_N61_ with ⟨rfl, ha22_0_hp0_N61_, ha22_1_hp0_N61_⟩ | ⟨rfl, ha22_0_hp0_N61_⟩
        · skip
          show zW l m_M_take (zn Mz + 0, zw Mz + 0) Mz 25 [some (.ref 81), some (.int (Int32.ofInt a0_)), some (.int (Int32.ofInt a1_)), none] [.int (Int32.ofInt 1)] _
          refine zr_if_ne (pc := 25) (tgt := 30) ⟨(by decide), (by decide)⟩ (by decide) (zdal_p dlD_M_take_112 (i := 13) rfl) (fun hc_25 => ?_) (fun hc_25 => ?_)
          · skip
            refine zw_iconst (pc := 30) (v := Int32.ofInt 0) (by decide) (zdal_p dlD_M_take_112 (i := 16) rfl) ?_
            refine zw_istore_n (pc := 31) (i := 3) (L2 := [some (.ref 81), some (.int (Int32.ofInt a0_)), some (.int (Int32.ofInt a1_)), some (.int (Int32.ofInt 0))]) rfl (by decide) rfl (zdal_p dlD_M_take_112 (i := 17) rfl) ?_
            have lp_32 : ∀ (n : Nat) (u63_ : Int) (hu63_a : -2147483648 ≤ u63_) (hu63_b : u63_ < 2147483648) (N64_ : zMem) (hs65_ : zFr [63] [96, 112, 113] Mz N64_) (i66_ : 0 ≤ u63_), (ze Mz 81 26 - u63_).toNat < n → zW l m_M_take (zn Mz + 0, zw Mz + 0) N64_ 32 [some (.ref 81), some (.int (Int32.ofInt a0_)), some (.int (Int32.ofInt a1_)), some (.int (Int32.ofInt u63_))] [] (zpI [60, 63] [96, 98, 111, 112, 113] Mz (fun v N => 0 ≤ ze N 81 60 ∧ ze N 81 60 ≤ 12)) := by
              intro n
              induction n with
              | zero =>
                intro u63_ hu63_a hu63_b N64_ hs65_ i66_ h0
                exact absurd h0 (Nat.not_lt_zero _)
              | succ n ih_32 =>
                intro u63_ hu63_a hu63_b N64_ hs65_ i66_ hlt_32
                have hf_N64_ : zFr [60, 63] [96, 98, 111, 112, 113] Mz N64_ := hf.tr hs65_ (by decide) (by decide)
                have e16_N64_ : ze N64_ 81 16 = ze Mz 81 16 := hs65_.e (by decide)
                have e60_N64_ : ze N64_ 81 60 = ze Mz 81 60 := hs65_.e (by decide)
                have c67_ : zGB T N64_ := zGB.fr hs65_ p0_ (by decide) (by decide)
                have c73_ : zGD N64_ := zGD.fr hs65_ dv5 (by decide) (by decide)
                refine zw_iload_n (pc := 32) (n := 3) (x := Int32.ofInt u63_) rfl (zdal_p dlD_M_take_112 (i := 18) rfl) ?_
                refine zw_aload_n (pc := 33) (n := 0) (x := 81) rfl (zdal_p dlD_M_take_112 (i := 19) rfl) ?_
                refine zr_getI0 hf_N64_ hW (pc := 34) (by decide) f_M_235 rfl (zdal_p dlD_M_take_112 (i := 20) rfl) ?_
                refine zr_icmp_ge (pc := 37) (tgt := 68) ⟨hu63_a, hu63_b⟩ ⟨(ze_r Mz 81 26).1, (ze_r Mz 81 26).2⟩ (by decide) (zdal_p dlD_M_take_112 (i := 21) rfl) (fun hc_37 => ?_) (fun hc_37 => ?_)
                · skip
                  refine zw_aload_n (pc := 68) (n := 0) (x := 81) rfl (zdal_p dlD_M_take_113 (i := 14) rfl) ?_
                  refine zr_callV (hf_N64_.w hW) hf_N64_.x (pc := 69) [] [] l_M_481 (c_M_act l N64_ (hf_N64_.w hW) (show 0 ≤ ze N64_ 81 60 by first | with_reducible assumption | (exact zo_720 e60_N64_ p3_) | assumption) (show ze N64_ 81 60 ≤ 12 by first | with_reducible assumption | (exact zo_829 e60_N64_ p4_) | assumption)) rfl rfl rfl (by decide) (Nat.le_of_ble_eq_true rfl) (zdal_p dlD_M_take_113 (i := 15) rfl) ?_
                  rintro _ N74_ ⟨rfl, hsN74_, ⟨hp0_N74_, hp1_N74_⟩⟩
                  have hf_N74_ : zFr [60, 63] [96, 98, 111, 112, 113] Mz N74_ := hf_N64_.tr hsN74_ (by decide) (by decide)
                  have c82_ : zGD N74_ := zGD.fr hsN74_ c73_ (by decide) (by decide)
                  show zW l m_M_take (zn Mz + 0, zw Mz + 0) N74_ 72 [some (.ref 81), some (.int (Int32.ofInt a0_)), some (.int (Int32.ofInt a1_)), some (.int (Int32.ofInt u63_))] [] _
                  refine zw_aload_n (pc := 72) (n := 0) (x := 81) rfl (zdal_p dlD_M_take_113 (i := 16) rfl) ?_
                  refine zw_aload_n (pc := 73) (n := 0) (x := 81) rfl (zdal_p dlD_M_take_113 (i := 17) rfl) ?_
                  refine zr_getF (r := 96) (hf_N74_.w hW) (pc := 74) f_M_60 rfl (zh_96 (hf_N74_.w hW)).1 (zdal_p dlD_M_take_113 (i := 18) rfl) ?_
                  refine zw_aload_n (pc := 77) (n := 0) (x := 81) rfl (zdal_p dlD_M_take_113 (i := 19) rfl) ?_
                  refine zr_getF (r := 98) (hf_N74_.w hW) (pc := 78) f_M_66 rfl (zh_98 (hf_N74_.w hW)).1 (zdal_p dlD_M_take_113 (i := 20) rfl) ?_
                  refine zw_iconst (pc := 81) (v := Int32.ofInt 0) (by decide) (zdal_p dlD_M_take_113 (i := 21) rfl) ?_
                  refine zr_callV (hf_N74_.w hW) hf_N74_.x (pc := 82) [.ref 96, .ref 98, .int (Int32.ofInt 0)] [] l_M_289 (c_M_numbers_96_98 l N74_ (hf_N74_.w hW) 0 (by decide) (by decide) c82_ (show 0 ≤ 0 by first | with_reducible assumption | (decide) | assumption) (show 0 ≤ 0 by first | with_reducible assumption | (decide) | assumption)) rfl rfl rfl (by decide) (Nat.le_of_ble_eq_true rfl) (zdal_p dlD_M_take_113 (i := 22) rfl) ?_
                  rintro _ N83_ ⟨rfl, hsN83_, -⟩
                  have hf_N83_ : zFr [60, 63] [96, 98, 111, 112, 113] Mz N83_ := hf_N74_.tr hsN83_ (by decide) (by decide)
                  have e60_N83_ : ze N83_ 81 60 = ze N74_ 81 60 := hsN83_.e (by decide)
                  show zW l m_M_take (zn Mz + 0, zw Mz + 0) N83_ 85 [some (.ref 81), some (.int (Int32.ofInt a0_)), some (.int (Int32.ofInt a1_)), some (.int (Int32.ofInt u63_))] [] _
                  refine zw_aload_n (pc := 85) (n := 0) (x := 81) rfl (zdal_p dlD_M_take_113 (i := 23) rfl) ?_
                  refine zr_getF (r := 96) (hf_N83_.w hW) (pc := 86) f_M_60 rfl (zh_96 (hf_N83_.w hW)).1 (zdal_p dlD_M_take_114 (i := 0) rfl) ?_
                  refine zw_iconst (pc := 89) (v := Int32.ofInt 0) (by decide) (zdal_p dlD_M_take_114 (i := 1) rfl) ?_
                  refine zr_laldn (pc := 90) (zh_96 (hf_N83_.w hW)).2 (by decide) (by (decide)) (by (decide)) (zdal_p dlD_M_take_114 (i := 2) rfl) (fun v92_ hv92_ hv92_a hv92_b => ?_)
                  refine zr_l2i (pc := 91) (zdal_p dlD_M_take_114 (i := 3) rfl) ?_
                  refine zr_nmI (fun v93_ hv93_ => ?_)
                  obtain ⟨hv93_a, hv93_b⟩ := hv93_
                  exact zr_iret (pc := 92) (ty := .int) rfl rfl ⟨by (exact hv93_a), by (exact hv93_b)⟩ hf_N83_ ⟨(show 0 ≤ ze N83_ 81 60 by first | with_reducible assumption | (exact zo_568 e60_N83_ hp0_N74_) | assumption), (show ze N83_ 81 60 ≤ 12 by first | with_reducible assumption | (exact zo_829 e60_N83_ hp1_N74_) | assumption)⟩ (zdal_p dlD_M_take_114 (i := 4) rfl)
                · skip
                  refine zw_aload_n (pc := 40) (n := 0) (x := 81) rfl (zdal_p dlD_M_take_112 (i := 22) rfl) ?_
                  refine zw_aload_n (pc := 41) (n := 0) (x := 81) rfl (zdal_p dlD_M_take_112 (i := 23) rfl) ?_
                  refine zr_getF (r := 91) (hf_N64_.w hW) (pc := 42) f_M_44 rfl (zh_91 (hf_N64_.w hW)).1 (zdal_p dlD_M_take_113 (i := 0) rfl) ?_
                  refine zw_iload_n (pc := 45) (n := 3) (x := Int32.ofInt u63_) rfl (zdal_p dlD_M_take_113 (i := 1) rfl) ?_
                  refine zr_ialdn (pc := 46) (zh_91 (hf_N64_.w hW)).2 (by decide) (by (exact i66_)) (by (exact zo_831 gb.2.2.2.2.2 hc_37)) (zdal_p dlD_M_take_113 (i := 2) rfl) (fun v94_ hv94_ hv94_a hv94_b => ?_)
                  rw [hf_N64_.ie (by decide) (by decide)] at hv94_
                  have hf_x := dv3.g hO (e := u63_) (by (exact i66_)) (by (exact hc_37))
                  refine zr_callV (hf_N64_.w hW) hf_N64_.x (pc := 47) [.int (Int32.ofInt v94_)] [] l_M_497 (c_M_laysParts l N64_ (hf_N64_.w hW) v94_ hv94_a hv94_b T hO c67_ (show 1 ≤ ze N64_ 81 16 by first | with_reducible assumption | (exact zo_533 e16_N64_ p1_) | assumption) (show ze N64_ 81 16 ≤ 6 by first | with_reducible assumption | (exact zo_810 e16_N64_ p2_) | assumption) (show 0 ≤ v94_ by first | with_reducible assumption | (exact zo_574 hf_x.2.1 hv94_ hv94_a) | assumption)) rfl rfl rfl (by decide) (Nat.le_of_ble_eq_true rfl) (zdal_p dlD_M_take_113 (i := 3) rfl) ?_
                  rintro _ N95_ ⟨rfl, hsN95_, ⟨hp0_N95_, hp1_N95_, hp2_N95_⟩⟩
                  have hf_N95_ : zFr [60, 63] [96, 98, 111, 112, 113] Mz N95_ := hf_N64_.tr hsN95_ (by decide) (by decide)
                  have hb0_N95_ : zFr [63] [96, 112, 113] Mz N95_ := hs65_.tr hsN95_ (by decide) (by decide)
                  show zW l m_M_take (zn Mz + 0, zw Mz + 0) N95_ 50 [some (.ref 81), some (.int (Int32.ofInt a0_)), some (.int (Int32.ofInt a1_)), some (.int (Int32.ofInt u63_))] [] _
                  refine zw_aload_n (pc := 50) (n := 0) (x := 81) rfl (zdal_p dlD_M_take_113 (i := 4) rfl) ?_
                  refine zr_getF (r := 96) (hf_N95_.w hW) (pc := 51) f_M_60 rfl (zh_96 (hf_N95_.w hW)).1 (zdal_p dlD_M_take_113 (i := 5) rfl) ?_
                  refine zw_iload_n (pc := 54) (n := 3) (x := Int32.ofInt u63_) rfl (zdal_p dlD_M_take_113 (i := 6) rfl) ?_
                  refine zw_aload_n (pc := 55) (n := 0) (x := 81) rfl (zdal_p dlD_M_take_113 (i := 7) rfl) ?_
                  refine zw_iload_n (pc := 56) (n := 1) (x := Int32.ofInt a0_) rfl (zdal_p dlD_M_take_113 (i := 8) rfl) ?_
                  refine zw_iload_n (pc := 57) (n := 2) (x := Int32.ofInt a1_) rfl (zdal_p dlD_M_take_113 (i := 9) rfl) ?_
                  refine zr_callV (hf_N95_.w hW) hf_N95_.x (pc := 58) [.int (Int32.ofInt a0_), .int (Int32.ofInt a1_)] [.int (Int32.ofInt u63_), .ref 96] l_M_500 (c_M_fixedBy l N95_ (hf_N95_.w hW) a0_ ha0_a ha0_b a1_ ha1_a ha1_b (show 0 ≤ ze N95_ 81 63 by first | with_reducible assumption | assumption | omega) (show ze N95_ 81 63 ≤ 6 by first | with_reducible assumption | assumption | omega) (show zPo N95_ (ze N95_ 81 63) by first | with_reducible assumption | assumption) (show (a0_ ≠ 1 ∨ (0 ≤ a1_ ∧ a1_ ≤ 6)) by first | with_reducible assumption | assumption | omega)) rfl rfl rfl (by decide) (Nat.le_of_ble_eq_true rfl) (zdal_p dlD_M_take_113 (i := 10) rfl) ?_
                  rintro _ N104_ ⟨v105_, rfl, ⟨hv105_a, hv105_b⟩, hsN104_, -⟩
                  have hf_N104_ : zFr [60, 63] [96, 98, 111, 112, 113] Mz N104_ := hf_N95_.tr hsN104_ (by decide) (by decide)
                  have hb0_N104_ : zFr [63] [96, 112, 113] Mz N104_ := hb0_N95_.tr hsN104_ (by decide) (by decide)
                  show zW l m_M_take (zn Mz + 0, zw Mz + 0) N104_ 61 [some (.ref 81), some (.int (Int32.ofInt a0_)), some (.int (Int32.ofInt a1_)), some (.int (Int32.ofInt u63_))] [.long (Int64.ofInt v105_), .int (Int32.ofInt u63_), .ref 96] _
                  refine zr_last (pc := 61) (zh_96 (hf_N104_.w hW)).2 (by decide) (by decide) (by (exact i66_)) (by (exact zo_831 gb.2.2.2.2.2 hc_37)) (zdal_p dlD_M_take_113 (i := 11) rfl) (fun N113_ hN113_ hsN113_ => ?_)
                  have hf_N113_ : zFr [60, 63] [96, 98, 111, 112, 113] Mz N113_ := hf_N104_.tr hsN113_ (by decide) (by decide)
                  have hb0_N113_ : zFr [63] [96, 112, 113] Mz N113_ := hb0_N104_.tr hsN113_ (by decide) (by decide)
                  refine zr_iinc (pc := 62) (i := 3) (a := u63_) (n := 1) (L2 := [some (.ref 81), some (.int (Int32.ofInt a0_)), some (.int (Int32.ofInt a1_)), some (.int (Int32.ofInt (u63_ + 1)))]) rfl (by decide) rfl (zdal_p dlD_M_take_113 (i := 12) rfl) ?_
                  refine zw_goto (pc := 65) (tgt := 32) (by decide) (zdal_p dlD_M_take_113 (i := 13) rfl) ?_
                  exact ih_32 (u63_ + 1) (by (exact zo_74 i66_)) (by (exact zo_832 gb.2.2.2.2.2 hc_37)) N113_ hb0_N113_ (show 0 ≤ (u63_ + 1) by first | with_reducible assumption | (exact zo_76 i66_) | assumption) (by (exact zo_147 hc_37 hlt_32))
            exact lp_32 _ 0 (by decide) (by decide) Mz zFr.rf (show 0 ≤ (0 : Int) by first | with_reducible assumption | (decide) | assumption) (Nat.lt_succ_self _)
          · skip
            exact absurd hc_25 (by decide)
        · skip
          show zW l m_M_take (zn Mz + 0, zw Mz + 0) Mz 25 [some (.ref 81), some (.int (Int32.ofInt a0_)), some (.int (Int32.ofInt a1_)), none] [.int (Int32.ofInt 0)] _
          refine zr_if_ne (pc := 25) (tgt := 30) ⟨(by decide), (by decide)⟩ (by decide) (zdal_p dlD_M_take_112 (i := 13) rfl) (fun hc_25 => ?_) (fun hc_25 => ?_)
          · skip
            exact absurd hc_25 (by decide)
          · skip
            refine zw_iconst (pc := 28) (v := Int32.ofInt (-1)) (by decide) (zdal_p dlD_M_take_112 (i := 14) rfl) ?_
            exact zr_iret (pc := 29) (ty := .int) rfl rfl ⟨by (decide), by (decide)⟩ hf ⟨(show 0 ≤ ze Mz 81 60 by first | with_reducible assumption | assumption | omega), (show ze Mz 81 60 ≤ 12 by first | with_reducible assumption | assumption | omega)⟩ (zdal_p dlD_M_take_112 (i := 15) rfl)
  · skip
    show zW l m_M_take (zn Mz + 0, zw Mz + 0) Mz 9 [some (.ref 81), some (.int (Int32.ofInt a0_)), some (.int (Int32.ofInt a1_)), none] [.int (Int32.ofInt 0)] _
    refine zr_if_eq (pc := 9) (tgt := 28) ⟨(by decide), (by decide)⟩ (by decide) (zdal_p dlD_M_take_112 (i := 5) rfl) (fun hc_9 => ?_) (fun hc_9 => ?_)
    · skip
      refine zw_iconst (pc := 28) (v := Int32.ofInt (-1)) (by decide) (zdal_p dlD_M_take_112 (i := 14) rfl) ?_
      exact zr_iret (pc := 29) (ty := .int) rfl rfl ⟨by (decide), by (decide)⟩ hf ⟨(show 0 ≤ ze Mz 81 60 by first | with_reducible assumption | assumption | omega), (show ze Mz 81 60 ≤ 12 by first | with_reducible assumption | assumption | omega)⟩ (zdal_p dlD_M_take_112 (i := 15) rfl)
    · skip
      exact absurd hc_9 (by decide)
set_option maxHeartbeats 4000000 in
theorem c_M_sortOf (l : Launch) (Mz : zMem) (hW : zMt Mz) (a0_ : Int) (ha0_a : -2147483648 ≤ a0_) (ha0_b : a0_ < 2147483648) (T : zGT) (hO : gOK T) (p0_ : zGB T Mz) : zC l m_M_sortOf 0 0 [.ref 81, .int (Int32.ofInt a0_)] Mz (zpI [] [] Mz (fun v N => True)) := by
  refine zC_of (L0 := [some (.ref 81), some (.int (Int32.ofInt a0_))]) md_M_sortOf (Nat.le_of_ble_eq_true rfl) rfl ?_ zQ0
  have hf : zFr [] [] Mz Mz := zFr.rf
  have r_26 := ze_r Mz 81 26
  have hG := hO.1
  have g24 := hG.2.1
  have g1 := hG.1
  have dv0 : zTab T Mz := p0_.1
  have dv1 : zB 85 144 0 5 Mz := p0_.2.1
  have dv2 : zJX T Mz := p0_.2.2.1
  have dv3 : zFirs T Mz := p0_.2.2.2.1
  have dv4 : zSSm T Mz := p0_.2.2.2.2.1
  have dv5 : zGD Mz := zGB.d hO p0_
  have gb := dv5.1
  have gn := dv0.1
  refine zw_aload_n (pc := 0) (n := 0) (x := 81) rfl (zdal_p dlD_M_sortOf_12 (i := 0) rfl) ?_
  refine zw_iload_n (pc := 1) (n := 1) (x := Int32.ofInt a0_) rfl (zdal_p dlD_M_sortOf_12 (i := 1) rfl) ?_
  refine zr_callV (hf.w hW) hf.x (pc := 2) [.int (Int32.ofInt a0_)] [] l_M_408 (c_M_areMembers l Mz (hf.w hW) a0_ ha0_a ha0_b T hO p0_) rfl rfl rfl (by decide) (Nat.le_of_ble_eq_true rfl) (zdal_p dlD_M_sortOf_12 (i := 2) rfl) ?_
  rintro _ N1_ ⟨v2_, rfl, ⟨hv2_a, hv2_b⟩, hsN1_, hp0_N1_⟩
  obtain rfl := hsN1_.eq.symm
  replace hp0_N1_ : ((v2_ = 1 ∧ gIn T a0_) ∨ (v2_ = 0)) := hp0_N1_
  rcases hp0_N1_ with ⟨rfl, ha2_0_hp0_N1_⟩ | rfl
  · skip
    show zW l m_M_sortOf (zn Mz + 0, zw Mz + 0) Mz 5 [some (.ref 81), some (.int (Int32.ofInt a0_))] [.int (Int32.ofInt 1)] (zpI [] [] Mz (fun v N => True))
    refine zr_if_eq (pc := 5) (tgt := 20) ⟨(by decide), (by decide)⟩ (by decide) (zdal_p dlD_M_sortOf_12 (i := 3) rfl) (fun hc_5 => ?_) (fun hc_5 => ?_)
    · skip
      exact absurd hc_5 (by decide)
    · skip
      refine zw_aload_n (pc := 8) (n := 0) (x := 81) rfl (zdal_p dlD_M_sortOf_12 (i := 4) rfl) ?_
      refine zw_aload_n (pc := 9) (n := 0) (x := 81) rfl (zdal_p dlD_M_sortOf_12 (i := 5) rfl) ?_
      refine zw_iload_n (pc := 10) (n := 1) (x := Int32.ofInt a0_) rfl (zdal_p dlD_M_sortOf_12 (i := 6) rfl) ?_
      refine zr_callV (hf.w hW) hf.x (pc := 11) [.int (Int32.ofInt a0_)] [.ref 81] l_M_229 (c_M_closed l Mz (hf.w hW) a0_ ha0_a ha0_b T hG dv0 (show gIn T a0_ by first | with_reducible assumption | assumption | omega)) rfl rfl rfl (by decide) (Nat.le_of_ble_eq_true rfl) (zdal_p dlD_M_sortOf_12 (i := 7) rfl) ?_
      rintro _ N3_ ⟨v4_, rfl, ⟨hv4_a, hv4_b⟩, hsN3_, ⟨hp0_N3_, hp1_N3_, hp2_N3_⟩⟩
      obtain rfl := hsN3_.eq.symm
      show zW l m_M_sortOf (zn Mz + 0, zw Mz + 0) Mz 14 [some (.ref 81), some (.int (Int32.ofInt a0_))] [.int (Int32.ofInt v4_), .ref 81] (zpI [] [] Mz (fun v N => True))
      have hm_Mz := gMe_c hO hp0_N3_ (by (exact hp1_N3_))
      refine zr_callV (hf.w hW) hf.x (pc := 14) [.int (Int32.ofInt v4_)] [] l_M_411 (c_M_sortOfSet l Mz (hf.w hW) v4_ hv4_a hv4_b T hO p0_ (show gMe T v4_ by first | with_reducible assumption | assumption)) rfl rfl rfl (by decide) (Nat.le_of_ble_eq_true rfl) (zdal_p dlD_M_sortOf_12 (i := 8) rfl) ?_
      rintro _ N5_ ⟨v6_, rfl, ⟨hv6_a, hv6_b⟩, hsN5_, ⟨hp0_N5_, hp1_N5_⟩⟩
      obtain rfl := hsN5_.eq.symm
      show zW l m_M_sortOf (zn Mz + 0, zw Mz + 0) Mz 17 [some (.ref 81), some (.int (Int32.ofInt a0_))] [.int (Int32.ofInt v6_)] (zpI [] [] Mz (fun v N => True))
      refine zw_goto (pc := 17) (tgt := 21) (by decide) (zdal_p dlD_M_sortOf_12 (i := 9) rfl) ?_
      exact zr_iret (pc := 21) (ty := .int) rfl rfl ⟨by (exact hv6_a), by (exact hv6_b)⟩ hf trivial (zdal_p dlD_M_sortOf_12 (i := 11) rfl)
  · skip
    show zW l m_M_sortOf (zn Mz + 0, zw Mz + 0) Mz 5 [some (.ref 81), some (.int (Int32.ofInt a0_))] [.int (Int32.ofInt 0)] (zpI [] [] Mz (fun v N => True))
    refine zr_if_eq (pc := 5) (tgt := 20) ⟨(by decide), (by decide)⟩ (by decide) (zdal_p dlD_M_sortOf_12 (i := 3) rfl) (fun hc_5 => ?_) (fun hc_5 => ?_)
    · skip
      refine zw_iconst (pc := 20) (v := Int32.ofInt (-1)) (by decide) (zdal_p dlD_M_sortOf_12 (i := 10) rfl) ?_
      exact zr_iret (pc := 21) (ty := .int) rfl rfl ⟨by (decide), by (decide)⟩ hf trivial (zdal_p dlD_M_sortOf_12 (i := 11) rfl)
    · skip
      exact absurd hc_5 (by decide)
set_option maxHeartbeats 4000000 in
theorem c_M_timesOf (l : Launch) (Mz : zMem) (hW : zMt Mz) (a0_ : Int) (ha0_a : -2147483648 ≤ a0_) (ha0_b : a0_ < 2147483648) (T : zGT) (hO : gOK T) (hX : gEx T) (p0_ : zGB T Mz) (p1_ : 0 ≤ a0_) (p2_ : a0_ < ze Mz 81 20) : zC l m_M_timesOf 0 0 [.ref 81, .int (Int32.ofInt a0_)] Mz (zpI [] [] Mz (fun v N => True)) := by
  refine zC_of (L0 := [some (.ref 81), some (.int (Int32.ofInt a0_)), none, none]) md_M_timesOf (Nat.le_of_ble_eq_true rfl) rfl ?_ zQ0
  have hf : zFr [] [] Mz Mz := zFr.rf
  have r_20 := ze_r Mz 81 20
  have hG := hO.1
  have g24 := hG.2.1
  have g1 := hG.1
  have dv0 : zTab T Mz := p0_.1
  have dv1 : zB 85 144 0 5 Mz := p0_.2.1
  have dv2 : zJX T Mz := p0_.2.2.1
  have dv3 : zFirs T Mz := p0_.2.2.2.1
  have dv4 : zSSm T Mz := p0_.2.2.2.2.1
  have dv5 : zGD Mz := zGB.d hO p0_
  have gb := dv5.1
  have gn := dv0.1
  obtain ⟨K, hK1, hK2⟩ := hX.1 (a0_).toNat (by (exact zo_983 gb.2.1 gn p1_ p2_))
  refine zw_iconst (pc := 0) (v := Int32.ofInt 1) (by decide) (zdal_p dlD_M_timesOf_5 (i := 0) rfl) ?_
  refine zw_istore_n (pc := 1) (i := 2) (L2 := [some (.ref 81), some (.int (Int32.ofInt a0_)), some (.int (Int32.ofInt 1)), none]) rfl (by decide) rfl (zdal_p dlD_M_timesOf_5 (i := 1) rfl) ?_
  refine zw_iload_n (pc := 2) (n := 1) (x := Int32.ofInt a0_) rfl (zdal_p dlD_M_timesOf_5 (i := 2) rfl) ?_
  refine zw_istore_n (pc := 3) (i := 3) (L2 := [some (.ref 81), some (.int (Int32.ofInt a0_)), some (.int (Int32.ofInt 1)), some (.int (Int32.ofInt a0_))]) rfl (by decide) rfl (zdal_p dlD_M_timesOf_5 (i := 3) rfl) ?_
  have lp_4 : ∀ (n : Nat) (u1_ : Int) (hu1_a : -2147483648 ≤ u1_) (hu1_b : u1_ < 2147483648) (u2_ : Int) (hu2_a : -2147483648 ≤ u2_) (hu2_b : u2_ < 2147483648) (i3_ : 1 ≤ u1_) (i4_ : u1_ - 1 ≤ K) (i5_ : u2_ = ((gpw T (a0_).toNat (u1_ - 1).toNat : Nat) : Int)) (i6_ : 0 ≤ u2_) (i7_ : u2_ < ze Mz 81 20), ((K : Int) + 1 - u1_).toNat < n → zW l m_M_timesOf (zn Mz + 0, zw Mz + 0) Mz 4 [some (.ref 81), some (.int (Int32.ofInt a0_)), some (.int (Int32.ofInt u1_)), some (.int (Int32.ofInt u2_))] [] (zpI [] [] Mz (fun v N => True)) := by
    intro n
    induction n with
    | zero =>
      intro u1_ hu1_a hu1_b u2_ hu2_a hu2_b i3_ i4_ i5_ i6_ i7_ h0
      exact absurd h0 (Nat.not_lt_zero _)
    | succ n ih_4 =>
      intro u1_ hu1_a hu1_b u2_ hu2_a hu2_b i3_ i4_ i5_ i6_ i7_ hlt_4
      refine zw_iload_n (pc := 4) (n := 3) (x := Int32.ofInt u2_) rfl (zdal_p dlD_M_timesOf_5 (i := 4) rfl) ?_
      refine zr_if_eq (pc := 5) (tgt := 21) ⟨hu2_a, hu2_b⟩ (by decide) (zdal_p dlD_M_timesOf_5 (i := 5) rfl) (fun hc_5 => ?_) (fun hc_5 => ?_)
      · skip
        refine zw_iload_n (pc := 21) (n := 2) (x := Int32.ofInt u1_) rfl (zdal_p dlD_M_timesOf_5 (i := 13) rfl) ?_
        exact zr_iret (pc := 22) (ty := .int) rfl rfl ⟨by (exact hu1_a), by (exact hu1_b)⟩ hf trivial (zdal_p dlD_M_timesOf_5 (i := 14) rfl)
      · skip
        obtain ⟨w_, hw_⟩ : ∃ w_ : Int, w_ = u1_ - 1 := ⟨_, rfl⟩
        have hx_ : u2_ = ((gpw T (a0_).toNat w_.toNat : Nat) : Int) := by rw [hw_]; assumption
        have hne_ := gpw_n hK2 (show u2_ = ((gpw T (a0_).toNat (u1_ - 1).toNat : Nat) : Int) by first | with_reducible assumption | assumption) (by (exact hc_5)) (by (exact zo_132 i3_))
        refine zr_iinc (pc := 8) (i := 2) (a := u1_) (n := 1) (L2 := [some (.ref 81), some (.int (Int32.ofInt a0_)), some (.int (Int32.ofInt (u1_ + 1))), some (.int (Int32.ofInt u2_))]) rfl (by decide) rfl (zdal_p dlD_M_timesOf_5 (i := 6) rfl) ?_
        refine zw_aload_n (pc := 11) (n := 0) (x := 81) rfl (zdal_p dlD_M_timesOf_5 (i := 7) rfl) ?_
        refine zw_iload_n (pc := 12) (n := 3) (x := Int32.ofInt u2_) rfl (zdal_p dlD_M_timesOf_5 (i := 8) rfl) ?_
        refine zw_iload_n (pc := 13) (n := 1) (x := Int32.ofInt a0_) rfl (zdal_p dlD_M_timesOf_5 (i := 9) rfl) ?_
        refine zr_callV (hf.w hW) hf.x (pc := 14) [.int (Int32.ofInt u2_), .int (Int32.ofInt a0_)] [] l_M_216 (c_M_by l Mz (hf.w hW) u2_ hu2_a hu2_b a0_ ha0_a ha0_b T hG dv0 (show 0 ≤ u2_ by first | with_reducible assumption | assumption | omega) (show u2_ < ze Mz 81 20 by first | with_reducible assumption | assumption | omega) (show 0 ≤ a0_ by first | with_reducible assumption | assumption | omega) (show a0_ < ze Mz 81 20 by first | with_reducible assumption | assumption | omega)) rfl rfl rfl (by decide) (Nat.le_of_ble_eq_true rfl) (zdal_p dlD_M_timesOf_5 (i := 10) rfl) ?_
        rintro _ N8_ ⟨v9_, rfl, ⟨hv9_a, hv9_b⟩, hsN8_, ⟨hp0_N8_, hp1_N8_, hp2_N8_⟩⟩
        obtain rfl := hsN8_.eq.symm
        show zW l m_M_timesOf (zn Mz + 0, zw Mz + 0) Mz 17 [some (.ref 81), some (.int (Int32.ofInt a0_)), some (.int (Int32.ofInt (u1_ + 1))), some (.int (Int32.ofInt u2_))] [.int (Int32.ofInt v9_)] (zpI [] [] Mz (fun v N => True))
        have hpw := gpw_s (by (exact zo_984 hw_ i3_)) hx_ hp0_N8_
        refine zw_istore_n (pc := 17) (i := 3) (L2 := [some (.ref 81), some (.int (Int32.ofInt a0_)), some (.int (Int32.ofInt (u1_ + 1))), some (.int (Int32.ofInt v9_))]) rfl (by decide) rfl (zdal_p dlD_M_timesOf_5 (i := 11) rfl) ?_
        refine zw_goto (pc := 18) (tgt := 4) (by decide) (zdal_p dlD_M_timesOf_5 (i := 12) rfl) ?_
        exact ih_4 (u1_ + 1) (by (exact zo_576 i3_)) (by (exact zo_985 hK1 hu1_b i4_)) v9_ hv9_a hv9_b (show 1 ≤ (u1_ + 1) by first | with_reducible assumption | (exact zo_577 i3_) | assumption) (show (u1_ + 1) - 1 ≤ K by first | with_reducible assumption | (exact zo_986 hu1_b i4_ hne_) | assumption) (show v9_ = ((gpw T (a0_).toNat ((u1_ + 1) - 1).toNat : Nat) : Int) by rw [show (u1_ + 1) - 1 = w_ + 1 by (exact zo_987 hw_)]; exact hpw) (show 0 ≤ v9_ by first | with_reducible assumption | assumption | omega) (show v9_ < ze Mz 81 20 by first | with_reducible assumption | assumption | omega) (by omega)
  exact lp_4 _ 1 (by decide) (by decide) a0_ ha0_a ha0_b (show 1 ≤ (1 : Int) by first | with_reducible assumption | (decide) | assumption) (show (1 : Int) - 1 ≤ K by first | with_reducible assumption | (exact zo_988) | assumption) (show a0_ = ((gpw T (a0_).toNat ((1 : Int) - 1).toNat : Nat) : Int) by show a0_ = (((a0_).toNat : Nat) : Int); (exact zo_989 p1_)) (show 0 ≤ a0_ by first | with_reducible assumption | assumption | omega) (show a0_ < ze Mz 81 20 by first | with_reducible assumption | assumption | omega) (Nat.lt_succ_self _)
set_option maxHeartbeats 4000000 in
theorem c_M_order (l : Launch) (Mz : zMem) (hW : zMt Mz) (a0_ : Int) (ha0_a : -2147483648 ≤ a0_) (ha0_b : a0_ < 2147483648) (T : zGT) (hO : gOK T) (hX : gEx T) (p0_ : zGB T Mz) : zC l m_M_order 0 0 [.ref 81, .int (Int32.ofInt a0_)] Mz (zpI [] [] Mz (fun v N => True)) := by
  refine zC_of (L0 := [some (.ref 81), some (.int (Int32.ofInt a0_))]) md_M_order (Nat.le_of_ble_eq_true rfl) rfl ?_ zQ0
  have hf : zFr [] [] Mz Mz := zFr.rf
  have r_20 := ze_r Mz 81 20
  have hG := hO.1
  have g24 := hG.2.1
  have g1 := hG.1
  have dv0 : zTab T Mz := p0_.1
  have dv1 : zB 85 144 0 5 Mz := p0_.2.1
  have dv2 : zJX T Mz := p0_.2.2.1
  have dv3 : zFirs T Mz := p0_.2.2.2.1
  have dv4 : zSSm T Mz := p0_.2.2.2.2.1
  have dv5 : zGD Mz := zGB.d hO p0_
  have gb := dv5.1
  have gn := dv0.1
  refine zw_aload_n (pc := 0) (n := 0) (x := 81) rfl (zdal_p dlD_M_order_4 (i := 0) rfl) ?_
  refine zw_iload_n (pc := 1) (n := 1) (x := Int32.ofInt a0_) rfl (zdal_p dlD_M_order_4 (i := 1) rfl) ?_
  refine zr_callV (hf.w hW) hf.x (pc := 2) [.int (Int32.ofInt a0_)] [] l_M_400 (c_M_isMember l Mz (hf.w hW) a0_ ha0_a ha0_b T hO p0_) rfl rfl rfl (by decide) (Nat.le_of_ble_eq_true rfl) (zdal_p dlD_M_order_4 (i := 2) rfl) ?_
  rintro _ N1_ ⟨v2_, rfl, ⟨hv2_a, hv2_b⟩, hsN1_, hp0_N1_⟩
  obtain rfl := hsN1_.eq.symm
  replace hp0_N1_ : ((v2_ = 1 ∧ 0 ≤ a0_ ∧ a0_ < ze Mz 81 20) ∨ (v2_ = 0)) := hp0_N1_
  rcases hp0_N1_ with ⟨rfl, ha2_0_hp0_N1_, ha2_1_hp0_N1_⟩ | rfl
  · skip
    show zW l m_M_order (zn Mz + 0, zw Mz + 0) Mz 5 [some (.ref 81), some (.int (Int32.ofInt a0_))] [.int (Int32.ofInt 1)] (zpI [] [] Mz (fun v N => True))
    refine zr_if_eq (pc := 5) (tgt := 16) ⟨(by decide), (by decide)⟩ (by decide) (zdal_p dlD_M_order_4 (i := 3) rfl) (fun hc_5 => ?_) (fun hc_5 => ?_)
    · skip
      exact absurd hc_5 (by decide)
    · skip
      refine zw_aload_n (pc := 8) (n := 0) (x := 81) rfl (zdal_p dlD_M_order_4 (i := 4) rfl) ?_
      refine zw_iload_n (pc := 9) (n := 1) (x := Int32.ofInt a0_) rfl (zdal_p dlD_M_order_4 (i := 5) rfl) ?_
      refine zr_callV (hf.w hW) hf.x (pc := 10) [.int (Int32.ofInt a0_)] [] l_M_403 (c_M_timesOf l Mz (hf.w hW) a0_ ha0_a ha0_b T hO hX p0_ (show 0 ≤ a0_ by first | with_reducible assumption | assumption | omega) (show a0_ < ze Mz 81 20 by first | with_reducible assumption | assumption | omega)) rfl rfl rfl (by decide) (Nat.le_of_ble_eq_true rfl) (zdal_p dlD_M_order_4 (i := 6) rfl) ?_
      rintro _ N3_ ⟨v4_, rfl, ⟨hv4_a, hv4_b⟩, hsN3_, -⟩
      obtain rfl := hsN3_.eq.symm
      show zW l m_M_order (zn Mz + 0, zw Mz + 0) Mz 13 [some (.ref 81), some (.int (Int32.ofInt a0_))] [.int (Int32.ofInt v4_)] (zpI [] [] Mz (fun v N => True))
      refine zw_goto (pc := 13) (tgt := 17) (by decide) (zdal_p dlD_M_order_4 (i := 7) rfl) ?_
      exact zr_iret (pc := 17) (ty := .int) rfl rfl ⟨by (exact hv4_a), by (exact hv4_b)⟩ hf trivial (zdal_p dlD_M_order_4 (i := 9) rfl)
  · skip
    show zW l m_M_order (zn Mz + 0, zw Mz + 0) Mz 5 [some (.ref 81), some (.int (Int32.ofInt a0_))] [.int (Int32.ofInt 0)] (zpI [] [] Mz (fun v N => True))
    refine zr_if_eq (pc := 5) (tgt := 16) ⟨(by decide), (by decide)⟩ (by decide) (zdal_p dlD_M_order_4 (i := 3) rfl) (fun hc_5 => ?_) (fun hc_5 => ?_)
    · skip
      refine zw_iconst (pc := 16) (v := Int32.ofInt (-1)) (by decide) (zdal_p dlD_M_order_4 (i := 8) rfl) ?_
      exact zr_iret (pc := 17) (ty := .int) rfl rfl ⟨by (decide), by (decide)⟩ hf trivial (zdal_p dlD_M_order_4 (i := 9) rfl)
    · skip
      exact absurd hc_5 (by decide)
set_option maxHeartbeats 4000000 in
theorem c_M_orders (l : Launch) (Mz : zMem) (hW : zMt Mz) (a0_ : Int) (ha0_a : -2147483648 ≤ a0_) (ha0_b : a0_ < 2147483648) (T : zGT) (hO : gOK T) (hX : gEx T) (p0_ : zGB T Mz) : zC l m_M_orders 0 0 [.ref 81, .int (Int32.ofInt a0_)] Mz (zpI [] [] Mz (fun v N => True)) := by
  refine zC_of (L0 := [some (.ref 81), some (.int (Int32.ofInt a0_)), none, none]) md_M_orders (Nat.le_of_ble_eq_true rfl) rfl ?_ zQ0
  have hf : zFr [] [] Mz Mz := zFr.rf
  have r_20 := ze_r Mz 81 20
  have hG := hO.1
  have g24 := hG.2.1
  have g1 := hG.1
  have dv0 : zTab T Mz := p0_.1
  have dv1 : zB 85 144 0 5 Mz := p0_.2.1
  have dv2 : zJX T Mz := p0_.2.2.1
  have dv3 : zFirs T Mz := p0_.2.2.2.1
  have dv4 : zSSm T Mz := p0_.2.2.2.2.1
  have dv5 : zGD Mz := zGB.d hO p0_
  have gb := dv5.1
  have gn := dv0.1
  refine zw_iload_n (pc := 0) (n := 1) (x := Int32.ofInt a0_) rfl (zdal_p dlD_M_orders_6 (i := 0) rfl) ?_
  refine zr_i2l (pc := 1) ⟨ha0_a, ha0_b⟩ (zdal_p dlD_M_orders_6 (i := 1) rfl) ?_
  refine zw_lconst (pc := 2) (v := Int64.ofInt 1) (by decide) (zdal_p dlD_M_orders_6 (i := 2) rfl) ?_
  refine zr_ldc2 (pc := 3) (n := 24) (by decide) k_M_406 (zdal_p dlD_M_orders_6 (i := 3) rfl) ?_
  refine zr_callS hf.x (pc := 6) [.long (Int64.ofInt a0_), .long (Int64.ofInt 1), .long (Int64.ofInt 24)] [] l_M_131 (c_M_isIn l Mz (hf.w hW) a0_ (by (exact zo_282 ha0_a)) (by (exact zo_283 ha0_b)) 1 (by decide) (by decide) 24 (by decide) (by decide)) rfl rfl (by decide) (Nat.le_of_ble_eq_true rfl) (zdal_p dlD_M_orders_6 (i := 4) rfl) ?_
  rintro _ N1_ ⟨v2_, rfl, ⟨hv2_a, hv2_b⟩, hsN1_, hp0_N1_⟩
  obtain rfl := hsN1_.eq.symm
  replace hp0_N1_ : ((v2_ = 1 ∧ 1 ≤ a0_ ∧ a0_ ≤ 24) ∨ (v2_ = 0 ∧ (a0_ < 1 ∨ 24 < a0_))) := hp0_N1_
  rcases hp0_N1_ with ⟨rfl, ha6_0_hp0_N1_, ha6_1_hp0_N1_⟩ | ⟨rfl, ha6_0_hp0_N1_⟩
  · skip
    show zW l m_M_orders (zn Mz + 0, zw Mz + 0) Mz 9 [some (.ref 81), some (.int (Int32.ofInt a0_)), none, none] [.int (Int32.ofInt 1)] (zpI [] [] Mz (fun v N => True))
    refine zr_if_ne (pc := 9) (tgt := 14) ⟨(by decide), (by decide)⟩ (by decide) (zdal_p dlD_M_orders_6 (i := 5) rfl) (fun hc_9 => ?_) (fun hc_9 => ?_)
    · skip
      refine zw_iconst (pc := 14) (v := Int32.ofInt 0) (by decide) (zdal_p dlD_M_orders_6 (i := 8) rfl) ?_
      refine zw_istore_n (pc := 15) (i := 2) (L2 := [some (.ref 81), some (.int (Int32.ofInt a0_)), some (.int (Int32.ofInt 0)), none]) rfl (by decide) rfl (zdal_p dlD_M_orders_6 (i := 9) rfl) ?_
      refine zw_iconst (pc := 16) (v := Int32.ofInt 0) (by decide) (zdal_p dlD_M_orders_6 (i := 10) rfl) ?_
      refine zw_istore_n (pc := 17) (i := 3) (L2 := [some (.ref 81), some (.int (Int32.ofInt a0_)), some (.int (Int32.ofInt 0)), some (.int (Int32.ofInt 0))]) rfl (by decide) rfl (zdal_p dlD_M_orders_6 (i := 11) rfl) ?_
      have lp_18 : ∀ (n : Nat) (u3_ : Int) (hu3_a : -2147483648 ≤ u3_) (hu3_b : u3_ < 2147483648) (u4_ : Int) (hu4_a : -2147483648 ≤ u4_) (hu4_b : u4_ < 2147483648) (i5_ : 0 ≤ u4_), (ze Mz 81 20 - u4_).toNat < n → zW l m_M_orders (zn Mz + 0, zw Mz + 0) Mz 18 [some (.ref 81), some (.int (Int32.ofInt a0_)), some (.int (Int32.ofInt u3_)), some (.int (Int32.ofInt u4_))] [] (zpI [] [] Mz (fun v N => True)) := by
        intro n
        induction n with
        | zero =>
          intro u3_ hu3_a hu3_b u4_ hu4_a hu4_b i5_ h0
          exact absurd h0 (Nat.not_lt_zero _)
        | succ n ih_18 =>
          intro u3_ hu3_a hu3_b u4_ hu4_a hu4_b i5_ hlt_18
          refine zw_iload_n (pc := 18) (n := 3) (x := Int32.ofInt u4_) rfl (zdal_p dlD_M_orders_6 (i := 12) rfl) ?_
          refine zw_aload_n (pc := 19) (n := 0) (x := 81) rfl (zdal_p dlD_M_orders_6 (i := 13) rfl) ?_
          refine zr_getI0 hf hW (pc := 20) (by decide) f_M_196 rfl (zdal_p dlD_M_orders_6 (i := 14) rfl) ?_
          refine zr_icmp_ge (pc := 23) (tgt := 52) ⟨hu4_a, hu4_b⟩ ⟨(ze_r Mz 81 20).1, (ze_r Mz 81 20).2⟩ (by decide) (zdal_p dlD_M_orders_6 (i := 15) rfl) (fun hc_23 => ?_) (fun hc_23 => ?_)
          · skip
            refine zw_iload_n (pc := 52) (n := 2) (x := Int32.ofInt u3_) rfl (zdal_p dlD_M_orders_7 (i := 6) rfl) ?_
            exact zr_iret (pc := 53) (ty := .int) rfl rfl ⟨by (exact hu3_a), by (exact hu3_b)⟩ hf trivial (zdal_p dlD_M_orders_7 (i := 7) rfl)
          · skip
            refine zw_iload_n (pc := 26) (n := 2) (x := Int32.ofInt u3_) rfl (zdal_p dlD_M_orders_6 (i := 16) rfl) ?_
            refine zw_aload_n (pc := 27) (n := 0) (x := 81) rfl (zdal_p dlD_M_orders_6 (i := 17) rfl) ?_
            refine zw_iload_n (pc := 28) (n := 3) (x := Int32.ofInt u4_) rfl (zdal_p dlD_M_orders_6 (i := 18) rfl) ?_
            refine zr_callV (hf.w hW) hf.x (pc := 29) [.int (Int32.ofInt u4_)] [.int (Int32.ofInt u3_)] l_M_403 (c_M_timesOf l Mz (hf.w hW) u4_ hu4_a hu4_b T hO hX p0_ (show 0 ≤ u4_ by first | with_reducible assumption | assumption | omega) (show u4_ < ze Mz 81 20 by first | with_reducible assumption | assumption | omega)) rfl rfl rfl (by decide) (Nat.le_of_ble_eq_true rfl) (zdal_p dlD_M_orders_6 (i := 19) rfl) ?_
            rintro _ N6_ ⟨v7_, rfl, ⟨hv7_a, hv7_b⟩, hsN6_, -⟩
            obtain rfl := hsN6_.eq.symm
            show zW l m_M_orders (zn Mz + 0, zw Mz + 0) Mz 32 [some (.ref 81), some (.int (Int32.ofInt a0_)), some (.int (Int32.ofInt u3_)), some (.int (Int32.ofInt u4_))] [.int (Int32.ofInt v7_), .int (Int32.ofInt u3_)] (zpI [] [] Mz (fun v N => True))
            refine zw_iload_n (pc := 32) (n := 1) (x := Int32.ofInt a0_) rfl (zdal_p dlD_M_orders_6 (i := 20) rfl) ?_
            refine zr_icmp_ne (pc := 33) (tgt := 40) ⟨hv7_a, hv7_b⟩ ⟨ha0_a, ha0_b⟩ (by decide) (zdal_p dlD_M_orders_6 (i := 21) rfl) (fun hc_33 => ?_) (fun hc_33 => ?_)
            · skip
              refine zw_iconst (pc := 40) (v := Int32.ofInt 0) (by decide) (zdal_p dlD_M_orders_7 (i := 0) rfl) ?_
              refine zr_callS hf.x (pc := 41) [.int (Int32.ofInt 0)] [.int (Int32.ofInt u3_)] l_M_256 (c_M_truth l Mz (hf.w hW) 0 (by decide) (by decide) (by (decide))) rfl rfl (by decide) (Nat.le_of_ble_eq_true rfl) (zdal_p dlD_M_orders_7 (i := 1) rfl) ?_
              rintro _ N8_ ⟨v9_, rfl, ⟨hv9_a, hv9_b⟩, hsN8_, hp0_N8_⟩
              obtain rfl := hsN8_.eq.symm
              replace hp0_N8_ : v9_ = 0 := hp0_N8_
              show zW l m_M_orders (zn Mz + 0, zw Mz + 0) Mz 44 [some (.ref 81), some (.int (Int32.ofInt a0_)), some (.int (Int32.ofInt u3_)), some (.int (Int32.ofInt u4_))] [.int (Int32.ofInt v9_), .int (Int32.ofInt u3_)] (zpI [] [] Mz (fun v N => True))
              refine zr_iadd (pc := 44) (zdal_p dlD_M_orders_7 (i := 2) rfl) ?_
              refine zr_nmI (fun v10_ hv10_ => ?_)
              obtain ⟨hv10_a, hv10_b⟩ := hv10_
              refine zw_istore_n (pc := 45) (i := 2) (L2 := [some (.ref 81), some (.int (Int32.ofInt a0_)), some (.int (Int32.ofInt v10_)), some (.int (Int32.ofInt u4_))]) rfl (by decide) rfl (zdal_p dlD_M_orders_7 (i := 3) rfl) ?_
              refine zr_iinc (pc := 46) (i := 3) (a := u4_) (n := 1) (L2 := [some (.ref 81), some (.int (Int32.ofInt a0_)), some (.int (Int32.ofInt v10_)), some (.int (Int32.ofInt (u4_ + 1)))]) rfl (by decide) rfl (zdal_p dlD_M_orders_7 (i := 4) rfl) ?_
              refine zw_goto (pc := 49) (tgt := 18) (by decide) (zdal_p dlD_M_orders_7 (i := 5) rfl) ?_
              exact ih_18 v10_ hv10_a hv10_b (u4_ + 1) (by (exact zo_74 i5_)) (by (exact zo_919 gb.2.1 hc_23)) (show 0 ≤ (u4_ + 1) by first | with_reducible assumption | (exact zo_76 i5_) | assumption) (by (exact zo_147 hc_23 hlt_18))
            · skip
              refine zw_iconst (pc := 36) (v := Int32.ofInt 1) (by decide) (zdal_p dlD_M_orders_6 (i := 22) rfl) ?_
              refine zw_goto (pc := 37) (tgt := 41) (by decide) (zdal_p dlD_M_orders_6 (i := 23) rfl) ?_
              refine zr_callS hf.x (pc := 41) [.int (Int32.ofInt 1)] [.int (Int32.ofInt u3_)] l_M_256 (c_M_truth l Mz (hf.w hW) 1 (by decide) (by decide) (by (decide))) rfl rfl (by decide) (Nat.le_of_ble_eq_true rfl) (zdal_p dlD_M_orders_7 (i := 1) rfl) ?_
              rintro _ N11_ ⟨v12_, rfl, ⟨hv12_a, hv12_b⟩, hsN11_, hp0_N11_⟩
              obtain rfl := hsN11_.eq.symm
              replace hp0_N11_ : v12_ = 1 := hp0_N11_
              show zW l m_M_orders (zn Mz + 0, zw Mz + 0) Mz 44 [some (.ref 81), some (.int (Int32.ofInt a0_)), some (.int (Int32.ofInt u3_)), some (.int (Int32.ofInt u4_))] [.int (Int32.ofInt v12_), .int (Int32.ofInt u3_)] (zpI [] [] Mz (fun v N => True))
              refine zr_iadd (pc := 44) (zdal_p dlD_M_orders_7 (i := 2) rfl) ?_
              refine zr_nmI (fun v13_ hv13_ => ?_)
              obtain ⟨hv13_a, hv13_b⟩ := hv13_
              refine zw_istore_n (pc := 45) (i := 2) (L2 := [some (.ref 81), some (.int (Int32.ofInt a0_)), some (.int (Int32.ofInt v13_)), some (.int (Int32.ofInt u4_))]) rfl (by decide) rfl (zdal_p dlD_M_orders_7 (i := 3) rfl) ?_
              refine zr_iinc (pc := 46) (i := 3) (a := u4_) (n := 1) (L2 := [some (.ref 81), some (.int (Int32.ofInt a0_)), some (.int (Int32.ofInt v13_)), some (.int (Int32.ofInt (u4_ + 1)))]) rfl (by decide) rfl (zdal_p dlD_M_orders_7 (i := 4) rfl) ?_
              refine zw_goto (pc := 49) (tgt := 18) (by decide) (zdal_p dlD_M_orders_7 (i := 5) rfl) ?_
              exact ih_18 v13_ hv13_a hv13_b (u4_ + 1) (by (exact zo_74 i5_)) (by (exact zo_919 gb.2.1 hc_23)) (show 0 ≤ (u4_ + 1) by first | with_reducible assumption | (exact zo_76 i5_) | assumption) (by (exact zo_147 hc_23 hlt_18))
      exact lp_18 _ 0 (by decide) (by decide) 0 (by decide) (by decide) (show 0 ≤ (0 : Int) by first | with_reducible assumption | (decide) | assumption) (Nat.lt_succ_self _)
    · skip
      exact absurd hc_9 (by decide)
  · skip
    show zW l m_M_orders (zn Mz + 0, zw Mz + 0) Mz 9 [some (.ref 81), some (.int (Int32.ofInt a0_)), none, none] [.int (Int32.ofInt 0)] (zpI [] [] Mz (fun v N => True))
    refine zr_if_ne (pc := 9) (tgt := 14) ⟨(by decide), (by decide)⟩ (by decide) (zdal_p dlD_M_orders_6 (i := 5) rfl) (fun hc_9 => ?_) (fun hc_9 => ?_)
    · skip
      exact absurd hc_9 (by decide)
    · skip
      refine zw_iconst (pc := 12) (v := Int32.ofInt (-1)) (by decide) (zdal_p dlD_M_orders_6 (i := 6) rfl) ?_
      exact zr_iret (pc := 13) (ty := .int) rfl rfl ⟨by (decide), by (decide)⟩ hf trivial (zdal_p dlD_M_orders_6 (i := 7) rfl)
set_option maxHeartbeats 4000000 in
theorem c_M_moebius (l : Launch) (Mz : zMem) (hW : zMt Mz) (a0_ : Int) (ha0_a : -2147483648 ≤ a0_) (ha0_b : a0_ < 2147483648) (T : zGT) (hO : gOK T) (p0_ : zGB T Mz) : zC l m_M_moebius 0 0 [.ref 81, .int (Int32.ofInt a0_)] Mz (zpI [] [106] Mz (fun v N => True)) := by
  refine zC_of (L0 := [some (.ref 81), some (.int (Int32.ofInt a0_)), none, none, none]) md_M_moebius (Nat.le_of_ble_eq_true rfl) rfl ?_ zQ0
  have hf : zFr [] [106] Mz Mz := zFr.rf
  have r_20 := ze_r Mz 81 20
  have r_25 := ze_r Mz 81 25
  have r_26 := ze_r Mz 81 26
  have hG := hO.1
  have g24 := hG.2.1
  have g1 := hG.1
  have dv0 : zTab T Mz := p0_.1
  have dv1 : zB 85 144 0 5 Mz := p0_.2.1
  have dv2 : zJX T Mz := p0_.2.2.1
  have dv3 : zFirs T Mz := p0_.2.2.2.1
  have dv4 : zSSm T Mz := p0_.2.2.2.2.1
  have dv5 : zGD Mz := zGB.d hO p0_
  have gb := dv5.1
  have gn := dv0.1
  refine zw_aload_n (pc := 0) (n := 0) (x := 81) rfl (zdal_p dlD_M_moebius_48 (i := 0) rfl) ?_
  refine zw_iload_n (pc := 1) (n := 1) (x := Int32.ofInt a0_) rfl (zdal_p dlD_M_moebius_48 (i := 1) rfl) ?_
  refine zr_callV (hf.w hW) hf.x (pc := 2) [.int (Int32.ofInt a0_)] [] l_M_414 (c_M_isSort l Mz (hf.w hW) a0_ ha0_a ha0_b T hO p0_) rfl rfl rfl (by decide) (Nat.le_of_ble_eq_true rfl) (zdal_p dlD_M_moebius_48 (i := 2) rfl) ?_
  rintro _ N1_ ⟨v2_, rfl, ⟨hv2_a, hv2_b⟩, hsN1_, hp0_N1_⟩
  obtain rfl := hsN1_.eq.symm
  replace hp0_N1_ : ((v2_ = 1 ∧ 0 ≤ a0_ ∧ a0_ < ze Mz 81 26) ∨ (v2_ = 0)) := hp0_N1_
  rcases hp0_N1_ with ⟨rfl, ha2_0_hp0_N1_, ha2_1_hp0_N1_⟩ | rfl
  · skip
    show zW l m_M_moebius (zn Mz + 0, zw Mz + 0) Mz 5 [some (.ref 81), some (.int (Int32.ofInt a0_)), none, none, none] [.int (Int32.ofInt 1)] (zpI [] [106] Mz (fun v N => True))
    refine zr_if_ne (pc := 5) (tgt := 12) ⟨(by decide), (by decide)⟩ (by decide) (zdal_p dlD_M_moebius_48 (i := 3) rfl) (fun hc_5 => ?_) (fun hc_5 => ?_)
    · skip
      refine zw_aload_n (pc := 12) (n := 0) (x := 81) rfl (zdal_p dlD_M_moebius_48 (i := 6) rfl) ?_
      refine zr_getI0 hf hW (pc := 13) (by decide) f_M_196 rfl (zdal_p dlD_M_moebius_48 (i := 7) rfl) ?_
      refine zw_istore_n (pc := 16) (i := 2) (L2 := [some (.ref 81), some (.int (Int32.ofInt a0_)), some (.int (Int32.ofInt (ze Mz 81 20))), none, none]) rfl (by decide) rfl (zdal_p dlD_M_moebius_48 (i := 8) rfl) ?_
      have lp_17 : ∀ (n : Nat) (u3_ : Int) (hu3_a : -2147483648 ≤ u3_) (hu3_b : u3_ < 2147483648) (N4_ : zMem) (hs5_ : zFr [] [106] Mz N4_) (i6_ : u3_ ≤ ze Mz 81 20) (i7_ : u3_ ≥ 0 ∨ u3_ = ze Mz 81 20), u3_.toNat < n → zW l m_M_moebius (zn Mz + 0, zw Mz + 0) N4_ 17 [some (.ref 81), some (.int (Int32.ofInt a0_)), some (.int (Int32.ofInt u3_)), none, none] [] (zpI [] [106] Mz (fun v N => True)) := by
        intro n
        induction n with
        | zero =>
          intro u3_ hu3_a hu3_b N4_ hs5_ i6_ i7_ h0
          exact absurd h0 (Nat.not_lt_zero _)
        | succ n ih_17 =>
          intro u3_ hu3_a hu3_b N4_ hs5_ i6_ i7_ hlt_17
          have hf_N4_ : zFr [] [106] Mz N4_ := hf.tr hs5_ (by decide) (by decide)
          have e25_N4_ : ze N4_ 81 25 = ze Mz 81 25 := hs5_.e (by decide)
          have c11_ : zJX T N4_ := zJX.fr hs5_ dv2 (by decide) (by decide)
          refine zw_iload_n (pc := 17) (n := 2) (x := Int32.ofInt u3_) rfl (zdal_p dlD_M_moebius_48 (i := 9) rfl) ?_
          refine zr_if_le (pc := 18) (tgt := 148) ⟨hu3_a, hu3_b⟩ (by decide) (zdal_p dlD_M_moebius_48 (i := 10) rfl) (fun hc_18 => ?_) (fun hc_18 => ?_)
          · skip
            refine zw_aload_n (pc := 148) (n := 0) (x := 81) rfl (zdal_p dlD_M_moebius_51 (i := 7) rfl) ?_
            refine zr_getF (r := 106) (hf_N4_.w hW) (pc := 149) f_M_90 rfl (zh_106 (hf_N4_.w hW)).1 (zdal_p dlD_M_moebius_51 (i := 8) rfl) ?_
            refine zw_aload_n (pc := 152) (n := 0) (x := 81) rfl (zdal_p dlD_M_moebius_51 (i := 9) rfl) ?_
            refine zw_aload_n (pc := 153) (n := 0) (x := 81) rfl (zdal_p dlD_M_moebius_51 (i := 10) rfl) ?_
            refine zr_getF (r := 91) (hf_N4_.w hW) (pc := 154) f_M_44 rfl (zh_91 (hf_N4_.w hW)).1 (zdal_p dlD_M_moebius_51 (i := 11) rfl) ?_
            refine zw_iload_n (pc := 157) (n := 1) (x := Int32.ofInt a0_) rfl (zdal_p dlD_M_moebius_51 (i := 12) rfl) ?_
            refine zr_ialdn (pc := 158) (zh_91 (hf_N4_.w hW)).2 (by decide) (by (exact ha2_0_hp0_N1_)) (by (exact zo_906 gb.2.2.2.2.2 ha0_b ha2_1_hp0_N1_)) (zdal_p dlD_M_moebius_51 (i := 13) rfl) (fun v15_ hv15_ hv15_a hv15_b => ?_)
            rw [hf_N4_.ie (by decide) (by decide)] at hv15_
            have hf_x := dv3.g hO (e := a0_) (by (exact ha2_0_hp0_N1_)) (by (exact ha2_1_hp0_N1_))
            refine zr_toI (show v15_ = ze Mz 91 (a0_).toNat by (exact hv15_)) ?_
            refine zr_callV (hf_N4_.w hW) hf_N4_.x (pc := 159) [.int (Int32.ofInt (ze Mz 91 (a0_).toNat))] [.ref 106] l_M_232 (c_M_subIndex l N4_ (hf_N4_.w hW) (ze Mz 91 (a0_).toNat) (by (exact zo_168 hf_x.2.1)) (by (exact zo_550 hv15_ hv15_b)) (show 0 ≤ ze N4_ 81 25 by first | with_reducible assumption | (exact zo_568 e25_N4_ gb.2.2.1) | assumption) (show ze N4_ 81 25 ≤ 128 by first | with_reducible assumption | (exact zo_990 e25_N4_ gb.2.2.2.1) | assumption)) rfl rfl rfl (by decide) (Nat.le_of_ble_eq_true rfl) (zdal_p dlD_M_moebius_51 (i := 14) rfl) ?_
            rintro _ N16_ ⟨v17_, rfl, ⟨hv17_a, hv17_b⟩, hsN16_, hp0_N16_⟩
            obtain rfl := hsN16_.eq.symm
            replace hp0_N16_ : ((0 ≤ v17_ ∧ v17_ < ze N4_ 81 25 ∧ ze N4_ 89 (v17_).toNat = (ze Mz 91 (a0_).toNat)) ∨ (v17_ = -1 ∧ ∀ k : Nat, (k : Int) < ze N4_ 81 25 → ze N4_ 89 k ≠ (ze Mz 91 (a0_).toNat))) := hp0_N16_
            rcases hp0_N16_ with ⟨ha159_0_hp0_N16_, ha159_1_hp0_N16_, ha159_2_hp0_N16_⟩ | ⟨rfl, ha159_0_hp0_N16_⟩
            · skip
              show zW l m_M_moebius (zn Mz + 0, zw Mz + 0) N4_ 162 [some (.ref 81), some (.int (Int32.ofInt a0_)), some (.int (Int32.ofInt u3_)), none, none] [.int (Int32.ofInt v17_), .ref 106] (zpI [] [106] Mz (fun v N => True))
              refine zr_ialdn (pc := 162) (zh_106 (hf_N4_.w hW)).2 (by decide) (by (exact ha159_0_hp0_N16_)) (by (exact zo_991 e25_N4_ gb.2.2.2.1 ha159_1_hp0_N16_ hv17_b)) (zdal_p dlD_M_moebius_51 (i := 15) rfl) (fun v18_ hv18_ hv18_a hv18_b => ?_)
              exact zr_iret (pc := 163) (ty := .int) rfl rfl ⟨by (exact hv18_a), by (exact hv18_b)⟩ hf_N4_ trivial (zdal_p dlD_M_moebius_51 (i := 16) rfl)
            · skip
              obtain ⟨i0, hi0, hi1⟩ := (hf_x.1).f hO c11_
              exact absurd hi1 (ha159_0_hp0_N16_ i0 hi0)
          · skip
            refine zw_iconst (pc := 21) (v := Int32.ofInt 0) (by decide) (zdal_p dlD_M_moebius_48 (i := 11) rfl) ?_
            refine zw_istore_n (pc := 22) (i := 3) (L2 := [some (.ref 81), some (.int (Int32.ofInt a0_)), some (.int (Int32.ofInt u3_)), some (.int (Int32.ofInt 0)), none]) rfl (by decide) rfl (zdal_p dlD_M_moebius_48 (i := 12) rfl) ?_
            have lp_23 : ∀ (n : Nat) (u19_ : Int) (hu19_a : -2147483648 ≤ u19_) (hu19_b : u19_ < 2147483648) (N20_ : zMem) (hs21_ : zFr [] [106] N4_ N20_) (i22_ : 0 ≤ u19_), (ze Mz 81 25 - u19_).toNat < n → zW l m_M_moebius (zn Mz + 0, zw Mz + 0) N20_ 23 [some (.ref 81), some (.int (Int32.ofInt a0_)), some (.int (Int32.ofInt u3_)), some (.int (Int32.ofInt u19_)), none] [] (zpI [] [106] Mz (fun v N => True)) := by
              intro n
              induction n with
              | zero =>
                intro u19_ hu19_a hu19_b N20_ hs21_ i22_ h0
                exact absurd h0 (Nat.not_lt_zero _)
              | succ n ih_23 =>
                intro u19_ hu19_a hu19_b N20_ hs21_ i22_ hlt_23
                have hf_N20_ : zFr [] [106] Mz N20_ := hf_N4_.tr hs21_ (by decide) (by decide)
                have hb0_N20_ : zFr [] [106] Mz N20_ := hs5_.tr hs21_ (by decide) (by decide)
                refine zw_iload_n (pc := 23) (n := 3) (x := Int32.ofInt u19_) rfl (zdal_p dlD_M_moebius_48 (i := 13) rfl) ?_
                refine zw_aload_n (pc := 24) (n := 0) (x := 81) rfl (zdal_p dlD_M_moebius_48 (i := 14) rfl) ?_
                refine zr_getI0 hf_N20_ hW (pc := 25) (by decide) f_M_220 rfl (zdal_p dlD_M_moebius_48 (i := 15) rfl) ?_
                refine zr_icmp_ge (pc := 28) (tgt := 142) ⟨hu19_a, hu19_b⟩ ⟨(ze_r Mz 81 25).1, (ze_r Mz 81 25).2⟩ (by decide) (zdal_p dlD_M_moebius_48 (i := 16) rfl) (fun hc_28 => ?_) (fun hc_28 => ?_)
                · skip
                  refine zr_iinc (pc := 142) (i := 2) (a := u3_) (n := -1) (L2 := [some (.ref 81), some (.int (Int32.ofInt a0_)), some (.int (Int32.ofInt (u3_ + (-1)))), some (.int (Int32.ofInt u19_)), none]) rfl (by decide) rfl (zdal_p dlD_M_moebius_51 (i := 5) rfl) ?_
                  refine zw_goto (pc := 145) (tgt := 17) (by decide) (zdal_p dlD_M_moebius_51 (i := 6) rfl) ?_
                  refine zW_le [some (.ref 81), some (.int (Int32.ofInt a0_)), some (.int (Int32.ofInt (u3_ + (-1)))), none, none] (⟨rfl, rfl, rfl, trivial⟩) ?_
                  exact ih_17 (u3_ + (-1)) (by (exact zo_992 hc_18)) (by (exact zo_893 hu3_b)) N20_ hb0_N20_ (show (u3_ + (-1)) ≤ ze Mz 81 20 by first | with_reducible assumption | (exact zo_993 i6_) | assumption) (show (u3_ + (-1)) ≥ 0 ∨ (u3_ + (-1)) = ze Mz 81 20 by first | with_reducible assumption | (exact zo_994 gb.1 hc_18) | assumption) (by (exact zo_995 hc_18 hlt_17 hu3_b))
                · skip
                  refine zw_aload_n (pc := 31) (n := 0) (x := 81) rfl (zdal_p dlD_M_moebius_48 (i := 17) rfl) ?_
                  refine zr_getF (r := 89) (hf_N20_.w hW) (pc := 32) f_M_38 rfl (zh_89 (hf_N20_.w hW)).1 (zdal_p dlD_M_moebius_48 (i := 18) rfl) ?_
                  refine zw_iload_n (pc := 35) (n := 3) (x := Int32.ofInt u19_) rfl (zdal_p dlD_M_moebius_48 (i := 19) rfl) ?_
                  refine zr_ialdn (pc := 36) (zh_89 (hf_N20_.w hW)).2 (by decide) (by (exact i22_)) (by (exact zo_907 gb.2.2.2.1 hc_28)) (zdal_p dlD_M_moebius_48 (i := 20) rfl) (fun v30_ hv30_ hv30_a hv30_b => ?_)
                  rw [hf_N20_.ie (by decide) (by decide)] at hv30_
                  have hs_xN20_ := dv2.g hO (e := u19_) (by (exact i22_)) (by (exact hc_28))
                  refine zr_toI (show v30_ = ze Mz 89 (u19_).toNat by (exact hv30_)) ?_
                  refine zr_callS hf_N20_.x (pc := 37) [.int (Int32.ofInt (ze Mz 89 (u19_).toNat))] [] l_M_253 (c_M_ones l N20_ (hf_N20_.w hW) (ze Mz 89 (u19_).toNat) (by (exact zo_168 hs_xN20_.2.1)) (by (exact zo_550 hv30_ hv30_b)) (show 0 ≤ (ze Mz 89 (u19_).toNat) by first | with_reducible assumption | (exact zo_57 hs_xN20_.2.1) | assumption)) rfl rfl (by decide) (Nat.le_of_ble_eq_true rfl) (zdal_p dlD_M_moebius_48 (i := 21) rfl) ?_
                  rintro _ N31_ ⟨v32_, rfl, ⟨hv32_a, hv32_b⟩, hsN31_, ⟨hp0_N31_, hp1_N31_, hp2_N31_⟩⟩
                  obtain rfl := hsN31_.eq.symm
                  show zW l m_M_moebius (zn Mz + 0, zw Mz + 0) N20_ 40 [some (.ref 81), some (.int (Int32.ofInt a0_)), some (.int (Int32.ofInt u3_)), some (.int (Int32.ofInt u19_)), none] [.int (Int32.ofInt v32_)] (zpI [] [106] Mz (fun v N => True))
                  refine zw_iload_n (pc := 40) (n := 2) (x := Int32.ofInt u3_) rfl (zdal_p dlD_M_moebius_48 (i := 22) rfl) ?_
                  refine zr_icmp_eq (pc := 41) (tgt := 47) ⟨hv32_a, hv32_b⟩ ⟨hu3_a, hu3_b⟩ (by decide) (zdal_p dlD_M_moebius_48 (i := 23) rfl) (fun hc_41 => ?_) (fun hc_41 => ?_)
                  · skip
                    refine zw_aload_n (pc := 47) (n := 0) (x := 81) rfl (zdal_p dlD_M_moebius_49 (i := 1) rfl) ?_
                    refine zr_getF (r := 106) (hf_N20_.w hW) (pc := 48) f_M_90 rfl (zh_106 (hf_N20_.w hW)).1 (zdal_p dlD_M_moebius_49 (i := 2) rfl) ?_
                    refine zw_iload_n (pc := 51) (n := 3) (x := Int32.ofInt u19_) rfl (zdal_p dlD_M_moebius_49 (i := 3) rfl) ?_
                    refine zw_iload_n (pc := 52) (n := 2) (x := Int32.ofInt u3_) rfl (zdal_p dlD_M_moebius_49 (i := 4) rfl) ?_
                    refine zw_aload_n (pc := 53) (n := 0) (x := 81) rfl (zdal_p dlD_M_moebius_49 (i := 5) rfl) ?_
                    refine zr_getI0 hf_N20_ hW (pc := 54) (by decide) f_M_196 rfl (zdal_p dlD_M_moebius_49 (i := 6) rfl) ?_
                    refine zr_icmp_ne (pc := 57) (tgt := 64) ⟨hu3_a, hu3_b⟩ ⟨(ze_r Mz 81 20).1, (ze_r Mz 81 20).2⟩ (by decide) (zdal_p dlD_M_moebius_49 (i := 7) rfl) (fun hc_57 => ?_) (fun hc_57 => ?_)
                    · skip
                      refine zw_iconst (pc := 64) (v := Int32.ofInt 0) (by decide) (zdal_p dlD_M_moebius_49 (i := 10) rfl) ?_
                      refine zr_callS hf_N20_.x (pc := 65) [.int (Int32.ofInt 0)] [.int (Int32.ofInt u19_), .ref 106] l_M_256 (c_M_truth l N20_ (hf_N20_.w hW) 0 (by decide) (by decide) (by (decide))) rfl rfl (by decide) (Nat.le_of_ble_eq_true rfl) (zdal_p dlD_M_moebius_49 (i := 11) rfl) ?_
                      rintro _ N33_ ⟨v34_, rfl, ⟨hv34_a, hv34_b⟩, hsN33_, hp0_N33_⟩
                      obtain rfl := hsN33_.eq.symm
                      replace hp0_N33_ : v34_ = 0 := hp0_N33_
                      show zW l m_M_moebius (zn Mz + 0, zw Mz + 0) N20_ 68 [some (.ref 81), some (.int (Int32.ofInt a0_)), some (.int (Int32.ofInt u3_)), some (.int (Int32.ofInt u19_)), none] [.int (Int32.ofInt v34_), .int (Int32.ofInt u19_), .ref 106] (zpI [] [106] Mz (fun v N => True))
                      refine zr_iast (pc := 68) (zh_106 (hf_N20_.w hW)).2 (by decide) (by decide) (by (exact i22_)) (by (exact zo_907 gb.2.2.2.1 hc_28)) (zdal_p dlD_M_moebius_49 (i := 12) rfl) (fun N35_ hN35_ hsN35_ => ?_)
                      have hf_N35_ : zFr [] [106] Mz N35_ := hf_N20_.tr hsN35_ (by decide) (by decide)
                      have hb0_N35_ : zFr [] [106] Mz N35_ := hb0_N20_.tr hsN35_ (by decide) (by decide)
                      have hb1_N35_ : zFr [] [106] N4_ N35_ := hs21_.tr hsN35_ (by decide) (by decide)
                      refine zw_iconst (pc := 69) (v := Int32.ofInt 0) (by decide) (zdal_p dlD_M_moebius_49 (i := 13) rfl) ?_
                      refine zw_istore (pc := 70) (i := 4) (L2 := [some (.ref 81), some (.int (Int32.ofInt a0_)), some (.int (Int32.ofInt u3_)), some (.int (Int32.ofInt u19_)), some (.int (Int32.ofInt 0))]) (by decide) rfl (zdal_p dlD_M_moebius_49 (i := 14) rfl) ?_
                      have lp_72 : ∀ (n : Nat) (u43_ : Int) (hu43_a : -2147483648 ≤ u43_) (hu43_b : u43_ < 2147483648) (N44_ : zMem) (hs45_ : zFr [] [106] N35_ N44_) (i46_ : 0 ≤ u43_), (ze Mz 81 25 - u43_).toNat < n → zW l m_M_moebius (zn Mz + 0, zw Mz + 0) N44_ 72 [some (.ref 81), some (.int (Int32.ofInt a0_)), some (.int (Int32.ofInt u3_)), some (.int (Int32.ofInt u19_)), some (.int (Int32.ofInt u43_))] [] (zpI [] [106] Mz (fun v N => True)) := by
                        intro n
                        induction n with
                        | zero =>
                          intro u43_ hu43_a hu43_b N44_ hs45_ i46_ h0
                          exact absurd h0 (Nat.not_lt_zero _)
                        | succ n ih_72 =>
                          intro u43_ hu43_a hu43_b N44_ hs45_ i46_ hlt_72
                          have hf_N44_ : zFr [] [106] Mz N44_ := hf_N35_.tr hs45_ (by decide) (by decide)
                          have hb0_N44_ : zFr [] [106] Mz N44_ := hb0_N35_.tr hs45_ (by decide) (by decide)
                          have hb1_N44_ : zFr [] [106] N4_ N44_ := hb1_N35_.tr hs45_ (by decide) (by decide)
                          refine zw_iload (pc := 72) (i := 4) (x := Int32.ofInt u43_) rfl (zdal_p dlD_M_moebius_49 (i := 15) rfl) ?_
                          refine zw_aload_n (pc := 74) (n := 0) (x := 81) rfl (zdal_p dlD_M_moebius_49 (i := 16) rfl) ?_
                          refine zr_getI0 hf_N44_ hW (pc := 75) (by decide) f_M_220 rfl (zdal_p dlD_M_moebius_49 (i := 17) rfl) ?_
                          refine zr_icmp_ge (pc := 78) (tgt := 136) ⟨hu43_a, hu43_b⟩ ⟨(ze_r Mz 81 25).1, (ze_r Mz 81 25).2⟩ (by decide) (zdal_p dlD_M_moebius_49 (i := 18) rfl) (fun hc_78 => ?_) (fun hc_78 => ?_)
                          · skip
                            refine zr_iinc (pc := 136) (i := 3) (a := u19_) (n := 1) (L2 := [some (.ref 81), some (.int (Int32.ofInt a0_)), some (.int (Int32.ofInt u3_)), some (.int (Int32.ofInt (u19_ + 1))), some (.int (Int32.ofInt u43_))]) rfl (by decide) rfl (zdal_p dlD_M_moebius_51 (i := 3) rfl) ?_
                            refine zw_goto (pc := 139) (tgt := 23) (by decide) (zdal_p dlD_M_moebius_51 (i := 4) rfl) ?_
                            refine zW_le [some (.ref 81), some (.int (Int32.ofInt a0_)), some (.int (Int32.ofInt u3_)), some (.int (Int32.ofInt (u19_ + 1))), none] (⟨rfl, rfl, rfl, rfl, trivial⟩) ?_
                            exact ih_23 (u19_ + 1) (by (exact zo_74 i22_)) (by (exact zo_832 gb.2.2.2.1 hc_28)) N44_ hb1_N44_ (show 0 ≤ (u19_ + 1) by first | with_reducible assumption | (exact zo_76 i22_) | assumption) (by (exact zo_147 hc_28 hlt_23))
                          · skip
                            refine zw_aload_n (pc := 81) (n := 0) (x := 81) rfl (zdal_p dlD_M_moebius_49 (i := 19) rfl) ?_
                            refine zr_getF (r := 89) (hf_N44_.w hW) (pc := 82) f_M_38 rfl (zh_89 (hf_N44_.w hW)).1 (zdal_p dlD_M_moebius_49 (i := 20) rfl) ?_
                            refine zw_iload (pc := 85) (i := 4) (x := Int32.ofInt u43_) rfl (zdal_p dlD_M_moebius_49 (i := 21) rfl) ?_
                            refine zr_ialdn (pc := 87) (zh_89 (hf_N44_.w hW)).2 (by decide) (by (exact i46_)) (by (exact zo_907 gb.2.2.2.1 hc_78)) (zdal_p dlD_M_moebius_49 (i := 22) rfl) (fun v54_ hv54_ hv54_a hv54_b => ?_)
                            rw [hf_N44_.ie (by decide) (by decide)] at hv54_
                            have hs_xN44_ := dv2.g hO (e := u43_) (by (exact i46_)) (by (exact hc_78))
                            refine zr_toI (show v54_ = ze Mz 89 (u43_).toNat by (exact hv54_)) ?_
                            refine zr_callS hf_N44_.x (pc := 88) [.int (Int32.ofInt (ze Mz 89 (u43_).toNat))] [] l_M_253 (c_M_ones l N44_ (hf_N44_.w hW) (ze Mz 89 (u43_).toNat) (by (exact zo_168 hs_xN44_.2.1)) (by (exact zo_550 hv54_ hv54_b)) (show 0 ≤ (ze Mz 89 (u43_).toNat) by first | with_reducible assumption | (exact zo_57 hs_xN44_.2.1) | assumption)) rfl rfl (by decide) (Nat.le_of_ble_eq_true rfl) (zdal_p dlD_M_moebius_49 (i := 23) rfl) ?_
                            rintro _ N55_ ⟨v56_, rfl, ⟨hv56_a, hv56_b⟩, hsN55_, ⟨hp0_N55_, hp1_N55_, hp2_N55_⟩⟩
                            obtain rfl := hsN55_.eq.symm
                            show zW l m_M_moebius (zn Mz + 0, zw Mz + 0) N44_ 91 [some (.ref 81), some (.int (Int32.ofInt a0_)), some (.int (Int32.ofInt u3_)), some (.int (Int32.ofInt u19_)), some (.int (Int32.ofInt u43_))] [.int (Int32.ofInt v56_)] (zpI [] [106] Mz (fun v N => True))
                            refine zw_iload_n (pc := 91) (n := 2) (x := Int32.ofInt u3_) rfl (zdal_p dlD_M_moebius_50 (i := 0) rfl) ?_
                            refine zr_icmp_le (pc := 92) (tgt := 130) ⟨hv56_a, hv56_b⟩ ⟨hu3_a, hu3_b⟩ (by decide) (zdal_p dlD_M_moebius_50 (i := 1) rfl) (fun hc_92 => ?_) (fun hc_92 => ?_)
                            · skip
                              refine zr_iinc (pc := 130) (i := 4) (a := u43_) (n := 1) (L2 := [some (.ref 81), some (.int (Int32.ofInt a0_)), some (.int (Int32.ofInt u3_)), some (.int (Int32.ofInt u19_)), some (.int (Int32.ofInt (u43_ + 1)))]) rfl (by decide) rfl d_M_moebius_130 ?_
                              refine zw_goto (pc := 133) (tgt := 72) (by decide) d_M_moebius_133 ?_
                              exact ih_72 (u43_ + 1) (by (exact zo_74 i46_)) (by (exact zo_832 gb.2.2.2.1 hc_78)) N44_ hs45_ (show 0 ≤ (u43_ + 1) by first | with_reducible assumption | (exact zo_76 i46_) | assumption) (by (exact zo_147 hc_78 hlt_72))
                            · skip
                              refine zw_aload_n (pc := 95) (n := 0) (x := 81) rfl (zdal_p dlD_M_moebius_50 (i := 2) rfl) ?_
                              refine zr_getF (r := 89) (hf_N44_.w hW) (pc := 96) f_M_38 rfl (zh_89 (hf_N44_.w hW)).1 (zdal_p dlD_M_moebius_50 (i := 3) rfl) ?_
                              refine zw_iload_n (pc := 99) (n := 3) (x := Int32.ofInt u19_) rfl (zdal_p dlD_M_moebius_50 (i := 4) rfl) ?_
                              refine zr_ialdn (pc := 100) (zh_89 (hf_N44_.w hW)).2 (by decide) (by (exact i22_)) (by (exact zo_907 gb.2.2.2.1 hc_28)) (zdal_p dlD_M_moebius_50 (i := 5) rfl) (fun v57_ hv57_ hv57_a hv57_b => ?_)
                              rw [hf_N44_.ie (by decide) (by decide)] at hv57_
                              refine zw_aload_n (pc := 101) (n := 0) (x := 81) rfl (zdal_p dlD_M_moebius_50 (i := 6) rfl) ?_
                              refine zr_getF (r := 89) (hf_N44_.w hW) (pc := 102) f_M_38 rfl (zh_89 (hf_N44_.w hW)).1 (zdal_p dlD_M_moebius_50 (i := 7) rfl) ?_
                              refine zw_iload (pc := 105) (i := 4) (x := Int32.ofInt u43_) rfl (zdal_p dlD_M_moebius_50 (i := 8) rfl) ?_
                              refine zr_ialdn (pc := 107) (zh_89 (hf_N44_.w hW)).2 (by decide) (by (exact i46_)) (by (exact zo_907 gb.2.2.2.1 hc_78)) (zdal_p dlD_M_moebius_50 (i := 9) rfl) (fun v58_ hv58_ hv58_a hv58_b => ?_)
                              rw [hf_N44_.ie (by decide) (by decide)] at hv58_
                              refine zw_iconst (pc := 108) (v := Int32.ofInt (-1)) (by decide) (zdal_p dlD_M_moebius_50 (i := 10) rfl) ?_
                              refine zr_ixor (pc := 109) (zdal_p dlD_M_moebius_50 (i := 11) rfl) ?_
                              have hr59_ := zxor_r v58_ ((-1))
                              refine zr_iand (pc := 110) (zdal_p dlD_M_moebius_50 (i := 12) rfl) ?_
                              have hr60_ := zand_r v57_ (zxor v58_ ((-1)))
                              refine zr_if_ne (pc := 111) (tgt := 130) ⟨(by (exact zo_284 hr60_.1)), (by (exact zo_285 hr60_.2))⟩ (by decide) (zdal_p dlD_M_moebius_50 (i := 13) rfl) (fun hc_111 => ?_) (fun hc_111 => ?_)
                              · skip
                                refine zr_iinc (pc := 130) (i := 4) (a := u43_) (n := 1) (L2 := [some (.ref 81), some (.int (Int32.ofInt a0_)), some (.int (Int32.ofInt u3_)), some (.int (Int32.ofInt u19_)), some (.int (Int32.ofInt (u43_ + 1)))]) rfl (by decide) rfl d_M_moebius_130 ?_
                                refine zw_goto (pc := 133) (tgt := 72) (by decide) d_M_moebius_133 ?_
                                exact ih_72 (u43_ + 1) (by (exact zo_74 i46_)) (by (exact zo_832 gb.2.2.2.1 hc_78)) N44_ hs45_ (show 0 ≤ (u43_ + 1) by first | with_reducible assumption | (exact zo_76 i46_) | assumption) (by (exact zo_147 hc_78 hlt_72))
                              · skip
                                refine zw_aload_n (pc := 114) (n := 0) (x := 81) rfl (zdal_p dlD_M_moebius_50 (i := 14) rfl) ?_
                                refine zr_getF (r := 106) (hf_N44_.w hW) (pc := 115) f_M_90 rfl (zh_106 (hf_N44_.w hW)).1 (zdal_p dlD_M_moebius_50 (i := 15) rfl) ?_
                                refine zw_iload_n (pc := 118) (n := 3) (x := Int32.ofInt u19_) rfl (zdal_p dlD_M_moebius_50 (i := 16) rfl) ?_
                                refine zw_dup2 (pc := 119) rfl rfl (zdal_p dlD_M_moebius_50 (i := 17) rfl) ?_
                                refine zr_ialdn (pc := 120) (zh_106 (hf_N44_.w hW)).2 (by decide) (by (exact i22_)) (by (exact zo_907 gb.2.2.2.1 hc_28)) (zdal_p dlD_M_moebius_50 (i := 18) rfl) (fun v61_ hv61_ hv61_a hv61_b => ?_)
                                refine zw_aload_n (pc := 121) (n := 0) (x := 81) rfl (zdal_p dlD_M_moebius_50 (i := 19) rfl) ?_
                                refine zr_getF (r := 106) (hf_N44_.w hW) (pc := 122) f_M_90 rfl (zh_106 (hf_N44_.w hW)).1 (zdal_p dlD_M_moebius_50 (i := 20) rfl) ?_
                                refine zw_iload (pc := 125) (i := 4) (x := Int32.ofInt u43_) rfl (zdal_p dlD_M_moebius_50 (i := 21) rfl) ?_
                                refine zr_ialdn (pc := 127) (zh_106 (hf_N44_.w hW)).2 (by decide) (by (exact i46_)) (by (exact zo_907 gb.2.2.2.1 hc_78)) (zdal_p dlD_M_moebius_50 (i := 22) rfl) (fun v62_ hv62_ hv62_a hv62_b => ?_)
                                refine zr_isub (pc := 128) (zdal_p dlD_M_moebius_50 (i := 23) rfl) ?_
                                refine zr_nmI (fun v63_ hv63_ => ?_)
                                obtain ⟨hv63_a, hv63_b⟩ := hv63_
                                refine zr_iast (pc := 129) (zh_106 (hf_N44_.w hW)).2 (by decide) (by decide) (by (exact i22_)) (by (exact zo_907 gb.2.2.2.1 hc_28)) (zdal_p dlD_M_moebius_51 (i := 0) rfl) (fun N64_ hN64_ hsN64_ => ?_)
                                have hf_N64_ : zFr [] [106] Mz N64_ := hf_N44_.tr hsN64_ (by decide) (by decide)
                                have hb0_N64_ : zFr [] [106] Mz N64_ := hb0_N44_.tr hsN64_ (by decide) (by decide)
                                have hb1_N64_ : zFr [] [106] N4_ N64_ := hb1_N44_.tr hsN64_ (by decide) (by decide)
                                have hb2_N64_ : zFr [] [106] N35_ N64_ := hs45_.tr hsN64_ (by decide) (by decide)
                                refine zr_iinc (pc := 130) (i := 4) (a := u43_) (n := 1) (L2 := [some (.ref 81), some (.int (Int32.ofInt a0_)), some (.int (Int32.ofInt u3_)), some (.int (Int32.ofInt u19_)), some (.int (Int32.ofInt (u43_ + 1)))]) rfl (by decide) rfl d_M_moebius_130 ?_
                                refine zw_goto (pc := 133) (tgt := 72) (by decide) d_M_moebius_133 ?_
                                exact ih_72 (u43_ + 1) (by (exact zo_74 i46_)) (by (exact zo_832 gb.2.2.2.1 hc_78)) N64_ hb2_N64_ (show 0 ≤ (u43_ + 1) by first | with_reducible assumption | (exact zo_76 i46_) | assumption) (by (exact zo_147 hc_78 hlt_72))
                      exact lp_72 _ 0 (by decide) (by decide) N35_ zFr.rf (show 0 ≤ (0 : Int) by first | with_reducible assumption | (decide) | assumption) (Nat.lt_succ_self _)
                    · skip
                      refine zw_iconst (pc := 60) (v := Int32.ofInt 1) (by decide) (zdal_p dlD_M_moebius_49 (i := 8) rfl) ?_
                      refine zw_goto (pc := 61) (tgt := 65) (by decide) (zdal_p dlD_M_moebius_49 (i := 9) rfl) ?_
                      refine zr_callS hf_N20_.x (pc := 65) [.int (Int32.ofInt 1)] [.int (Int32.ofInt u19_), .ref 106] l_M_256 (c_M_truth l N20_ (hf_N20_.w hW) 1 (by decide) (by decide) (by (decide))) rfl rfl (by decide) (Nat.le_of_ble_eq_true rfl) (zdal_p dlD_M_moebius_49 (i := 11) rfl) ?_
                      rintro _ N72_ ⟨v73_, rfl, ⟨hv73_a, hv73_b⟩, hsN72_, hp0_N72_⟩
                      obtain rfl := hsN72_.eq.symm
                      replace hp0_N72_ : v73_ = 1 := hp0_N72_
                      show zW l m_M_moebius (zn Mz + 0, zw Mz + 0) N20_ 68 [some (.ref 81), some (.int (Int32.ofInt a0_)), some (.int (Int32.ofInt u3_)), some (.int (Int32.ofInt u19_)), none] [.int (Int32.ofInt v73_), .int (Int32.ofInt u19_), .ref 106] (zpI [] [106] Mz (fun v N => True))
                      refine zr_iast (pc := 68) (zh_106 (hf_N20_.w hW)).2 (by decide) (by decide) (by (exact i22_)) (by (exact zo_907 gb.2.2.2.1 hc_28)) (zdal_p dlD_M_moebius_49 (i := 12) rfl) (fun N74_ hN74_ hsN74_ => ?_)
                      have hf_N74_ : zFr [] [106] Mz N74_ := hf_N20_.tr hsN74_ (by decide) (by decide)
                      have hb0_N74_ : zFr [] [106] Mz N74_ := hb0_N20_.tr hsN74_ (by decide) (by decide)
                      have hb1_N74_ : zFr [] [106] N4_ N74_ := hs21_.tr hsN74_ (by decide) (by decide)
                      refine zw_iconst (pc := 69) (v := Int32.ofInt 0) (by decide) (zdal_p dlD_M_moebius_49 (i := 13) rfl) ?_
                      refine zw_istore (pc := 70) (i := 4) (L2 := [some (.ref 81), some (.int (Int32.ofInt a0_)), some (.int (Int32.ofInt u3_)), some (.int (Int32.ofInt u19_)), some (.int (Int32.ofInt 0))]) (by decide) rfl (zdal_p dlD_M_moebius_49 (i := 14) rfl) ?_
                      have lp_72 : ∀ (n : Nat) (u82_ : Int) (hu82_a : -2147483648 ≤ u82_) (hu82_b : u82_ < 2147483648) (N83_ : zMem) (hs84_ : zFr [] [106] N74_ N83_) (i85_ : 0 ≤ u82_), (ze Mz 81 25 - u82_).toNat < n → zW l m_M_moebius (zn Mz + 0, zw Mz + 0) N83_ 72 [some (.ref 81), some (.int (Int32.ofInt a0_)), some (.int (Int32.ofInt u3_)), some (.int (Int32.ofInt u19_)), some (.int (Int32.ofInt u82_))] [] (zpI [] [106] Mz (fun v N => True)) := by
                        intro n
                        induction n with
                        | zero =>
                          intro u82_ hu82_a hu82_b N83_ hs84_ i85_ h0
                          exact absurd h0 (Nat.not_lt_zero _)
                        | succ n ih_72 =>
                          intro u82_ hu82_a hu82_b N83_ hs84_ i85_ hlt_72
                          have hf_N83_ : zFr [] [106] Mz N83_ := hf_N74_.tr hs84_ (by decide) (by decide)
                          have hb0_N83_ : zFr [] [106] Mz N83_ := hb0_N74_.tr hs84_ (by decide) (by decide)
                          have hb1_N83_ : zFr [] [106] N4_ N83_ := hb1_N74_.tr hs84_ (by decide) (by decide)
                          refine zw_iload (pc := 72) (i := 4) (x := Int32.ofInt u82_) rfl (zdal_p dlD_M_moebius_49 (i := 15) rfl) ?_
                          refine zw_aload_n (pc := 74) (n := 0) (x := 81) rfl (zdal_p dlD_M_moebius_49 (i := 16) rfl) ?_
                          refine zr_getI0 hf_N83_ hW (pc := 75) (by decide) f_M_220 rfl (zdal_p dlD_M_moebius_49 (i := 17) rfl) ?_
                          refine zr_icmp_ge (pc := 78) (tgt := 136) ⟨hu82_a, hu82_b⟩ ⟨(ze_r Mz 81 25).1, (ze_r Mz 81 25).2⟩ (by decide) (zdal_p dlD_M_moebius_49 (i := 18) rfl) (fun hc_78 => ?_) (fun hc_78 => ?_)
                          · skip
                            refine zr_iinc (pc := 136) (i := 3) (a := u19_) (n := 1) (L2 := [some (.ref 81), some (.int (Int32.ofInt a0_)), some (.int (Int32.ofInt u3_)), some (.int (Int32.ofInt (u19_ + 1))), some (.int (Int32.ofInt u82_))]) rfl (by decide) rfl (zdal_p dlD_M_moebius_51 (i := 3) rfl) ?_
                            refine zw_goto (pc := 139) (tgt := 23) (by decide) (zdal_p dlD_M_moebius_51 (i := 4) rfl) ?_
                            refine zW_le [some (.ref 81), some (.int (Int32.ofInt a0_)), some (.int (Int32.ofInt u3_)), some (.int (Int32.ofInt (u19_ + 1))), none] (⟨rfl, rfl, rfl, rfl, trivial⟩) ?_
                            exact ih_23 (u19_ + 1) (by (exact zo_74 i22_)) (by (exact zo_832 gb.2.2.2.1 hc_28)) N83_ hb1_N83_ (show 0 ≤ (u19_ + 1) by first | with_reducible assumption | (exact zo_76 i22_) | assumption) (by (exact zo_147 hc_28 hlt_23))
                          · skip
                            refine zw_aload_n (pc := 81) (n := 0) (x := 81) rfl (zdal_p dlD_M_moebius_49 (i := 19) rfl) ?_
                            refine zr_getF (r := 89) (hf_N83_.w hW) (pc := 82) f_M_38 rfl (zh_89 (hf_N83_.w hW)).1 (zdal_p dlD_M_moebius_49 (i := 20) rfl) ?_
                            refine zw_iload (pc := 85) (i := 4) (x := Int32.ofInt u82_) rfl (zdal_p dlD_M_moebius_49 (i := 21) rfl) ?_
                            refine zr_ialdn (pc := 87) (zh_89 (hf_N83_.w hW)).2 (by decide) (by (exact i85_)) (by (exact zo_907 gb.2.2.2.1 hc_78)) (zdal_p dlD_M_moebius_49 (i := 22) rfl) (fun v93_ hv93_ hv93_a hv93_b => ?_)
                            rw [hf_N83_.ie (by decide) (by decide)] at hv93_
                            have hs_xN83_ := dv2.g hO (e := u82_) (by (exact i85_)) (by (exact hc_78))
                            refine zr_toI (show v93_ = ze Mz 89 (u82_).toNat by (exact hv93_)) ?_
                            refine zr_callS hf_N83_.x (pc := 88) [.int (Int32.ofInt (ze Mz 89 (u82_).toNat))] [] l_M_253 (c_M_ones l N83_ (hf_N83_.w hW) (ze Mz 89 (u82_).toNat) (by (exact zo_168 hs_xN83_.2.1)) (by (exact zo_550 hv93_ hv93_b)) (show 0 ≤ (ze Mz 89 (u82_).toNat) by first | with_reducible assumption | (exact zo_57 hs_xN83_.2.1) | assumption)) rfl rfl (by decide) (Nat.le_of_ble_eq_true rfl) (zdal_p dlD_M_moebius_49 (i := 23) rfl) ?_
                            rintro _ N94_ ⟨v95_, rfl, ⟨hv95_a, hv95_b⟩, hsN94_, ⟨hp0_N94_, hp1_N94_, hp2_N94_⟩⟩
                            obtain rfl := hsN94_.eq.symm
                            show zW l m_M_moebius (zn Mz + 0, zw Mz + 0) N83_ 91 [some (.ref 81), some (.int (Int32.ofInt a0_)), some (.int (Int32.ofInt u3_)), some (.int (Int32.ofInt u19_)), some (.int (Int32.ofInt u82_))] [.int (Int32.ofInt v95_)] (zpI [] [106] Mz (fun v N => True))
                            refine zw_iload_n (pc := 91) (n := 2) (x := Int32.ofInt u3_) rfl (zdal_p dlD_M_moebius_50 (i := 0) rfl) ?_
                            refine zr_icmp_le (pc := 92) (tgt := 130) ⟨hv95_a, hv95_b⟩ ⟨hu3_a, hu3_b⟩ (by decide) (zdal_p dlD_M_moebius_50 (i := 1) rfl) (fun hc_92 => ?_) (fun hc_92 => ?_)
                            · skip
                              refine zr_iinc (pc := 130) (i := 4) (a := u82_) (n := 1) (L2 := [some (.ref 81), some (.int (Int32.ofInt a0_)), some (.int (Int32.ofInt u3_)), some (.int (Int32.ofInt u19_)), some (.int (Int32.ofInt (u82_ + 1)))]) rfl (by decide) rfl d_M_moebius_130 ?_
                              refine zw_goto (pc := 133) (tgt := 72) (by decide) d_M_moebius_133 ?_
                              exact ih_72 (u82_ + 1) (by (exact zo_74 i85_)) (by (exact zo_832 gb.2.2.2.1 hc_78)) N83_ hs84_ (show 0 ≤ (u82_ + 1) by first | with_reducible assumption | (exact zo_76 i85_) | assumption) (by (exact zo_147 hc_78 hlt_72))
                            · skip
                              refine zw_aload_n (pc := 95) (n := 0) (x := 81) rfl (zdal_p dlD_M_moebius_50 (i := 2) rfl) ?_
                              refine zr_getF (r := 89) (hf_N83_.w hW) (pc := 96) f_M_38 rfl (zh_89 (hf_N83_.w hW)).1 (zdal_p dlD_M_moebius_50 (i := 3) rfl) ?_
                              refine zw_iload_n (pc := 99) (n := 3) (x := Int32.ofInt u19_) rfl (zdal_p dlD_M_moebius_50 (i := 4) rfl) ?_
                              refine zr_ialdn (pc := 100) (zh_89 (hf_N83_.w hW)).2 (by decide) (by (exact i22_)) (by (exact zo_907 gb.2.2.2.1 hc_28)) (zdal_p dlD_M_moebius_50 (i := 5) rfl) (fun v96_ hv96_ hv96_a hv96_b => ?_)
                              rw [hf_N83_.ie (by decide) (by decide)] at hv96_
                              refine zw_aload_n (pc := 101) (n := 0) (x := 81) rfl (zdal_p dlD_M_moebius_50 (i := 6) rfl) ?_
                              refine zr_getF (r := 89) (hf_N83_.w hW) (pc := 102) f_M_38 rfl (zh_89 (hf_N83_.w hW)).1 (zdal_p dlD_M_moebius_50 (i := 7) rfl) ?_
                              refine zw_iload (pc := 105) (i := 4) (x := Int32.ofInt u82_) rfl (zdal_p dlD_M_moebius_50 (i := 8) rfl) ?_
                              refine zr_ialdn (pc := 107) (zh_89 (hf_N83_.w hW)).2 (by decide) (by (exact i85_)) (by (exact zo_907 gb.2.2.2.1 hc_78)) (zdal_p dlD_M_moebius_50 (i := 9) rfl) (fun v97_ hv97_ hv97_a hv97_b => ?_)
                              rw [hf_N83_.ie (by decide) (by decide)] at hv97_
                              refine zw_iconst (pc := 108) (v := Int32.ofInt (-1)) (by decide) (zdal_p dlD_M_moebius_50 (i := 10) rfl) ?_
                              refine zr_ixor (pc := 109) (zdal_p dlD_M_moebius_50 (i := 11) rfl) ?_
                              have hr98_ := zxor_r v97_ ((-1))
                              refine zr_iand (pc := 110) (zdal_p dlD_M_moebius_50 (i := 12) rfl) ?_
                              have hr99_ := zand_r v96_ (zxor v97_ ((-1)))
                              refine zr_if_ne (pc := 111) (tgt := 130) ⟨(by (exact zo_284 hr99_.1)), (by (exact zo_285 hr99_.2))⟩ (by decide) (zdal_p dlD_M_moebius_50 (i := 13) rfl) (fun hc_111 => ?_) (fun hc_111 => ?_)
                              · skip
                                refine zr_iinc (pc := 130) (i := 4) (a := u82_) (n := 1) (L2 := [some (.ref 81), some (.int (Int32.ofInt a0_)), some (.int (Int32.ofInt u3_)), some (.int (Int32.ofInt u19_)), some (.int (Int32.ofInt (u82_ + 1)))]) rfl (by decide) rfl d_M_moebius_130 ?_
                                refine zw_goto (pc := 133) (tgt := 72) (by decide) d_M_moebius_133 ?_
                                exact ih_72 (u82_ + 1) (by (exact zo_74 i85_)) (by (exact zo_832 gb.2.2.2.1 hc_78)) N83_ hs84_ (show 0 ≤ (u82_ + 1) by first | with_reducible assumption | (exact zo_76 i85_) | assumption) (by (exact zo_147 hc_78 hlt_72))
                              · skip
                                refine zw_aload_n (pc := 114) (n := 0) (x := 81) rfl (zdal_p dlD_M_moebius_50 (i := 14) rfl) ?_
                                refine zr_getF (r := 106) (hf_N83_.w hW) (pc := 115) f_M_90 rfl (zh_106 (hf_N83_.w hW)).1 (zdal_p dlD_M_moebius_50 (i := 15) rfl) ?_
                                refine zw_iload_n (pc := 118) (n := 3) (x := Int32.ofInt u19_) rfl (zdal_p dlD_M_moebius_50 (i := 16) rfl) ?_
                                refine zw_dup2 (pc := 119) rfl rfl (zdal_p dlD_M_moebius_50 (i := 17) rfl) ?_
                                refine zr_ialdn (pc := 120) (zh_106 (hf_N83_.w hW)).2 (by decide) (by (exact i22_)) (by (exact zo_907 gb.2.2.2.1 hc_28)) (zdal_p dlD_M_moebius_50 (i := 18) rfl) (fun v100_ hv100_ hv100_a hv100_b => ?_)
                                refine zw_aload_n (pc := 121) (n := 0) (x := 81) rfl (zdal_p dlD_M_moebius_50 (i := 19) rfl) ?_
                                refine zr_getF (r := 106) (hf_N83_.w hW) (pc := 122) f_M_90 rfl (zh_106 (hf_N83_.w hW)).1 (zdal_p dlD_M_moebius_50 (i := 20) rfl) ?_
                                refine zw_iload (pc := 125) (i := 4) (x := Int32.ofInt u82_) rfl (zdal_p dlD_M_moebius_50 (i := 21) rfl) ?_
                                refine zr_ialdn (pc := 127) (zh_106 (hf_N83_.w hW)).2 (by decide) (by (exact i85_)) (by (exact zo_907 gb.2.2.2.1 hc_78)) (zdal_p dlD_M_moebius_50 (i := 22) rfl) (fun v101_ hv101_ hv101_a hv101_b => ?_)
                                refine zr_isub (pc := 128) (zdal_p dlD_M_moebius_50 (i := 23) rfl) ?_
                                refine zr_nmI (fun v102_ hv102_ => ?_)
                                obtain ⟨hv102_a, hv102_b⟩ := hv102_
                                refine zr_iast (pc := 129) (zh_106 (hf_N83_.w hW)).2 (by decide) (by decide) (by (exact i22_)) (by (exact zo_907 gb.2.2.2.1 hc_28)) (zdal_p dlD_M_moebius_51 (i := 0) rfl) (fun N103_ hN103_ hsN103_ => ?_)
                                have hf_N103_ : zFr [] [106] Mz N103_ := hf_N83_.tr hsN103_ (by decide) (by decide)
                                have hb0_N103_ : zFr [] [106] Mz N103_ := hb0_N83_.tr hsN103_ (by decide) (by decide)
                                have hb1_N103_ : zFr [] [106] N4_ N103_ := hb1_N83_.tr hsN103_ (by decide) (by decide)
                                have hb2_N103_ : zFr [] [106] N74_ N103_ := hs84_.tr hsN103_ (by decide) (by decide)
                                refine zr_iinc (pc := 130) (i := 4) (a := u82_) (n := 1) (L2 := [some (.ref 81), some (.int (Int32.ofInt a0_)), some (.int (Int32.ofInt u3_)), some (.int (Int32.ofInt u19_)), some (.int (Int32.ofInt (u82_ + 1)))]) rfl (by decide) rfl d_M_moebius_130 ?_
                                refine zw_goto (pc := 133) (tgt := 72) (by decide) d_M_moebius_133 ?_
                                exact ih_72 (u82_ + 1) (by (exact zo_74 i85_)) (by (exact zo_832 gb.2.2.2.1 hc_78)) N103_ hb2_N103_ (show 0 ≤ (u82_ + 1) by first | with_reducible assumption | (exact zo_76 i85_) | assumption) (by (exact zo_147 hc_78 hlt_72))
                      exact lp_72 _ 0 (by decide) (by decide) N74_ zFr.rf (show 0 ≤ (0 : Int) by first | with_reducible assumption | (decide) | assumption) (Nat.lt_succ_self _)
                  · skip
                    refine zw_goto (pc := 44) (tgt := 136) (by decide) (zdal_p dlD_M_moebius_49 (i := 0) rfl) ?_
                    refine zr_iinc (pc := 136) (i := 3) (a := u19_) (n := 1) (L2 := [some (.ref 81), some (.int (Int32.ofInt a0_)), some (.int (Int32.ofInt u3_)), some (.int (Int32.ofInt (u19_ + 1))), none]) rfl (by decide) rfl (zdal_p dlD_M_moebius_51 (i := 3) rfl) ?_
                    refine zw_goto (pc := 139) (tgt := 23) (by decide) (zdal_p dlD_M_moebius_51 (i := 4) rfl) ?_
                    exact ih_23 (u19_ + 1) (by (exact zo_74 i22_)) (by (exact zo_832 gb.2.2.2.1 hc_28)) N20_ hs21_ (show 0 ≤ (u19_ + 1) by first | with_reducible assumption | (exact zo_76 i22_) | assumption) (by (exact zo_147 hc_28 hlt_23))
            exact lp_23 _ 0 (by decide) (by decide) N4_ zFr.rf (show 0 ≤ (0 : Int) by first | with_reducible assumption | (decide) | assumption) (Nat.lt_succ_self _)
      exact lp_17 _ (ze Mz 81 20) (ze_r Mz 81 20).1 (ze_r Mz 81 20).2 Mz zFr.rf (show (ze Mz 81 20) ≤ ze Mz 81 20 by first | with_reducible assumption | (exact zo_628) | assumption) (show (ze Mz 81 20) ≥ 0 ∨ (ze Mz 81 20) = ze Mz 81 20 by first | with_reducible assumption | (exact zo_996) | assumption) (Nat.lt_succ_self _)
    · skip
      exact absurd hc_5 (by decide)
  · skip
    show zW l m_M_moebius (zn Mz + 0, zw Mz + 0) Mz 5 [some (.ref 81), some (.int (Int32.ofInt a0_)), none, none, none] [.int (Int32.ofInt 0)] (zpI [] [106] Mz (fun v N => True))
    refine zr_if_ne (pc := 5) (tgt := 12) ⟨(by decide), (by decide)⟩ (by decide) (zdal_p dlD_M_moebius_48 (i := 3) rfl) (fun hc_5 => ?_) (fun hc_5 => ?_)
    · skip
      exact absurd hc_5 (by decide)
    · skip
      refine zw_ldcw (pc := 8) (v := Int32.ofInt (-1000000)) (by rw [show Int32.ofInt (-1000000) = ((-1000000) : Int32) by decide]; exact k_M_435) (zdal_p dlD_M_moebius_48 (i := 4) rfl) ?_
      exact zr_iret (pc := 11) (ty := .int) rfl rfl ⟨by (decide), by (decide)⟩ hf trivial (zdal_p dlD_M_moebius_48 (i := 5) rfl)
set_option maxHeartbeats 4000000 in
theorem c_M_divisor (l : Launch) (Mz : zMem) (hW : zMt Mz) (a0_ : Int) (ha0_a : -9223372036854775808 ≤ a0_) (ha0_b : a0_ < 9223372036854775808) (a1_ : Int) (ha1_a : -9223372036854775808 ≤ a1_) (ha1_b : a1_ < 9223372036854775808) (p0_ : -4611686018427387903 ≤ a0_) (p1_ : a0_ ≤ 4611686018427387903) (p2_ : 1 ≤ a1_) (p3_ : a1_ ≤ 4611686018427387903) : zC l m_M_divisor 0 0 [.long (Int64.ofInt a0_), .long (Int64.ofInt a1_)] Mz (zpJ [] [] Mz (fun v N => v = ((Int.gcd a0_ a1_ : Nat) : Int) ∧ 1 ≤ v ∧ v ≤ a1_)) := by
  refine zC_of (L0 := [some (.long (Int64.ofInt a0_)), none, some (.long (Int64.ofInt a1_)), none, none, none, none, none, none, none]) md_M_divisor (Nat.le_of_ble_eq_true rfl) rfl ?_ zQ0
  have hf : zFr [] [] Mz Mz := zFr.rf
  refine zw_lload_n (pc := 0) (n := 0) (x := Int64.ofInt a0_) rfl (zdal_p dlD_M_divisor_69 (i := 0) rfl) ?_
  refine zw_lconst (pc := 1) (v := Int64.ofInt 0) (by decide) (zdal_p dlD_M_divisor_69 (i := 1) rfl) ?_
  refine zr_lcmp (pc := 2) ⟨ha0_a, ha0_b⟩ ⟨(by decide), (by decide)⟩ (zdal_p dlD_M_divisor_69 (i := 2) rfl) ?_
  have hr1_ := zcmp_s a0_ 0
  refine zr_if_ge (pc := 3) (tgt := 11) ⟨(by (exact zo_71 hr1_)), (by (exact zo_72 hr1_))⟩ (by decide) (zdal_p dlD_M_divisor_69 (i := 3) rfl) (fun hc_3 => ?_) (fun hc_3 => ?_)
  · skip
    refine zw_lload_n (pc := 11) (n := 0) (x := Int64.ofInt a0_) rfl (zdal_p dlD_M_divisor_69 (i := 7) rfl) ?_
    refine zw_lstore (pc := 12) (i := 4) (L2 := [some (.long (Int64.ofInt a0_)), none, some (.long (Int64.ofInt a1_)), none, some (.long (Int64.ofInt a0_)), none, none, none, none, none]) (by decide) rfl (zdal_p dlD_M_divisor_69 (i := 8) rfl) ?_
    refine zw_lload_n (pc := 14) (n := 2) (x := Int64.ofInt a1_) rfl (zdal_p dlD_M_divisor_69 (i := 9) rfl) ?_
    refine zw_lstore (pc := 15) (i := 6) (L2 := [some (.long (Int64.ofInt a0_)), none, some (.long (Int64.ofInt a1_)), none, some (.long (Int64.ofInt a0_)), none, some (.long (Int64.ofInt a1_)), none, none, none]) (by decide) rfl (zdal_p dlD_M_divisor_69 (i := 10) rfl) ?_
    have lp_17 : ∀ (n : Nat) (u2_ : Int) (hu2_a : -9223372036854775808 ≤ u2_) (hu2_b : u2_ < 9223372036854775808) (u3_ : Int) (hu3_a : -9223372036854775808 ≤ u3_) (hu3_b : u3_ < 9223372036854775808) (i4_ : 0 ≤ u2_) (i5_ : u2_ ≤ 4611686018427387903) (i6_ : 0 ≤ u3_) (i7_ : u3_ ≤ 4611686018427387903) (i8_ : Int.gcd u2_ u3_ = Int.gcd a0_ a1_), (u3_).toNat < n → zW l m_M_divisor (zn Mz + 0, zw Mz + 0) Mz 17 [some (.long (Int64.ofInt a0_)), none, some (.long (Int64.ofInt a1_)), none, some (.long (Int64.ofInt u2_)), none, some (.long (Int64.ofInt u3_)), none, none, none] [] (zpJ [] [] Mz (fun v N => v = ((Int.gcd a0_ a1_ : Nat) : Int) ∧ 1 ≤ v ∧ v ≤ a1_)) := by
      intro n
      induction n with
      | zero =>
        intro u2_ hu2_a hu2_b u3_ hu3_a hu3_b i4_ i5_ i6_ i7_ i8_ h0
        exact absurd h0 (Nat.not_lt_zero _)
      | succ n ih_17 =>
        intro u2_ hu2_a hu2_b u3_ hu3_a hu3_b i4_ i5_ i6_ i7_ i8_ hlt_17
        refine zw_lload (pc := 17) (i := 6) (x := Int64.ofInt u3_) rfl (zdal_p dlD_M_divisor_69 (i := 11) rfl) ?_
        refine zw_lconst (pc := 19) (v := Int64.ofInt 0) (by decide) (zdal_p dlD_M_divisor_69 (i := 12) rfl) ?_
        refine zr_lcmp (pc := 20) ⟨hu3_a, hu3_b⟩ ⟨(by decide), (by decide)⟩ (zdal_p dlD_M_divisor_69 (i := 13) rfl) ?_
        have hr9_ := zcmp_s u3_ 0
        refine zr_if_eq (pc := 21) (tgt := 42) ⟨(by (exact zo_71 hr9_)), (by (exact zo_72 hr9_))⟩ (by decide) (zdal_p dlD_M_divisor_69 (i := 14) rfl) (fun hc_21 => ?_) (fun hc_21 => ?_)
        · skip
          refine zw_lload (pc := 42) (i := 4) (x := Int64.ofInt u2_) rfl (zdal_p dlD_M_divisor_70 (i := 0) rfl) ?_
          have hgp := zgc_p (a := a0_) (b := a1_) (by (exact p2_))
          have hge := (show Int.gcd u2_ u3_ = Int.gcd a0_ a1_ by first | with_reducible assumption | assumption)
          rw [show u3_ = 0 by omega] at hge
          have hgz : Int.gcd u2_ 0 = (u2_).natAbs := Nat.gcd_zero_right _
          exact zr_lret (pc := 44) rfl ⟨by (exact hu2_a), by (exact hu2_b)⟩ hf ⟨(show u2_ = ((Int.gcd a0_ a1_ : Nat) : Int) by first | with_reducible assumption | assumption | omega), (show 1 ≤ u2_ by first | with_reducible assumption | assumption | omega), (show u2_ ≤ a1_ by first | with_reducible assumption | assumption | omega)⟩ (zdal_p dlD_M_divisor_70 (i := 1) rfl)
        · skip
          refine zw_lload (pc := 24) (i := 4) (x := Int64.ofInt u2_) rfl (zdal_p dlD_M_divisor_69 (i := 15) rfl) ?_
          refine zw_lload (pc := 26) (i := 6) (x := Int64.ofInt u3_) rfl (zdal_p dlD_M_divisor_69 (i := 16) rfl) ?_
          refine zr_lrem (pc := 28) ⟨by (exact hu3_a), by (exact hu3_b)⟩ (by omega) (zdal_p dlD_M_divisor_69 (i := 17) rfl) ?_
          have hr10_ := zlrem_r u2_ u3_
          have hgs := zgc_s (x := u2_) (y := u3_) (by (exact i4_)) (by (exact i5_)) (by omega) (by (exact i7_)) (by first | with_reducible assumption | assumption)
          refine zw_lstore (pc := 29) (i := 8) (L2 := [some (.long (Int64.ofInt a0_)), none, some (.long (Int64.ofInt a1_)), none, some (.long (Int64.ofInt u2_)), none, some (.long (Int64.ofInt u3_)), none, some (.long (Int64.ofInt (zlrem u2_ u3_))), none]) (by decide) rfl (zdal_p dlD_M_divisor_69 (i := 18) rfl) ?_
          refine zw_lload (pc := 31) (i := 6) (x := Int64.ofInt u3_) rfl (zdal_p dlD_M_divisor_69 (i := 19) rfl) ?_
          refine zw_lstore (pc := 33) (i := 4) (L2 := [some (.long (Int64.ofInt a0_)), none, some (.long (Int64.ofInt a1_)), none, some (.long (Int64.ofInt u3_)), none, some (.long (Int64.ofInt u3_)), none, some (.long (Int64.ofInt (zlrem u2_ u3_))), none]) (by decide) rfl (zdal_p dlD_M_divisor_69 (i := 20) rfl) ?_
          refine zw_lload (pc := 35) (i := 8) (x := Int64.ofInt (zlrem u2_ u3_)) rfl (zdal_p dlD_M_divisor_69 (i := 21) rfl) ?_
          refine zw_lstore (pc := 37) (i := 6) (L2 := [some (.long (Int64.ofInt a0_)), none, some (.long (Int64.ofInt a1_)), none, some (.long (Int64.ofInt u3_)), none, some (.long (Int64.ofInt (zlrem u2_ u3_))), none, some (.long (Int64.ofInt (zlrem u2_ u3_))), none]) (by decide) rfl (zdal_p dlD_M_divisor_69 (i := 22) rfl) ?_
          refine zw_goto (pc := 39) (tgt := 17) (by decide) (zdal_p dlD_M_divisor_69 (i := 23) rfl) ?_
          refine zW_le [some (.long (Int64.ofInt a0_)), none, some (.long (Int64.ofInt a1_)), none, some (.long (Int64.ofInt u3_)), none, some (.long (Int64.ofInt (zlrem u2_ u3_))), none, none, none] (⟨rfl, rfl, rfl, rfl, trivial⟩) ?_
          exact ih_17 u3_ hu3_a hu3_b (zlrem u2_ u3_) (by (exact zo_997 hgs.1)) (by (exact zo_80 hr10_.2)) (show 0 ≤ u3_ by first | with_reducible assumption | assumption | omega) (show u3_ ≤ 4611686018427387903 by first | with_reducible assumption | assumption | omega) (show 0 ≤ (zlrem u2_ u3_) by first | with_reducible assumption | (exact zo_57 hgs.1) | assumption) (show (zlrem u2_ u3_) ≤ 4611686018427387903 by first | with_reducible assumption | assumption | omega) (show Int.gcd u3_ (zlrem u2_ u3_) = Int.gcd a0_ a1_ by exact hgs.2.2) (by (exact zo_998 hgs.1 hgs.2.1 hlt_17))
    exact lp_17 _ a0_ ha0_a ha0_b a1_ ha1_a ha1_b (show 0 ≤ a0_ by first | with_reducible assumption | assumption | omega) (show a0_ ≤ 4611686018427387903 by first | with_reducible assumption | assumption | omega) (show 0 ≤ a1_ by first | with_reducible assumption | (exact zo_564 p2_) | assumption) (show a1_ ≤ 4611686018427387903 by first | with_reducible assumption | assumption | omega) (show Int.gcd a0_ a1_ = Int.gcd a0_ a1_ by first | rfl | exact Int.neg_gcd) (Nat.lt_succ_self _)
  · skip
    refine zw_lload_n (pc := 6) (n := 0) (x := Int64.ofInt a0_) rfl (zdal_p dlD_M_divisor_69 (i := 4) rfl) ?_
    refine zr_lneg (pc := 7) (zdal_p dlD_M_divisor_69 (i := 5) rfl) ?_
    refine zw_goto (pc := 8) (tgt := 12) (by decide) (zdal_p dlD_M_divisor_69 (i := 6) rfl) ?_
    refine zw_lstore (pc := 12) (i := 4) (L2 := [some (.long (Int64.ofInt a0_)), none, some (.long (Int64.ofInt a1_)), none, some (.long (Int64.ofInt (-a0_))), none, none, none, none, none]) (by decide) rfl (zdal_p dlD_M_divisor_69 (i := 8) rfl) ?_
    refine zw_lload_n (pc := 14) (n := 2) (x := Int64.ofInt a1_) rfl (zdal_p dlD_M_divisor_69 (i := 9) rfl) ?_
    refine zw_lstore (pc := 15) (i := 6) (L2 := [some (.long (Int64.ofInt a0_)), none, some (.long (Int64.ofInt a1_)), none, some (.long (Int64.ofInt (-a0_))), none, some (.long (Int64.ofInt a1_)), none, none, none]) (by decide) rfl (zdal_p dlD_M_divisor_69 (i := 10) rfl) ?_
    have lp_17 : ∀ (n : Nat) (u11_ : Int) (hu11_a : -9223372036854775808 ≤ u11_) (hu11_b : u11_ < 9223372036854775808) (u12_ : Int) (hu12_a : -9223372036854775808 ≤ u12_) (hu12_b : u12_ < 9223372036854775808) (i13_ : 0 ≤ u11_) (i14_ : u11_ ≤ 4611686018427387903) (i15_ : 0 ≤ u12_) (i16_ : u12_ ≤ 4611686018427387903) (i17_ : Int.gcd u11_ u12_ = Int.gcd a0_ a1_), (u12_).toNat < n → zW l m_M_divisor (zn Mz + 0, zw Mz + 0) Mz 17 [some (.long (Int64.ofInt a0_)), none, some (.long (Int64.ofInt a1_)), none, some (.long (Int64.ofInt u11_)), none, some (.long (Int64.ofInt u12_)), none, none, none] [] (zpJ [] [] Mz (fun v N => v = ((Int.gcd a0_ a1_ : Nat) : Int) ∧ 1 ≤ v ∧ v ≤ a1_)) := by
      intro n
      induction n with
      | zero =>
        intro u11_ hu11_a hu11_b u12_ hu12_a hu12_b i13_ i14_ i15_ i16_ i17_ h0
        exact absurd h0 (Nat.not_lt_zero _)
      | succ n ih_17 =>
        intro u11_ hu11_a hu11_b u12_ hu12_a hu12_b i13_ i14_ i15_ i16_ i17_ hlt_17
        refine zw_lload (pc := 17) (i := 6) (x := Int64.ofInt u12_) rfl (zdal_p dlD_M_divisor_69 (i := 11) rfl) ?_
        refine zw_lconst (pc := 19) (v := Int64.ofInt 0) (by decide) (zdal_p dlD_M_divisor_69 (i := 12) rfl) ?_
        refine zr_lcmp (pc := 20) ⟨hu12_a, hu12_b⟩ ⟨(by decide), (by decide)⟩ (zdal_p dlD_M_divisor_69 (i := 13) rfl) ?_
        have hr18_ := zcmp_s u12_ 0
        refine zr_if_eq (pc := 21) (tgt := 42) ⟨(by (exact zo_71 hr18_)), (by (exact zo_72 hr18_))⟩ (by decide) (zdal_p dlD_M_divisor_69 (i := 14) rfl) (fun hc_21 => ?_) (fun hc_21 => ?_)
        · skip
          refine zw_lload (pc := 42) (i := 4) (x := Int64.ofInt u11_) rfl (zdal_p dlD_M_divisor_70 (i := 0) rfl) ?_
          have hgp := zgc_p (a := a0_) (b := a1_) (by (exact p2_))
          have hge := (show Int.gcd u11_ u12_ = Int.gcd a0_ a1_ by first | with_reducible assumption | assumption)
          rw [show u12_ = 0 by omega] at hge
          have hgz : Int.gcd u11_ 0 = (u11_).natAbs := Nat.gcd_zero_right _
          exact zr_lret (pc := 44) rfl ⟨by (exact hu11_a), by (exact hu11_b)⟩ hf ⟨(show u11_ = ((Int.gcd a0_ a1_ : Nat) : Int) by first | with_reducible assumption | assumption | omega), (show 1 ≤ u11_ by first | with_reducible assumption | assumption | omega), (show u11_ ≤ a1_ by first | with_reducible assumption | assumption | omega)⟩ (zdal_p dlD_M_divisor_70 (i := 1) rfl)
        · skip
          refine zw_lload (pc := 24) (i := 4) (x := Int64.ofInt u11_) rfl (zdal_p dlD_M_divisor_69 (i := 15) rfl) ?_
          refine zw_lload (pc := 26) (i := 6) (x := Int64.ofInt u12_) rfl (zdal_p dlD_M_divisor_69 (i := 16) rfl) ?_
          refine zr_lrem (pc := 28) ⟨by (exact hu12_a), by (exact hu12_b)⟩ (by omega) (zdal_p dlD_M_divisor_69 (i := 17) rfl) ?_
          have hr19_ := zlrem_r u11_ u12_
          have hgs := zgc_s (x := u11_) (y := u12_) (by (exact i13_)) (by (exact i14_)) (by omega) (by (exact i16_)) (by first | with_reducible assumption | assumption)
          refine zw_lstore (pc := 29) (i := 8) (L2 := [some (.long (Int64.ofInt a0_)), none, some (.long (Int64.ofInt a1_)), none, some (.long (Int64.ofInt u11_)), none, some (.long (Int64.ofInt u12_)), none, some (.long (Int64.ofInt (zlrem u11_ u12_))), none]) (by decide) rfl (zdal_p dlD_M_divisor_69 (i := 18) rfl) ?_
          refine zw_lload (pc := 31) (i := 6) (x := Int64.ofInt u12_) rfl (zdal_p dlD_M_divisor_69 (i := 19) rfl) ?_
          refine zw_lstore (pc := 33) (i := 4) (L2 := [some (.long (Int64.ofInt a0_)), none, some (.long (Int64.ofInt a1_)), none, some (.long (Int64.ofInt u12_)), none, some (.long (Int64.ofInt u12_)), none, some (.long (Int64.ofInt (zlrem u11_ u12_))), none]) (by decide) rfl (zdal_p dlD_M_divisor_69 (i := 20) rfl) ?_
          refine zw_lload (pc := 35) (i := 8) (x := Int64.ofInt (zlrem u11_ u12_)) rfl (zdal_p dlD_M_divisor_69 (i := 21) rfl) ?_
          refine zw_lstore (pc := 37) (i := 6) (L2 := [some (.long (Int64.ofInt a0_)), none, some (.long (Int64.ofInt a1_)), none, some (.long (Int64.ofInt u12_)), none, some (.long (Int64.ofInt (zlrem u11_ u12_))), none, some (.long (Int64.ofInt (zlrem u11_ u12_))), none]) (by decide) rfl (zdal_p dlD_M_divisor_69 (i := 22) rfl) ?_
          refine zw_goto (pc := 39) (tgt := 17) (by decide) (zdal_p dlD_M_divisor_69 (i := 23) rfl) ?_
          refine zW_le [some (.long (Int64.ofInt a0_)), none, some (.long (Int64.ofInt a1_)), none, some (.long (Int64.ofInt u12_)), none, some (.long (Int64.ofInt (zlrem u11_ u12_))), none, none, none] (⟨rfl, rfl, rfl, rfl, trivial⟩) ?_
          exact ih_17 u12_ hu12_a hu12_b (zlrem u11_ u12_) (by (exact zo_997 hgs.1)) (by (exact zo_80 hr19_.2)) (show 0 ≤ u12_ by first | with_reducible assumption | assumption | omega) (show u12_ ≤ 4611686018427387903 by first | with_reducible assumption | assumption | omega) (show 0 ≤ (zlrem u11_ u12_) by first | with_reducible assumption | (exact zo_57 hgs.1) | assumption) (show (zlrem u11_ u12_) ≤ 4611686018427387903 by first | with_reducible assumption | assumption | omega) (show Int.gcd u12_ (zlrem u11_ u12_) = Int.gcd a0_ a1_ by exact hgs.2.2) (by (exact zo_998 hgs.1 hgs.2.1 hlt_17))
    exact lp_17 _ (-a0_) (by (exact zo_84 ha0_b)) (by omega) a1_ ha1_a ha1_b (show 0 ≤ (-a0_) by first | with_reducible assumption | assumption | omega) (show (-a0_) ≤ 4611686018427387903 by first | with_reducible assumption | assumption | omega) (show 0 ≤ a1_ by first | with_reducible assumption | (exact zo_564 p2_) | assumption) (show a1_ ≤ 4611686018427387903 by first | with_reducible assumption | assumption | omega) (show Int.gcd (-a0_) a1_ = Int.gcd a0_ a1_ by first | rfl | exact Int.neg_gcd) (Nat.lt_succ_self _)
set_option maxHeartbeats 4000000 in
theorem c_M_sumWith (l : Launch) (Mz : zMem) (hW : zMt Mz) (a0_ : Int) (ha0_a : -9223372036854775808 ≤ a0_) (ha0_b : a0_ < 9223372036854775808) (a1_ : Int) (ha1_a : -9223372036854775808 ≤ a1_) (ha1_b : a1_ < 9223372036854775808) (p0_ : -1000000000 ≤ zg Mz 81 52) (p1_ : zg Mz 81 52 ≤ 1000000000) (p2_ : 1 ≤ zg Mz 81 53) (p3_ : zg Mz 81 53 ≤ 1000) (p4_ : -1000000000 ≤ a0_) (p5_ : a0_ ≤ 1000000000) (p6_ : 1 ≤ a1_) (p7_ : a1_ ≤ 1000) : zC l m_M_sumWith 0 0 [.ref 81, .long (Int64.ofInt a0_), .long (Int64.ofInt a1_)] Mz (zpV [52, 53] [] Mz (fun N => zSw (zg Mz 81 52) (zg Mz 81 53) a0_ a1_ (zg N 81 52) (zg N 81 53))) := by
  refine zC_of (L0 := [some (.ref 81), some (.long (Int64.ofInt a0_)), none, some (.long (Int64.ofInt a1_)), none, none, none, none, none, none, none]) md_M_sumWith (Nat.le_of_ble_eq_true rfl) rfl ?_ zQ0
  have hf : zFr [52, 53] [] Mz Mz := zFr.rf
  have hb_ := zsw_b p0_ p1_ p2_ p3_ p4_ p5_ p6_ p7_
  have hc_ := zgc_p (a := zg Mz 81 52 * a1_ + a0_ * zg Mz 81 53) (b := zg Mz 81 53 * a1_) hb_.2.2.1
  refine zw_aload_n (pc := 0) (n := 0) (x := 81) rfl (zdal_p dlD_M_sumWith_67 (i := 0) rfl) ?_
  refine zr_getJ (hf.w hW) (pc := 1) f_M_436 rfl (zdal_p dlD_M_sumWith_67 (i := 1) rfl) ?_
  have hr1_ := zg_r Mz 81 52
  refine zw_lload_n (pc := 4) (n := 3) (x := Int64.ofInt a1_) rfl (zdal_p dlD_M_sumWith_67 (i := 2) rfl) ?_
  refine zr_lmul (pc := 5) (zdal_p dlD_M_sumWith_67 (i := 3) rfl) ?_
  refine zw_lload_n (pc := 6) (n := 1) (x := Int64.ofInt a0_) rfl (zdal_p dlD_M_sumWith_67 (i := 4) rfl) ?_
  refine zw_aload_n (pc := 7) (n := 0) (x := 81) rfl (zdal_p dlD_M_sumWith_67 (i := 5) rfl) ?_
  refine zr_getJ (hf.w hW) (pc := 8) f_M_439 rfl (zdal_p dlD_M_sumWith_67 (i := 6) rfl) ?_
  have hr2_ := zg_r Mz 81 53
  refine zr_lmul (pc := 11) (zdal_p dlD_M_sumWith_67 (i := 7) rfl) ?_
  refine zr_ladd (pc := 12) (zdal_p dlD_M_sumWith_67 (i := 8) rfl) ?_
  refine zw_lstore (pc := 13) (i := 5) (L2 := [some (.ref 81), some (.long (Int64.ofInt a0_)), none, some (.long (Int64.ofInt a1_)), none, some (.long (Int64.ofInt (((zg Mz 81 52) * a1_) + (a0_ * (zg Mz 81 53))))), none, none, none, none, none]) (by decide) rfl (zdal_p dlD_M_sumWith_67 (i := 9) rfl) ?_
  refine zw_aload_n (pc := 15) (n := 0) (x := 81) rfl (zdal_p dlD_M_sumWith_67 (i := 10) rfl) ?_
  refine zr_getJ (hf.w hW) (pc := 16) f_M_439 rfl (zdal_p dlD_M_sumWith_67 (i := 11) rfl) ?_
  refine zw_lload_n (pc := 19) (n := 3) (x := Int64.ofInt a1_) rfl (zdal_p dlD_M_sumWith_67 (i := 12) rfl) ?_
  refine zr_lmul (pc := 20) (zdal_p dlD_M_sumWith_67 (i := 13) rfl) ?_
  refine zw_lstore (pc := 21) (i := 7) (L2 := [some (.ref 81), some (.long (Int64.ofInt a0_)), none, some (.long (Int64.ofInt a1_)), none, some (.long (Int64.ofInt (((zg Mz 81 52) * a1_) + (a0_ * (zg Mz 81 53))))), none, some (.long (Int64.ofInt ((zg Mz 81 53) * a1_))), none, none, none]) (by decide) rfl (zdal_p dlD_M_sumWith_67 (i := 14) rfl) ?_
  refine zw_lload (pc := 23) (i := 5) (x := Int64.ofInt (((zg Mz 81 52) * a1_) + (a0_ * (zg Mz 81 53)))) rfl (zdal_p dlD_M_sumWith_67 (i := 15) rfl) ?_
  refine zw_lload (pc := 25) (i := 7) (x := Int64.ofInt ((zg Mz 81 53) * a1_)) rfl (zdal_p dlD_M_sumWith_67 (i := 16) rfl) ?_
  refine zr_callS hf.x (pc := 27) [.long (Int64.ofInt (((zg Mz 81 52) * a1_) + (a0_ * (zg Mz 81 53)))), .long (Int64.ofInt ((zg Mz 81 53) * a1_))] [] l_M_442 (c_M_divisor l Mz (hf.w hW) (((zg Mz 81 52) * a1_) + (a0_ * (zg Mz 81 53))) (by omega) (by omega) ((zg Mz 81 53) * a1_) (by omega) (by omega) (show -4611686018427387903 ≤ (((zg Mz 81 52) * a1_) + (a0_ * (zg Mz 81 53))) by first | with_reducible assumption | assumption | omega) (show (((zg Mz 81 52) * a1_) + (a0_ * (zg Mz 81 53))) ≤ 4611686018427387903 by first | with_reducible assumption | assumption | omega) (show 1 ≤ ((zg Mz 81 53) * a1_) by first | with_reducible assumption | assumption | omega) (show ((zg Mz 81 53) * a1_) ≤ 4611686018427387903 by first | with_reducible assumption | assumption | omega)) rfl rfl (by decide) (Nat.le_of_ble_eq_true rfl) (zdal_p dlD_M_sumWith_67 (i := 17) rfl) ?_
  rintro _ N3_ ⟨v4_, rfl, ⟨hv4_a, hv4_b⟩, hsN3_, ⟨hp0_N3_, hp1_N3_, hp2_N3_⟩⟩
  obtain rfl := hsN3_.eq.symm
  show zW l m_M_sumWith (zn Mz + 0, zw Mz + 0) Mz 30 [some (.ref 81), some (.long (Int64.ofInt a0_)), none, some (.long (Int64.ofInt a1_)), none, some (.long (Int64.ofInt (((zg Mz 81 52) * a1_) + (a0_ * (zg Mz 81 53))))), none, some (.long (Int64.ofInt ((zg Mz 81 53) * a1_))), none, none, none] [.long (Int64.ofInt v4_)] _
  have hdv_ := hp0_N3_
  refine zw_lstore (pc := 30) (i := 9) (L2 := [some (.ref 81), some (.long (Int64.ofInt a0_)), none, some (.long (Int64.ofInt a1_)), none, some (.long (Int64.ofInt (((zg Mz 81 52) * a1_) + (a0_ * (zg Mz 81 53))))), none, some (.long (Int64.ofInt ((zg Mz 81 53) * a1_))), none, some (.long (Int64.ofInt v4_)), none]) (by decide) rfl (zdal_p dlD_M_sumWith_67 (i := 18) rfl) ?_
  refine zw_aload_n (pc := 32) (n := 0) (x := 81) rfl (zdal_p dlD_M_sumWith_67 (i := 19) rfl) ?_
  refine zw_lload (pc := 33) (i := 5) (x := Int64.ofInt (((zg Mz 81 52) * a1_) + (a0_ * (zg Mz 81 53)))) rfl (zdal_p dlD_M_sumWith_67 (i := 20) rfl) ?_
  refine zw_lload (pc := 35) (i := 9) (x := Int64.ofInt v4_) rfl (zdal_p dlD_M_sumWith_67 (i := 21) rfl) ?_
  refine zr_ldiv (pc := 37) ⟨by (exact hv4_a), by (exact hv4_b)⟩ (by (exact zo_999 hp1_N3_)) (zdal_p dlD_M_sumWith_67 (i := 22) rfl) ?_
  have hr5_ := zlquo_r (((zg Mz 81 52) * a1_) + (a0_ * (zg Mz 81 53))) v4_
  refine zr_putJ (hf.w hW) (pc := 38) f_M_436 rfl rfl rfl rfl (zdal_p dlD_M_sumWith_67 (i := 23) rfl) (fun N6_ hsN6_ hvN6_ => ?_)
  have hf_N6_ : zFr [52, 53] [] Mz N6_ := hf.tr hsN6_ (by decide) (by decide)
  refine zw_aload_n (pc := 41) (n := 0) (x := 81) rfl (zdal_p dlD_M_sumWith_68 (i := 0) rfl) ?_
  refine zw_lload (pc := 42) (i := 7) (x := Int64.ofInt ((zg Mz 81 53) * a1_)) rfl (zdal_p dlD_M_sumWith_68 (i := 1) rfl) ?_
  refine zw_lload (pc := 44) (i := 9) (x := Int64.ofInt v4_) rfl (zdal_p dlD_M_sumWith_68 (i := 2) rfl) ?_
  refine zr_ldiv (pc := 46) ⟨by (exact hv4_a), by (exact hv4_b)⟩ (by (exact zo_999 hp1_N3_)) (zdal_p dlD_M_sumWith_68 (i := 3) rfl) ?_
  have hr7_ := zlquo_r ((zg Mz 81 53) * a1_) v4_
  refine zr_putJ (hf_N6_.w hW) (pc := 47) f_M_439 rfl rfl rfl rfl (zdal_p dlD_M_sumWith_68 (i := 4) rfl) (fun N8_ hsN8_ hvN8_ => ?_)
  have hf_N8_ : zFr [52, 53] [] Mz N8_ := hf_N6_.tr hsN8_ (by decide) (by decide)
  have h53_ := hvN8_ ⟨by (exact zo_79 hr7_.1), by (exact zo_80 hr7_.2)⟩
  have h52_ := (hsN8_.g (j := 52) (by decide)).trans (hvN6_ ⟨by (exact zo_79 hr5_.1), by (exact zo_80 hr5_.2)⟩)
  exact zr_vret (pc := 50) rfl hf_N8_ (show zSw (zg Mz 81 52) (zg Mz 81 53) a0_ a1_ (zg N8_ 81 52) (zg N8_ 81 53) by exact zSw_i p0_ p1_ p2_ p3_ p4_ p5_ p6_ p7_ hdv_ h52_ h53_) (zdal_p dlD_M_sumWith_68 (i := 5) rfl)
set_option maxHeartbeats 40000000 in
theorem c_M_peaks (l : Launch) (Mz : zMem) (hW : zMt Mz) (a0_ : Int) (ha0_a : -2147483648 ≤ a0_) (ha0_b : a0_ < 2147483648) (T : zGT) (hO : gOK T) (D : Nat → Nat → Int) (hD : gDs T D) (p0_ : zGB T Mz) (p1_ : 0 ≤ a0_) (p2_ : a0_ < ze Mz 81 26) : zC l m_M_peaks 0 0 [.ref 81, .int (Int32.ofInt a0_)] Mz (zpV [52, 53] [107, 108] Mz (fun N => zPk T D (a0_).toNat 0 N)) := by
  refine zC_of (L0 := [some (.ref 81), some (.int (Int32.ofInt a0_)), none, none, none, none, none, none, none]) md_M_peaks (Nat.le_of_ble_eq_true rfl) rfl ?_ zQ0
  have hf : zFr [52, 53] [107, 108] Mz Mz := zFr.rf
  have r_26 := ze_r Mz 81 26
  have hG := hO.1
  have g24 := hG.2.1
  have g1 := hG.1
  have dv0 : zTab T Mz := p0_.1
  have dv1 : zB 85 144 0 5 Mz := p0_.2.1
  have dv2 : zJX T Mz := p0_.2.2.1
  have dv3 : zFirs T Mz := p0_.2.2.2.1
  have dv4 : zSSm T Mz := p0_.2.2.2.2.1
  have dv5 : zGD Mz := zGB.d hO p0_
  have gb := dv5.1
  have gn := dv0.1
  have gfl := dv3.1
  have gf6 := gF_pos hO
  refine zw_aload_n (pc := 0) (n := 0) (x := 81) rfl (zdal_p dlD_M_peaks_62 (i := 0) rfl) ?_
  refine zr_getI0 hf hW (pc := 1) (by decide) f_M_235 rfl (zdal_p dlD_M_peaks_62 (i := 1) rfl) ?_
  refine zw_iconst (pc := 4) (v := Int32.ofInt 1) (by decide) (zdal_p dlD_M_peaks_62 (i := 2) rfl) ?_
  refine zr_isub (pc := 5) (zdal_p dlD_M_peaks_62 (i := 3) rfl) ?_
  refine zw_istore_n (pc := 6) (i := 2) (L2 := [some (.ref 81), some (.int (Int32.ofInt a0_)), some (.int (Int32.ofInt ((ze Mz 81 26) - 1))), none, none, none, none, none, none]) rfl (by decide) rfl (zdal_p dlD_M_peaks_62 (i := 4) rfl) ?_
  have lp_7 : ∀ (n : Nat) (u1_ : Int) (hu1_a : -2147483648 ≤ u1_) (hu1_b : u1_ < 2147483648) (N2_ : zMem) (hs3_ : zFr [52, 53] [107, 108] Mz N2_) (i4_ : -1 ≤ u1_) (i5_ : u1_ < ze Mz 81 26) (i6_ : zPk T D (a0_).toNat (u1_ + 1).toNat N2_), (u1_ + 1).toNat < n → zW l m_M_peaks (zn Mz + 0, zw Mz + 0) N2_ 7 [some (.ref 81), some (.int (Int32.ofInt a0_)), some (.int (Int32.ofInt u1_)), none, none, none, none, none, none] [] (zpV [52, 53] [107, 108] Mz (fun N => zPk T D (a0_).toNat 0 N)) := by
    intro n
    induction n with
    | zero =>
      intro u1_ hu1_a hu1_b N2_ hs3_ i4_ i5_ i6_ h0
      exact absurd h0 (Nat.not_lt_zero _)
    | succ n ih_7 =>
      intro u1_ hu1_a hu1_b N2_ hs3_ i4_ i5_ i6_ hlt_7
      have hf_N2_ : zFr [52, 53] [107, 108] Mz N2_ := hf.tr hs3_ (by decide) (by decide)
      have e26_N2_ : ze N2_ 81 26 = ze Mz 81 26 := hs3_.e (by decide)
      have c7_ : zGB T N2_ := zGB.fr hs3_ p0_ (by decide) (by decide)
      have c8_ : zTab T N2_ := zTab.fr hs3_ dv0 (by decide) (by decide)
      have c9_ : zB 85 144 0 5 N2_ := zB.fr hs3_ dv1 (by decide) (by decide)
      have c10_ : zJX T N2_ := zJX.fr hs3_ dv2 (by decide) (by decide)
      have c11_ : zFirs T N2_ := zFirs.fr hs3_ dv3 (by decide) (by decide)
      have c12_ : zSSm T N2_ := zSSm.fr hs3_ dv4 (by decide) (by decide)
      have c13_ : zGD N2_ := zGD.fr hs3_ dv5 (by decide) (by decide)
      have zz26_N2_ : ze N2_ 81 26 = ze Mz 81 26 := hf_N2_.e (by decide)
      refine zw_iload_n (pc := 7) (n := 2) (x := Int32.ofInt u1_) rfl (zdal_p dlD_M_peaks_62 (i := 5) rfl) ?_
      refine zr_if_lt (pc := 8) (tgt := 166) ⟨hu1_a, hu1_b⟩ (by decide) (zdal_p dlD_M_peaks_62 (i := 6) rfl) (fun hc_8 => ?_) (fun hc_8 => ?_)
      · skip
        exact zr_vret (pc := 166) rfl hf_N2_ (show zPk T D (a0_).toNat 0 N2_ by have h := (show zPk T D (a0_).toNat (u1_ + 1).toNat N2_ by first | with_reducible assumption | assumption); rwa [show (u1_ + 1).toNat = 0 by (exact zo_1000 hc_8 i4_)] at h) (zdal_p dlD_M_peaks_66 (i := 7) rfl)
      · skip
        refine zw_aload_n (pc := 11) (n := 0) (x := 81) rfl (zdal_p dlD_M_peaks_62 (i := 7) rfl) ?_
        refine zw_iload_n (pc := 12) (n := 2) (x := Int32.ofInt u1_) rfl (zdal_p dlD_M_peaks_62 (i := 8) rfl) ?_
        refine zw_iload_n (pc := 13) (n := 1) (x := Int32.ofInt a0_) rfl (zdal_p dlD_M_peaks_62 (i := 9) rfl) ?_
        have j_22 : ∀ (u14_ : Int) (hu14_a : -2147483648 ≤ u14_) (hu14_b : u14_ < 2147483648) (hu14_z : u14_ = 0 ∨ u14_ = 1) (i15_ : u14_ = (if (u1_).toNat = (a0_).toNat then 1 else 0)), zW l m_M_peaks (zn Mz + 0, zw Mz + 0) N2_ 22 [some (.ref 81), some (.int (Int32.ofInt a0_)), some (.int (Int32.ofInt u1_)), none, none, none, none, none, none] [.int (Int32.ofInt u14_), .ref 81] (zpV [52, 53] [107, 108] Mz (fun N => zPk T D (a0_).toNat 0 N)) := by
          intro u14_ hu14_a hu14_b hu14_z i15_
          refine zr_callS hf_N2_.x (pc := 22) [.int (Int32.ofInt u14_)] [.ref 81] l_M_256 (c_M_truth l N2_ (hf_N2_.w hW) u14_ hu14_a hu14_b (by (exact hu14_z))) rfl rfl (by decide) (Nat.le_of_ble_eq_true rfl) (zdal_p dlD_M_peaks_62 (i := 14) rfl) ?_
          rintro _ N16_ ⟨v17_, rfl, ⟨hv17_a, hv17_b⟩, hsN16_, hp0_N16_⟩
          obtain rfl := hsN16_.eq.symm
          replace hp0_N16_ : v17_ = u14_ := hp0_N16_
          show zW l m_M_peaks (zn Mz + 0, zw Mz + 0) N2_ 25 [some (.ref 81), some (.int (Int32.ofInt a0_)), some (.int (Int32.ofInt u1_)), none, none, none, none, none, none] [.int (Int32.ofInt v17_), .ref 81] _
          refine zr_i2l (pc := 25) ⟨hv17_a, hv17_b⟩ (zdal_p dlD_M_peaks_62 (i := 15) rfl) ?_
          refine zr_putJ (hf_N2_.w hW) (pc := 26) f_M_436 rfl rfl rfl rfl (zdal_p dlD_M_peaks_62 (i := 16) rfl) (fun N18_ hsN18_ hvN18_ => ?_)
          have hf_N18_ : zFr [52, 53] [107, 108] Mz N18_ := hf_N2_.tr hsN18_ (by decide) (by decide)
          have hb0_N18_ : zFr [52, 53] [107, 108] Mz N18_ := hs3_.tr hsN18_ (by decide) (by decide)
          have e26_N18_ : ze N18_ 81 26 = ze N2_ 81 26 := hsN18_.e (by decide)
          have c19_ : zGB T N18_ := zGB.fr hsN18_ c7_ (by decide) (by decide)
          have c20_ : zTab T N18_ := zTab.fr hsN18_ c8_ (by decide) (by decide)
          have c21_ : zB 85 144 0 5 N18_ := zB.fr hsN18_ c9_ (by decide) (by decide)
          have c22_ : zJX T N18_ := zJX.fr hsN18_ c10_ (by decide) (by decide)
          have c23_ : zFirs T N18_ := zFirs.fr hsN18_ c11_ (by decide) (by decide)
          have c24_ : zSSm T N18_ := zSSm.fr hsN18_ c12_ (by decide) (by decide)
          have c25_ : zGD N18_ := zGD.fr hsN18_ c13_ (by decide) (by decide)
          refine zw_aload_n (pc := 29) (n := 0) (x := 81) rfl (zdal_p dlD_M_peaks_62 (i := 17) rfl) ?_
          refine zw_lconst (pc := 30) (v := Int64.ofInt 1) (by decide) (zdal_p dlD_M_peaks_62 (i := 18) rfl) ?_
          refine zr_putJ (hf_N18_.w hW) (pc := 31) f_M_439 rfl rfl rfl rfl (zdal_p dlD_M_peaks_62 (i := 19) rfl) (fun N26_ hsN26_ hvN26_ => ?_)
          have hf_N26_ : zFr [52, 53] [107, 108] Mz N26_ := hf_N18_.tr hsN26_ (by decide) (by decide)
          have hb0_N26_ : zFr [52, 53] [107, 108] Mz N26_ := hb0_N18_.tr hsN26_ (by decide) (by decide)
          have e26_N26_ : ze N26_ 81 26 = ze N18_ 81 26 := hsN26_.e (by decide)
          have c27_ : zGB T N26_ := zGB.fr hsN26_ c19_ (by decide) (by decide)
          have c28_ : zTab T N26_ := zTab.fr hsN26_ c20_ (by decide) (by decide)
          have c29_ : zB 85 144 0 5 N26_ := zB.fr hsN26_ c21_ (by decide) (by decide)
          have c30_ : zJX T N26_ := zJX.fr hsN26_ c22_ (by decide) (by decide)
          have c31_ : zFirs T N26_ := zFirs.fr hsN26_ c23_ (by decide) (by decide)
          have c32_ : zSSm T N26_ := zSSm.fr hsN26_ c24_ (by decide) (by decide)
          have c33_ : zGD N26_ := zGD.fr hsN26_ c25_ (by decide) (by decide)
          have h53_ := hvN26_ ⟨by (decide), by (decide)⟩
          have h52_ := (hsN26_.g (j := 52) (by decide)).trans (hvN18_ ⟨by (exact zo_282 hv17_a), by (exact zo_283 hv17_b)⟩)
          refine zw_iload_n (pc := 34) (n := 2) (x := Int32.ofInt u1_) rfl (zdal_p dlD_M_peaks_62 (i := 20) rfl) ?_
          refine zw_iconst (pc := 35) (v := Int32.ofInt 1) (by decide) (zdal_p dlD_M_peaks_62 (i := 21) rfl) ?_
          refine zr_iadd (pc := 36) (zdal_p dlD_M_peaks_62 (i := 22) rfl) ?_
          refine zw_istore_n (pc := 37) (i := 3) (L2 := [some (.ref 81), some (.int (Int32.ofInt a0_)), some (.int (Int32.ofInt u1_)), some (.int (Int32.ofInt (u1_ + 1))), none, none, none, none, none]) rfl (by decide) rfl (zdal_p dlD_M_peaks_62 (i := 23) rfl) ?_
          have lp_38 : ∀ (n : Nat) (u34_ : Int) (hu34_a : -2147483648 ≤ u34_) (hu34_b : u34_ < 2147483648) (N35_ : zMem) (hs36_ : zFr [52, 53] [] N26_ N35_) (i37_ : u1_ + 1 ≤ u34_) (i38_ : u34_ ≤ ze Mz 81 26) (i39_ : zg N35_ 81 53 = 1) (i40_ : zg N35_ 81 52 = gds T D (a0_).toNat (u1_).toNat (u34_ - u1_ - 1).toNat) (i41_ : zPk T D (a0_).toNat (u1_ + 1).toNat N35_), (ze Mz 81 26 - u34_).toNat < n → zW l m_M_peaks (zn Mz + 0, zw Mz + 0) N35_ 38 [some (.ref 81), some (.int (Int32.ofInt a0_)), some (.int (Int32.ofInt u1_)), some (.int (Int32.ofInt u34_)), none, none, none, none, none] [] (zpV [52, 53] [107, 108] Mz (fun N => zPk T D (a0_).toNat 0 N)) := by
            clear hu14_a hu14_b hu14_z hv17_a hv17_b hp0_N16_ hsN18_ hvN18_ hf_N18_ hb0_N18_ e26_N18_ c19_ c20_ c21_ c22_ c23_ c24_ c25_ hsN26_ e26_N26_
            intro n
            induction n with
            | zero =>
              intro u34_ hu34_a hu34_b N35_ hs36_ i37_ i38_ i39_ i40_ i41_ h0
              exact absurd h0 (Nat.not_lt_zero _)
            | succ n ih_38 =>
              intro u34_ hu34_a hu34_b N35_ hs36_ i37_ i38_ i39_ i40_ i41_ hlt_38
              have hf_N35_ : zFr [52, 53] [107, 108] Mz N35_ := hf_N26_.tr hs36_ (by decide) (by decide)
              have hb0_N35_ : zFr [52, 53] [107, 108] Mz N35_ := hb0_N26_.tr hs36_ (by decide) (by decide)
              have e26_N35_ : ze N35_ 81 26 = ze N26_ 81 26 := hs36_.e (by decide)
              have c42_ : zGB T N35_ := zGB.fr hs36_ c27_ (by decide) (by decide)
              have c43_ : zTab T N35_ := zTab.fr hs36_ c28_ (by decide) (by decide)
              have c44_ : zB 85 144 0 5 N35_ := zB.fr hs36_ c29_ (by decide) (by decide)
              have c45_ : zJX T N35_ := zJX.fr hs36_ c30_ (by decide) (by decide)
              have c46_ : zFirs T N35_ := zFirs.fr hs36_ c31_ (by decide) (by decide)
              have c47_ : zSSm T N35_ := zSSm.fr hs36_ c32_ (by decide) (by decide)
              have c48_ : zGD N35_ := zGD.fr hs36_ c33_ (by decide) (by decide)
              have zz26_N35_ : ze N35_ 81 26 = ze Mz 81 26 := hf_N35_.e (by decide)
              refine zw_iload_n (pc := 38) (n := 3) (x := Int32.ofInt u34_) rfl (zdal_p dlD_M_peaks_63 (i := 0) rfl) ?_
              refine zw_aload_n (pc := 39) (n := 0) (x := 81) rfl (zdal_p dlD_M_peaks_63 (i := 1) rfl) ?_
              refine zr_getI0 hf_N35_ hW (pc := 40) (by decide) f_M_235 rfl (zdal_p dlD_M_peaks_63 (i := 2) rfl) ?_
              refine zr_icmp_ge (pc := 43) (tgt := 107) ⟨hu34_a, hu34_b⟩ ⟨(ze_r Mz 81 26).1, (ze_r Mz 81 26).2⟩ (by decide) (zdal_p dlD_M_peaks_63 (i := 3) rfl) (fun hc_43 => ?_) (fun hc_43 => ?_)
              · skip
                have hDk_ := zpk_e hD (J := (a0_).toNat) (by (exact zo_1001 gb.2.2.2.2.2 gfl p1_ p2_)) (i := u34_) (k := u1_) (by (exact hc_8)) (by (exact zo_1002 gb.2.2.2.2.2 gf6.2 gfl hc_43 hc_8 i37_ i38_)) (by (exact zo_1003 i37_)) (show zg N35_ 81 52 = gds T D (a0_).toNat (u1_).toNat (u34_ - u1_ - 1).toNat by first | with_reducible assumption | assumption)
                refine zw_aload_n (pc := 107) (n := 0) (x := 81) rfl (zdal_p dlD_M_peaks_64 (i := 19) rfl) ?_
                refine zr_getJ (hf_N35_.w hW) (pc := 108) f_M_436 rfl (zdal_p dlD_M_peaks_64 (i := 20) rfl) ?_
                have hr49_ := zg_r N35_ 81 52
                refine zw_lstore_n (pc := 111) (i := 3) (L2 := [some (.ref 81), some (.int (Int32.ofInt a0_)), some (.int (Int32.ofInt u1_)), some (.long (Int64.ofInt (zg N35_ 81 52))), none, none, none, none, none]) rfl (by decide) rfl (zdal_p dlD_M_peaks_64 (i := 21) rfl) ?_
                refine zw_aload_n (pc := 112) (n := 0) (x := 81) rfl (zdal_p dlD_M_peaks_64 (i := 22) rfl) ?_
                refine zr_getJ (hf_N35_.w hW) (pc := 113) f_M_439 rfl (zdal_p dlD_M_peaks_64 (i := 23) rfl) ?_
                have hr50_ := zg_r N35_ 81 53
                refine zw_aload_n (pc := 116) (n := 0) (x := 81) rfl (zdal_p dlD_M_peaks_65 (i := 0) rfl) ?_
                refine zr_getF (r := 93) (hf_N35_.w hW) (pc := 117) f_M_50 rfl (zh_93 (hf_N35_.w hW)).1 (zdal_p dlD_M_peaks_65 (i := 1) rfl) ?_
                refine zw_bipush (pc := 120) (v := Int32.ofInt 64) (by decide) (zdal_p dlD_M_peaks_65 (i := 2) rfl) ?_
                refine zw_iload_n (pc := 122) (n := 2) (x := Int32.ofInt u1_) rfl (zdal_p dlD_M_peaks_65 (i := 3) rfl) ?_
                refine zr_imul (pc := 123) (zdal_p dlD_M_peaks_65 (i := 4) rfl) ?_
                refine zw_iload_n (pc := 124) (n := 2) (x := Int32.ofInt u1_) rfl (zdal_p dlD_M_peaks_65 (i := 5) rfl) ?_
                refine zr_iadd (pc := 125) (zdal_p dlD_M_peaks_65 (i := 6) rfl) ?_
                refine zr_ialdn (pc := 126) (zh_93 (hf_N35_.w hW)).2 (by decide) (by (exact zo_888 hc_8)) (by (exact zo_1004 gb.2.2.2.2.2 hu1_b i5_)) (zdal_p dlD_M_peaks_65 (i := 7) rfl) (fun v51_ hv51_ hv51_a hv51_b => ?_)
                rw [hf_N35_.ie (by decide) (by decide)] at hv51_
                have hmk_ := zGB_mk p0_ (i := u1_) (k := u1_) (by (exact hc_8)) (by (exact i5_)) (by (exact hc_8)) (by (exact i5_))
                have hmb_ := gmkI_b hG (u1_).toNat (u1_).toNat
                have hm1_ := gmkI_1 hO (i := (u1_).toNat) (by (exact zo_1001 gb.2.2.2.2.2 gfl hc_8 i5_))
                refine zr_toI (show v51_ = gmkI T (u1_).toNat (u1_).toNat by (exact zo_1005 hm1_ hmb_.2 hmk_ hv51_ hv51_a hv51_b)) ?_
                refine zr_i2l (pc := 127) ⟨(by (exact zo_168 hmb_.1)), (by (exact zo_1006 hmb_.2))⟩ (zdal_p dlD_M_peaks_65 (i := 8) rfl) ?_
                refine zr_lmul (pc := 128) (zdal_p dlD_M_peaks_65 (i := 9) rfl) ?_
                refine zr_toJ (show ((zg N35_ 81 53) * (gmkI T (u1_).toNat (u1_).toNat)) = gmkI T (u1_).toNat (u1_).toNat by rw [show zg N35_ 81 53 = 1 by assumption, Int.one_mul]) ?_
                refine zw_lstore (pc := 129) (i := 5) (L2 := [some (.ref 81), some (.int (Int32.ofInt a0_)), some (.int (Int32.ofInt u1_)), some (.long (Int64.ofInt (zg N35_ 81 52))), none, some (.long (Int64.ofInt (gmkI T (u1_).toNat (u1_).toNat))), none, none, none]) (by decide) rfl (zdal_p dlD_M_peaks_65 (i := 10) rfl) ?_
                refine zw_lload_n (pc := 131) (n := 3) (x := Int64.ofInt (zg N35_ 81 52)) rfl (zdal_p dlD_M_peaks_65 (i := 11) rfl) ?_
                refine zw_lload (pc := 132) (i := 5) (x := Int64.ofInt (gmkI T (u1_).toNat (u1_).toNat)) rfl (zdal_p dlD_M_peaks_65 (i := 12) rfl) ?_
                refine zr_callS hf_N35_.x (pc := 134) [.long (Int64.ofInt (zg N35_ 81 52)), .long (Int64.ofInt (gmkI T (u1_).toNat (u1_).toNat))] [] l_M_442 (c_M_divisor l N35_ (hf_N35_.w hW) (zg N35_ 81 52) (zg_r N35_ 81 52).1 (zg_r N35_ 81 52).2 (gmkI T (u1_).toNat (u1_).toNat) (by (exact zo_997 hmb_.1)) (by (exact zo_1007 hmb_.2)) (show -4611686018427387903 ≤ (zg N35_ 81 52) by first | with_reducible assumption | assumption | omega) (show (zg N35_ 81 52) ≤ 4611686018427387903 by first | with_reducible assumption | assumption | omega) (show 1 ≤ (gmkI T (u1_).toNat (u1_).toNat) by first | with_reducible assumption | assumption | omega) (show (gmkI T (u1_).toNat (u1_).toNat) ≤ 4611686018427387903 by first | with_reducible assumption | assumption | omega)) rfl rfl (by decide) (Nat.le_of_ble_eq_true rfl) (zdal_p dlD_M_peaks_65 (i := 13) rfl) ?_
                rintro _ N52_ ⟨v53_, rfl, ⟨hv53_a, hv53_b⟩, hsN52_, ⟨hp0_N52_, hp1_N52_, hp2_N52_⟩⟩
                obtain rfl := hsN52_.eq.symm
                show zW l m_M_peaks (zn Mz + 0, zw Mz + 0) N35_ 137 [some (.ref 81), some (.int (Int32.ofInt a0_)), some (.int (Int32.ofInt u1_)), some (.long (Int64.ofInt (zg N35_ 81 52))), none, some (.long (Int64.ofInt (gmkI T (u1_).toNat (u1_).toNat))), none, none, none] [.long (Int64.ofInt v53_)] _
                refine zw_lstore (pc := 137) (i := 7) (L2 := [some (.ref 81), some (.int (Int32.ofInt a0_)), some (.int (Int32.ofInt u1_)), some (.long (Int64.ofInt (zg N35_ 81 52))), none, some (.long (Int64.ofInt (gmkI T (u1_).toNat (u1_).toNat))), none, some (.long (Int64.ofInt v53_)), none]) (by decide) rfl (zdal_p dlD_M_peaks_65 (i := 14) rfl) ?_
                refine zw_aload_n (pc := 139) (n := 0) (x := 81) rfl (zdal_p dlD_M_peaks_65 (i := 15) rfl) ?_
                refine zr_getF (r := 107) (hf_N35_.w hW) (pc := 140) f_M_93 rfl (zh_107 (hf_N35_.w hW)).1 (zdal_p dlD_M_peaks_65 (i := 16) rfl) ?_
                refine zw_iload_n (pc := 143) (n := 2) (x := Int32.ofInt u1_) rfl (zdal_p dlD_M_peaks_65 (i := 17) rfl) ?_
                refine zw_lload_n (pc := 144) (n := 3) (x := Int64.ofInt (zg N35_ 81 52)) rfl (zdal_p dlD_M_peaks_65 (i := 18) rfl) ?_
                refine zw_lload (pc := 145) (i := 7) (x := Int64.ofInt v53_) rfl (zdal_p dlD_M_peaks_65 (i := 19) rfl) ?_
                refine zr_ldiv (pc := 147) ⟨by (exact hv53_a), by (exact hv53_b)⟩ (by (exact zo_999 hp1_N52_)) (zdal_p dlD_M_peaks_65 (i := 20) rfl) ?_
                have hr54_ := zlquo_r (zg N35_ 81 52) v53_
                refine zr_last (pc := 148) (zh_107 (hf_N35_.w hW)).2 (by decide) (by decide) (by (exact hc_8)) (by (exact zo_906 gb.2.2.2.2.2 hu1_b i5_)) (zdal_p dlD_M_peaks_65 (i := 21) rfl) (fun N55_ hN55_ hsN55_ => ?_)
                have hf_N55_ : zFr [52, 53] [107, 108] Mz N55_ := hf_N35_.tr hsN55_ (by decide) (by decide)
                have hb0_N55_ : zFr [52, 53] [107, 108] Mz N55_ := hb0_N35_.tr hsN55_ (by decide) (by decide)
                refine zw_aload_n (pc := 149) (n := 0) (x := 81) rfl (zdal_p dlD_M_peaks_65 (i := 22) rfl) ?_
                refine zr_getF (r := 108) (hf_N55_.w hW) (pc := 150) f_M_96 rfl (zh_108 (hf_N55_.w hW)).1 (zdal_p dlD_M_peaks_65 (i := 23) rfl) ?_
                refine zw_iload_n (pc := 153) (n := 2) (x := Int32.ofInt u1_) rfl (zdal_p dlD_M_peaks_66 (i := 0) rfl) ?_
                refine zw_lload (pc := 154) (i := 5) (x := Int64.ofInt (gmkI T (u1_).toNat (u1_).toNat)) rfl (zdal_p dlD_M_peaks_66 (i := 1) rfl) ?_
                refine zw_lload (pc := 156) (i := 7) (x := Int64.ofInt v53_) rfl (zdal_p dlD_M_peaks_66 (i := 2) rfl) ?_
                refine zr_ldiv (pc := 158) ⟨by (exact hv53_a), by (exact hv53_b)⟩ (by (exact zo_999 hp1_N52_)) (zdal_p dlD_M_peaks_66 (i := 3) rfl) ?_
                have hr63_ := zlquo_r (gmkI T (u1_).toNat (u1_).toNat) v53_
                refine zr_last (pc := 159) (zh_108 (hf_N55_.w hW)).2 (by decide) (by decide) (by (exact hc_8)) (by (exact zo_906 gb.2.2.2.2.2 hu1_b i5_)) (zdal_p dlD_M_peaks_66 (i := 4) rfl) (fun N64_ hN64_ hsN64_ => ?_)
                have hf_N64_ : zFr [52, 53] [107, 108] Mz N64_ := hf_N55_.tr hsN64_ (by decide) (by decide)
                have hb0_N64_ : zFr [52, 53] [107, 108] Mz N64_ := hb0_N55_.tr hsN64_ (by decide) (by decide)
                have hPn_ := zpk_n hO hD (j := (a0_).toNat) (k := (u1_).toNat) (by (exact zo_1001 gb.2.2.2.2.2 gfl p1_ p2_)) (by (exact zo_1001 gb.2.2.2.2.2 gfl hc_8 i5_)) (show zPk T D (a0_).toNat ((u1_).toNat + 1) N35_ by rw [show (u1_).toNat + 1 = (u1_ + 1).toNat by (exact zo_1008 hc_8)]; assumption) hDk_.1 rfl hp0_N52_ rfl rfl hN55_ hN64_
                have hPm_ : zPk T D (a0_).toNat (u1_ + (-1) + 1).toNat N64_ := by rw [show u1_ + (-1) + 1 = u1_ by (exact zo_1009)]; exact hPn_
                refine zr_iinc (pc := 160) (i := 2) (a := u1_) (n := -1) (L2 := [some (.ref 81), some (.int (Int32.ofInt a0_)), some (.int (Int32.ofInt (u1_ + (-1)))), some (.long (Int64.ofInt (zg N35_ 81 52))), none, some (.long (Int64.ofInt (gmkI T (u1_).toNat (u1_).toNat))), none, some (.long (Int64.ofInt v53_)), none]) rfl (by decide) rfl (zdal_p dlD_M_peaks_66 (i := 5) rfl) ?_
                refine zw_goto (pc := 163) (tgt := 7) (by decide) (zdal_p dlD_M_peaks_66 (i := 6) rfl) ?_
                refine zW_le [some (.ref 81), some (.int (Int32.ofInt a0_)), some (.int (Int32.ofInt (u1_ + (-1)))), none, none, none, none, none, none] (⟨rfl, rfl, rfl, trivial⟩) ?_
                exact ih_7 (u1_ + (-1)) (by (exact zo_892 hc_8)) (by (exact zo_893 hu1_b)) N64_ hb0_N64_ (show -1 ≤ (u1_ + (-1)) by first | with_reducible assumption | (exact zo_938 hc_8) | assumption) (show (u1_ + (-1)) < ze Mz 81 26 by first | with_reducible assumption | (exact zo_1010 i5_) | assumption) (show zPk T D (a0_).toNat ((u1_ + (-1)) + 1).toNat N64_ by first | with_reducible assumption | assumption | omega) (by (exact zo_896 hc_8 hlt_7 hu1_b))
              · skip
                refine zw_aload_n (pc := 46) (n := 0) (x := 81) rfl (zdal_p dlD_M_peaks_63 (i := 4) rfl) ?_
                refine zr_getF (r := 107) (hf_N35_.w hW) (pc := 47) f_M_93 rfl (zh_107 (hf_N35_.w hW)).1 (zdal_p dlD_M_peaks_63 (i := 5) rfl) ?_
                refine zw_iload_n (pc := 50) (n := 3) (x := Int32.ofInt u34_) rfl (zdal_p dlD_M_peaks_63 (i := 6) rfl) ?_
                have hpb_ := zPk.b hO hD (j := (a0_).toNat) (i := (u34_).toNat) (by (exact zo_1001 gb.2.2.2.2.2 gfl p1_ p2_)) (show zPk T D (a0_).toNat (u1_ + 1).toNat N35_ by first | with_reducible assumption | assumption) (by (exact zo_1011 hc_8 hu1_b i37_)) (by (exact zo_1012 gfl hc_43 hc_8 hu34_a i37_))
                refine zr_laldn (pc := 51) (zh_107 (hf_N35_.w hW)).2 (by decide) (by (exact zo_1013 hc_8 hu34_a i37_)) (by (exact zo_831 gb.2.2.2.2.2 hc_43)) (zdal_p dlD_M_peaks_63 (i := 7) rfl) (fun v72_ hv72_ hv72_a hv72_b => ?_)
                refine zw_lconst (pc := 52) (v := Int64.ofInt 0) (by decide) (zdal_p dlD_M_peaks_63 (i := 8) rfl) ?_
                refine zr_lcmp (pc := 53) ⟨hv72_a, hv72_b⟩ ⟨(by decide), (by decide)⟩ (zdal_p dlD_M_peaks_63 (i := 9) rfl) ?_
                have hr73_ := zcmp_s v72_ 0
                refine zr_if_eq (pc := 54) (tgt := 101) ⟨(by (exact zo_71 hr73_)), (by (exact zo_72 hr73_))⟩ (by decide) (zdal_p dlD_M_peaks_63 (i := 10) rfl) (fun hc_54 => ?_) (fun hc_54 => ?_)
                · skip
                  refine zr_iinc (pc := 101) (i := 3) (a := u34_) (n := 1) (L2 := [some (.ref 81), some (.int (Int32.ofInt a0_)), some (.int (Int32.ofInt u1_)), some (.int (Int32.ofInt (u34_ + 1))), none, none, none, none, none]) rfl (by decide) rfl (zdal_p dlD_M_peaks_64 (i := 17) rfl) ?_
                  refine zw_goto (pc := 104) (tgt := 38) (by decide) (zdal_p dlD_M_peaks_64 (i := 18) rfl) ?_
                  have hR_ : zg N35_ 81 53 = 1 ∧ zg N35_ 81 52 = gds T D (a0_).toNat (u1_).toNat ((u34_ + 1) - u1_ - 1).toNat := by first | exact hS_ | exact ⟨by assumption, zpk_i0 hO hD (by (exact hc_8)) (by (exact i37_)) (by (exact zo_1014 gfl hc_43)) (show zPk T D (a0_).toNat (u1_ + 1).toNat N35_ by first | with_reducible assumption | assumption) (by first | with_reducible assumption | assumption) (by omega)⟩
                  have hK_ : zPk T D (a0_).toNat (u1_ + 1).toNat N35_ := by first | with_reducible assumption | exact zPk.fr hsN35_ (by first | with_reducible assumption | assumption) (by decide) | assumption
                  exact ih_38 (u34_ + 1) (by (exact zo_679 hu34_a)) (by (exact zo_832 gb.2.2.2.2.2 hc_43)) N35_ hs36_ (show u1_ + 1 ≤ (u34_ + 1) by first | with_reducible assumption | (exact zo_900 i37_) | assumption) (show (u34_ + 1) ≤ ze Mz 81 26 by first | with_reducible assumption | assumption | omega) (show zg N35_ 81 53 = 1 by exact hR_.1) (show zg N35_ 81 52 = gds T D (a0_).toNat (u1_).toNat ((u34_ + 1) - u1_ - 1).toNat by exact hR_.2) (show zPk T D (a0_).toNat (u1_ + 1).toNat N35_ by exact hK_) (by (exact zo_147 hc_43 hlt_38))
                · skip
                  refine zw_aload_n (pc := 57) (n := 0) (x := 81) rfl (zdal_p dlD_M_peaks_63 (i := 11) rfl) ?_
                  refine zr_getF (r := 93) (hf_N35_.w hW) (pc := 58) f_M_50 rfl (zh_93 (hf_N35_.w hW)).1 (zdal_p dlD_M_peaks_63 (i := 12) rfl) ?_
                  refine zw_bipush (pc := 61) (v := Int32.ofInt 64) (by decide) (zdal_p dlD_M_peaks_63 (i := 13) rfl) ?_
                  refine zw_iload_n (pc := 63) (n := 3) (x := Int32.ofInt u34_) rfl (zdal_p dlD_M_peaks_63 (i := 14) rfl) ?_
                  refine zr_imul (pc := 64) (zdal_p dlD_M_peaks_63 (i := 15) rfl) ?_
                  refine zw_iload_n (pc := 65) (n := 2) (x := Int32.ofInt u1_) rfl (zdal_p dlD_M_peaks_63 (i := 16) rfl) ?_
                  refine zr_iadd (pc := 66) (zdal_p dlD_M_peaks_63 (i := 17) rfl) ?_
                  refine zr_ialdn (pc := 67) (zh_93 (hf_N35_.w hW)).2 (by decide) (by (exact zo_898 hc_8 i37_)) (by (exact zo_1015 gb.2.2.2.2.2 hc_43 i5_)) (zdal_p dlD_M_peaks_63 (i := 18) rfl) (fun v74_ hv74_ hv74_a hv74_b => ?_)
                  rw [hf_N35_.ie (by decide) (by decide)] at hv74_
                  have hmk_ := zGB_mk p0_ (i := u34_) (k := u1_) (by (exact zo_1013 hc_8 hu34_a i37_)) (by (exact hc_43)) (by (exact hc_8)) (by (exact i5_))
                  have hmb_ := gmkI_b hG (u34_).toNat (u1_).toNat
                  refine zr_if_eq (pc := 68) (tgt := 101) ⟨hv74_a, hv74_b⟩ (by decide) (zdal_p dlD_M_peaks_63 (i := 19) rfl) (fun hc_68 => ?_) (fun hc_68 => ?_)
                  · skip
                    refine zr_iinc (pc := 101) (i := 3) (a := u34_) (n := 1) (L2 := [some (.ref 81), some (.int (Int32.ofInt a0_)), some (.int (Int32.ofInt u1_)), some (.int (Int32.ofInt (u34_ + 1))), none, none, none, none, none]) rfl (by decide) rfl (zdal_p dlD_M_peaks_64 (i := 17) rfl) ?_
                    refine zw_goto (pc := 104) (tgt := 38) (by decide) (zdal_p dlD_M_peaks_64 (i := 18) rfl) ?_
                    have hR_ : zg N35_ 81 53 = 1 ∧ zg N35_ 81 52 = gds T D (a0_).toNat (u1_).toNat ((u34_ + 1) - u1_ - 1).toNat := by first | exact hS_ | exact ⟨by assumption, zpk_i0 hO hD (by (exact hc_8)) (by (exact i37_)) (by (exact zo_1014 gfl hc_43)) (show zPk T D (a0_).toNat (u1_ + 1).toNat N35_ by first | with_reducible assumption | assumption) (by first | with_reducible assumption | assumption) (by (exact zo_1016 hc_68 hmb_.1 hmb_.2 hmk_ hpb_.1.1 hv74_))⟩
                    have hK_ : zPk T D (a0_).toNat (u1_ + 1).toNat N35_ := by first | with_reducible assumption | exact zPk.fr hsN35_ (by first | with_reducible assumption | assumption) (by decide) | assumption
                    exact ih_38 (u34_ + 1) (by (exact zo_679 hu34_a)) (by (exact zo_832 gb.2.2.2.2.2 hc_43)) N35_ hs36_ (show u1_ + 1 ≤ (u34_ + 1) by first | with_reducible assumption | (exact zo_900 i37_) | assumption) (show (u34_ + 1) ≤ ze Mz 81 26 by first | with_reducible assumption | assumption | omega) (show zg N35_ 81 53 = 1 by exact hR_.1) (show zg N35_ 81 52 = gds T D (a0_).toNat (u1_).toNat ((u34_ + 1) - u1_ - 1).toNat by exact hR_.2) (show zPk T D (a0_).toNat (u1_ + 1).toNat N35_ by exact hK_) (by (exact zo_147 hc_43 hlt_38))
                  · skip
                    refine zw_aload_n (pc := 71) (n := 0) (x := 81) rfl (zdal_p dlD_M_peaks_63 (i := 20) rfl) ?_
                    refine zw_aload_n (pc := 72) (n := 0) (x := 81) rfl (zdal_p dlD_M_peaks_63 (i := 21) rfl) ?_
                    refine zr_getF (r := 107) (hf_N35_.w hW) (pc := 73) f_M_93 rfl (zh_107 (hf_N35_.w hW)).1 (zdal_p dlD_M_peaks_63 (i := 22) rfl) ?_
                    refine zw_iload_n (pc := 76) (n := 3) (x := Int32.ofInt u34_) rfl (zdal_p dlD_M_peaks_63 (i := 23) rfl) ?_
                    refine zr_laldn (pc := 77) (zh_107 (hf_N35_.w hW)).2 (by decide) (by (exact zo_1013 hc_8 hu34_a i37_)) (by (exact zo_831 gb.2.2.2.2.2 hc_43)) (zdal_p dlD_M_peaks_64 (i := 0) rfl) (fun v75_ hv75_ hv75_a hv75_b => ?_)
                    refine zr_lneg (pc := 78) (zdal_p dlD_M_peaks_64 (i := 1) rfl) ?_
                    refine zw_aload_n (pc := 79) (n := 0) (x := 81) rfl (zdal_p dlD_M_peaks_64 (i := 2) rfl) ?_
                    refine zr_getF (r := 93) (hf_N35_.w hW) (pc := 80) f_M_50 rfl (zh_93 (hf_N35_.w hW)).1 (zdal_p dlD_M_peaks_64 (i := 3) rfl) ?_
                    refine zw_bipush (pc := 83) (v := Int32.ofInt 64) (by decide) (zdal_p dlD_M_peaks_64 (i := 4) rfl) ?_
                    refine zw_iload_n (pc := 85) (n := 3) (x := Int32.ofInt u34_) rfl (zdal_p dlD_M_peaks_64 (i := 5) rfl) ?_
                    refine zr_imul (pc := 86) (zdal_p dlD_M_peaks_64 (i := 6) rfl) ?_
                    refine zw_iload_n (pc := 87) (n := 2) (x := Int32.ofInt u1_) rfl (zdal_p dlD_M_peaks_64 (i := 7) rfl) ?_
                    refine zr_iadd (pc := 88) (zdal_p dlD_M_peaks_64 (i := 8) rfl) ?_
                    refine zr_ialdn (pc := 89) (zh_93 (hf_N35_.w hW)).2 (by decide) (by (exact zo_898 hc_8 i37_)) (by (exact zo_1015 gb.2.2.2.2.2 hc_43 i5_)) (zdal_p dlD_M_peaks_64 (i := 9) rfl) (fun v76_ hv76_ hv76_a hv76_b => ?_)
                    rw [hf_N35_.ie (by decide) (by decide)] at hv76_
                    refine zr_i2l (pc := 90) ⟨hv76_a, hv76_b⟩ (zdal_p dlD_M_peaks_64 (i := 10) rfl) ?_
                    refine zr_lmul (pc := 91) (zdal_p dlD_M_peaks_64 (i := 11) rfl) ?_
                    have hpm_ : -24000 ≤ ((-v75_) * v76_) ∧ ((-v75_) * v76_) ≤ 24000 := zmb24 (by (exact zo_1017 hpb_.1.2 hv75_)) (by (exact zo_1018 hpb_.1.1 hv75_)) (by (exact zo_1019 hmb_.1 hmk_ hv76_ hv76_a)) (by (exact zo_1020 hmb_.2 hmk_ hv76_ hv76_b))
                    have hgb_ := gds_b hO hD (j := (a0_).toNat) (k := (u1_).toNat) (by (exact zo_1001 gb.2.2.2.2.2 gfl p1_ p2_)) (u34_ - u1_ - 1).toNat (by (exact zo_1021 gb.2.2.2.2.2 gfl hc_43 hc_8 i37_))
                    refine zw_aload_n (pc := 92) (n := 0) (x := 81) rfl (zdal_p dlD_M_peaks_64 (i := 12) rfl) ?_
                    refine zr_getF (r := 108) (hf_N35_.w hW) (pc := 93) f_M_96 rfl (zh_108 (hf_N35_.w hW)).1 (zdal_p dlD_M_peaks_64 (i := 13) rfl) ?_
                    refine zw_iload_n (pc := 96) (n := 3) (x := Int32.ofInt u34_) rfl (zdal_p dlD_M_peaks_64 (i := 14) rfl) ?_
                    refine zr_laldn (pc := 97) (zh_108 (hf_N35_.w hW)).2 (by decide) (by (exact zo_1022 hc_8 i37_)) (by (exact zo_831 gb.2.2.2.2.2 hc_43)) (zdal_p dlD_M_peaks_64 (i := 15) rfl) (fun v77_ hv77_ hv77_a hv77_b => ?_)
                    refine zr_callV (hf_N35_.w hW) hf_N35_.x (pc := 98) [.long (Int64.ofInt ((-v75_) * v76_)), .long (Int64.ofInt v77_)] [] l_M_446 (c_M_sumWith l N35_ (hf_N35_.w hW) ((-v75_) * v76_) (by omega) (by omega) v77_ hv77_a hv77_b (show -1000000000 ≤ zg N35_ 81 52 by first | with_reducible assumption | assumption | omega) (show zg N35_ 81 52 ≤ 1000000000 by first | with_reducible assumption | assumption | omega) (show 1 ≤ zg N35_ 81 53 by first | with_reducible assumption | (exact zo_712 i39_) | assumption) (show zg N35_ 81 53 ≤ 1000 by first | with_reducible assumption | (exact zo_1023 i39_) | assumption) (show -1000000000 ≤ ((-v75_) * v76_) by first | with_reducible assumption | assumption | omega) (show ((-v75_) * v76_) ≤ 1000000000 by first | with_reducible assumption | assumption | omega) (show 1 ≤ v77_ by first | with_reducible assumption | (exact zo_1024 hpb_.2.1 hv77_) | assumption) (show v77_ ≤ 1000 by first | with_reducible assumption | (exact zo_1025 hpb_.2.2 hv77_ hv77_b) | assumption)) rfl rfl rfl (by decide) (Nat.le_of_ble_eq_true rfl) (zdal_p dlD_M_peaks_64 (i := 16) rfl) ?_
                    rintro _ N78_ ⟨rfl, hsN78_, hp0_N78_⟩
                    replace hp0_N78_ : zSw (zg N35_ 81 52) (zg N35_ 81 53) ((-v75_) * v76_) v77_ (zg N78_ 81 52) (zg N78_ 81 53) := hp0_N78_
                    have hf_N78_ : zFr [52, 53] [107, 108] Mz N78_ := hf_N35_.tr hsN78_ (by decide) (by decide)
                    have hb0_N78_ : zFr [52, 53] [107, 108] Mz N78_ := hb0_N35_.tr hsN78_ (by decide) (by decide)
                    have hb1_N78_ : zFr [52, 53] [] N26_ N78_ := hs36_.tr hsN78_ (by decide) (by decide)
                    have e26_N78_ : ze N78_ 81 26 = ze N35_ 81 26 := hsN78_.e (by decide)
                    have c80_ : zGB T N78_ := zGB.fr hsN78_ c42_ (by decide) (by decide)
                    have c81_ : zTab T N78_ := zTab.fr hsN78_ c43_ (by decide) (by decide)
                    have c82_ : zB 85 144 0 5 N78_ := zB.fr hsN78_ c44_ (by decide) (by decide)
                    have c83_ : zJX T N78_ := zJX.fr hsN78_ c45_ (by decide) (by decide)
                    have c84_ : zFirs T N78_ := zFirs.fr hsN78_ c46_ (by decide) (by decide)
                    have c85_ : zSSm T N78_ := zSSm.fr hsN78_ c47_ (by decide) (by decide)
                    have c86_ : zGD N78_ := zGD.fr hsN78_ c48_ (by decide) (by decide)
                    show zW l m_M_peaks (zn Mz + 0, zw Mz + 0) N78_ 101 [some (.ref 81), some (.int (Int32.ofInt a0_)), some (.int (Int32.ofInt u1_)), some (.int (Int32.ofInt u34_)), none, none, none, none, none] [] _
                    have hS_ := zpk_i1 hO hD (i := u34_) (k := u1_) hp0_N78_ (by (exact hc_8)) (by (exact i37_)) (by (exact zo_1014 gfl hc_43)) (show zPk T D (a0_).toNat (u1_ + 1).toNat N35_ by first | with_reducible assumption | assumption) (by first | with_reducible assumption | assumption) (by first | with_reducible assumption | assumption) (by first | with_reducible assumption | assumption) (by (exact zo_1026 hmb_.1 hmb_.2 hmk_ hv76_ hv76_a hv76_b)) (by first | with_reducible assumption | assumption)
                    refine zr_iinc (pc := 101) (i := 3) (a := u34_) (n := 1) (L2 := [some (.ref 81), some (.int (Int32.ofInt a0_)), some (.int (Int32.ofInt u1_)), some (.int (Int32.ofInt (u34_ + 1))), none, none, none, none, none]) rfl (by decide) rfl (zdal_p dlD_M_peaks_64 (i := 17) rfl) ?_
                    refine zw_goto (pc := 104) (tgt := 38) (by decide) (zdal_p dlD_M_peaks_64 (i := 18) rfl) ?_
                    have hR_ : zg N78_ 81 53 = 1 ∧ zg N78_ 81 52 = gds T D (a0_).toNat (u1_).toNat ((u34_ + 1) - u1_ - 1).toNat := by first | exact hS_ | exact ⟨by assumption, zpk_i0 hO hD (by omega) (by omega) (by omega) (show zPk T D (a0_).toNat (u1_ + 1).toNat N78_ by first | with_reducible assumption | assumption) (by first | with_reducible assumption | assumption) (by omega)⟩
                    have hK_ : zPk T D (a0_).toNat (u1_ + 1).toNat N78_ := by first | with_reducible assumption | exact zPk.fr hsN78_ (by first | with_reducible assumption | assumption) (by decide) | assumption
                    exact ih_38 (u34_ + 1) (by (exact zo_1027 hc_8 i37_)) (by (exact zo_832 gb.2.2.2.2.2 hc_43)) N78_ hb1_N78_ (show u1_ + 1 ≤ (u34_ + 1) by first | with_reducible assumption | (exact zo_900 i37_) | assumption) (show (u34_ + 1) ≤ ze Mz 81 26 by first | with_reducible assumption | assumption | omega) (show zg N78_ 81 53 = 1 by exact hR_.1) (show zg N78_ 81 52 = gds T D (a0_).toNat (u1_).toNat ((u34_ + 1) - u1_ - 1).toNat by exact hR_.2) (show zPk T D (a0_).toNat (u1_ + 1).toNat N78_ by exact hK_) (by (exact zo_1028 gb.2.2.2.2.2 hc_43 hc_8 hlt_38 i37_))
          exact lp_38 _ (u1_ + 1) (by (exact zo_74 hc_8)) (by (exact zo_1029 gb.2.2.2.2.2 hu1_b i5_)) N26_ zFr.rf (show u1_ + 1 ≤ (u1_ + 1) by first | with_reducible assumption | (exact zo_902) | assumption) (show (u1_ + 1) ≤ ze Mz 81 26 by first | with_reducible assumption | assumption | omega) (show zg N26_ 81 53 = 1 by exact h53_) (show zg N26_ 81 52 = gds T D (a0_).toNat (u1_).toNat ((u1_ + 1) - u1_ - 1).toNat by rw [h52_, show ((u1_ + 1) - u1_ - 1).toNat = 0 by (exact zo_1030)]; show _ = (if (u1_).toNat = (a0_).toNat then (1 : Int) else 0); omega) (show zPk T D (a0_).toNat (u1_ + 1).toNat N26_ by exact zPk.fr hsN26_ (zPk.fr hsN18_ (by first | with_reducible assumption | assumption) (by decide)) (by decide)) (Nat.lt_succ_self _)
        refine zr_icmp_ne (pc := 14) (tgt := 21) ⟨hu1_a, hu1_b⟩ ⟨ha0_a, ha0_b⟩ (by decide) (zdal_p dlD_M_peaks_62 (i := 10) rfl) (fun hc_14 => ?_) (fun hc_14 => ?_)
        · skip
          refine zw_iconst (pc := 21) (v := Int32.ofInt 0) (by decide) (zdal_p dlD_M_peaks_62 (i := 13) rfl) ?_
          exact j_22 0 (by decide) (by decide) (by (decide)) (show 0 = (if (u1_).toNat = (a0_).toNat then 1 else 0) by first | (rw [if_pos (by omega)]) | (rw [if_neg (by (exact zo_1031 hc_8 p1_ hc_14))]))
        · skip
          refine zw_iconst (pc := 17) (v := Int32.ofInt 1) (by decide) (zdal_p dlD_M_peaks_62 (i := 11) rfl) ?_
          refine zw_goto (pc := 18) (tgt := 22) (by decide) (zdal_p dlD_M_peaks_62 (i := 12) rfl) ?_
          exact j_22 1 (by decide) (by decide) (by (decide)) (show 1 = (if (u1_).toNat = (a0_).toNat then 1 else 0) by first | (rw [if_pos (by (exact zo_1032 ha0_b hc_14 hc_8 hu1_b p1_))]) | (rw [if_neg (by omega)]))
  exact lp_7 _ ((ze Mz 81 26) - 1) (by (exact zo_63 gb.2.2.2.2.1)) (by (exact zo_903 gb.2.2.2.2.2)) Mz zFr.rf (show -1 ≤ ((ze Mz 81 26) - 1) by first | with_reducible assumption | (exact zo_973 gb.2.2.2.2.1) | assumption) (show ((ze Mz 81 26) - 1) < ze Mz 81 26 by first | with_reducible assumption | (exact zo_89) | assumption) (show zPk T D (a0_).toNat (((ze Mz 81 26) - 1) + 1).toNat Mz by exact zPk_0 (by (exact zo_1033 gf6.2 gfl))) (Nat.lt_succ_self _)
set_option maxHeartbeats 4000000 in
theorem c_M_peak (l : Launch) (Mz : zMem) (hW : zMt Mz) (a0_ : Int) (ha0_a : -2147483648 ≤ a0_) (ha0_b : a0_ < 2147483648) (a1_ : Int) (ha1_a : -2147483648 ≤ a1_) (ha1_b : a1_ < 2147483648) (a2_ : Int) (ha2_a : -2147483648 ≤ a2_) (ha2_b : a2_ < 2147483648) (T : zGT) (hO : gOK T) (D : Nat → Nat → Int) (hD : gDs T D) (p0_ : zGB T Mz) : zC l m_M_peak 0 0 [.ref 81, .int (Int32.ofInt a0_), .int (Int32.ofInt a1_), .int (Int32.ofInt a2_)] Mz (zpI [52, 53] [107, 108] Mz (fun v N => True)) := by
  refine zC_of (L0 := [some (.ref 81), some (.int (Int32.ofInt a0_)), some (.int (Int32.ofInt a1_)), some (.int (Int32.ofInt a2_))]) md_M_peak (Nat.le_of_ble_eq_true rfl) rfl ?_ zQ0
  have hf : zFr [52, 53] [107, 108] Mz Mz := zFr.rf
  have r_26 := ze_r Mz 81 26
  have hG := hO.1
  have g24 := hG.2.1
  have g1 := hG.1
  have dv0 : zTab T Mz := p0_.1
  have dv1 : zB 85 144 0 5 Mz := p0_.2.1
  have dv2 : zJX T Mz := p0_.2.2.1
  have dv3 : zFirs T Mz := p0_.2.2.2.1
  have dv4 : zSSm T Mz := p0_.2.2.2.2.1
  have dv5 : zGD Mz := zGB.d hO p0_
  have gb := dv5.1
  have gn := dv0.1
  refine zw_aload_n (pc := 0) (n := 0) (x := 81) rfl (zdal_p dlD_M_peak_60 (i := 0) rfl) ?_
  refine zw_iload_n (pc := 1) (n := 1) (x := Int32.ofInt a0_) rfl (zdal_p dlD_M_peak_60 (i := 1) rfl) ?_
  refine zr_callV (hf.w hW) hf.x (pc := 2) [.int (Int32.ofInt a0_)] [] l_M_414 (c_M_isSort l Mz (hf.w hW) a0_ ha0_a ha0_b T hO p0_) rfl rfl rfl (by decide) (Nat.le_of_ble_eq_true rfl) (zdal_p dlD_M_peak_60 (i := 2) rfl) ?_
  rintro _ N1_ ⟨v2_, rfl, ⟨hv2_a, hv2_b⟩, hsN1_, hp0_N1_⟩
  obtain rfl := hsN1_.eq.symm
  replace hp0_N1_ : ((v2_ = 1 ∧ 0 ≤ a0_ ∧ a0_ < ze Mz 81 26) ∨ (v2_ = 0)) := hp0_N1_
  rcases hp0_N1_ with ⟨rfl, ha2_0_hp0_N1_, ha2_1_hp0_N1_⟩ | rfl
  · skip
    show zW l m_M_peak (zn Mz + 0, zw Mz + 0) Mz 5 [some (.ref 81), some (.int (Int32.ofInt a0_)), some (.int (Int32.ofInt a1_)), some (.int (Int32.ofInt a2_))] [.int (Int32.ofInt 1)] _
    refine zr_if_eq (pc := 5) (tgt := 26) ⟨(by decide), (by decide)⟩ (by decide) (zdal_p dlD_M_peak_60 (i := 3) rfl) (fun hc_5 => ?_) (fun hc_5 => ?_)
    · skip
      exact absurd hc_5 (by decide)
    · skip
      refine zw_aload_n (pc := 8) (n := 0) (x := 81) rfl (zdal_p dlD_M_peak_60 (i := 4) rfl) ?_
      refine zw_iload_n (pc := 9) (n := 2) (x := Int32.ofInt a1_) rfl (zdal_p dlD_M_peak_60 (i := 5) rfl) ?_
      refine zr_callV (hf.w hW) hf.x (pc := 10) [.int (Int32.ofInt a1_)] [] l_M_414 (c_M_isSort l Mz (hf.w hW) a1_ ha1_a ha1_b T hO p0_) rfl rfl rfl (by decide) (Nat.le_of_ble_eq_true rfl) (zdal_p dlD_M_peak_60 (i := 6) rfl) ?_
      rintro _ N3_ ⟨v4_, rfl, ⟨hv4_a, hv4_b⟩, hsN3_, hp0_N3_⟩
      obtain rfl := hsN3_.eq.symm
      replace hp0_N3_ : ((v4_ = 1 ∧ 0 ≤ a1_ ∧ a1_ < ze Mz 81 26) ∨ (v4_ = 0)) := hp0_N3_
      rcases hp0_N3_ with ⟨rfl, ha10_0_hp0_N3_, ha10_1_hp0_N3_⟩ | rfl
      · skip
        show zW l m_M_peak (zn Mz + 0, zw Mz + 0) Mz 13 [some (.ref 81), some (.int (Int32.ofInt a0_)), some (.int (Int32.ofInt a1_)), some (.int (Int32.ofInt a2_))] [.int (Int32.ofInt 1)] _
        refine zr_if_eq (pc := 13) (tgt := 26) ⟨(by decide), (by decide)⟩ (by decide) (zdal_p dlD_M_peak_60 (i := 7) rfl) (fun hc_13 => ?_) (fun hc_13 => ?_)
        · skip
          exact absurd hc_13 (by decide)
        · skip
          refine zw_iload_n (pc := 16) (n := 3) (x := Int32.ofInt a2_) rfl (zdal_p dlD_M_peak_60 (i := 8) rfl) ?_
          refine zr_i2l (pc := 17) ⟨ha2_a, ha2_b⟩ (zdal_p dlD_M_peak_60 (i := 9) rfl) ?_
          refine zw_lconst (pc := 18) (v := Int64.ofInt 0) (by decide) (zdal_p dlD_M_peak_60 (i := 10) rfl) ?_
          refine zw_lconst (pc := 19) (v := Int64.ofInt 1) (by decide) (zdal_p dlD_M_peak_60 (i := 11) rfl) ?_
          refine zr_callS hf.x (pc := 20) [.long (Int64.ofInt a2_), .long (Int64.ofInt 0), .long (Int64.ofInt 1)] [] l_M_131 (c_M_isIn l Mz (hf.w hW) a2_ (by (exact zo_282 ha2_a)) (by (exact zo_283 ha2_b)) 0 (by decide) (by decide) 1 (by decide) (by decide)) rfl rfl (by decide) (Nat.le_of_ble_eq_true rfl) (zdal_p dlD_M_peak_60 (i := 12) rfl) ?_
          rintro _ N5_ ⟨v6_, rfl, ⟨hv6_a, hv6_b⟩, hsN5_, hp0_N5_⟩
          obtain rfl := hsN5_.eq.symm
          replace hp0_N5_ : ((v6_ = 1 ∧ 0 ≤ a2_ ∧ a2_ ≤ 1) ∨ (v6_ = 0 ∧ (a2_ < 0 ∨ 1 < a2_))) := hp0_N5_
          rcases hp0_N5_ with ⟨rfl, ha20_0_hp0_N5_, ha20_1_hp0_N5_⟩ | ⟨rfl, ha20_0_hp0_N5_⟩
          · skip
            show zW l m_M_peak (zn Mz + 0, zw Mz + 0) Mz 23 [some (.ref 81), some (.int (Int32.ofInt a0_)), some (.int (Int32.ofInt a1_)), some (.int (Int32.ofInt a2_))] [.int (Int32.ofInt 1)] _
            refine zr_if_ne (pc := 23) (tgt := 30) ⟨(by decide), (by decide)⟩ (by decide) (zdal_p dlD_M_peak_60 (i := 13) rfl) (fun hc_23 => ?_) (fun hc_23 => ?_)
            · skip
              refine zw_aload_n (pc := 30) (n := 0) (x := 81) rfl (zdal_p dlD_M_peak_60 (i := 16) rfl) ?_
              refine zw_iload_n (pc := 31) (n := 1) (x := Int32.ofInt a0_) rfl (zdal_p dlD_M_peak_60 (i := 17) rfl) ?_
              refine zr_callV (hf.w hW) hf.x (pc := 32) [.int (Int32.ofInt a0_)] [] l_M_450 (c_M_peaks l Mz (hf.w hW) a0_ ha0_a ha0_b T hO D hD p0_ (show 0 ≤ a0_ by first | with_reducible assumption | assumption | omega) (show a0_ < ze Mz 81 26 by first | with_reducible assumption | assumption | omega)) rfl rfl rfl (by decide) (Nat.le_of_ble_eq_true rfl) (zdal_p dlD_M_peak_60 (i := 18) rfl) ?_
              rintro _ N7_ ⟨rfl, hsN7_, hp0_N7_⟩
              replace hp0_N7_ : zPk T D (a0_).toNat 0 N7_ := hp0_N7_
              have hf_N7_ : zFr [52, 53] [107, 108] Mz N7_ := hf.tr hsN7_ (by decide) (by decide)
              show zW l m_M_peak (zn Mz + 0, zw Mz + 0) N7_ 35 [some (.ref 81), some (.int (Int32.ofInt a0_)), some (.int (Int32.ofInt a1_)), some (.int (Int32.ofInt a2_))] [] _
              refine zw_iload_n (pc := 35) (n := 3) (x := Int32.ofInt a2_) rfl (zdal_p dlD_M_peak_60 (i := 19) rfl) ?_
              refine zr_if_ne (pc := 36) (tgt := 48) ⟨ha2_a, ha2_b⟩ (by decide) (zdal_p dlD_M_peak_60 (i := 20) rfl) (fun hc_36 => ?_) (fun hc_36 => ?_)
              · skip
                refine zw_aload_n (pc := 48) (n := 0) (x := 81) rfl (zdal_p dlD_M_peak_61 (i := 2) rfl) ?_
                refine zr_getF (r := 108) (hf_N7_.w hW) (pc := 49) f_M_96 rfl (zh_108 (hf_N7_.w hW)).1 (zdal_p dlD_M_peak_61 (i := 3) rfl) ?_
                refine zw_iload_n (pc := 52) (n := 2) (x := Int32.ofInt a1_) rfl (zdal_p dlD_M_peak_61 (i := 4) rfl) ?_
                refine zr_laldn (pc := 53) (zh_108 (hf_N7_.w hW)).2 (by decide) (by (exact ha10_0_hp0_N3_)) (by (exact zo_837 gb.2.2.2.2.2 ha10_1_hp0_N3_ ha1_b)) (zdal_p dlD_M_peak_61 (i := 5) rfl) (fun v16_ hv16_ hv16_a hv16_b => ?_)
                refine zr_l2i (pc := 54) (zdal_p dlD_M_peak_61 (i := 6) rfl) ?_
                refine zr_nmI (fun v17_ hv17_ => ?_)
                obtain ⟨hv17_a, hv17_b⟩ := hv17_
                exact zr_iret (pc := 55) (ty := .int) rfl rfl ⟨by (exact hv17_a), by (exact hv17_b)⟩ hf_N7_ trivial (zdal_p dlD_M_peak_61 (i := 7) rfl)
              · skip
                refine zw_aload_n (pc := 39) (n := 0) (x := 81) rfl (zdal_p dlD_M_peak_60 (i := 21) rfl) ?_
                refine zr_getF (r := 107) (hf_N7_.w hW) (pc := 40) f_M_93 rfl (zh_107 (hf_N7_.w hW)).1 (zdal_p dlD_M_peak_60 (i := 22) rfl) ?_
                refine zw_iload_n (pc := 43) (n := 2) (x := Int32.ofInt a1_) rfl (zdal_p dlD_M_peak_60 (i := 23) rfl) ?_
                refine zr_laldn (pc := 44) (zh_107 (hf_N7_.w hW)).2 (by decide) (by (exact ha10_0_hp0_N3_)) (by (exact zo_837 gb.2.2.2.2.2 ha10_1_hp0_N3_ ha1_b)) (zdal_p dlD_M_peak_61 (i := 0) rfl) (fun v18_ hv18_ hv18_a hv18_b => ?_)
                refine zw_goto (pc := 45) (tgt := 54) (by decide) (zdal_p dlD_M_peak_61 (i := 1) rfl) ?_
                refine zr_l2i (pc := 54) (zdal_p dlD_M_peak_61 (i := 6) rfl) ?_
                refine zr_nmI (fun v19_ hv19_ => ?_)
                obtain ⟨hv19_a, hv19_b⟩ := hv19_
                exact zr_iret (pc := 55) (ty := .int) rfl rfl ⟨by (exact hv19_a), by (exact hv19_b)⟩ hf_N7_ trivial (zdal_p dlD_M_peak_61 (i := 7) rfl)
            · skip
              exact absurd hc_23 (by decide)
          · skip
            show zW l m_M_peak (zn Mz + 0, zw Mz + 0) Mz 23 [some (.ref 81), some (.int (Int32.ofInt a0_)), some (.int (Int32.ofInt a1_)), some (.int (Int32.ofInt a2_))] [.int (Int32.ofInt 0)] _
            refine zr_if_ne (pc := 23) (tgt := 30) ⟨(by decide), (by decide)⟩ (by decide) (zdal_p dlD_M_peak_60 (i := 13) rfl) (fun hc_23 => ?_) (fun hc_23 => ?_)
            · skip
              exact absurd hc_23 (by decide)
            · skip
              refine zw_ldcw (pc := 26) (v := Int32.ofInt (-1000000)) (by rw [show Int32.ofInt (-1000000) = ((-1000000) : Int32) by decide]; exact k_M_435) (zdal_p dlD_M_peak_60 (i := 14) rfl) ?_
              exact zr_iret (pc := 29) (ty := .int) rfl rfl ⟨by (decide), by (decide)⟩ hf trivial (zdal_p dlD_M_peak_60 (i := 15) rfl)
      · skip
        show zW l m_M_peak (zn Mz + 0, zw Mz + 0) Mz 13 [some (.ref 81), some (.int (Int32.ofInt a0_)), some (.int (Int32.ofInt a1_)), some (.int (Int32.ofInt a2_))] [.int (Int32.ofInt 0)] _
        refine zr_if_eq (pc := 13) (tgt := 26) ⟨(by decide), (by decide)⟩ (by decide) (zdal_p dlD_M_peak_60 (i := 7) rfl) (fun hc_13 => ?_) (fun hc_13 => ?_)
        · skip
          refine zw_ldcw (pc := 26) (v := Int32.ofInt (-1000000)) (by rw [show Int32.ofInt (-1000000) = ((-1000000) : Int32) by decide]; exact k_M_435) (zdal_p dlD_M_peak_60 (i := 14) rfl) ?_
          exact zr_iret (pc := 29) (ty := .int) rfl rfl ⟨by (decide), by (decide)⟩ hf trivial (zdal_p dlD_M_peak_60 (i := 15) rfl)
        · skip
          exact absurd hc_13 (by decide)
  · skip
    show zW l m_M_peak (zn Mz + 0, zw Mz + 0) Mz 5 [some (.ref 81), some (.int (Int32.ofInt a0_)), some (.int (Int32.ofInt a1_)), some (.int (Int32.ofInt a2_))] [.int (Int32.ofInt 0)] _
    refine zr_if_eq (pc := 5) (tgt := 26) ⟨(by decide), (by decide)⟩ (by decide) (zdal_p dlD_M_peak_60 (i := 3) rfl) (fun hc_5 => ?_) (fun hc_5 => ?_)
    · skip
      refine zw_ldcw (pc := 26) (v := Int32.ofInt (-1000000)) (by rw [show Int32.ofInt (-1000000) = ((-1000000) : Int32) by decide]; exact k_M_435) (zdal_p dlD_M_peak_60 (i := 14) rfl) ?_
      exact zr_iret (pc := 29) (ty := .int) rfl rfl ⟨by (decide), by (decide)⟩ hf trivial (zdal_p dlD_M_peak_60 (i := 15) rfl)
    · skip
      exact absurd hc_5 (by decide)
set_option maxHeartbeats 4000000 in
theorem c_M_holdsB (l : Launch) (Mz : zMem) (hW : zMt Mz) (a0_ : Int) (ha0_a : -2147483648 ≤ a0_) (ha0_b : a0_ < 2147483648) (a1_ : Int) (ha1_a : -2147483648 ≤ a1_) (ha1_b : a1_ < 2147483648) : zC l m_M_holds 0 0 [.int (Int32.ofInt a0_), .int (Int32.ofInt a1_)] Mz (zpI [] [] Mz (fun v N => ((v = 0 ∨ v = 1)))) := by
  refine zC_of (L0 := [some (.int (Int32.ofInt a0_)), some (.int (Int32.ofInt a1_))]) md_M_holds (Nat.le_of_ble_eq_true rfl) rfl ?_ zQ0
  have hf : zFr [] [] Mz Mz := zFr.rf
  refine zw_iload_n (pc := 0) (n := 0) (x := Int32.ofInt a0_) rfl (zdal_p dlC_M_holds_29 (i := 0) rfl) ?_
  refine zw_iload_n (pc := 1) (n := 1) (x := Int32.ofInt a1_) rfl (zdal_p dlC_M_holds_29 (i := 1) rfl) ?_
  refine zr_ishr (pc := 2) (zdal_p dlC_M_holds_29 (i := 2) rfl) ?_
  have hr1_ := zshr_r a0_ a1_
  refine zw_iconst (pc := 3) (v := Int32.ofInt 1) (by decide) (zdal_p dlC_M_holds_29 (i := 3) rfl) ?_
  refine zr_iand (pc := 4) (zdal_p dlC_M_holds_29 (i := 4) rfl) ?_
  have hr2_ := zand_r (zshr a0_ a1_) 1
  refine zw_iconst (pc := 5) (v := Int32.ofInt 1) (by decide) (zdal_p dlC_M_holds_29 (i := 5) rfl) ?_
  refine zr_icmp_ne (pc := 6) (tgt := 13) ⟨(by (exact zo_284 hr2_.1)), (by (exact zo_285 hr2_.2))⟩ ⟨(by decide), (by decide)⟩ (by decide) (zdal_p dlC_M_holds_29 (i := 6) rfl) (fun hc_6 => ?_) (fun hc_6 => ?_)
  · skip
    refine zw_iconst (pc := 13) (v := Int32.ofInt 0) (by decide) (zdal_p dlC_M_holds_29 (i := 9) rfl) ?_
    exact zr_iret (pc := 14) (ty := .boolean) rfl (z_narB (by (decide))) ⟨by (decide), by (decide)⟩ hf (show (0 = 0 ∨ 0 = 1) by first | with_reducible assumption | (decide) | assumption) (zdal_p dlC_M_holds_29 (i := 10) rfl)
  · skip
    refine zw_iconst (pc := 9) (v := Int32.ofInt 1) (by decide) (zdal_p dlC_M_holds_29 (i := 7) rfl) ?_
    refine zw_goto (pc := 10) (tgt := 14) (by decide) (zdal_p dlC_M_holds_29 (i := 8) rfl) ?_
    exact zr_iret (pc := 14) (ty := .boolean) rfl (z_narB (by (decide))) ⟨by (decide), by (decide)⟩ hf (show (1 = 0 ∨ 1 = 1) by first | with_reducible assumption | (decide) | assumption) (zdal_p dlC_M_holds_29 (i := 10) rfl)
