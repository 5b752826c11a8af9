set_option maxHeartbeats 40000000 in
theorem c_M_formulaF (l : Launch) (Mz : zMem) (hW : zMt Mz) (F_ : Nat) (K_ : Nat → Nat → Int) (hA_ : zTA F_ K_) (b_ : Nat → Int) (n_ : Nat) (nm_ : List (Int × (Nat → Int))) (p0_ : zRmk F_ K_ Mz) (p1_ : zRb b_ n_ Mz) (p2_ : zRt b_ n_ Mz) (p3_ : zRNm nm_ F_ K_ b_ n_ Mz) (p4_ : 0 ≤ ze Mz 81 7) : zC l m_M_formula 0 0 [.ref 81] Mz (zpV [3, 4, 5, 6, 7, 8, 11, 38, 39, 41, 42, 43] [95, 96, 97, 100] Mz (fun N => zRt b_ n_ N ∧ (((1 ≤ ze N 81 7 ∧ (ze Mz 81 7 = 0 → zRea (zfs b_ n_ F_ K_ nm_) (0, (ze Mz 81 4).toNat, [], [], 0, false) zFt)) ∨ (ze N 81 7 = 0 ∧ ze Mz 81 7 = 0 ∧ zRea (zfs b_ n_ F_ K_ nm_) (0, (ze Mz 81 4).toNat, [], [], 0, false) (zRst 3 F_ N) ∧ zRI F_ K_ 1 N ∧ zrS N = [] ∧ ze Mz 81 4 ≤ ze N 81 4))))) := by
  refine zC_of (L0 := [some (.ref 81), none]) md_M_formula (Nat.le_of_ble_eq_true rfl) rfl ?_ zQ0
  have hf : zFr [3, 4, 5, 6, 7, 8, 11, 38, 39, 41, 42, 43] [95, 96, 97, 100] Mz Mz := zFr.rf
  have r_3 := ze_r Mz 81 3
  have r_4 := ze_r Mz 81 4
  have r_7 := ze_r Mz 81 7
  have r_38 := ze_r Mz 81 38
  have r_39 := ze_r Mz 81 39
  have r_41 := ze_r Mz 81 41
  have r_42 := ze_r Mz 81 42
  have r_43 := ze_r Mz 81 43
  obtain ⟨⟨hF1_, hF27_⟩, hAr_⟩ := id hA_
  obtain ⟨hFc_, hKt_⟩ := id p0_
  refine zw_aload_n (pc := 0) (n := 0) (x := 81) rfl (zdal_p dlC_M_formula_94 (i := 0) rfl) ?_
  refine zw_iconst (pc := 1) (v := Int32.ofInt 0) (by decide) (zdal_p dlC_M_formula_94 (i := 1) rfl) ?_
  refine zr_putI (hf.w hW) (pc := 2) f_M_268 rfl rfl ⟨by (decide), by (decide)⟩ rfl rfl (zdal_p dlC_M_formula_94 (i := 2) rfl) (fun N1_ hsN1_ hvN1_ => ?_)
  have hf_N1_ := hf.tr hsN1_ (by decide +kernel) (by decide +kernel)
  have e3_N1_ : ze N1_ 81 3 = ze Mz 81 3 := hsN1_.e (by decide)
  have e4_N1_ : ze N1_ 81 4 = ze Mz 81 4 := hsN1_.e (by decide)
  have e7_N1_ : ze N1_ 81 7 = ze Mz 81 7 := hsN1_.e (by decide)
  have r38_N1_ := ze_r N1_ 81 38
  have e39_N1_ : ze N1_ 81 39 = ze Mz 81 39 := hsN1_.e (by decide)
  have e41_N1_ : ze N1_ 81 41 = ze Mz 81 41 := hsN1_.e (by decide)
  have e42_N1_ : ze N1_ 81 42 = ze Mz 81 42 := hsN1_.e (by decide)
  have e43_N1_ : ze N1_ 81 43 = ze Mz 81 43 := hsN1_.e (by decide)
  have qzrS_N1_ : zrS N1_ = zrS Mz := zrS_q hsN1_ (by decide)
  have qzrG_N1_ : zrG N1_ = zrG Mz := zrG_q hsN1_ (by decide)
  have c2_ : zRmk F_ K_ N1_ := zRmk.fr hsN1_ p0_ (by decide +kernel) (by decide +kernel)
  have c3_ : zRb b_ n_ N1_ := zRb.fr hsN1_ p1_ (by decide +kernel) (by decide +kernel)
  have c4_ : zRt b_ n_ N1_ := zRt.fr hsN1_ p2_ (by decide +kernel) (by decide +kernel)
  have c5_ : zRNm nm_ F_ K_ b_ n_ N1_ := zRNm.fr hsN1_ p3_ (by decide +kernel) (by decide +kernel)
  refine zw_aload_n (pc := 5) (n := 0) (x := 81) rfl (zdal_p dlC_M_formula_94 (i := 3) rfl) ?_
  refine zw_iconst (pc := 6) (v := Int32.ofInt 0) (by decide) (zdal_p dlC_M_formula_94 (i := 4) rfl) ?_
  refine zr_putI (hf_N1_.w hW) (pc := 7) f_M_305 rfl rfl ⟨by (decide), by (decide)⟩ rfl rfl (zdal_p dlC_M_formula_94 (i := 5) rfl) (fun N6_ hsN6_ hvN6_ => ?_)
  have hf_N6_ := hf_N1_.tr hsN6_ (by decide +kernel) (by decide +kernel)
  have e3_N6_ : ze N6_ 81 3 = ze N1_ 81 3 := hsN6_.e (by decide)
  have e4_N6_ : ze N6_ 81 4 = ze N1_ 81 4 := hsN6_.e (by decide)
  have e7_N6_ : ze N6_ 81 7 = ze N1_ 81 7 := hsN6_.e (by decide)
  have e38_N6_ : ze N6_ 81 38 = ze N1_ 81 38 := hsN6_.e (by decide)
  have e39_N6_ : ze N6_ 81 39 = ze N1_ 81 39 := hsN6_.e (by decide)
  have r41_N6_ := ze_r N6_ 81 41
  have e42_N6_ : ze N6_ 81 42 = ze N1_ 81 42 := hsN6_.e (by decide)
  have e43_N6_ : ze N6_ 81 43 = ze N1_ 81 43 := hsN6_.e (by decide)
  have qzrG_N6_ : zrG N6_ = zrG N1_ := zrG_q hsN6_ (by decide)
  have qzrW_N6_ : zrW F_ N6_ = zrW F_ N1_ := zrW_q hsN6_ (by decide)
  have c7_ : zRmk F_ K_ N6_ := zRmk.fr hsN6_ c2_ (by decide +kernel) (by decide +kernel)
  have c8_ : zRb b_ n_ N6_ := zRb.fr hsN6_ c3_ (by decide +kernel) (by decide +kernel)
  have c9_ : zRt b_ n_ N6_ := zRt.fr hsN6_ c4_ (by decide +kernel) (by decide +kernel)
  have c10_ : zRNm nm_ F_ K_ b_ n_ N6_ := zRNm.fr hsN6_ c5_ (by decide +kernel) (by decide +kernel)
  refine zw_aload_n (pc := 10) (n := 0) (x := 81) rfl (zdal_p dlC_M_formula_94 (i := 6) rfl) ?_
  refine zw_iconst (pc := 11) (v := Int32.ofInt 0) (by decide) (zdal_p dlC_M_formula_94 (i := 7) rfl) ?_
  refine zr_putI (hf_N6_.w hW) (pc := 12) f_M_296 rfl rfl ⟨by (decide), by (decide)⟩ rfl rfl (zdal_p dlC_M_formula_94 (i := 8) rfl) (fun N11_ hsN11_ hvN11_ => ?_)
  have hf_N11_ := hf_N6_.tr hsN11_ (by decide +kernel) (by decide +kernel)
  have e3_N11_ : ze N11_ 81 3 = ze N6_ 81 3 := hsN11_.e (by decide)
  have e4_N11_ : ze N11_ 81 4 = ze N6_ 81 4 := hsN11_.e (by decide)
  have e7_N11_ : ze N11_ 81 7 = ze N6_ 81 7 := hsN11_.e (by decide)
  have e38_N11_ : ze N11_ 81 38 = ze N6_ 81 38 := hsN11_.e (by decide)
  have e39_N11_ : ze N11_ 81 39 = ze N6_ 81 39 := hsN11_.e (by decide)
  have e41_N11_ : ze N11_ 81 41 = ze N6_ 81 41 := hsN11_.e (by decide)
  have r42_N11_ := ze_r N11_ 81 42
  have e43_N11_ : ze N11_ 81 43 = ze N6_ 81 43 := hsN11_.e (by decide)
  have qzrS_N11_ : zrS N11_ = zrS N6_ := zrS_q hsN11_ (by decide)
  have qzrG_N11_ : zrG N11_ = zrG N6_ := zrG_q hsN11_ (by decide)
  have qzrW_N11_ : zrW F_ N11_ = zrW F_ N6_ := zrW_q hsN11_ (by decide)
  have c12_ : zRmk F_ K_ N11_ := zRmk.fr hsN11_ c7_ (by decide +kernel) (by decide +kernel)
  have c13_ : zRb b_ n_ N11_ := zRb.fr hsN11_ c8_ (by decide +kernel) (by decide +kernel)
  have c14_ : zRt b_ n_ N11_ := zRt.fr hsN11_ c9_ (by decide +kernel) (by decide +kernel)
  have c15_ : zRNm nm_ F_ K_ b_ n_ N11_ := zRNm.fr hsN11_ c10_ (by decide +kernel) (by decide +kernel)
  refine zw_aload_n (pc := 15) (n := 0) (x := 81) rfl (zdal_p dlC_M_formula_94 (i := 9) rfl) ?_
  refine zw_iconst (pc := 16) (v := Int32.ofInt 0) (by decide) (zdal_p dlC_M_formula_94 (i := 10) rfl) ?_
  refine zr_putI (hf_N11_.w hW) (pc := 17) f_M_293 rfl rfl ⟨by (decide), by (decide)⟩ rfl rfl (zdal_p dlC_M_formula_94 (i := 11) rfl) (fun N16_ hsN16_ hvN16_ => ?_)
  have hf_N16_ := hf_N11_.tr hsN16_ (by decide +kernel) (by decide +kernel)
  have e3_N16_ : ze N16_ 81 3 = ze N11_ 81 3 := hsN16_.e (by decide)
  have e4_N16_ : ze N16_ 81 4 = ze N11_ 81 4 := hsN16_.e (by decide)
  have e7_N16_ : ze N16_ 81 7 = ze N11_ 81 7 := hsN16_.e (by decide)
  have e38_N16_ : ze N16_ 81 38 = ze N11_ 81 38 := hsN16_.e (by decide)
  have e39_N16_ : ze N16_ 81 39 = ze N11_ 81 39 := hsN16_.e (by decide)
  have e41_N16_ : ze N16_ 81 41 = ze N11_ 81 41 := hsN16_.e (by decide)
  have e42_N16_ : ze N16_ 81 42 = ze N11_ 81 42 := hsN16_.e (by decide)
  have r43_N16_ := ze_r N16_ 81 43
  have qzrS_N16_ : zrS N16_ = zrS N11_ := zrS_q hsN16_ (by decide)
  have qzrG_N16_ : zrG N16_ = zrG N11_ := zrG_q hsN16_ (by decide)
  have qzrW_N16_ : zrW F_ N16_ = zrW F_ N11_ := zrW_q hsN16_ (by decide)
  have c17_ : zRmk F_ K_ N16_ := zRmk.fr hsN16_ c12_ (by decide +kernel) (by decide +kernel)
  have c18_ : zRb b_ n_ N16_ := zRb.fr hsN16_ c13_ (by decide +kernel) (by decide +kernel)
  have c19_ : zRt b_ n_ N16_ := zRt.fr hsN16_ c14_ (by decide +kernel) (by decide +kernel)
  have c20_ : zRNm nm_ F_ K_ b_ n_ N16_ := zRNm.fr hsN16_ c15_ (by decide +kernel) (by decide +kernel)
  refine zw_aload_n (pc := 20) (n := 0) (x := 81) rfl (zdal_p dlC_M_formula_94 (i := 12) rfl) ?_
  refine zw_iconst (pc := 21) (v := Int32.ofInt 0) (by decide) (zdal_p dlC_M_formula_94 (i := 13) rfl) ?_
  refine zr_putI (hf_N16_.w hW) (pc := 22) f_M_275 rfl rfl ⟨by (decide), by (decide)⟩ (z_narB (by (decide))) (z_fitB (by (decide))) (zdal_p dlC_M_formula_94 (i := 14) rfl) (fun N21_ hsN21_ hvN21_ => ?_)
  have hf_N21_ := hf_N16_.tr hsN21_ (by decide +kernel) (by decide +kernel)
  have e3_N21_ : ze N21_ 81 3 = ze N16_ 81 3 := hsN21_.e (by decide)
  have e4_N21_ : ze N21_ 81 4 = ze N16_ 81 4 := hsN21_.e (by decide)
  have e7_N21_ : ze N21_ 81 7 = ze N16_ 81 7 := hsN21_.e (by decide)
  have e38_N21_ : ze N21_ 81 38 = ze N16_ 81 38 := hsN21_.e (by decide)
  have r39_N21_ := ze_r N21_ 81 39
  have e41_N21_ : ze N21_ 81 41 = ze N16_ 81 41 := hsN21_.e (by decide)
  have e42_N21_ : ze N21_ 81 42 = ze N16_ 81 42 := hsN21_.e (by decide)
  have e43_N21_ : ze N21_ 81 43 = ze N16_ 81 43 := hsN21_.e (by decide)
  have qzrS_N21_ : zrS N21_ = zrS N16_ := zrS_q hsN21_ (by decide)
  have c22_ : zRmk F_ K_ N21_ := zRmk.fr hsN21_ c17_ (by decide +kernel) (by decide +kernel)
  have c23_ : zRb b_ n_ N21_ := zRb.fr hsN21_ c18_ (by decide +kernel) (by decide +kernel)
  have c24_ : zRt b_ n_ N21_ := zRt.fr hsN21_ c19_ (by decide +kernel) (by decide +kernel)
  have c25_ : zRNm nm_ F_ K_ b_ n_ N21_ := zRNm.fr hsN21_ c20_ (by decide +kernel) (by decide +kernel)
  have hi_ := zRI_0 (F := F_) (K := K_) (Mz := N21_) (by (exact zo_595 e41_N11_ e41_N16_ e41_N21_ hvN6_)) (by (exact zo_596 e42_N16_ e42_N21_ hvN11_)) (by (exact zo_597 e38_N11_ e38_N16_ e38_N21_ e38_N6_ hvN1_)) (by (exact hvN21_))
  have hst0_ : zRea (zfs b_ n_ F_ K_ nm_) (0, (ze Mz 81 4).toNat, [], [], 0, false) (zRst 0 F_ N21_) := by unfold zRst; rw [hi_.2.1, hi_.2.2.1, hi_.2.2.2, show ze N21_ 81 4 = ze Mz 81 4 by (exact zo_598 e4_N11_ e4_N16_ e4_N1_ e4_N21_ e4_N6_), show (ze N21_ 81 43).toNat = 0 by (exact zo_599 e43_N21_ hvN16_)]; exact zRea.rf
  have hi1_ := hi_.1
  refine zw_iconst (pc := 25) (v := Int32.ofInt 1) (by decide) (zdal_p dlC_M_formula_94 (i := 15) rfl) ?_
  refine zw_istore_n (pc := 26) (i := 1) (L2 := [some (.ref 81), some (.int (Int32.ofInt 1))]) rfl (by decide) rfl (zdal_p dlC_M_formula_94 (i := 16) rfl) ?_
  have lp_27 : ∀ (n : Nat) (u26_ : Int) (hu26_a : -2147483648 ≤ u26_) (hu26_b : u26_ < 2147483648) (hu26_z : u26_ = 0 ∨ u26_ = 1) (N27_ : zMem) (hs28_ : zFr [3, 4, 5, 6, 7, 8, 11, 38, 39, 41, 42, 43] [95, 96, 97, 100] N21_ N27_) (i29_ : zRt b_ n_ N27_) (i30_ : (1 ≤ ze N27_ 81 7 ∧ (ze Mz 81 7 = 0 → zRea (zfs b_ n_ F_ K_ nm_) (0, (ze Mz 81 4).toNat, [], [], 0, false) zFt)) ∨ (u26_ = 1 ∧ ze N27_ 81 7 = 0 ∧ ze Mz 81 7 = 0 ∧ zRea (zfs b_ n_ F_ K_ nm_) (0, (ze Mz 81 4).toNat, [], [], 0, false) (zRst 0 F_ N27_) ∧ zRI F_ K_ 0 N27_ ∧ 0 ≤ ze N27_ 81 43 ∧ ze N27_ 81 43 ≤ 30 ∧ ze Mz 81 4 ≤ ze N27_ 81 4) ∨ (u26_ = 0 ∧ ze N27_ 81 7 = 0 ∧ ze Mz 81 7 = 0 ∧ zRea (zfs b_ n_ F_ K_ nm_) (0, (ze Mz 81 4).toNat, [], [], 0, false) (zRst 2 F_ N27_) ∧ zRI F_ K_ 1 N27_ ∧ 0 ≤ ze N27_ 81 43 ∧ ze N27_ 81 43 ≤ 30 ∧ (zrS N27_).head? ≠ some 1 ∧ ¬ (zisg b_ n_ (ze N27_ 81 4).toNat 42 ∨ zisg b_ n_ (ze N27_ 81 4).toNat 43 ∨ zisg b_ n_ (ze N27_ 81 4).toNat 45) ∧ ze Mz 81 4 ≤ ze N27_ 81 4 ∧ ¬ (zisg b_ n_ (ze N27_ 81 4).toNat 41 ∧ 0 ∈ zrS N27_))), zmF n_ N27_ < n → zW l m_M_formula (zn Mz + 0, zw Mz + 0) N27_ 27 [some (.ref 81), some (.int (Int32.ofInt u26_))] [] (zpV [3, 4, 5, 6, 7, 8, 11, 38, 39, 41, 42, 43] [95, 96, 97, 100] Mz (fun N => zRt b_ n_ N ∧ (((1 ≤ ze N 81 7 ∧ (ze Mz 81 7 = 0 → zRea (zfs b_ n_ F_ K_ nm_) (0, (ze Mz 81 4).toNat, [], [], 0, false) zFt)) ∨ (ze N 81 7 = 0 ∧ ze Mz 81 7 = 0 ∧ zRea (zfs b_ n_ F_ K_ nm_) (0, (ze Mz 81 4).toNat, [], [], 0, false) (zRst 3 F_ N) ∧ zRI F_ K_ 1 N ∧ zrS N = [] ∧ ze Mz 81 4 ≤ ze N 81 4))))) := by
    clear hsN1_ hvN1_ hf_N1_ e3_N1_ e4_N1_ e7_N1_ r38_N1_ e39_N1_ e41_N1_ e42_N1_ e43_N1_ qzrS_N1_ qzrG_N1_ c2_ c3_ c4_ c5_ hsN6_ hvN6_ hf_N6_ e3_N6_ e4_N6_ e7_N6_ e38_N6_ e39_N6_ r41_N6_ e42_N6_ e43_N6_ qzrG_N6_ qzrW_N6_ c7_ c8_ c9_ c10_ hsN11_ hvN11_ hf_N11_ e3_N11_ e4_N11_ e7_N11_ e38_N11_ e39_N11_ e41_N11_ r42_N11_ e43_N11_ qzrS_N11_ qzrG_N11_ qzrW_N11_ c12_ c13_ c14_ c15_ hsN16_ hvN16_ hf_N16_ e3_N16_ e4_N16_ e7_N16_ e38_N16_ e39_N16_ e41_N16_ e42_N16_ r43_N16_ qzrS_N16_ qzrG_N16_ qzrW_N16_ c17_ c18_ c19_ c20_ hsN21_ e3_N21_ e4_N21_ e7_N21_ e38_N21_ e41_N21_ e42_N21_ e43_N21_ qzrS_N21_
    intro n
    induction n with
    | zero =>
      intro u26_ hu26_a hu26_b hu26_z N27_ hs28_ i29_ i30_ h0
      exact absurd h0 (Nat.not_lt_zero _)
    | succ n ih_27 =>
      intro u26_ hu26_a hu26_b hu26_z N27_ hs28_ i29_ i30_ hlt_27
      have hf_N27_ := hf_N21_.tr hs28_ (by decide +kernel) (by decide +kernel)
      have r3_N27_ := ze_r N27_ 81 3
      have r4_N27_ := ze_r N27_ 81 4
      have r7_N27_ := ze_r N27_ 81 7
      have r38_N27_ := ze_r N27_ 81 38
      have r39_N27_ := ze_r N27_ 81 39
      have r41_N27_ := ze_r N27_ 81 41
      have r42_N27_ := ze_r N27_ 81 42
      have r43_N27_ := ze_r N27_ 81 43
      have c31_ : zRmk F_ K_ N27_ := zRmk.fr hs28_ c22_ (by decide +kernel) (by decide +kernel)
      have c32_ : zRb b_ n_ N27_ := zRb.fr hs28_ c23_ (by decide +kernel) (by decide +kernel)
      have c33_ : zRNm nm_ F_ K_ b_ n_ N27_ := zRNm.fr hs28_ c25_ (by decide +kernel) (by decide +kernel)
      rcases i30_ with ⟨hl27_0_i30_, hl27_1_i30_⟩ | ⟨rfl, hl27_0_i30_, hl27_1_i30_, hl27_2_i30_, hl27_3_i30_, hl27_4_i30_, hl27_5_i30_, hl27_6_i30_⟩ | ⟨rfl, hl27_0_i30_, hl27_1_i30_, hl27_2_i30_, hl27_3_i30_, hl27_4_i30_, hl27_5_i30_, hl27_6_i30_, hl27_7_i30_, hl27_8_i30_, hl27_9_i30_⟩
      · skip
        refine zw_aload_n (pc := 27) (n := 0) (x := 81) rfl (zdal_p dlC_M_formula_94 (i := 17) rfl) ?_
        refine zr_callV (hf_N27_.w hW) hf_N27_.x (pc := 28) [] [] l_M_183 (c_M_isGood l N27_ (hf_N27_.w hW) ) rfl rfl rfl (by decide) (Nat.le_of_ble_eq_true rfl) (zdal_p dlC_M_formula_94 (i := 18) rfl) ?_
        rintro _ N34_ ⟨v35_, rfl, ⟨hv35_a, hv35_b⟩, hsN34_, hp0_N34_⟩
        obtain rfl := hsN34_.eq.symm
        replace hp0_N34_ : ((v35_ = 1 ∧ ze N27_ 81 7 = 0) ∨ (v35_ = 0 ∧ ze N27_ 81 7 ≠ 0)) := hp0_N34_
        rcases hp0_N34_ with ⟨rfl, ha28_0_hp0_N34_⟩ | ⟨rfl, ha28_0_hp0_N34_⟩
        · skip
          exfalso; (exact zo_281 ha28_0_hp0_N34_ hl27_0_i30_)
        · skip
          show zW l m_M_formula (zn Mz + 0, zw Mz + 0) N27_ 31 [some (.ref 81), some (.int (Int32.ofInt u26_))] [.int (Int32.ofInt 0)] _
          refine zr_if_eq (pc := 31) (tgt := 171) ⟨(by decide), (by decide)⟩ (by decide) (zdal_p dlC_M_formula_94 (i := 19) rfl) (fun hc_31 => ?_) (fun hc_31 => ?_)
          · skip
            refine zw_aload_n (pc := 171) (n := 0) (x := 81) rfl (zdal_p dlC_M_formula_97 (i := 16) rfl) ?_
            refine zr_callV (hf_N27_.w hW) hf_N27_.x (pc := 172) [] [] l_M_183 (c_M_isGood l N27_ (hf_N27_.w hW) ) rfl rfl rfl (by decide) (Nat.le_of_ble_eq_true rfl) (zdal_p dlC_M_formula_97 (i := 17) rfl) ?_
            rintro _ N36_ ⟨v37_, rfl, ⟨hv37_a, hv37_b⟩, hsN36_, hp0_N36_⟩
            obtain rfl := hsN36_.eq.symm
            replace hp0_N36_ : ((v37_ = 1 ∧ ze N27_ 81 7 = 0) ∨ (v37_ = 0 ∧ ze N27_ 81 7 ≠ 0)) := hp0_N36_
            rcases hp0_N36_ with ⟨rfl, ha172_0_hp0_N36_⟩ | ⟨rfl, ha172_0_hp0_N36_⟩
            · skip
              exfalso; (exact zo_281 ha172_0_hp0_N36_ hl27_0_i30_)
            · skip
              show zW l m_M_formula (zn Mz + 0, zw Mz + 0) N27_ 175 [some (.ref 81), some (.int (Int32.ofInt u26_))] [.int (Int32.ofInt 0)] _
              refine zr_if_eq (pc := 175) (tgt := 190) ⟨(by decide), (by decide)⟩ (by decide) (zdal_p dlC_M_formula_97 (i := 18) rfl) (fun hc_175 => ?_) (fun hc_175 => ?_)
              · skip
                refine zw_aload_n (pc := 190) (n := 0) (x := 81) rfl (zdal_p dlC_M_formula_98 (i := 1) rfl) ?_
                refine zr_callV (hf_N27_.w hW) hf_N27_.x (pc := 191) [] [] l_M_183 (c_M_isGood l N27_ (hf_N27_.w hW) ) rfl rfl rfl (by decide) (Nat.le_of_ble_eq_true rfl) (zdal_p dlC_M_formula_98 (i := 2) rfl) ?_
                rintro _ N38_ ⟨v39_, rfl, ⟨hv39_a, hv39_b⟩, hsN38_, hp0_N38_⟩
                obtain rfl := hsN38_.eq.symm
                replace hp0_N38_ : ((v39_ = 1 ∧ ze N27_ 81 7 = 0) ∨ (v39_ = 0 ∧ ze N27_ 81 7 ≠ 0)) := hp0_N38_
                rcases hp0_N38_ with ⟨rfl, ha191_0_hp0_N38_⟩ | ⟨rfl, ha191_0_hp0_N38_⟩
                · skip
                  exfalso; (exact zo_281 ha191_0_hp0_N38_ hl27_0_i30_)
                · skip
                  show zW l m_M_formula (zn Mz + 0, zw Mz + 0) N27_ 194 [some (.ref 81), some (.int (Int32.ofInt u26_))] [.int (Int32.ofInt 0)] _
                  refine zr_if_eq (pc := 194) (tgt := 202) ⟨(by decide), (by decide)⟩ (by decide) (zdal_p dlC_M_formula_98 (i := 3) rfl) (fun hc_194 => ?_) (fun hc_194 => ?_)
                  · skip
                    exact zr_vret (pc := 202) rfl hf_N27_ ⟨i29_, (show ((1 ≤ ze N27_ 81 7 ∧ (ze Mz 81 7 = 0 → zRea (zfs b_ n_ F_ K_ nm_) (0, (ze Mz 81 4).toNat, [], [], 0, false) zFt)) ∨ (ze N27_ 81 7 = 0 ∧ ze Mz 81 7 = 0 ∧ zRea (zfs b_ n_ F_ K_ nm_) (0, (ze Mz 81 4).toNat, [], [], 0, false) (zRst 3 F_ N27_) ∧ zRI F_ K_ 1 N27_ ∧ zrS N27_ = [] ∧ ze Mz 81 4 ≤ ze N27_ 81 4)) from Or.inl (⟨(show 1 ≤ ze N27_ 81 7 by first | (exact hl27_0_i30_) | assumption | exact fun _ => hrt_), (show (ze Mz 81 7 = 0 → zRea (zfs b_ n_ F_ K_ nm_) (0, (ze Mz 81 4).toNat, [], [], 0, false) zFt) by first | (exact hl27_1_i30_) | assumption | exact fun _ => hrt_)⟩))⟩ (zdal_p dlC_M_formula_98 (i := 7) rfl)
                  · skip
                    exact absurd hc_194 (by decide)
              · skip
                exact absurd hc_175 (by decide)
          · skip
            exact absurd hc_31 (by decide)
      · skip
        have hr0_ := hl27_2_i30_
        have hc0_ := hl27_3_i30_
        refine zw_aload_n (pc := 27) (n := 0) (x := 81) rfl (zdal_p dlC_M_formula_94 (i := 17) rfl) ?_
        refine zr_callV (hf_N27_.w hW) hf_N27_.x (pc := 28) [] [] l_M_183 (c_M_isGood l N27_ (hf_N27_.w hW) ) rfl rfl rfl (by decide) (Nat.le_of_ble_eq_true rfl) (zdal_p dlC_M_formula_94 (i := 18) rfl) ?_
        rintro _ N40_ ⟨v41_, rfl, ⟨hv41_a, hv41_b⟩, hsN40_, hp0_N40_⟩
        obtain rfl := hsN40_.eq.symm
        replace hp0_N40_ : ((v41_ = 1 ∧ ze N27_ 81 7 = 0) ∨ (v41_ = 0 ∧ ze N27_ 81 7 ≠ 0)) := hp0_N40_
        rcases hp0_N40_ with ⟨rfl, ha28_0_hp0_N40_⟩ | ⟨rfl, ha28_0_hp0_N40_⟩
        · skip
          show zW l m_M_formula (zn Mz + 0, zw Mz + 0) N27_ 31 [some (.ref 81), some (.int (Int32.ofInt 1))] [.int (Int32.ofInt 1)] _
          refine zr_if_eq (pc := 31) (tgt := 171) ⟨(by decide), (by decide)⟩ (by decide) (zdal_p dlC_M_formula_94 (i := 19) rfl) (fun hc_31 => ?_) (fun hc_31 => ?_)
          · skip
            exact absurd hc_31 (by decide)
          · skip
            refine zw_iload_n (pc := 34) (n := 1) (x := Int32.ofInt 1) rfl (zdal_p dlC_M_formula_94 (i := 20) rfl) ?_
            refine zr_if_eq (pc := 35) (tgt := 171) ⟨(by decide), (by decide)⟩ (by decide) (zdal_p dlC_M_formula_94 (i := 21) rfl) (fun hc_35 => ?_) (fun hc_35 => ?_)
            · skip
              exact absurd hc_35 (by decide)
            · skip
              have lp_38 : ∀ (n : Nat) (u42_ : Int) (hu42_a : -2147483648 ≤ u42_) (hu42_b : u42_ < 2147483648) (hu42_z : u42_ = 0 ∨ u42_ = 1) (N43_ : zMem) (hs44_ : zFr [3, 4, 5, 6, 7, 8, 11, 38, 39, 41, 42, 43] [95, 100] N27_ N43_) (i45_ : zRt b_ n_ N43_) (i46_ : (1 ≤ ze N43_ 81 7 ∧ (ze Mz 81 7 = 0 → zRea (zfs b_ n_ F_ K_ nm_) (0, (ze Mz 81 4).toNat, [], [], 0, false) zFt)) ∨ (ze N43_ 81 7 = 0 ∧ ze Mz 81 7 = 0 ∧ zRea (zfs b_ n_ F_ K_ nm_) (0, (ze Mz 81 4).toNat, [], [], 0, false) (zRst 0 F_ N43_) ∧ zRI F_ K_ 0 N43_ ∧ 0 ≤ ze N43_ 81 43 ∧ ze N43_ 81 43 ≤ 30 ∧ ze Mz 81 4 ≤ ze N43_ 81 4 ∧ ze N27_ 81 4 ≤ ze N43_ 81 4)), zmF n_ N43_ < n → zW l m_M_formula (zn Mz + 0, zw Mz + 0) N43_ 38 [some (.ref 81), some (.int (Int32.ofInt u42_))] [] (zpV [3, 4, 5, 6, 7, 8, 11, 38, 39, 41, 42, 43] [95, 96, 97, 100] Mz (fun N => zRt b_ n_ N ∧ (((1 ≤ ze N 81 7 ∧ (ze Mz 81 7 = 0 → zRea (zfs b_ n_ F_ K_ nm_) (0, (ze Mz 81 4).toNat, [], [], 0, false) zFt)) ∨ (ze N 81 7 = 0 ∧ ze Mz 81 7 = 0 ∧ zRea (zfs b_ n_ F_ K_ nm_) (0, (ze Mz 81 4).toNat, [], [], 0, false) (zRst 3 F_ N) ∧ zRI F_ K_ 1 N ∧ zrS N = [] ∧ ze Mz 81 4 ≤ ze N 81 4))))) := by
                clear hu26_a hu26_b hu26_z hv41_a hv41_b
                intro n
                induction n with
                | zero =>
                  intro u42_ hu42_a hu42_b hu42_z N43_ hs44_ i45_ i46_ h0
                  exact absurd h0 (Nat.not_lt_zero _)
                | succ n ih_38 =>
                  intro u42_ hu42_a hu42_b hu42_z N43_ hs44_ i45_ i46_ hlt_38
                  have hf_N43_ := hf_N27_.tr hs44_ (by decide +kernel) (by decide +kernel)
                  have hb0_N43_ := hs28_.tr hs44_ (by decide +kernel) (by decide +kernel)
                  have r3_N43_ := ze_r N43_ 81 3
                  have r4_N43_ := ze_r N43_ 81 4
                  have r7_N43_ := ze_r N43_ 81 7
                  have r38_N43_ := ze_r N43_ 81 38
                  have r39_N43_ := ze_r N43_ 81 39
                  have r41_N43_ := ze_r N43_ 81 41
                  have r42_N43_ := ze_r N43_ 81 42
                  have r43_N43_ := ze_r N43_ 81 43
                  have c47_ : zRmk F_ K_ N43_ := zRmk.fr hs44_ c31_ (by decide +kernel) (by decide +kernel)
                  have c48_ : zRb b_ n_ N43_ := zRb.fr hs44_ c32_ (by decide +kernel) (by decide +kernel)
                  have c49_ : zRNm nm_ F_ K_ b_ n_ N43_ := zRNm.fr hs44_ c33_ (by decide +kernel) (by decide +kernel)
                  rcases i46_ with ⟨hl38_0_i46_, hl38_1_i46_⟩ | ⟨hl38_0_i46_, hl38_1_i46_, hl38_2_i46_, hl38_3_i46_, hl38_4_i46_, hl38_5_i46_, hl38_6_i46_, hl38_7_i46_⟩
                  · skip
                    refine zw_aload_n (pc := 38) (n := 0) (x := 81) rfl (zdal_p dlC_M_formula_94 (i := 22) rfl) ?_
                    refine zr_callV (hf_N43_.w hW) hf_N43_.x (pc := 39) [] [] l_M_183 (c_M_isGood l N43_ (hf_N43_.w hW) ) rfl rfl rfl (by decide) (Nat.le_of_ble_eq_true rfl) (zdal_p dlC_M_formula_94 (i := 23) rfl) ?_
                    rintro _ N50_ ⟨v51_, rfl, ⟨hv51_a, hv51_b⟩, hsN50_, hp0_N50_⟩
                    obtain rfl := hsN50_.eq.symm
                    replace hp0_N50_ : ((v51_ = 1 ∧ ze N43_ 81 7 = 0) ∨ (v51_ = 0 ∧ ze N43_ 81 7 ≠ 0)) := hp0_N50_
                    rcases hp0_N50_ with ⟨rfl, ha39_0_hp0_N50_⟩ | ⟨rfl, ha39_0_hp0_N50_⟩
                    · skip
                      exfalso; (exact zo_281 ha39_0_hp0_N50_ hl38_0_i46_)
                    · skip
                      show zW l m_M_formula (zn Mz + 0, zw Mz + 0) N43_ 42 [some (.ref 81), some (.int (Int32.ofInt u42_))] [.int (Int32.ofInt 0)] _
                      refine zr_if_eq (pc := 42) (tgt := 57) ⟨(by decide), (by decide)⟩ (by decide) (zdal_p dlC_M_formula_95 (i := 0) rfl) (fun hc_42 => ?_) (fun hc_42 => ?_)
                      · skip
                        refine zw_aload_n (pc := 57) (n := 0) (x := 81) rfl (zdal_p dlC_M_formula_95 (i := 7) rfl) ?_
                        refine zr_callV (hf_N43_.w hW) hf_N43_.x (pc := 58) [] [] l_M_183 (c_M_isGood l N43_ (hf_N43_.w hW) ) rfl rfl rfl (by decide) (Nat.le_of_ble_eq_true rfl) (zdal_p dlC_M_formula_95 (i := 8) rfl) ?_
                        rintro _ N52_ ⟨v53_, rfl, ⟨hv53_a, hv53_b⟩, hsN52_, hp0_N52_⟩
                        obtain rfl := hsN52_.eq.symm
                        replace hp0_N52_ : ((v53_ = 1 ∧ ze N43_ 81 7 = 0) ∨ (v53_ = 0 ∧ ze N43_ 81 7 ≠ 0)) := hp0_N52_
                        rcases hp0_N52_ with ⟨rfl, ha58_0_hp0_N52_⟩ | ⟨rfl, ha58_0_hp0_N52_⟩
                        · skip
                          exfalso; (exact zo_281 ha58_0_hp0_N52_ hl38_0_i46_)
                        · skip
                          show zW l m_M_formula (zn Mz + 0, zw Mz + 0) N43_ 61 [some (.ref 81), some (.int (Int32.ofInt u42_))] [.int (Int32.ofInt 0)] _
                          refine zr_if_eq (pc := 61) (tgt := 68) ⟨(by decide), (by decide)⟩ (by decide) (zdal_p dlC_M_formula_95 (i := 9) rfl) (fun hc_61 => ?_) (fun hc_61 => ?_)
                          · skip
                            refine zw_aload_n (pc := 68) (n := 0) (x := 81) rfl (zdal_p dlC_M_formula_95 (i := 12) rfl) ?_
                            refine zr_callV (hf_N43_.w hW) hf_N43_.x (pc := 69) [] [] l_M_183 (c_M_isGood l N43_ (hf_N43_.w hW) ) rfl rfl rfl (by decide) (Nat.le_of_ble_eq_true rfl) (zdal_p dlC_M_formula_95 (i := 13) rfl) ?_
                            rintro _ N54_ ⟨v55_, rfl, ⟨hv55_a, hv55_b⟩, hsN54_, hp0_N54_⟩
                            obtain rfl := hsN54_.eq.symm
                            replace hp0_N54_ : ((v55_ = 1 ∧ ze N43_ 81 7 = 0) ∨ (v55_ = 0 ∧ ze N43_ 81 7 ≠ 0)) := hp0_N54_
                            rcases hp0_N54_ with ⟨rfl, ha69_0_hp0_N54_⟩ | ⟨rfl, ha69_0_hp0_N54_⟩
                            · skip
                              exfalso; (exact zo_281 ha69_0_hp0_N54_ hl38_0_i46_)
                            · skip
                              show zW l m_M_formula (zn Mz + 0, zw Mz + 0) N43_ 72 [some (.ref 81), some (.int (Int32.ofInt u42_))] [.int (Int32.ofInt 0)] _
                              refine zr_if_eq (pc := 72) (tgt := 86) ⟨(by decide), (by decide)⟩ (by decide) (zdal_p dlC_M_formula_95 (i := 14) rfl) (fun hc_72 => ?_) (fun hc_72 => ?_)
                              · skip
                                refine zw_iconst (pc := 86) (v := Int32.ofInt 0) (by decide) (zdal_p dlC_M_formula_95 (i := 20) rfl) ?_
                                refine zw_istore_n (pc := 87) (i := 1) (L2 := [some (.ref 81), some (.int (Int32.ofInt 0))]) rfl (by decide) rfl d_M_formula_87 ?_
                                have lp_88 : ∀ (n : Nat) (u56_ : Int) (hu56_a : -2147483648 ≤ u56_) (hu56_b : u56_ < 2147483648) (hu56_z : u56_ = 0 ∨ u56_ = 1) (N57_ : zMem) (hs58_ : zFr [3, 4, 5, 6, 7, 8, 11, 38, 39, 41, 42] [95, 96, 97, 100] N43_ N57_) (i59_ : zRt b_ n_ N57_) (i60_ : (1 ≤ ze N57_ 81 7 ∧ (ze Mz 81 7 = 0 → zRea (zfs b_ n_ F_ K_ nm_) (0, (ze Mz 81 4).toNat, [], [], 0, false) zFt)) ∨ (u56_ = 1 ∧ ze N57_ 81 7 = 0 ∧ ze Mz 81 7 = 0 ∧ zRea (zfs b_ n_ F_ K_ nm_) (0, (ze Mz 81 4).toNat, [], [], 0, false) (zRst 0 F_ N57_) ∧ zRI F_ K_ 0 N57_ ∧ 0 ≤ ze N57_ 81 43 ∧ ze N57_ 81 43 ≤ 30 ∧ ze Mz 81 4 ≤ ze N57_ 81 4 ∧ ze N27_ 81 4 < ze N57_ 81 4) ∨ (u56_ = 0 ∧ ze N57_ 81 7 = 0 ∧ ze Mz 81 7 = 0 ∧ zRea (zfs b_ n_ F_ K_ nm_) (0, (ze Mz 81 4).toNat, [], [], 0, false) (zRst 2 F_ N57_) ∧ zRI F_ K_ 1 N57_ ∧ 0 ≤ ze N57_ 81 43 ∧ ze N57_ 81 43 ≤ 30 ∧ (zrS N57_).head? ≠ some 1 ∧ ¬ (zisg b_ n_ (ze N57_ 81 4).toNat 42 ∨ zisg b_ n_ (ze N57_ 81 4).toNat 43 ∨ zisg b_ n_ (ze N57_ 81 4).toNat 45) ∧ ze Mz 81 4 ≤ ze N57_ 81 4 ∧ ze N27_ 81 4 < ze N57_ 81 4)), zmF n_ N57_ < n → zW l m_M_formula (zn Mz + 0, zw Mz + 0) N57_ 88 [some (.ref 81), some (.int (Int32.ofInt u56_))] [] (zpV [3, 4, 5, 6, 7, 8, 11, 38, 39, 41, 42, 43] [95, 96, 97, 100] Mz (fun N => zRt b_ n_ N ∧ (((1 ≤ ze N 81 7 ∧ (ze Mz 81 7 = 0 → zRea (zfs b_ n_ F_ K_ nm_) (0, (ze Mz 81 4).toNat, [], [], 0, false) zFt)) ∨ (ze N 81 7 = 0 ∧ ze Mz 81 7 = 0 ∧ zRea (zfs b_ n_ F_ K_ nm_) (0, (ze Mz 81 4).toNat, [], [], 0, false) (zRst 3 F_ N) ∧ zRI F_ K_ 1 N ∧ zrS N = [] ∧ ze Mz 81 4 ≤ ze N 81 4))))) := by
                                  clear hu42_a hu42_b hu42_z hv51_a hv51_b hv53_a hv53_b hv55_a hv55_b
                                  intro n
                                  induction n with
                                  | zero =>
                                    intro u56_ hu56_a hu56_b hu56_z N57_ hs58_ i59_ i60_ h0
                                    exact absurd h0 (Nat.not_lt_zero _)
                                  | succ n ih_88 =>
                                    intro u56_ hu56_a hu56_b hu56_z N57_ hs58_ i59_ i60_ hlt_88
                                    have hf_N57_ := hf_N43_.tr hs58_ (by decide +kernel) (by decide +kernel)
                                    have hb0_N57_ := hb0_N43_.tr hs58_ (by decide +kernel) (by decide +kernel)
                                    have r3_N57_ := ze_r N57_ 81 3
                                    have r4_N57_ := ze_r N57_ 81 4
                                    have r7_N57_ := ze_r N57_ 81 7
                                    have r38_N57_ := ze_r N57_ 81 38
                                    have r39_N57_ := ze_r N57_ 81 39
                                    have r41_N57_ := ze_r N57_ 81 41
                                    have r42_N57_ := ze_r N57_ 81 42
                                    have e43_N57_ : ze N57_ 81 43 = ze N43_ 81 43 := hs58_.e (by decide)
                                    have c61_ : zRmk F_ K_ N57_ := zRmk.fr hs58_ c47_ (by decide +kernel) (by decide +kernel)
                                    have c62_ : zRb b_ n_ N57_ := zRb.fr hs58_ c48_ (by decide +kernel) (by decide +kernel)
                                    have c63_ : zRNm nm_ F_ K_ b_ n_ N57_ := zRNm.fr hs58_ c49_ (by decide +kernel) (by decide +kernel)
                                    rcases i60_ with ⟨hl88_0_i60_, hl88_1_i60_⟩ | ⟨rfl, hl88_0_i60_, hl88_1_i60_, hl88_2_i60_, hl88_3_i60_, hl88_4_i60_, hl88_5_i60_, hl88_6_i60_, hl88_7_i60_⟩ | ⟨rfl, hl88_0_i60_, hl88_1_i60_, hl88_2_i60_, hl88_3_i60_, hl88_4_i60_, hl88_5_i60_, hl88_6_i60_, hl88_7_i60_, hl88_8_i60_, hl88_9_i60_⟩
                                    · skip
                                      refine zw_aload_n (pc := 88) (n := 0) (x := 81) rfl d_M_formula_88 ?_
                                      refine zr_callV (hf_N57_.w hW) hf_N57_.x (pc := 89) [] [] l_M_183 (c_M_isGood l N57_ (hf_N57_.w hW) ) rfl rfl rfl (by decide) (Nat.le_of_ble_eq_true rfl) d_M_formula_89 ?_
                                      rintro _ N64_ ⟨v65_, rfl, ⟨hv65_a, hv65_b⟩, hsN64_, hp0_N64_⟩
                                      obtain rfl := hsN64_.eq.symm
                                      replace hp0_N64_ : ((v65_ = 1 ∧ ze N57_ 81 7 = 0) ∨ (v65_ = 0 ∧ ze N57_ 81 7 ≠ 0)) := hp0_N64_
                                      rcases hp0_N64_ with ⟨rfl, ha89_0_hp0_N64_⟩ | ⟨rfl, ha89_0_hp0_N64_⟩
                                      · skip
                                        exfalso; (exact zo_281 ha89_0_hp0_N64_ hl88_0_i60_)
                                      · skip
                                        show zW l m_M_formula (zn Mz + 0, zw Mz + 0) N57_ 92 [some (.ref 81), some (.int (Int32.ofInt u56_))] [.int (Int32.ofInt 0)] _
                                        refine zr_if_eq (pc := 92) (tgt := 27) ⟨(by decide), (by decide)⟩ (by decide) d_M_formula_92 (fun hc_92 => ?_) (fun hc_92 => ?_)
                                        · skip
                                          exact ih_27 u56_ hu56_a hu56_b (by (exact hu56_z)) N57_ hb0_N57_ i59_ (show (1 ≤ ze N57_ 81 7 ∧ (ze Mz 81 7 = 0 → zRea (zfs b_ n_ F_ K_ nm_) (0, (ze Mz 81 4).toNat, [], [], 0, false) zFt)) ∨ (u56_ = 1 ∧ ze N57_ 81 7 = 0 ∧ ze Mz 81 7 = 0 ∧ zRea (zfs b_ n_ F_ K_ nm_) (0, (ze Mz 81 4).toNat, [], [], 0, false) (zRst 0 F_ N57_) ∧ zRI F_ K_ 0 N57_ ∧ 0 ≤ ze N57_ 81 43 ∧ ze N57_ 81 43 ≤ 30 ∧ ze Mz 81 4 ≤ ze N57_ 81 4) ∨ (u56_ = 0 ∧ ze N57_ 81 7 = 0 ∧ ze Mz 81 7 = 0 ∧ zRea (zfs b_ n_ F_ K_ nm_) (0, (ze Mz 81 4).toNat, [], [], 0, false) (zRst 2 F_ N57_) ∧ zRI F_ K_ 1 N57_ ∧ 0 ≤ ze N57_ 81 43 ∧ ze N57_ 81 43 ≤ 30 ∧ (zrS N57_).head? ≠ some 1 ∧ ¬ (zisg b_ n_ (ze N57_ 81 4).toNat 42 ∨ zisg b_ n_ (ze N57_ 81 4).toNat 43 ∨ zisg b_ n_ (ze N57_ 81 4).toNat 45) ∧ ze Mz 81 4 ≤ ze N57_ 81 4 ∧ ¬ (zisg b_ n_ (ze N57_ 81 4).toNat 41 ∧ 0 ∈ zrS N57_)) from Or.inl (⟨(show 1 ≤ ze N57_ 81 7 by first | rfl | assumption | omega | exact fun _ => hrt_ | exact hx0_ | exact hx1_ | exact hg0_ | exact hg1_), (show (ze Mz 81 7 = 0 → zRea (zfs b_ n_ F_ K_ nm_) (0, (ze Mz 81 4).toNat, [], [], 0, false) zFt) by first | rfl | assumption | omega | exact fun _ => hrt_ | exact hx0_ | exact hx1_ | exact hg0_ | exact hg1_)⟩)) (by have m1_ := zmF_c n_ N57_; have m2_ := zmF_c n_ N27_; have m3_ := i59_.x; omega)
                                        · skip
                                          exact absurd hc_92 (by decide)
                                    · skip
                                      have hr0_ := hl88_2_i60_
                                      have hc0_ := hl88_3_i60_
                                      refine zw_aload_n (pc := 88) (n := 0) (x := 81) rfl d_M_formula_88 ?_
                                      refine zr_callV (hf_N57_.w hW) hf_N57_.x (pc := 89) [] [] l_M_183 (c_M_isGood l N57_ (hf_N57_.w hW) ) rfl rfl rfl (by decide) (Nat.le_of_ble_eq_true rfl) d_M_formula_89 ?_
                                      rintro _ N66_ ⟨v67_, rfl, ⟨hv67_a, hv67_b⟩, hsN66_, hp0_N66_⟩
                                      obtain rfl := hsN66_.eq.symm
                                      replace hp0_N66_ : ((v67_ = 1 ∧ ze N57_ 81 7 = 0) ∨ (v67_ = 0 ∧ ze N57_ 81 7 ≠ 0)) := hp0_N66_
                                      rcases hp0_N66_ with ⟨rfl, ha89_0_hp0_N66_⟩ | ⟨rfl, ha89_0_hp0_N66_⟩
                                      · skip
                                        show zW l m_M_formula (zn Mz + 0, zw Mz + 0) N57_ 92 [some (.ref 81), some (.int (Int32.ofInt 1))] [.int (Int32.ofInt 1)] _
                                        refine zr_if_eq (pc := 92) (tgt := 27) ⟨(by decide), (by decide)⟩ (by decide) d_M_formula_92 (fun hc_92 => ?_) (fun hc_92 => ?_)
                                        · skip
                                          exact absurd hc_92 (by decide)
                                        · skip
                                          refine zw_iload_n (pc := 95) (n := 1) (x := Int32.ofInt 1) rfl d_M_formula_95 ?_
                                          refine zr_if_ne (pc := 96) (tgt := 27) ⟨(by decide), (by decide)⟩ (by decide) d_M_formula_96 (fun hc_96 => ?_) (fun hc_96 => ?_)
                                          · skip
                                            exact ih_27 1 (by decide) (by decide) (by (exact hu56_z)) N57_ hb0_N57_ i59_ (show (1 ≤ ze N57_ 81 7 ∧ (ze Mz 81 7 = 0 → zRea (zfs b_ n_ F_ K_ nm_) (0, (ze Mz 81 4).toNat, [], [], 0, false) zFt)) ∨ ((1 : Int) = 1 ∧ ze N57_ 81 7 = 0 ∧ ze Mz 81 7 = 0 ∧ zRea (zfs b_ n_ F_ K_ nm_) (0, (ze Mz 81 4).toNat, [], [], 0, false) (zRst 0 F_ N57_) ∧ zRI F_ K_ 0 N57_ ∧ 0 ≤ ze N57_ 81 43 ∧ ze N57_ 81 43 ≤ 30 ∧ ze Mz 81 4 ≤ ze N57_ 81 4) ∨ ((1 : Int) = 0 ∧ ze N57_ 81 7 = 0 ∧ ze Mz 81 7 = 0 ∧ zRea (zfs b_ n_ F_ K_ nm_) (0, (ze Mz 81 4).toNat, [], [], 0, false) (zRst 2 F_ N57_) ∧ zRI F_ K_ 1 N57_ ∧ 0 ≤ ze N57_ 81 43 ∧ ze N57_ 81 43 ≤ 30 ∧ (zrS N57_).head? ≠ some 1 ∧ ¬ (zisg b_ n_ (ze N57_ 81 4).toNat 42 ∨ zisg b_ n_ (ze N57_ 81 4).toNat 43 ∨ zisg b_ n_ (ze N57_ 81 4).toNat 45) ∧ ze Mz 81 4 ≤ ze N57_ 81 4 ∧ ¬ (zisg b_ n_ (ze N57_ 81 4).toNat 41 ∧ 0 ∈ zrS N57_)) from Or.inr (Or.inl (⟨(show (1 : Int) = 1 by first | rfl | assumption | omega | exact fun _ => hrt_ | exact hx0_ | exact hx1_ | exact hg0_ | exact hg1_), (show ze N57_ 81 7 = 0 by first | rfl | assumption | omega | exact fun _ => hrt_ | exact hx0_ | exact hx1_ | exact hg0_ | exact hg1_), (show ze Mz 81 7 = 0 by first | rfl | assumption | omega | exact fun _ => hrt_ | exact hx0_ | exact hx1_ | exact hg0_ | exact hg1_), (show zRea (zfs b_ n_ F_ K_ nm_) (0, (ze Mz 81 4).toNat, [], [], 0, false) (zRst 0 F_ N57_) by first | rfl | assumption | omega | exact fun _ => hrt_ | exact hx0_ | exact hx1_ | exact hg0_ | exact hg1_), (show zRI F_ K_ 0 N57_ by first | rfl | assumption | omega | exact fun _ => hrt_ | exact hx0_ | exact hx1_ | exact hg0_ | exact hg1_), (show 0 ≤ ze N57_ 81 43 by first | rfl | assumption | omega | exact fun _ => hrt_ | exact hx0_ | exact hx1_ | exact hg0_ | exact hg1_), (show ze N57_ 81 43 ≤ 30 by first | rfl | assumption | omega | exact fun _ => hrt_ | exact hx0_ | exact hx1_ | exact hg0_ | exact hg1_), (show ze Mz 81 4 ≤ ze N57_ 81 4 by first | rfl | assumption | omega | exact fun _ => hrt_ | exact hx0_ | exact hx1_ | exact hg0_ | exact hg1_)⟩))) (by have m1_ := zmF_c n_ N57_; have m2_ := zmF_c n_ N27_; have m3_ := i59_.x; omega)
                                          · skip
                                            exact absurd hc_96 (by decide)
                                      · skip
                                        exfalso; (exact zo_260 hl88_0_i60_ ha89_0_hp0_N66_)
                                    · skip
                                      have hr2_ := hl88_2_i60_
                                      have hc2_ := hl88_3_i60_
                                      have hh2_ := hl88_6_i60_
                                      have hn4_ := hl88_7_i60_
                                      refine zw_aload_n (pc := 88) (n := 0) (x := 81) rfl d_M_formula_88 ?_
                                      refine zr_callV (hf_N57_.w hW) hf_N57_.x (pc := 89) [] [] l_M_183 (c_M_isGood l N57_ (hf_N57_.w hW) ) rfl rfl rfl (by decide) (Nat.le_of_ble_eq_true rfl) d_M_formula_89 ?_
                                      rintro _ N68_ ⟨v69_, rfl, ⟨hv69_a, hv69_b⟩, hsN68_, hp0_N68_⟩
                                      obtain rfl := hsN68_.eq.symm
                                      replace hp0_N68_ : ((v69_ = 1 ∧ ze N57_ 81 7 = 0) ∨ (v69_ = 0 ∧ ze N57_ 81 7 ≠ 0)) := hp0_N68_
                                      rcases hp0_N68_ with ⟨rfl, ha89_0_hp0_N68_⟩ | ⟨rfl, ha89_0_hp0_N68_⟩
                                      · skip
                                        show zW l m_M_formula (zn Mz + 0, zw Mz + 0) N57_ 92 [some (.ref 81), some (.int (Int32.ofInt 0))] [.int (Int32.ofInt 1)] _
                                        refine zr_if_eq (pc := 92) (tgt := 27) ⟨(by decide), (by decide)⟩ (by decide) d_M_formula_92 (fun hc_92 => ?_) (fun hc_92 => ?_)
                                        · skip
                                          exact absurd hc_92 (by decide)
                                        · skip
                                          refine zw_iload_n (pc := 95) (n := 1) (x := Int32.ofInt 0) rfl d_M_formula_95 ?_
                                          refine zr_if_ne (pc := 96) (tgt := 27) ⟨(by decide), (by decide)⟩ (by decide) d_M_formula_96 (fun hc_96 => ?_) (fun hc_96 => ?_)
                                          · skip
                                            exact absurd hc_96 (by decide)
                                          · skip
                                            refine zw_aload_n (pc := 99) (n := 0) (x := 81) rfl d_M_formula_99 ?_
                                            refine zw_bipush (pc := 100) (v := Int32.ofInt 41) (by decide) d_M_formula_100 ?_
                                            refine zr_callV (hf_N57_.w hW) hf_N57_.x (pc := 102) [.int (Int32.ofInt 41)] [] l_M_187 (c_M_isSignHereF l N57_ (hf_N57_.w hW) 41 (by decide) (by decide) b_ n_ i59_) rfl rfl rfl (by decide) (Nat.le_of_ble_eq_true rfl) d_M_formula_102 ?_
                                            rintro _ N70_ ⟨v71_, rfl, ⟨hv71_a, hv71_b⟩, hsN70_, hp0_N70_⟩
                                            obtain rfl := hsN70_.eq.symm
                                            replace hp0_N70_ : ((v71_ = 1 ∧ ze N57_ 81 7 = 0 ∧ zisg b_ n_ (ze N57_ 81 4).toNat 41) ∨ (v71_ = 0 ∧ (ze N57_ 81 7 = 0 → ¬ zisg b_ n_ (ze N57_ 81 4).toNat 41))) := hp0_N70_
                                            rcases hp0_N70_ with ⟨rfl, ha102_0_hp0_N70_, ha102_1_hp0_N70_⟩ | ⟨rfl, ha102_0_hp0_N70_⟩
                                            · skip
                                              have hC_ := ha102_1_hp0_N70_
                                              show zW l m_M_formula (zn Mz + 0, zw Mz + 0) N57_ 105 [some (.ref 81), some (.int (Int32.ofInt 0))] [.int (Int32.ofInt 1)] _
                                              refine zr_if_eq (pc := 105) (tgt := 27) ⟨(by decide), (by decide)⟩ (by decide) d_M_formula_105 (fun hc_105 => ?_) (fun hc_105 => ?_)
                                              · skip
                                                exact absurd hc_105 (by decide)
                                              · skip
                                                refine zw_aload_n (pc := 108) (n := 0) (x := 81) rfl d_M_formula_108 ?_
                                                refine zr_callV (hf_N57_.w hW) hf_N57_.x (pc := 109) [] [] l_M_352 (c_M_isOpenF l N57_ (hf_N57_.w hW) F_ K_ hc2_) rfl rfl rfl (by decide) (Nat.le_of_ble_eq_true rfl) d_M_formula_109 ?_
                                                rintro _ N72_ ⟨v73_, rfl, ⟨hv73_a, hv73_b⟩, hsN72_, hp0_N72_⟩
                                                obtain rfl := hsN72_.eq.symm
                                                replace hp0_N72_ : ((v73_ = 1 ∧ 0 ∈ zrS N57_) ∨ (v73_ = 0 ∧ ¬ 0 ∈ zrS N57_)) := hp0_N72_
                                                rcases hp0_N72_ with ⟨rfl, ha109_0_hp0_N72_⟩ | ⟨rfl, ha109_0_hp0_N72_⟩
                                                · skip
                                                  have hM0_ := ha109_0_hp0_N72_
                                                  show zW l m_M_formula (zn Mz + 0, zw Mz + 0) N57_ 112 [some (.ref 81), some (.int (Int32.ofInt 0))] [.int (Int32.ofInt 1)] _
                                                  refine zr_if_eq (pc := 112) (tgt := 27) ⟨(by decide), (by decide)⟩ (by decide) d_M_formula_112 (fun hc_112 => ?_) (fun hc_112 => ?_)
                                                  · skip
                                                    exact absurd hc_112 (by decide)
                                                  · skip
                                                    refine zw_aload_n (pc := 115) (n := 0) (x := 81) rfl d_M_formula_115 ?_
                                                    refine zw_iconst (pc := 116) (v := Int32.ofInt 2) (by decide) d_M_formula_116 ?_
                                                    refine zr_callV (hf_N57_.w hW) hf_N57_.x (pc := 117) [.int (Int32.ofInt 2)] [] l_M_337 (c_M_worksF l N57_ (hf_N57_.w hW) 2 (by decide) (by decide) F_ K_ hA_ c61_ hc2_ (show 2 ≤ 2 by first | (decide) | assumption) (show 2 ≤ 4 by first | (decide) | assumption)) rfl rfl rfl (by decide) (Nat.le_of_ble_eq_true rfl) d_M_formula_117 ?_
                                                    rintro _ N74_ ⟨rfl, hsN74_, ⟨hp0_N74_, hp1_N74_, hp2_N74_, hp3_N74_⟩⟩
                                                    have hf_N74_ := hf_N57_.tr hsN74_ (by decide +kernel) (by decide +kernel)
                                                    have hb0_N74_ := hb0_N57_.tr hsN74_ (by decide +kernel) (by decide +kernel)
                                                    have hb1_N74_ := hs58_.tr hsN74_ (by decide +kernel) (by decide +kernel)
                                                    have e3_N74_ : ze N74_ 81 3 = ze N57_ 81 3 := hsN74_.e (by decide)
                                                    have e4_N74_ : ze N74_ 81 4 = ze N57_ 81 4 := hsN74_.e (by decide)
                                                    have e7_N74_ : ze N74_ 81 7 = ze N57_ 81 7 := hsN74_.e (by decide)
                                                    have r38_N74_ := ze_r N74_ 81 38
                                                    have r39_N74_ := ze_r N74_ 81 39
                                                    have r41_N74_ := ze_r N74_ 81 41
                                                    have e42_N74_ : ze N74_ 81 42 = ze N57_ 81 42 := hsN74_.e (by decide)
                                                    have e43_N74_ : ze N74_ 81 43 = ze N57_ 81 43 := hsN74_.e (by decide)
                                                    have c76_ : zRmk F_ K_ N74_ := zRmk.fr hsN74_ c61_ (by decide +kernel) (by decide +kernel)
                                                    have c77_ : zRb b_ n_ N74_ := zRb.fr hsN74_ c62_ (by decide +kernel) (by decide +kernel)
                                                    have c78_ : zRNm nm_ F_ K_ b_ n_ N74_ := zRNm.fr hsN74_ c63_ (by decide +kernel) (by decide +kernel)
                                                    have c79_ : zRt b_ n_ N74_ := zRt.fr hsN74_ i59_ (by decide +kernel) (by decide +kernel)
                                                    show zW l m_M_formula (zn Mz + 0, zw Mz + 0) N74_ 120 [some (.ref 81), some (.int (Int32.ofInt 0))] [] _
                                                    have hw1_ := hp1_N74_
                                                    have hw2_ := hp2_N74_
                                                    have hw3_ := hp3_N74_ hh2_
                                                    have hcr_ := hp0_N74_
                                                    have hcr0_ := hcr_.1
                                                    have hcr2_ := hcr_.2.2.1
                                                    have hhz_ := zhd_0 (show 0 ∈ (zrS N74_, zrW F_ N74_, zrG N74_).1 by rw [hw1_]; exact (zrk_m (by decide) _ _).mpr hM0_) hw3_ (fun y_ h_ => hw2_ y_ h_)
                                                    refine zw_aload_n (pc := 120) (n := 0) (x := 81) rfl d_M_formula_120 ?_
                                                    refine zw_dup (pc := 121) rfl d_M_formula_121 ?_
                                                    refine zr_getI (hf_N74_.w hW) (pc := 122) f_M_305 rfl d_M_formula_122 ?_
                                                    refine zw_iconst (pc := 125) (v := Int32.ofInt 1) (by decide) d_M_formula_125 ?_
                                                    refine zr_isub (pc := 126) d_M_formula_126 ?_
                                                    refine zr_putI (hf_N74_.w hW) (pc := 127) f_M_305 rfl rfl ⟨by (exact zo_600 hcr0_), by (exact zo_601 r41_N74_.2)⟩ rfl rfl d_M_formula_127 (fun N80_ hsN80_ hvN80_ => ?_)
                                                    have hf_N80_ := hf_N74_.tr hsN80_ (by decide +kernel) (by decide +kernel)
                                                    have hb0_N80_ := hb0_N74_.tr hsN80_ (by decide +kernel) (by decide +kernel)
                                                    have hb1_N80_ := hb1_N74_.tr hsN80_ (by decide +kernel) (by decide +kernel)
                                                    have e3_N80_ : ze N80_ 81 3 = ze N74_ 81 3 := hsN80_.e (by decide)
                                                    have e4_N80_ : ze N80_ 81 4 = ze N74_ 81 4 := hsN80_.e (by decide)
                                                    have e7_N80_ : ze N80_ 81 7 = ze N74_ 81 7 := hsN80_.e (by decide)
                                                    have e38_N80_ : ze N80_ 81 38 = ze N74_ 81 38 := hsN80_.e (by decide)
                                                    have e39_N80_ : ze N80_ 81 39 = ze N74_ 81 39 := hsN80_.e (by decide)
                                                    have r41_N80_ := ze_r N80_ 81 41
                                                    have e42_N80_ : ze N80_ 81 42 = ze N74_ 81 42 := hsN80_.e (by decide)
                                                    have e43_N80_ : ze N80_ 81 43 = ze N74_ 81 43 := hsN80_.e (by decide)
                                                    have qzrG_N80_ : zrG N80_ = zrG N74_ := zrG_q hsN80_ (by decide)
                                                    have qzrW_N80_ : zrW F_ N80_ = zrW F_ N74_ := zrW_q hsN80_ (by decide)
                                                    have c81_ : zRmk F_ K_ N80_ := zRmk.fr hsN80_ c76_ (by decide +kernel) (by decide +kernel)
                                                    have c82_ : zRb b_ n_ N80_ := zRb.fr hsN80_ c77_ (by decide +kernel) (by decide +kernel)
                                                    have c83_ : zRNm nm_ F_ K_ b_ n_ N80_ := zRNm.fr hsN80_ c78_ (by decide +kernel) (by decide +kernel)
                                                    have c84_ : zRt b_ n_ N80_ := zRt.fr hsN80_ c79_ (by decide +kernel) (by decide +kernel)
                                                    refine zw_aload_n (pc := 130) (n := 0) (x := 81) rfl d_M_formula_130 ?_
                                                    refine zw_dup (pc := 131) rfl d_M_formula_131 ?_
                                                    refine zr_getI (hf_N80_.w hW) (pc := 132) f_M_296 rfl d_M_formula_132 ?_
                                                    refine zw_iconst (pc := 135) (v := Int32.ofInt 1) (by decide) d_M_formula_135 ?_
                                                    refine zr_isub (pc := 136) d_M_formula_136 ?_
                                                    refine zr_putI (hf_N80_.w hW) (pc := 137) f_M_296 rfl rfl ⟨by (exact zo_602 e42_N80_ hcr2_), by (exact zo_65 e42_N74_ e42_N80_ r42_N57_.2)⟩ rfl rfl d_M_formula_137 (fun N85_ hsN85_ hvN85_ => ?_)
                                                    have hf_N85_ := hf_N80_.tr hsN85_ (by decide +kernel) (by decide +kernel)
                                                    have hb0_N85_ := hb0_N80_.tr hsN85_ (by decide +kernel) (by decide +kernel)
                                                    have hb1_N85_ := hb1_N80_.tr hsN85_ (by decide +kernel) (by decide +kernel)
                                                    have e3_N85_ : ze N85_ 81 3 = ze N80_ 81 3 := hsN85_.e (by decide)
                                                    have e4_N85_ : ze N85_ 81 4 = ze N80_ 81 4 := hsN85_.e (by decide)
                                                    have e7_N85_ : ze N85_ 81 7 = ze N80_ 81 7 := hsN85_.e (by decide)
                                                    have e38_N85_ : ze N85_ 81 38 = ze N80_ 81 38 := hsN85_.e (by decide)
                                                    have e39_N85_ : ze N85_ 81 39 = ze N80_ 81 39 := hsN85_.e (by decide)
                                                    have e41_N85_ : ze N85_ 81 41 = ze N80_ 81 41 := hsN85_.e (by decide)
                                                    have r42_N85_ := ze_r N85_ 81 42
                                                    have e43_N85_ : ze N85_ 81 43 = ze N80_ 81 43 := hsN85_.e (by decide)
                                                    have qzrS_N85_ : zrS N85_ = zrS N80_ := zrS_q hsN85_ (by decide)
                                                    have qzrG_N85_ : zrG N85_ = zrG N80_ := zrG_q hsN85_ (by decide)
                                                    have qzrW_N85_ : zrW F_ N85_ = zrW F_ N80_ := zrW_q hsN85_ (by decide)
                                                    have c86_ : zRmk F_ K_ N85_ := zRmk.fr hsN85_ c81_ (by decide +kernel) (by decide +kernel)
                                                    have c87_ : zRb b_ n_ N85_ := zRb.fr hsN85_ c82_ (by decide +kernel) (by decide +kernel)
                                                    have c88_ : zRNm nm_ F_ K_ b_ n_ N85_ := zRNm.fr hsN85_ c83_ (by decide +kernel) (by decide +kernel)
                                                    have c89_ : zRt b_ n_ N85_ := zRt.fr hsN85_ c84_ (by decide +kernel) (by decide +kernel)
                                                    have hcd_ := zRI_cl (Mz := N74_) (Nz := N85_) hF27_ hcr_ hhz_ (by (exact zo_603 e41_N85_ hvN80_)) (fun i_ => (hsN85_.ie (by decide) (by decide) i_).trans (hsN80_.ie (by decide) (by decide) i_)) (by (exact zo_604 e42_N80_ hcr2_ hvN85_ r42_N85_.2)) (by (exact zo_53 e38_N80_ e38_N85_)) (by (exact zo_53 e39_N80_ e39_N85_)) (fun x_ => (hsN85_.jg (by decide) (by decide) x_).trans (hsN80_.jg (by decide) (by decide) x_))
                                                    have hcd1_ := hcd_.1
                                                    have hyt_ := c89_
                                                    have hyx_ := hyt_.x
                                                    refine zw_aload_n (pc := 140) (n := 0) (x := 81) rfl d_M_formula_140 ?_
                                                    refine zr_callV (hf_N85_.w hW) hf_N85_.x (pc := 141) [] [] l_M_193 (c_M_goOnF l N85_ (hf_N85_.w hW) b_ n_ c87_ (show 0 ≤ ze N85_ 81 3 by first | (exact zo_57 hyx_.2.1) | assumption) (show ze N85_ 81 3 ≤ n_ by first | (exact zo_605 hyx_.2.2) | assumption)) rfl rfl rfl (by decide) (Nat.le_of_ble_eq_true rfl) d_M_formula_141 ?_
                                                    rintro _ N90_ ⟨rfl, hsN90_, ⟨hp0_N90_, hp1_N90_⟩⟩
                                                    have hf_N90_ := hf_N85_.tr hsN90_ (by decide +kernel) (by decide +kernel)
                                                    have hb0_N90_ := hb0_N85_.tr hsN90_ (by decide +kernel) (by decide +kernel)
                                                    have hb1_N90_ := hb1_N85_.tr hsN90_ (by decide +kernel) (by decide +kernel)
                                                    have r3_N90_ := ze_r N90_ 81 3
                                                    have r4_N90_ := ze_r N90_ 81 4
                                                    have e7_N90_ : ze N90_ 81 7 = ze N85_ 81 7 := hsN90_.e (by decide)
                                                    have e38_N90_ : ze N90_ 81 38 = ze N85_ 81 38 := hsN90_.e (by decide)
                                                    have e39_N90_ : ze N90_ 81 39 = ze N85_ 81 39 := hsN90_.e (by decide)
                                                    have e41_N90_ : ze N90_ 81 41 = ze N85_ 81 41 := hsN90_.e (by decide)
                                                    have e42_N90_ : ze N90_ 81 42 = ze N85_ 81 42 := hsN90_.e (by decide)
                                                    have e43_N90_ : ze N90_ 81 43 = ze N85_ 81 43 := hsN90_.e (by decide)
                                                    have qzrS_N90_ : zrS N90_ = zrS N85_ := zrS_q hsN90_ (by decide)
                                                    have qzrG_N90_ : zrG N90_ = zrG N85_ := zrG_q hsN90_ (by decide)
                                                    have qzrW_N90_ : zrW F_ N90_ = zrW F_ N85_ := zrW_q hsN90_ (by decide)
                                                    have c92_ : zRmk F_ K_ N90_ := zRmk.fr hsN90_ c86_ (by decide +kernel) (by decide +kernel)
                                                    have c93_ : zRb b_ n_ N90_ := zRb.fr hsN90_ c87_ (by decide +kernel) (by decide +kernel)
                                                    have c94_ : zRNm nm_ F_ K_ b_ n_ N90_ := zRNm.fr hsN90_ c88_ (by decide +kernel) (by decide +kernel)
                                                    have c95_ : zRI F_ K_ 1 N90_ := zRI.fr hsN90_ hcd1_ (by decide +kernel) (by decide +kernel)
                                                    show zW l m_M_formula (zn Mz + 0, zw Mz + 0) N90_ 144 [some (.ref 81), some (.int (Int32.ofInt 0))] [] _
                                                    have hnn_ := hyt_.nx hp0_N90_
                                                    have hst1_ := hr2_.tr (zRea.st (zr2_c (Rz := N74_) (c := (0, 0)) (F := F_) (K := K_) (nm := nm_) hC_ hM0_ hw1_ (qzrS_N90_.trans hcd_.2.1) (qzrW_N90_.trans hcd_.2.2.1) (qzrG_N90_.trans hcd_.2.2.2) (by (exact zo_52 e43_N74_ e43_N80_ e43_N85_ e43_N90_)) (hnn_.2.trans (by rw [show ze N85_ 81 4 = ze N57_ 81 4 by (exact zo_606 e4_N74_ e4_N80_ e4_N85_ hyx_.1.1 r4_N57_.2)]))))
                                                    have hnp_ := hnn_.2.trans (show znx b_ n_ (ze N85_ 81 4).toNat = znx b_ n_ (ze N57_ 81 4).toNat by rw [show ze N85_ 81 4 = ze N57_ 81 4 by (exact zo_606 e4_N74_ e4_N80_ e4_N85_ hyx_.1.1 r4_N57_.2)])
                                                    have hgx_ := znx_ge (b := b_) (n := n_) (s := (ze N57_ 81 4).toNat)
                                                    have hgy_ := znx_g (b := b_) (n := n_) (s := (ze N57_ 81 4).toNat) (by have h_ := hC_.1; (exact zo_607 h_))
                                                    refine zw_aload_n (pc := 144) (n := 0) (x := 81) rfl d_M_formula_144 ?_
                                                    refine zr_callV (hf_N90_.w hW) hf_N90_.x (pc := 145) [] [] l_M_346 (c_M_closesF l N90_ (hf_N90_.w hW) F_ K_ hA_ b_ n_ nm_ c92_ c93_ hp1_N90_ c95_ (show ze N90_ 81 7 = 0 by first | (exact zo_608 e7_N74_ e7_N80_ e7_N85_ e7_N90_ hl88_0_i60_) | assumption)) rfl rfl rfl (by decide) (Nat.le_of_ble_eq_true rfl) d_M_formula_145 ?_
                                                    rintro _ N96_ ⟨rfl, hsN96_, ⟨hp0_N96_, hp1_N96_, hp2_N96_⟩⟩
                                                    have hf_N96_ := hf_N90_.tr hsN96_ (by decide +kernel) (by decide +kernel)
                                                    have hb0_N96_ := hb0_N90_.tr hsN96_ (by decide +kernel) (by decide +kernel)
                                                    have hb1_N96_ := hb1_N90_.tr hsN96_ (by decide +kernel) (by decide +kernel)
                                                    have r3_N96_ := ze_r N96_ 81 3
                                                    have r4_N96_ := ze_r N96_ 81 4
                                                    have r7_N96_ := ze_r N96_ 81 7
                                                    have e38_N96_ : ze N96_ 81 38 = ze N90_ 81 38 := hsN96_.e (by decide)
                                                    have r39_N96_ := ze_r N96_ 81 39
                                                    have r41_N96_ := ze_r N96_ 81 41
                                                    have r42_N96_ := ze_r N96_ 81 42
                                                    have e43_N96_ : ze N96_ 81 43 = ze N90_ 81 43 := hsN96_.e (by decide)
                                                    have c98_ : zRmk F_ K_ N96_ := zRmk.fr hsN96_ c92_ (by decide +kernel) (by decide +kernel)
                                                    have c99_ : zRb b_ n_ N96_ := zRb.fr hsN96_ c93_ (by decide +kernel) (by decide +kernel)
                                                    have c100_ : zRNm nm_ F_ K_ b_ n_ N96_ := zRNm.fr hsN96_ c94_ (by decide +kernel) (by decide +kernel)
                                                    rcases hp2_N96_ with ⟨ha145_0_hp2_N96_, ha145_1_hp2_N96_⟩ | ⟨ha145_0_hp2_N96_, ha145_1_hp2_N96_, ha145_2_hp2_N96_, ha145_3_hp2_N96_, ha145_4_hp2_N96_⟩
                                                    · skip
                                                      have hrt_ := hst1_.tr ha145_1_hp2_N96_
                                                      show zW l m_M_formula (zn Mz + 0, zw Mz + 0) N96_ 148 [some (.ref 81), some (.int (Int32.ofInt 0))] [] _
                                                      refine zw_aload_n (pc := 148) (n := 0) (x := 81) rfl d_M_formula_148 ?_
                                                      refine zr_callV (hf_N96_.w hW) hf_N96_.x (pc := 149) [] [] l_M_183 (c_M_isGood l N96_ (hf_N96_.w hW) ) rfl rfl rfl (by decide) (Nat.le_of_ble_eq_true rfl) d_M_formula_149 ?_
                                                      rintro _ N101_ ⟨v102_, rfl, ⟨hv102_a, hv102_b⟩, hsN101_, hp0_N101_⟩
                                                      obtain rfl := hsN101_.eq.symm
                                                      replace hp0_N101_ : ((v102_ = 1 ∧ ze N96_ 81 7 = 0) ∨ (v102_ = 0 ∧ ze N96_ 81 7 ≠ 0)) := hp0_N101_
                                                      rcases hp0_N101_ with ⟨rfl, ha149_0_hp0_N101_⟩ | ⟨rfl, ha149_0_hp0_N101_⟩
                                                      · skip
                                                        exfalso; (exact zo_609 ha145_0_hp2_N96_ ha149_0_hp0_N101_)
                                                      · skip
                                                        show zW l m_M_formula (zn Mz + 0, zw Mz + 0) N96_ 152 [some (.ref 81), some (.int (Int32.ofInt 0))] [.int (Int32.ofInt 0)] _
                                                        refine zr_if_eq (pc := 152) (tgt := 166) ⟨(by decide), (by decide)⟩ (by decide) d_M_formula_152 (fun hc_152 => ?_) (fun hc_152 => ?_)
                                                        · skip
                                                          refine zw_iconst (pc := 166) (v := Int32.ofInt 0) (by decide) d_M_formula_166 ?_
                                                          refine zw_istore_n (pc := 167) (i := 1) (L2 := [some (.ref 81), some (.int (Int32.ofInt 0))]) rfl (by decide) rfl d_M_formula_167 ?_
                                                          refine zw_goto (pc := 168) (tgt := 88) (by decide) d_M_formula_168 ?_
                                                          exact ih_88 0 (by decide) (by decide) (by (exact hu56_z)) N96_ hb1_N96_ hp0_N96_ (show (1 ≤ ze N96_ 81 7 ∧ (ze Mz 81 7 = 0 → zRea (zfs b_ n_ F_ K_ nm_) (0, (ze Mz 81 4).toNat, [], [], 0, false) zFt)) ∨ ((0 : Int) = 1 ∧ ze N96_ 81 7 = 0 ∧ ze Mz 81 7 = 0 ∧ zRea (zfs b_ n_ F_ K_ nm_) (0, (ze Mz 81 4).toNat, [], [], 0, false) (zRst 0 F_ N96_) ∧ zRI F_ K_ 0 N96_ ∧ 0 ≤ ze N96_ 81 43 ∧ ze N96_ 81 43 ≤ 30 ∧ ze Mz 81 4 ≤ ze N96_ 81 4 ∧ ze N27_ 81 4 < ze N96_ 81 4) ∨ ((0 : Int) = 0 ∧ ze N96_ 81 7 = 0 ∧ ze Mz 81 7 = 0 ∧ zRea (zfs b_ n_ F_ K_ nm_) (0, (ze Mz 81 4).toNat, [], [], 0, false) (zRst 2 F_ N96_) ∧ zRI F_ K_ 1 N96_ ∧ 0 ≤ ze N96_ 81 43 ∧ ze N96_ 81 43 ≤ 30 ∧ (zrS N96_).head? ≠ some 1 ∧ ¬ (zisg b_ n_ (ze N96_ 81 4).toNat 42 ∨ zisg b_ n_ (ze N96_ 81 4).toNat 43 ∨ zisg b_ n_ (ze N96_ 81 4).toNat 45) ∧ ze Mz 81 4 ≤ ze N96_ 81 4 ∧ ze N27_ 81 4 < ze N96_ 81 4) from Or.inl (⟨(show 1 ≤ ze N96_ 81 7 by first | rfl | assumption | omega | exact fun _ => hrt_ | exact hx0_ | exact hx1_ | exact hg0_ | exact hg1_), (show (ze Mz 81 7 = 0 → zRea (zfs b_ n_ F_ K_ nm_) (0, (ze Mz 81 4).toNat, [], [], 0, false) zFt) by first | rfl | assumption | omega | exact fun _ => hrt_ | exact hx0_ | exact hx1_ | exact hg0_ | exact hg1_)⟩)) (by have m1_ := zmF_c n_ N96_; have m2_ := zmF_c n_ N57_; have m3_ := hp0_N96_.x; omega)
                                                        · skip
                                                          exact absurd hc_152 (by decide)
                                                    · skip
                                                      have hz0_ := hst1_.tr ha145_1_hp2_N96_
                                                      have hz1_ := ha145_2_hp2_N96_
                                                      have hz2_ := ha145_3_hp2_N96_
                                                      have hz3_ := ha145_4_hp2_N96_
                                                      show zW l m_M_formula (zn Mz + 0, zw Mz + 0) N96_ 148 [some (.ref 81), some (.int (Int32.ofInt 0))] [] _
                                                      refine zw_aload_n (pc := 148) (n := 0) (x := 81) rfl d_M_formula_148 ?_
                                                      refine zr_callV (hf_N96_.w hW) hf_N96_.x (pc := 149) [] [] l_M_183 (c_M_isGood l N96_ (hf_N96_.w hW) ) rfl rfl rfl (by decide) (Nat.le_of_ble_eq_true rfl) d_M_formula_149 ?_
                                                      rintro _ N103_ ⟨v104_, rfl, ⟨hv104_a, hv104_b⟩, hsN103_, hp0_N103_⟩
                                                      obtain rfl := hsN103_.eq.symm
                                                      replace hp0_N103_ : ((v104_ = 1 ∧ ze N96_ 81 7 = 0) ∨ (v104_ = 0 ∧ ze N96_ 81 7 ≠ 0)) := hp0_N103_
                                                      rcases hp0_N103_ with ⟨rfl, ha149_0_hp0_N103_⟩ | ⟨rfl, ha149_0_hp0_N103_⟩
                                                      · skip
                                                        show zW l m_M_formula (zn Mz + 0, zw Mz + 0) N96_ 152 [some (.ref 81), some (.int (Int32.ofInt 0))] [.int (Int32.ofInt 1)] _
                                                        refine zr_if_eq (pc := 152) (tgt := 166) ⟨(by decide), (by decide)⟩ (by decide) d_M_formula_152 (fun hc_152 => ?_) (fun hc_152 => ?_)
                                                        · skip
                                                          exact absurd hc_152 (by decide)
                                                        · skip
                                                          refine zw_aload_n (pc := 155) (n := 0) (x := 81) rfl d_M_formula_155 ?_
                                                          refine zr_callV (hf_N96_.w hW) hf_N96_.x (pc := 156) [] [] l_M_349 (c_M_goesOnF l N96_ (hf_N96_.w hW) F_ K_ hA_ b_ n_ nm_ c98_ c99_ hp0_N96_ hz1_ (show (zrS N96_).head? ≠ some 1 by first | (exact ha145_3_hp2_N96_) | assumption) (show ze N96_ 81 7 = 0 by first | (exact ha145_0_hp2_N96_) | assumption)) rfl rfl rfl (by decide) (Nat.le_of_ble_eq_true rfl) d_M_formula_156 ?_
                                                          rintro _ N105_ ⟨v106_, rfl, ⟨hv106_a, hv106_b⟩, hsN105_, ⟨hp0_N105_, hp1_N105_, hp2_N105_⟩⟩
                                                          have hf_N105_ := hf_N96_.tr hsN105_ (by decide +kernel) (by decide +kernel)
                                                          have hb0_N105_ := hb0_N96_.tr hsN105_ (by decide +kernel) (by decide +kernel)
                                                          have hb1_N105_ := hb1_N96_.tr hsN105_ (by decide +kernel) (by decide +kernel)
                                                          have r3_N105_ := ze_r N105_ 81 3
                                                          have r4_N105_ := ze_r N105_ 81 4
                                                          have e7_N105_ : ze N105_ 81 7 = ze N96_ 81 7 := hsN105_.e (by decide)
                                                          have r38_N105_ := ze_r N105_ 81 38
                                                          have r39_N105_ := ze_r N105_ 81 39
                                                          have r41_N105_ := ze_r N105_ 81 41
                                                          have e42_N105_ : ze N105_ 81 42 = ze N96_ 81 42 := hsN105_.e (by decide)
                                                          have e43_N105_ : ze N105_ 81 43 = ze N96_ 81 43 := hsN105_.e (by decide)
                                                          have c107_ : zRmk F_ K_ N105_ := zRmk.fr hsN105_ c98_ (by decide +kernel) (by decide +kernel)
                                                          have c108_ : zRb b_ n_ N105_ := zRb.fr hsN105_ c99_ (by decide +kernel) (by decide +kernel)
                                                          have c109_ : zRNm nm_ F_ K_ b_ n_ N105_ := zRNm.fr hsN105_ c100_ (by decide +kernel) (by decide +kernel)
                                                          rcases hp2_N105_ with ⟨rfl, ha156_0_hp2_N105_, ha156_1_hp2_N105_, ha156_2_hp2_N105_⟩ | ⟨rfl, ha156_0_hp2_N105_, ha156_1_hp2_N105_, ha156_2_hp2_N105_, ha156_3_hp2_N105_, ha156_4_hp2_N105_⟩
                                                          · skip
                                                            have hg0_ := hz0_.tr ha156_0_hp2_N105_
                                                            have hg1_ := ha156_1_hp2_N105_
                                                            have hg2_ := ha156_2_hp2_N105_
                                                            show zW l m_M_formula (zn Mz + 0, zw Mz + 0) N105_ 159 [some (.ref 81), some (.int (Int32.ofInt 0))] [.int (Int32.ofInt 1)] _
                                                            refine zr_if_eq (pc := 159) (tgt := 166) ⟨(by decide), (by decide)⟩ (by decide) d_M_formula_159 (fun hc_159 => ?_) (fun hc_159 => ?_)
                                                            · skip
                                                              exact absurd hc_159 (by decide)
                                                            · skip
                                                              refine zw_iconst (pc := 162) (v := Int32.ofInt 1) (by decide) d_M_formula_162 ?_
                                                              refine zw_goto (pc := 163) (tgt := 167) (by decide) d_M_formula_163 ?_
                                                              refine zw_istore_n (pc := 167) (i := 1) (L2 := [some (.ref 81), some (.int (Int32.ofInt 1))]) rfl (by decide) rfl d_M_formula_167 ?_
                                                              refine zw_goto (pc := 168) (tgt := 88) (by decide) d_M_formula_168 ?_
                                                              exact ih_88 1 (by decide) (by decide) (by (decide)) N105_ hb1_N105_ hp0_N105_ (show (1 ≤ ze N105_ 81 7 ∧ (ze Mz 81 7 = 0 → zRea (zfs b_ n_ F_ K_ nm_) (0, (ze Mz 81 4).toNat, [], [], 0, false) zFt)) ∨ ((1 : Int) = 1 ∧ ze N105_ 81 7 = 0 ∧ ze Mz 81 7 = 0 ∧ zRea (zfs b_ n_ F_ K_ nm_) (0, (ze Mz 81 4).toNat, [], [], 0, false) (zRst 0 F_ N105_) ∧ zRI F_ K_ 0 N105_ ∧ 0 ≤ ze N105_ 81 43 ∧ ze N105_ 81 43 ≤ 30 ∧ ze Mz 81 4 ≤ ze N105_ 81 4 ∧ ze N27_ 81 4 < ze N105_ 81 4) ∨ ((1 : Int) = 0 ∧ ze N105_ 81 7 = 0 ∧ ze Mz 81 7 = 0 ∧ zRea (zfs b_ n_ F_ K_ nm_) (0, (ze Mz 81 4).toNat, [], [], 0, false) (zRst 2 F_ N105_) ∧ zRI F_ K_ 1 N105_ ∧ 0 ≤ ze N105_ 81 43 ∧ ze N105_ 81 43 ≤ 30 ∧ (zrS N105_).head? ≠ some 1 ∧ ¬ (zisg b_ n_ (ze N105_ 81 4).toNat 42 ∨ zisg b_ n_ (ze N105_ 81 4).toNat 43 ∨ zisg b_ n_ (ze N105_ 81 4).toNat 45) ∧ ze Mz 81 4 ≤ ze N105_ 81 4 ∧ ze N27_ 81 4 < ze N105_ 81 4) from Or.inr (Or.inl (⟨(show (1 : Int) = 1 by first | rfl | assumption | omega | exact fun _ => hrt_ | exact hx0_ | exact hx1_ | exact hg0_ | exact hg1_), (show ze N105_ 81 7 = 0 by first | rfl | assumption | (exact zo_610 e7_N105_ ha145_0_hp2_N96_) | exact fun _ => hrt_ | exact hx0_ | exact hx1_ | exact hg0_ | exact hg1_), (show ze Mz 81 7 = 0 by first | rfl | assumption | omega | exact fun _ => hrt_ | exact hx0_ | exact hx1_ | exact hg0_ | exact hg1_), (show zRea (zfs b_ n_ F_ K_ nm_) (0, (ze Mz 81 4).toNat, [], [], 0, false) (zRst 0 F_ N105_) by first | rfl | assumption | omega | exact fun _ => hrt_ | exact hx0_ | exact hx1_ | exact hg0_ | exact hg1_), (show zRI F_ K_ 0 N105_ by first | rfl | assumption | omega | exact fun _ => hrt_ | exact hx0_ | exact hx1_ | exact hg0_ | exact hg1_), (show 0 ≤ ze N105_ 81 43 by first | rfl | assumption | (exact zo_611 e43_N74_ e43_N80_ e43_N85_ e43_N90_ hl88_4_i60_ hp1_N105_ hp1_N96_) | exact fun _ => hrt_ | exact hx0_ | exact hx1_ | exact hg0_ | exact hg1_), (show ze N105_ 81 43 ≤ 30 by first | rfl | assumption | (exact zo_612 e43_N74_ e43_N80_ e43_N85_ e43_N90_ hl88_5_i60_ hp1_N105_ hp1_N96_) | exact fun _ => hrt_ | exact hx0_ | exact hx1_ | exact hg0_ | exact hg1_), (show ze Mz 81 4 ≤ ze N105_ 81 4 by first | rfl | assumption | (exact zo_613 ha145_4_hp2_N96_ ha156_2_hp2_N105_ hgy_ hl88_8_i60_ hnp_ hp0_N90_ r4_N90_.1 r_4.2) | exact fun _ => hrt_ | exact hx0_ | exact hx1_ | exact hg0_ | exact hg1_), (show ze N27_ 81 4 < ze N105_ 81 4 by first | rfl | assumption | (exact zo_614 ha145_4_hp2_N96_ ha156_2_hp2_N105_ hgy_ hl88_9_i60_ hnp_ hp0_N90_ r4_N27_.2 r4_N90_.1) | exact fun _ => hrt_ | exact hx0_ | exact hx1_ | exact hg0_ | exact hg1_)⟩))) (by have m1_ := zmF_c n_ N105_; have m2_ := zmF_c n_ N57_; have m3_ := hp0_N105_.x; omega)
                                                          · skip
                                                            have hg0_ := hz0_.tr ha156_0_hp2_N105_
                                                            have hg1_ := ha156_1_hp2_N105_
                                                            have hg2_ := ha156_2_hp2_N105_
                                                            have hg3_ := ha156_3_hp2_N105_
                                                            have hg4_ := ha156_4_hp2_N105_
                                                            show zW l m_M_formula (zn Mz + 0, zw Mz + 0) N105_ 159 [some (.ref 81), some (.int (Int32.ofInt 0))] [.int (Int32.ofInt 0)] _
                                                            refine zr_if_eq (pc := 159) (tgt := 166) ⟨(by decide), (by decide)⟩ (by decide) d_M_formula_159 (fun hc_159 => ?_) (fun hc_159 => ?_)
                                                            · skip
                                                              refine zw_iconst (pc := 166) (v := Int32.ofInt 0) (by decide) d_M_formula_166 ?_
                                                              refine zw_istore_n (pc := 167) (i := 1) (L2 := [some (.ref 81), some (.int (Int32.ofInt 0))]) rfl (by decide) rfl d_M_formula_167 ?_
                                                              refine zw_goto (pc := 168) (tgt := 88) (by decide) d_M_formula_168 ?_
                                                              exact ih_88 0 (by decide) (by decide) (by (exact hu56_z)) N105_ hb1_N105_ hp0_N105_ (show (1 ≤ ze N105_ 81 7 ∧ (ze Mz 81 7 = 0 → zRea (zfs b_ n_ F_ K_ nm_) (0, (ze Mz 81 4).toNat, [], [], 0, false) zFt)) ∨ ((0 : Int) = 1 ∧ ze N105_ 81 7 = 0 ∧ ze Mz 81 7 = 0 ∧ zRea (zfs b_ n_ F_ K_ nm_) (0, (ze Mz 81 4).toNat, [], [], 0, false) (zRst 0 F_ N105_) ∧ zRI F_ K_ 0 N105_ ∧ 0 ≤ ze N105_ 81 43 ∧ ze N105_ 81 43 ≤ 30 ∧ ze Mz 81 4 ≤ ze N105_ 81 4 ∧ ze N27_ 81 4 < ze N105_ 81 4) ∨ ((0 : Int) = 0 ∧ ze N105_ 81 7 = 0 ∧ ze Mz 81 7 = 0 ∧ zRea (zfs b_ n_ F_ K_ nm_) (0, (ze Mz 81 4).toNat, [], [], 0, false) (zRst 2 F_ N105_) ∧ zRI F_ K_ 1 N105_ ∧ 0 ≤ ze N105_ 81 43 ∧ ze N105_ 81 43 ≤ 30 ∧ (zrS N105_).head? ≠ some 1 ∧ ¬ (zisg b_ n_ (ze N105_ 81 4).toNat 42 ∨ zisg b_ n_ (ze N105_ 81 4).toNat 43 ∨ zisg b_ n_ (ze N105_ 81 4).toNat 45) ∧ ze Mz 81 4 ≤ ze N105_ 81 4 ∧ ze N27_ 81 4 < ze N105_ 81 4) from Or.inr (Or.inr (⟨(show (0 : Int) = 0 by first | rfl | assumption | omega | exact fun _ => hrt_ | exact hx0_ | exact hx1_ | exact hg0_ | exact hg1_), (show ze N105_ 81 7 = 0 by first | rfl | assumption | (exact zo_610 e7_N105_ ha145_0_hp2_N96_) | exact fun _ => hrt_ | exact hx0_ | exact hx1_ | exact hg0_ | exact hg1_), (show ze Mz 81 7 = 0 by first | rfl | assumption | omega | exact fun _ => hrt_ | exact hx0_ | exact hx1_ | exact hg0_ | exact hg1_), (show zRea (zfs b_ n_ F_ K_ nm_) (0, (ze Mz 81 4).toNat, [], [], 0, false) (zRst 2 F_ N105_) by first | rfl | assumption | omega | exact fun _ => hrt_ | exact hx0_ | exact hx1_ | exact hg0_ | exact hg1_), (show zRI F_ K_ 1 N105_ by first | rfl | assumption | omega | exact fun _ => hrt_ | exact hx0_ | exact hx1_ | exact hg0_ | exact hg1_), (show 0 ≤ ze N105_ 81 43 by first | rfl | assumption | (exact zo_611 e43_N74_ e43_N80_ e43_N85_ e43_N90_ hl88_4_i60_ hp1_N105_ hp1_N96_) | exact fun _ => hrt_ | exact hx0_ | exact hx1_ | exact hg0_ | exact hg1_), (show ze N105_ 81 43 ≤ 30 by first | rfl | assumption | (exact zo_612 e43_N74_ e43_N80_ e43_N85_ e43_N90_ hl88_5_i60_ hp1_N105_ hp1_N96_) | exact fun _ => hrt_ | exact hx0_ | exact hx1_ | exact hg0_ | exact hg1_), (show (zrS N105_).head? ≠ some 1 by first | rfl | assumption | omega | exact fun _ => hrt_ | exact hx0_ | exact hx1_ | exact hg0_ | exact hg1_), (show ¬ (zisg b_ n_ (ze N105_ 81 4).toNat 42 ∨ zisg b_ n_ (ze N105_ 81 4).toNat 43 ∨ zisg b_ n_ (ze N105_ 81 4).toNat 45) by first | rfl | assumption | omega | exact fun _ => hrt_ | exact hx0_ | exact hx1_ | exact hg0_ | exact hg1_), (show ze Mz 81 4 ≤ ze N105_ 81 4 by first | rfl | assumption | (exact zo_615 ha145_4_hp2_N96_ ha156_4_hp2_N105_ hgy_ hl88_8_i60_ hnp_ hp0_N90_ r4_N90_.1 r_4.2) | exact fun _ => hrt_ | exact hx0_ | exact hx1_ | exact hg0_ | exact hg1_), (show ze N27_ 81 4 < ze N105_ 81 4 by first | rfl | assumption | (exact zo_616 ha145_4_hp2_N96_ ha156_4_hp2_N105_ hgy_ hl88_9_i60_ hnp_ hp0_N90_ r4_N27_.2 r4_N90_.1) | exact fun _ => hrt_ | exact hx0_ | exact hx1_ | exact hg0_ | exact hg1_)⟩))) (by have m1_ := zmF_c n_ N105_; have m2_ := zmF_c n_ N57_; have m3_ := hp0_N105_.x; omega)
                                                            · skip
                                                              exact absurd hc_159 (by decide)
                                                      · skip
                                                        exfalso; (exact zo_260 ha145_0_hp2_N96_ ha149_0_hp0_N103_)
                                                · skip
                                                  have hM0_ := ha109_0_hp0_N72_
                                                  have hn41_ : ¬ (zisg b_ n_ (ze N57_ 81 4).toNat 41 ∧ 0 ∈ zrS N57_) := fun q_ => hM0_ q_.2
                                                  show zW l m_M_formula (zn Mz + 0, zw Mz + 0) N57_ 112 [some (.ref 81), some (.int (Int32.ofInt 0))] [.int (Int32.ofInt 0)] _
                                                  refine zr_if_eq (pc := 112) (tgt := 27) ⟨(by decide), (by decide)⟩ (by decide) d_M_formula_112 (fun hc_112 => ?_) (fun hc_112 => ?_)
                                                  · skip
                                                    exact ih_27 0 (by decide) (by decide) (by (exact hu56_z)) N57_ hb0_N57_ i59_ (show (1 ≤ ze N57_ 81 7 ∧ (ze Mz 81 7 = 0 → zRea (zfs b_ n_ F_ K_ nm_) (0, (ze Mz 81 4).toNat, [], [], 0, false) zFt)) ∨ ((0 : Int) = 1 ∧ ze N57_ 81 7 = 0 ∧ ze Mz 81 7 = 0 ∧ zRea (zfs b_ n_ F_ K_ nm_) (0, (ze Mz 81 4).toNat, [], [], 0, false) (zRst 0 F_ N57_) ∧ zRI F_ K_ 0 N57_ ∧ 0 ≤ ze N57_ 81 43 ∧ ze N57_ 81 43 ≤ 30 ∧ ze Mz 81 4 ≤ ze N57_ 81 4) ∨ ((0 : Int) = 0 ∧ ze N57_ 81 7 = 0 ∧ ze Mz 81 7 = 0 ∧ zRea (zfs b_ n_ F_ K_ nm_) (0, (ze Mz 81 4).toNat, [], [], 0, false) (zRst 2 F_ N57_) ∧ zRI F_ K_ 1 N57_ ∧ 0 ≤ ze N57_ 81 43 ∧ ze N57_ 81 43 ≤ 30 ∧ (zrS N57_).head? ≠ some 1 ∧ ¬ (zisg b_ n_ (ze N57_ 81 4).toNat 42 ∨ zisg b_ n_ (ze N57_ 81 4).toNat 43 ∨ zisg b_ n_ (ze N57_ 81 4).toNat 45) ∧ ze Mz 81 4 ≤ ze N57_ 81 4 ∧ ¬ (zisg b_ n_ (ze N57_ 81 4).toNat 41 ∧ 0 ∈ zrS N57_)) from Or.inr (Or.inr (⟨(show (0 : Int) = 0 by first | rfl | assumption | omega | exact fun _ => hrt_ | exact hx0_ | exact hx1_ | exact hg0_ | exact hg1_), (show ze N57_ 81 7 = 0 by first | rfl | assumption | omega | exact fun _ => hrt_ | exact hx0_ | exact hx1_ | exact hg0_ | exact hg1_), (show ze Mz 81 7 = 0 by first | rfl | assumption | omega | exact fun _ => hrt_ | exact hx0_ | exact hx1_ | exact hg0_ | exact hg1_), (show zRea (zfs b_ n_ F_ K_ nm_) (0, (ze Mz 81 4).toNat, [], [], 0, false) (zRst 2 F_ N57_) by first | rfl | assumption | omega | exact fun _ => hrt_ | exact hx0_ | exact hx1_ | exact hg0_ | exact hg1_), (show zRI F_ K_ 1 N57_ by first | rfl | assumption | omega | exact fun _ => hrt_ | exact hx0_ | exact hx1_ | exact hg0_ | exact hg1_), (show 0 ≤ ze N57_ 81 43 by first | rfl | assumption | omega | exact fun _ => hrt_ | exact hx0_ | exact hx1_ | exact hg0_ | exact hg1_), (show ze N57_ 81 43 ≤ 30 by first | rfl | assumption | omega | exact fun _ => hrt_ | exact hx0_ | exact hx1_ | exact hg0_ | exact hg1_), (show (zrS N57_).head? ≠ some 1 by first | rfl | assumption | omega | exact fun _ => hrt_ | exact hx0_ | exact hx1_ | exact hg0_ | exact hg1_), (show ¬ (zisg b_ n_ (ze N57_ 81 4).toNat 42 ∨ zisg b_ n_ (ze N57_ 81 4).toNat 43 ∨ zisg b_ n_ (ze N57_ 81 4).toNat 45) by first | rfl | assumption | omega | exact fun _ => hrt_ | exact hx0_ | exact hx1_ | exact hg0_ | exact hg1_), (show ze Mz 81 4 ≤ ze N57_ 81 4 by first | rfl | assumption | omega | exact fun _ => hrt_ | exact hx0_ | exact hx1_ | exact hg0_ | exact hg1_), (show ¬ (zisg b_ n_ (ze N57_ 81 4).toNat 41 ∧ 0 ∈ zrS N57_) by first | rfl | assumption | omega | exact fun _ => hrt_ | exact hx0_ | exact hx1_ | exact hg0_ | exact hg1_)⟩))) (by have m1_ := zmF_c n_ N57_; have m2_ := zmF_c n_ N27_; have m3_ := i59_.x; omega)
                                                  · skip
                                                    exact absurd hc_112 (by decide)
                                            · skip
                                              have hC_ := ha102_0_hp0_N70_ (by (exact hl88_0_i60_))
                                              have hn41_ : ¬ (zisg b_ n_ (ze N57_ 81 4).toNat 41 ∧ 0 ∈ zrS N57_) := fun q_ => hC_ q_.1
                                              show zW l m_M_formula (zn Mz + 0, zw Mz + 0) N57_ 105 [some (.ref 81), some (.int (Int32.ofInt 0))] [.int (Int32.ofInt 0)] _
                                              refine zr_if_eq (pc := 105) (tgt := 27) ⟨(by decide), (by decide)⟩ (by decide) d_M_formula_105 (fun hc_105 => ?_) (fun hc_105 => ?_)
                                              · skip
                                                exact ih_27 0 (by decide) (by decide) (by (exact hu56_z)) N57_ hb0_N57_ i59_ (show (1 ≤ ze N57_ 81 7 ∧ (ze Mz 81 7 = 0 → zRea (zfs b_ n_ F_ K_ nm_) (0, (ze Mz 81 4).toNat, [], [], 0, false) zFt)) ∨ ((0 : Int) = 1 ∧ ze N57_ 81 7 = 0 ∧ ze Mz 81 7 = 0 ∧ zRea (zfs b_ n_ F_ K_ nm_) (0, (ze Mz 81 4).toNat, [], [], 0, false) (zRst 0 F_ N57_) ∧ zRI F_ K_ 0 N57_ ∧ 0 ≤ ze N57_ 81 43 ∧ ze N57_ 81 43 ≤ 30 ∧ ze Mz 81 4 ≤ ze N57_ 81 4) ∨ ((0 : Int) = 0 ∧ ze N57_ 81 7 = 0 ∧ ze Mz 81 7 = 0 ∧ zRea (zfs b_ n_ F_ K_ nm_) (0, (ze Mz 81 4).toNat, [], [], 0, false) (zRst 2 F_ N57_) ∧ zRI F_ K_ 1 N57_ ∧ 0 ≤ ze N57_ 81 43 ∧ ze N57_ 81 43 ≤ 30 ∧ (zrS N57_).head? ≠ some 1 ∧ ¬ (zisg b_ n_ (ze N57_ 81 4).toNat 42 ∨ zisg b_ n_ (ze N57_ 81 4).toNat 43 ∨ zisg b_ n_ (ze N57_ 81 4).toNat 45) ∧ ze Mz 81 4 ≤ ze N57_ 81 4 ∧ ¬ (zisg b_ n_ (ze N57_ 81 4).toNat 41 ∧ 0 ∈ zrS N57_)) from Or.inr (Or.inr (⟨(show (0 : Int) = 0 by first | rfl | assumption | omega | exact fun _ => hrt_ | exact hx0_ | exact hx1_ | exact hg0_ | exact hg1_), (show ze N57_ 81 7 = 0 by first | rfl | assumption | omega | exact fun _ => hrt_ | exact hx0_ | exact hx1_ | exact hg0_ | exact hg1_), (show ze Mz 81 7 = 0 by first | rfl | assumption | omega | exact fun _ => hrt_ | exact hx0_ | exact hx1_ | exact hg0_ | exact hg1_), (show zRea (zfs b_ n_ F_ K_ nm_) (0, (ze Mz 81 4).toNat, [], [], 0, false) (zRst 2 F_ N57_) by first | rfl | assumption | omega | exact fun _ => hrt_ | exact hx0_ | exact hx1_ | exact hg0_ | exact hg1_), (show zRI F_ K_ 1 N57_ by first | rfl | assumption | omega | exact fun _ => hrt_ | exact hx0_ | exact hx1_ | exact hg0_ | exact hg1_), (show 0 ≤ ze N57_ 81 43 by first | rfl | assumption | omega | exact fun _ => hrt_ | exact hx0_ | exact hx1_ | exact hg0_ | exact hg1_), (show ze N57_ 81 43 ≤ 30 by first | rfl | assumption | omega | exact fun _ => hrt_ | exact hx0_ | exact hx1_ | exact hg0_ | exact hg1_), (show (zrS N57_).head? ≠ some 1 by first | rfl | assumption | omega | exact fun _ => hrt_ | exact hx0_ | exact hx1_ | exact hg0_ | exact hg1_), (show ¬ (zisg b_ n_ (ze N57_ 81 4).toNat 42 ∨ zisg b_ n_ (ze N57_ 81 4).toNat 43 ∨ zisg b_ n_ (ze N57_ 81 4).toNat 45) by first | rfl | assumption | omega | exact fun _ => hrt_ | exact hx0_ | exact hx1_ | exact hg0_ | exact hg1_), (show ze Mz 81 4 ≤ ze N57_ 81 4 by first | rfl | assumption | omega | exact fun _ => hrt_ | exact hx0_ | exact hx1_ | exact hg0_ | exact hg1_), (show ¬ (zisg b_ n_ (ze N57_ 81 4).toNat 41 ∧ 0 ∈ zrS N57_) by first | rfl | assumption | omega | exact fun _ => hrt_ | exact hx0_ | exact hx1_ | exact hg0_ | exact hg1_)⟩))) (by have m1_ := zmF_c n_ N57_; have m2_ := zmF_c n_ N27_; have m3_ := i59_.x; omega)
                                              · skip
                                                exact absurd hc_105 (by decide)
                                      · skip
                                        exfalso; (exact zo_260 hl88_0_i60_ ha89_0_hp0_N68_)
                                exact lp_88 _ 0 (by decide) (by decide) (by (decide)) N43_ zFr.rf i45_ (show (1 ≤ ze N43_ 81 7 ∧ (ze Mz 81 7 = 0 → zRea (zfs b_ n_ F_ K_ nm_) (0, (ze Mz 81 4).toNat, [], [], 0, false) zFt)) ∨ ((0 : Int) = 1 ∧ ze N43_ 81 7 = 0 ∧ ze Mz 81 7 = 0 ∧ zRea (zfs b_ n_ F_ K_ nm_) (0, (ze Mz 81 4).toNat, [], [], 0, false) (zRst 0 F_ N43_) ∧ zRI F_ K_ 0 N43_ ∧ 0 ≤ ze N43_ 81 43 ∧ ze N43_ 81 43 ≤ 30 ∧ ze Mz 81 4 ≤ ze N43_ 81 4 ∧ ze N27_ 81 4 < ze N43_ 81 4) ∨ ((0 : Int) = 0 ∧ ze N43_ 81 7 = 0 ∧ ze Mz 81 7 = 0 ∧ zRea (zfs b_ n_ F_ K_ nm_) (0, (ze Mz 81 4).toNat, [], [], 0, false) (zRst 2 F_ N43_) ∧ zRI F_ K_ 1 N43_ ∧ 0 ≤ ze N43_ 81 43 ∧ ze N43_ 81 43 ≤ 30 ∧ (zrS N43_).head? ≠ some 1 ∧ ¬ (zisg b_ n_ (ze N43_ 81 4).toNat 42 ∨ zisg b_ n_ (ze N43_ 81 4).toNat 43 ∨ zisg b_ n_ (ze N43_ 81 4).toNat 45) ∧ ze Mz 81 4 ≤ ze N43_ 81 4 ∧ ze N27_ 81 4 < ze N43_ 81 4) from Or.inl (⟨(show 1 ≤ ze N43_ 81 7 by first | rfl | assumption | omega | exact fun _ => hrt_ | exact hg0_ | exact hg1_), (show (ze Mz 81 7 = 0 → zRea (zfs b_ n_ F_ K_ nm_) (0, (ze Mz 81 4).toNat, [], [], 0, false) zFt) by first | rfl | assumption | omega | exact fun _ => hrt_ | exact hg0_ | exact hg1_)⟩)) (Nat.lt_succ_self _)
                              · skip
                                exact absurd hc_72 (by decide)
                          · skip
                            exact absurd hc_61 (by decide)
                      · skip
                        exact absurd hc_42 (by decide)
                  · skip
                    have hr0_ := hl38_2_i46_
                    have hc0_ := hl38_3_i46_
                    refine zw_aload_n (pc := 38) (n := 0) (x := 81) rfl (zdal_p dlC_M_formula_94 (i := 22) rfl) ?_
                    refine zr_callV (hf_N43_.w hW) hf_N43_.x (pc := 39) [] [] l_M_183 (c_M_isGood l N43_ (hf_N43_.w hW) ) rfl rfl rfl (by decide) (Nat.le_of_ble_eq_true rfl) (zdal_p dlC_M_formula_94 (i := 23) rfl) ?_
                    rintro _ N110_ ⟨v111_, rfl, ⟨hv111_a, hv111_b⟩, hsN110_, hp0_N110_⟩
                    obtain rfl := hsN110_.eq.symm
                    replace hp0_N110_ : ((v111_ = 1 ∧ ze N43_ 81 7 = 0) ∨ (v111_ = 0 ∧ ze N43_ 81 7 ≠ 0)) := hp0_N110_
                    rcases hp0_N110_ with ⟨rfl, ha39_0_hp0_N110_⟩ | ⟨rfl, ha39_0_hp0_N110_⟩
                    · skip
                      show zW l m_M_formula (zn Mz + 0, zw Mz + 0) N43_ 42 [some (.ref 81), some (.int (Int32.ofInt u42_))] [.int (Int32.ofInt 1)] _
                      refine zr_if_eq (pc := 42) (tgt := 57) ⟨(by decide), (by decide)⟩ (by decide) (zdal_p dlC_M_formula_95 (i := 0) rfl) (fun hc_42 => ?_) (fun hc_42 => ?_)
                      · skip
                        exact absurd hc_42 (by decide)
                      · skip
                        refine zw_aload_n (pc := 45) (n := 0) (x := 81) rfl (zdal_p dlC_M_formula_95 (i := 1) rfl) ?_
                        refine zr_callV (hf_N43_.w hW) hf_N43_.x (pc := 46) [] [] l_M_343 (c_M_operandF l N43_ (hf_N43_.w hW) F_ K_ hA_ b_ n_ nm_ c47_ c48_ i45_ c49_ hc0_ (show ze N43_ 81 7 = 0 by first | (exact hl38_0_i46_) | assumption) (show 0 ≤ ze N43_ 81 43 by first | (exact hl38_4_i46_) | assumption) (show ze N43_ 81 43 ≤ 30 by first | (exact hl38_5_i46_) | assumption)) rfl rfl rfl (by decide) (Nat.le_of_ble_eq_true rfl) (zdal_p dlC_M_formula_95 (i := 2) rfl) ?_
                        rintro _ N112_ ⟨v113_, rfl, ⟨hv113_a, hv113_b⟩, hsN112_, ⟨hp0_N112_, hp1_N112_⟩⟩
                        have hf_N112_ := hf_N43_.tr hsN112_ (by decide +kernel) (by decide +kernel)
                        have hb0_N112_ := hb0_N43_.tr hsN112_ (by decide +kernel) (by decide +kernel)
                        have hb1_N112_ := hs44_.tr hsN112_ (by decide +kernel) (by decide +kernel)
                        have r3_N112_ := ze_r N112_ 81 3
                        have r4_N112_ := ze_r N112_ 81 4
                        have r7_N112_ := ze_r N112_ 81 7
                        have r38_N112_ := ze_r N112_ 81 38
                        have r39_N112_ := ze_r N112_ 81 39
                        have r41_N112_ := ze_r N112_ 81 41
                        have r42_N112_ := ze_r N112_ 81 42
                        have r43_N112_ := ze_r N112_ 81 43
                        have c114_ : zRmk F_ K_ N112_ := zRmk.fr hsN112_ c47_ (by decide +kernel) (by decide +kernel)
                        have c115_ : zRb b_ n_ N112_ := zRb.fr hsN112_ c48_ (by decide +kernel) (by decide +kernel)
                        have c116_ : zRNm nm_ F_ K_ b_ n_ N112_ := zRNm.fr hsN112_ c49_ (by decide +kernel) (by decide +kernel)
                        rcases hp1_N112_ with ⟨rfl, ha46_0_hp1_N112_, ha46_1_hp1_N112_⟩ | ⟨rfl, ha46_0_hp1_N112_, ha46_1_hp1_N112_, ha46_2_hp1_N112_, ha46_3_hp1_N112_, ha46_4_hp1_N112_, ha46_5_hp1_N112_⟩ | ⟨rfl, ha46_0_hp1_N112_, ha46_1_hp1_N112_⟩ | ⟨rfl, ha46_0_hp1_N112_, ha46_1_hp1_N112_, ha46_2_hp1_N112_, ha46_3_hp1_N112_, ha46_4_hp1_N112_, ha46_5_hp1_N112_⟩
                        · skip
                          have hrt_ := hr0_.tr ha46_1_hp1_N112_
                          show zW l m_M_formula (zn Mz + 0, zw Mz + 0) N112_ 49 [some (.ref 81), some (.int (Int32.ofInt u42_))] [.int (Int32.ofInt 0)] _
                          refine zr_if_ne (pc := 49) (tgt := 57) ⟨(by decide), (by decide)⟩ (by decide) (zdal_p dlC_M_formula_95 (i := 3) rfl) (fun hc_49 => ?_) (fun hc_49 => ?_)
                          · skip
                            exact absurd hc_49 (by decide)
                          · skip
                            refine zw_iconst (pc := 52) (v := Int32.ofInt 1) (by decide) (zdal_p dlC_M_formula_95 (i := 4) rfl) ?_
                            refine zw_istore_n (pc := 53) (i := 1) (L2 := [some (.ref 81), some (.int (Int32.ofInt 1))]) rfl (by decide) rfl (zdal_p dlC_M_formula_95 (i := 5) rfl) ?_
                            refine zw_goto (pc := 54) (tgt := 38) (by decide) (zdal_p dlC_M_formula_95 (i := 6) rfl) ?_
                            exact ih_38 1 (by decide) (by decide) (by (decide)) N112_ hb1_N112_ hp0_N112_ (show (1 ≤ ze N112_ 81 7 ∧ (ze Mz 81 7 = 0 → zRea (zfs b_ n_ F_ K_ nm_) (0, (ze Mz 81 4).toNat, [], [], 0, false) zFt)) ∨ (ze N112_ 81 7 = 0 ∧ ze Mz 81 7 = 0 ∧ zRea (zfs b_ n_ F_ K_ nm_) (0, (ze Mz 81 4).toNat, [], [], 0, false) (zRst 0 F_ N112_) ∧ zRI F_ K_ 0 N112_ ∧ 0 ≤ ze N112_ 81 43 ∧ ze N112_ 81 43 ≤ 30 ∧ ze Mz 81 4 ≤ ze N112_ 81 4 ∧ ze N27_ 81 4 ≤ ze N112_ 81 4) from Or.inl (⟨(show 1 ≤ ze N112_ 81 7 by first | rfl | assumption | omega | exact fun _ => hrt_ | exact hx0_ | exact hx1_ | exact hg0_ | exact hg1_), (show (ze Mz 81 7 = 0 → zRea (zfs b_ n_ F_ K_ nm_) (0, (ze Mz 81 4).toNat, [], [], 0, false) zFt) by first | rfl | assumption | omega | exact fun _ => hrt_ | exact hx0_ | exact hx1_ | exact hg0_ | exact hg1_)⟩)) (by have m1_ := zmF_c n_ N112_; have m2_ := zmF_c n_ N43_; have m3_ := hp0_N112_.x; omega)
                        · skip
                          have hx0_ := hr0_.tr ha46_1_hp1_N112_
                          have hx1_ := ha46_2_hp1_N112_
                          have hx2_ := ha46_3_hp1_N112_
                          show zW l m_M_formula (zn Mz + 0, zw Mz + 0) N112_ 49 [some (.ref 81), some (.int (Int32.ofInt u42_))] [.int (Int32.ofInt 0)] _
                          refine zr_if_ne (pc := 49) (tgt := 57) ⟨(by decide), (by decide)⟩ (by decide) (zdal_p dlC_M_formula_95 (i := 3) rfl) (fun hc_49 => ?_) (fun hc_49 => ?_)
                          · skip
                            exact absurd hc_49 (by decide)
                          · skip
                            refine zw_iconst (pc := 52) (v := Int32.ofInt 1) (by decide) (zdal_p dlC_M_formula_95 (i := 4) rfl) ?_
                            refine zw_istore_n (pc := 53) (i := 1) (L2 := [some (.ref 81), some (.int (Int32.ofInt 1))]) rfl (by decide) rfl (zdal_p dlC_M_formula_95 (i := 5) rfl) ?_
                            refine zw_goto (pc := 54) (tgt := 38) (by decide) (zdal_p dlC_M_formula_95 (i := 6) rfl) ?_
                            exact ih_38 1 (by decide) (by decide) (by (decide)) N112_ hb1_N112_ hp0_N112_ (show (1 ≤ ze N112_ 81 7 ∧ (ze Mz 81 7 = 0 → zRea (zfs b_ n_ F_ K_ nm_) (0, (ze Mz 81 4).toNat, [], [], 0, false) zFt)) ∨ (ze N112_ 81 7 = 0 ∧ ze Mz 81 7 = 0 ∧ zRea (zfs b_ n_ F_ K_ nm_) (0, (ze Mz 81 4).toNat, [], [], 0, false) (zRst 0 F_ N112_) ∧ zRI F_ K_ 0 N112_ ∧ 0 ≤ ze N112_ 81 43 ∧ ze N112_ 81 43 ≤ 30 ∧ ze Mz 81 4 ≤ ze N112_ 81 4 ∧ ze N27_ 81 4 ≤ ze N112_ 81 4) from Or.inr (⟨(show ze N112_ 81 7 = 0 by first | rfl | assumption | omega | exact fun _ => hrt_ | exact hx0_ | exact hx1_ | exact hg0_ | exact hg1_), (show ze Mz 81 7 = 0 by first | rfl | assumption | omega | exact fun _ => hrt_ | exact hx0_ | exact hx1_ | exact hg0_ | exact hg1_), (show zRea (zfs b_ n_ F_ K_ nm_) (0, (ze Mz 81 4).toNat, [], [], 0, false) (zRst 0 F_ N112_) by first | rfl | assumption | omega | exact fun _ => hrt_ | exact hx0_ | exact hx1_ | exact hg0_ | exact hg1_), (show zRI F_ K_ 0 N112_ by first | rfl | assumption | omega | exact fun _ => hrt_ | exact hx0_ | exact hx1_ | exact hg0_ | exact hg1_), (show 0 ≤ ze N112_ 81 43 by first | rfl | assumption | omega | exact fun _ => hrt_ | exact hx0_ | exact hx1_ | exact hg0_ | exact hg1_), (show ze N112_ 81 43 ≤ 30 by first | rfl | assumption | omega | exact fun _ => hrt_ | exact hx0_ | exact hx1_ | exact hg0_ | exact hg1_), (show ze Mz 81 4 ≤ ze N112_ 81 4 by first | rfl | assumption | (exact zo_617 ha46_3_hp1_N112_ hl38_6_i46_ r4_N112_.1 r_4.2) | exact fun _ => hrt_ | exact hx0_ | exact hx1_ | exact hg0_ | exact hg1_), (show ze N27_ 81 4 ≤ ze N112_ 81 4 by first | rfl | assumption | (exact zo_617 ha46_3_hp1_N112_ hl38_7_i46_ r4_N112_.1 r4_N27_.2) | exact fun _ => hrt_ | exact hx0_ | exact hx1_ | exact hg0_ | exact hg1_)⟩)) (by have m1_ := zmF_c n_ N112_; have m2_ := zmF_c n_ N43_; have m3_ := hp0_N112_.x; omega)
                        · skip
                          have hrt_ := hr0_.tr ha46_1_hp1_N112_
                          show zW l m_M_formula (zn Mz + 0, zw Mz + 0) N112_ 49 [some (.ref 81), some (.int (Int32.ofInt u42_))] [.int (Int32.ofInt 1)] _
                          refine zr_if_ne (pc := 49) (tgt := 57) ⟨(by decide), (by decide)⟩ (by decide) (zdal_p dlC_M_formula_95 (i := 3) rfl) (fun hc_49 => ?_) (fun hc_49 => ?_)
                          · skip
                            refine zw_aload_n (pc := 57) (n := 0) (x := 81) rfl (zdal_p dlC_M_formula_95 (i := 7) rfl) ?_
                            refine zr_callV (hf_N112_.w hW) hf_N112_.x (pc := 58) [] [] l_M_183 (c_M_isGood l N112_ (hf_N112_.w hW) ) rfl rfl rfl (by decide) (Nat.le_of_ble_eq_true rfl) (zdal_p dlC_M_formula_95 (i := 8) rfl) ?_
                            rintro _ N117_ ⟨v118_, rfl, ⟨hv118_a, hv118_b⟩, hsN117_, hp0_N117_⟩
                            obtain rfl := hsN117_.eq.symm
                            replace hp0_N117_ : ((v118_ = 1 ∧ ze N112_ 81 7 = 0) ∨ (v118_ = 0 ∧ ze N112_ 81 7 ≠ 0)) := hp0_N117_
                            rcases hp0_N117_ with ⟨rfl, ha58_0_hp0_N117_⟩ | ⟨rfl, ha58_0_hp0_N117_⟩
                            · skip
                              exfalso; (exact zo_609 ha46_0_hp1_N112_ ha58_0_hp0_N117_)
                            · skip
                              show zW l m_M_formula (zn Mz + 0, zw Mz + 0) N112_ 61 [some (.ref 81), some (.int (Int32.ofInt u42_))] [.int (Int32.ofInt 0)] _
                              refine zr_if_eq (pc := 61) (tgt := 68) ⟨(by decide), (by decide)⟩ (by decide) (zdal_p dlC_M_formula_95 (i := 9) rfl) (fun hc_61 => ?_) (fun hc_61 => ?_)
                              · skip
                                refine zw_aload_n (pc := 68) (n := 0) (x := 81) rfl (zdal_p dlC_M_formula_95 (i := 12) rfl) ?_
                                refine zr_callV (hf_N112_.w hW) hf_N112_.x (pc := 69) [] [] l_M_183 (c_M_isGood l N112_ (hf_N112_.w hW) ) rfl rfl rfl (by decide) (Nat.le_of_ble_eq_true rfl) (zdal_p dlC_M_formula_95 (i := 13) rfl) ?_
                                rintro _ N119_ ⟨v120_, rfl, ⟨hv120_a, hv120_b⟩, hsN119_, hp0_N119_⟩
                                obtain rfl := hsN119_.eq.symm
                                replace hp0_N119_ : ((v120_ = 1 ∧ ze N112_ 81 7 = 0) ∨ (v120_ = 0 ∧ ze N112_ 81 7 ≠ 0)) := hp0_N119_
                                rcases hp0_N119_ with ⟨rfl, ha69_0_hp0_N119_⟩ | ⟨rfl, ha69_0_hp0_N119_⟩
                                · skip
                                  exfalso; (exact zo_609 ha46_0_hp1_N112_ ha69_0_hp0_N119_)
                                · skip
                                  show zW l m_M_formula (zn Mz + 0, zw Mz + 0) N112_ 72 [some (.ref 81), some (.int (Int32.ofInt u42_))] [.int (Int32.ofInt 0)] _
                                  refine zr_if_eq (pc := 72) (tgt := 86) ⟨(by decide), (by decide)⟩ (by decide) (zdal_p dlC_M_formula_95 (i := 14) rfl) (fun hc_72 => ?_) (fun hc_72 => ?_)
                                  · skip
                                    refine zw_iconst (pc := 86) (v := Int32.ofInt 0) (by decide) (zdal_p dlC_M_formula_95 (i := 20) rfl) ?_
                                    refine zw_istore_n (pc := 87) (i := 1) (L2 := [some (.ref 81), some (.int (Int32.ofInt 0))]) rfl (by decide) rfl d_M_formula_87 ?_
                                    have lp_88 : ∀ (n : Nat) (u121_ : Int) (hu121_a : -2147483648 ≤ u121_) (hu121_b : u121_ < 2147483648) (hu121_z : u121_ = 0 ∨ u121_ = 1) (N122_ : zMem) (hs123_ : zFr [3, 4, 5, 6, 7, 8, 11, 38, 39, 41, 42] [95, 96, 97, 100] N112_ N122_) (i124_ : zRt b_ n_ N122_) (i125_ : (1 ≤ ze N122_ 81 7 ∧ (ze Mz 81 7 = 0 → zRea (zfs b_ n_ F_ K_ nm_) (0, (ze Mz 81 4).toNat, [], [], 0, false) zFt)) ∨ (u121_ = 1 ∧ ze N122_ 81 7 = 0 ∧ ze Mz 81 7 = 0 ∧ zRea (zfs b_ n_ F_ K_ nm_) (0, (ze Mz 81 4).toNat, [], [], 0, false) (zRst 0 F_ N122_) ∧ zRI F_ K_ 0 N122_ ∧ 0 ≤ ze N122_ 81 43 ∧ ze N122_ 81 43 ≤ 30 ∧ ze Mz 81 4 ≤ ze N122_ 81 4 ∧ ze N27_ 81 4 < ze N122_ 81 4) ∨ (u121_ = 0 ∧ ze N122_ 81 7 = 0 ∧ ze Mz 81 7 = 0 ∧ zRea (zfs b_ n_ F_ K_ nm_) (0, (ze Mz 81 4).toNat, [], [], 0, false) (zRst 2 F_ N122_) ∧ zRI F_ K_ 1 N122_ ∧ 0 ≤ ze N122_ 81 43 ∧ ze N122_ 81 43 ≤ 30 ∧ (zrS N122_).head? ≠ some 1 ∧ ¬ (zisg b_ n_ (ze N122_ 81 4).toNat 42 ∨ zisg b_ n_ (ze N122_ 81 4).toNat 43 ∨ zisg b_ n_ (ze N122_ 81 4).toNat 45) ∧ ze Mz 81 4 ≤ ze N122_ 81 4 ∧ ze N27_ 81 4 < ze N122_ 81 4)), zmF n_ N122_ < n → zW l m_M_formula (zn Mz + 0, zw Mz + 0) N122_ 88 [some (.ref 81), some (.int (Int32.ofInt u121_))] [] (zpV [3, 4, 5, 6, 7, 8, 11, 38, 39, 41, 42, 43] [95, 96, 97, 100] Mz (fun N => zRt b_ n_ N ∧ (((1 ≤ ze N 81 7 ∧ (ze Mz 81 7 = 0 → zRea (zfs b_ n_ F_ K_ nm_) (0, (ze Mz 81 4).toNat, [], [], 0, false) zFt)) ∨ (ze N 81 7 = 0 ∧ ze Mz 81 7 = 0 ∧ zRea (zfs b_ n_ F_ K_ nm_) (0, (ze Mz 81 4).toNat, [], [], 0, false) (zRst 3 F_ N) ∧ zRI F_ K_ 1 N ∧ zrS N = [] ∧ ze Mz 81 4 ≤ ze N 81 4))))) := by
                                      clear hu42_a hu42_b hu42_z hv111_a hv111_b hv113_a hv113_b hv118_a hv118_b hv120_a hv120_b
                                      intro n
                                      induction n with
                                      | zero =>
                                        intro u121_ hu121_a hu121_b hu121_z N122_ hs123_ i124_ i125_ h0
                                        exact absurd h0 (Nat.not_lt_zero _)
                                      | succ n ih_88 =>
                                        intro u121_ hu121_a hu121_b hu121_z N122_ hs123_ i124_ i125_ hlt_88
                                        have hf_N122_ := hf_N112_.tr hs123_ (by decide +kernel) (by decide +kernel)
                                        have hb0_N122_ := hb0_N112_.tr hs123_ (by decide +kernel) (by decide +kernel)
                                        have r3_N122_ := ze_r N122_ 81 3
                                        have r4_N122_ := ze_r N122_ 81 4
                                        have r7_N122_ := ze_r N122_ 81 7
                                        have r38_N122_ := ze_r N122_ 81 38
                                        have r39_N122_ := ze_r N122_ 81 39
                                        have r41_N122_ := ze_r N122_ 81 41
                                        have r42_N122_ := ze_r N122_ 81 42
                                        have e43_N122_ : ze N122_ 81 43 = ze N112_ 81 43 := hs123_.e (by decide)
                                        have c126_ : zRmk F_ K_ N122_ := zRmk.fr hs123_ c114_ (by decide +kernel) (by decide +kernel)
                                        have c127_ : zRb b_ n_ N122_ := zRb.fr hs123_ c115_ (by decide +kernel) (by decide +kernel)
                                        have c128_ : zRNm nm_ F_ K_ b_ n_ N122_ := zRNm.fr hs123_ c116_ (by decide +kernel) (by decide +kernel)
                                        rcases i125_ with ⟨hl88_0_i125_, hl88_1_i125_⟩ | ⟨rfl, hl88_0_i125_, hl88_1_i125_, hl88_2_i125_, hl88_3_i125_, hl88_4_i125_, hl88_5_i125_, hl88_6_i125_, hl88_7_i125_⟩ | ⟨rfl, hl88_0_i125_, hl88_1_i125_, hl88_2_i125_, hl88_3_i125_, hl88_4_i125_, hl88_5_i125_, hl88_6_i125_, hl88_7_i125_, hl88_8_i125_, hl88_9_i125_⟩
                                        · skip
                                          refine zw_aload_n (pc := 88) (n := 0) (x := 81) rfl d_M_formula_88 ?_
                                          refine zr_callV (hf_N122_.w hW) hf_N122_.x (pc := 89) [] [] l_M_183 (c_M_isGood l N122_ (hf_N122_.w hW) ) rfl rfl rfl (by decide) (Nat.le_of_ble_eq_true rfl) d_M_formula_89 ?_
                                          rintro _ N129_ ⟨v130_, rfl, ⟨hv130_a, hv130_b⟩, hsN129_, hp0_N129_⟩
                                          obtain rfl := hsN129_.eq.symm
                                          replace hp0_N129_ : ((v130_ = 1 ∧ ze N122_ 81 7 = 0) ∨ (v130_ = 0 ∧ ze N122_ 81 7 ≠ 0)) := hp0_N129_
                                          rcases hp0_N129_ with ⟨rfl, ha89_0_hp0_N129_⟩ | ⟨rfl, ha89_0_hp0_N129_⟩
                                          · skip
                                            exfalso; (exact zo_281 ha89_0_hp0_N129_ hl88_0_i125_)
                                          · skip
                                            show zW l m_M_formula (zn Mz + 0, zw Mz + 0) N122_ 92 [some (.ref 81), some (.int (Int32.ofInt u121_))] [.int (Int32.ofInt 0)] _
                                            refine zr_if_eq (pc := 92) (tgt := 27) ⟨(by decide), (by decide)⟩ (by decide) d_M_formula_92 (fun hc_92 => ?_) (fun hc_92 => ?_)
                                            · skip
                                              exact ih_27 u121_ hu121_a hu121_b (by (exact hu121_z)) N122_ hb0_N122_ i124_ (show (1 ≤ ze N122_ 81 7 ∧ (ze Mz 81 7 = 0 → zRea (zfs b_ n_ F_ K_ nm_) (0, (ze Mz 81 4).toNat, [], [], 0, false) zFt)) ∨ (u121_ = 1 ∧ ze N122_ 81 7 = 0 ∧ ze Mz 81 7 = 0 ∧ zRea (zfs b_ n_ F_ K_ nm_) (0, (ze Mz 81 4).toNat, [], [], 0, false) (zRst 0 F_ N122_) ∧ zRI F_ K_ 0 N122_ ∧ 0 ≤ ze N122_ 81 43 ∧ ze N122_ 81 43 ≤ 30 ∧ ze Mz 81 4 ≤ ze N122_ 81 4) ∨ (u121_ = 0 ∧ ze N122_ 81 7 = 0 ∧ ze Mz 81 7 = 0 ∧ zRea (zfs b_ n_ F_ K_ nm_) (0, (ze Mz 81 4).toNat, [], [], 0, false) (zRst 2 F_ N122_) ∧ zRI F_ K_ 1 N122_ ∧ 0 ≤ ze N122_ 81 43 ∧ ze N122_ 81 43 ≤ 30 ∧ (zrS N122_).head? ≠ some 1 ∧ ¬ (zisg b_ n_ (ze N122_ 81 4).toNat 42 ∨ zisg b_ n_ (ze N122_ 81 4).toNat 43 ∨ zisg b_ n_ (ze N122_ 81 4).toNat 45) ∧ ze Mz 81 4 ≤ ze N122_ 81 4 ∧ ¬ (zisg b_ n_ (ze N122_ 81 4).toNat 41 ∧ 0 ∈ zrS N122_)) from Or.inl (⟨(show 1 ≤ ze N122_ 81 7 by first | rfl | assumption | omega | exact fun _ => hrt_ | exact hx0_ | exact hx1_ | exact hg0_ | exact hg1_), (show (ze Mz 81 7 = 0 → zRea (zfs b_ n_ F_ K_ nm_) (0, (ze Mz 81 4).toNat, [], [], 0, false) zFt) by first | rfl | assumption | omega | exact fun _ => hrt_ | exact hx0_ | exact hx1_ | exact hg0_ | exact hg1_)⟩)) (by have m1_ := zmF_c n_ N122_; have m2_ := zmF_c n_ N27_; have m3_ := i124_.x; omega)
                                            · skip
                                              exact absurd hc_92 (by decide)
                                        · skip
                                          have hr0_ := hl88_2_i125_
                                          have hc0_ := hl88_3_i125_
                                          refine zw_aload_n (pc := 88) (n := 0) (x := 81) rfl d_M_formula_88 ?_
                                          refine zr_callV (hf_N122_.w hW) hf_N122_.x (pc := 89) [] [] l_M_183 (c_M_isGood l N122_ (hf_N122_.w hW) ) rfl rfl rfl (by decide) (Nat.le_of_ble_eq_true rfl) d_M_formula_89 ?_
                                          rintro _ N131_ ⟨v132_, rfl, ⟨hv132_a, hv132_b⟩, hsN131_, hp0_N131_⟩
                                          obtain rfl := hsN131_.eq.symm
                                          replace hp0_N131_ : ((v132_ = 1 ∧ ze N122_ 81 7 = 0) ∨ (v132_ = 0 ∧ ze N122_ 81 7 ≠ 0)) := hp0_N131_
                                          rcases hp0_N131_ with ⟨rfl, ha89_0_hp0_N131_⟩ | ⟨rfl, ha89_0_hp0_N131_⟩
                                          · skip
                                            show zW l m_M_formula (zn Mz + 0, zw Mz + 0) N122_ 92 [some (.ref 81), some (.int (Int32.ofInt 1))] [.int (Int32.ofInt 1)] _
                                            refine zr_if_eq (pc := 92) (tgt := 27) ⟨(by decide), (by decide)⟩ (by decide) d_M_formula_92 (fun hc_92 => ?_) (fun hc_92 => ?_)
                                            · skip
                                              exact absurd hc_92 (by decide)
                                            · skip
                                              refine zw_iload_n (pc := 95) (n := 1) (x := Int32.ofInt 1) rfl d_M_formula_95 ?_
                                              refine zr_if_ne (pc := 96) (tgt := 27) ⟨(by decide), (by decide)⟩ (by decide) d_M_formula_96 (fun hc_96 => ?_) (fun hc_96 => ?_)
                                              · skip
                                                exact ih_27 1 (by decide) (by decide) (by (exact hu121_z)) N122_ hb0_N122_ i124_ (show (1 ≤ ze N122_ 81 7 ∧ (ze Mz 81 7 = 0 → zRea (zfs b_ n_ F_ K_ nm_) (0, (ze Mz 81 4).toNat, [], [], 0, false) zFt)) ∨ ((1 : Int) = 1 ∧ ze N122_ 81 7 = 0 ∧ ze Mz 81 7 = 0 ∧ zRea (zfs b_ n_ F_ K_ nm_) (0, (ze Mz 81 4).toNat, [], [], 0, false) (zRst 0 F_ N122_) ∧ zRI F_ K_ 0 N122_ ∧ 0 ≤ ze N122_ 81 43 ∧ ze N122_ 81 43 ≤ 30 ∧ ze Mz 81 4 ≤ ze N122_ 81 4) ∨ ((1 : Int) = 0 ∧ ze N122_ 81 7 = 0 ∧ ze Mz 81 7 = 0 ∧ zRea (zfs b_ n_ F_ K_ nm_) (0, (ze Mz 81 4).toNat, [], [], 0, false) (zRst 2 F_ N122_) ∧ zRI F_ K_ 1 N122_ ∧ 0 ≤ ze N122_ 81 43 ∧ ze N122_ 81 43 ≤ 30 ∧ (zrS N122_).head? ≠ some 1 ∧ ¬ (zisg b_ n_ (ze N122_ 81 4).toNat 42 ∨ zisg b_ n_ (ze N122_ 81 4).toNat 43 ∨ zisg b_ n_ (ze N122_ 81 4).toNat 45) ∧ ze Mz 81 4 ≤ ze N122_ 81 4 ∧ ¬ (zisg b_ n_ (ze N122_ 81 4).toNat 41 ∧ 0 ∈ zrS N122_)) from Or.inr (Or.inl (⟨(show (1 : Int) = 1 by first | rfl | assumption | omega | exact fun _ => hrt_ | exact hx0_ | exact hx1_ | exact hg0_ | exact hg1_), (show ze N122_ 81 7 = 0 by first | rfl | assumption | omega | exact fun _ => hrt_ | exact hx0_ | exact hx1_ | exact hg0_ | exact hg1_), (show ze Mz 81 7 = 0 by first | rfl | assumption | omega | exact fun _ => hrt_ | exact hx0_ | exact hx1_ | exact hg0_ | exact hg1_), (show zRea (zfs b_ n_ F_ K_ nm_) (0, (ze Mz 81 4).toNat, [], [], 0, false) (zRst 0 F_ N122_) by first | rfl | assumption | omega | exact fun _ => hrt_ | exact hx0_ | exact hx1_ | exact hg0_ | exact hg1_), (show zRI F_ K_ 0 N122_ by first | rfl | assumption | omega | exact fun _ => hrt_ | exact hx0_ | exact hx1_ | exact hg0_ | exact hg1_), (show 0 ≤ ze N122_ 81 43 by first | rfl | assumption | omega | exact fun _ => hrt_ | exact hx0_ | exact hx1_ | exact hg0_ | exact hg1_), (show ze N122_ 81 43 ≤ 30 by first | rfl | assumption | omega | exact fun _ => hrt_ | exact hx0_ | exact hx1_ | exact hg0_ | exact hg1_), (show ze Mz 81 4 ≤ ze N122_ 81 4 by first | rfl | assumption | omega | exact fun _ => hrt_ | exact hx0_ | exact hx1_ | exact hg0_ | exact hg1_)⟩))) (by have m1_ := zmF_c n_ N122_; have m2_ := zmF_c n_ N27_; have m3_ := i124_.x; omega)
                                              · skip
                                                exact absurd hc_96 (by decide)
                                          · skip
                                            exfalso; (exact zo_260 hl88_0_i125_ ha89_0_hp0_N131_)
                                        · skip
                                          have hr2_ := hl88_2_i125_
                                          have hc2_ := hl88_3_i125_
                                          have hh2_ := hl88_6_i125_
                                          have hn4_ := hl88_7_i125_
                                          refine zw_aload_n (pc := 88) (n := 0) (x := 81) rfl d_M_formula_88 ?_
                                          refine zr_callV (hf_N122_.w hW) hf_N122_.x (pc := 89) [] [] l_M_183 (c_M_isGood l N122_ (hf_N122_.w hW) ) rfl rfl rfl (by decide) (Nat.le_of_ble_eq_true rfl) d_M_formula_89 ?_
                                          rintro _ N133_ ⟨v134_, rfl, ⟨hv134_a, hv134_b⟩, hsN133_, hp0_N133_⟩
                                          obtain rfl := hsN133_.eq.symm
                                          replace hp0_N133_ : ((v134_ = 1 ∧ ze N122_ 81 7 = 0) ∨ (v134_ = 0 ∧ ze N122_ 81 7 ≠ 0)) := hp0_N133_
                                          rcases hp0_N133_ with ⟨rfl, ha89_0_hp0_N133_⟩ | ⟨rfl, ha89_0_hp0_N133_⟩
                                          · skip
                                            show zW l m_M_formula (zn Mz + 0, zw Mz + 0) N122_ 92 [some (.ref 81), some (.int (Int32.ofInt 0))] [.int (Int32.ofInt 1)] _
                                            refine zr_if_eq (pc := 92) (tgt := 27) ⟨(by decide), (by decide)⟩ (by decide) d_M_formula_92 (fun hc_92 => ?_) (fun hc_92 => ?_)
                                            · skip
                                              exact absurd hc_92 (by decide)
                                            · skip
                                              refine zw_iload_n (pc := 95) (n := 1) (x := Int32.ofInt 0) rfl d_M_formula_95 ?_
                                              refine zr_if_ne (pc := 96) (tgt := 27) ⟨(by decide), (by decide)⟩ (by decide) d_M_formula_96 (fun hc_96 => ?_) (fun hc_96 => ?_)
                                              · skip
                                                exact absurd hc_96 (by decide)
                                              · skip
                                                refine zw_aload_n (pc := 99) (n := 0) (x := 81) rfl d_M_formula_99 ?_
                                                refine zw_bipush (pc := 100) (v := Int32.ofInt 41) (by decide) d_M_formula_100 ?_
                                                refine zr_callV (hf_N122_.w hW) hf_N122_.x (pc := 102) [.int (Int32.ofInt 41)] [] l_M_187 (c_M_isSignHereF l N122_ (hf_N122_.w hW) 41 (by decide) (by decide) b_ n_ i124_) rfl rfl rfl (by decide) (Nat.le_of_ble_eq_true rfl) d_M_formula_102 ?_
                                                rintro _ N135_ ⟨v136_, rfl, ⟨hv136_a, hv136_b⟩, hsN135_, hp0_N135_⟩
                                                obtain rfl := hsN135_.eq.symm
                                                replace hp0_N135_ : ((v136_ = 1 ∧ ze N122_ 81 7 = 0 ∧ zisg b_ n_ (ze N122_ 81 4).toNat 41) ∨ (v136_ = 0 ∧ (ze N122_ 81 7 = 0 → ¬ zisg b_ n_ (ze N122_ 81 4).toNat 41))) := hp0_N135_
                                                rcases hp0_N135_ with ⟨rfl, ha102_0_hp0_N135_, ha102_1_hp0_N135_⟩ | ⟨rfl, ha102_0_hp0_N135_⟩
                                                · skip
                                                  have hC_ := ha102_1_hp0_N135_
                                                  show zW l m_M_formula (zn Mz + 0, zw Mz + 0) N122_ 105 [some (.ref 81), some (.int (Int32.ofInt 0))] [.int (Int32.ofInt 1)] _
                                                  refine zr_if_eq (pc := 105) (tgt := 27) ⟨(by decide), (by decide)⟩ (by decide) d_M_formula_105 (fun hc_105 => ?_) (fun hc_105 => ?_)
                                                  · skip
                                                    exact absurd hc_105 (by decide)
                                                  · skip
                                                    refine zw_aload_n (pc := 108) (n := 0) (x := 81) rfl d_M_formula_108 ?_
                                                    refine zr_callV (hf_N122_.w hW) hf_N122_.x (pc := 109) [] [] l_M_352 (c_M_isOpenF l N122_ (hf_N122_.w hW) F_ K_ hc2_) rfl rfl rfl (by decide) (Nat.le_of_ble_eq_true rfl) d_M_formula_109 ?_
                                                    rintro _ N137_ ⟨v138_, rfl, ⟨hv138_a, hv138_b⟩, hsN137_, hp0_N137_⟩
                                                    obtain rfl := hsN137_.eq.symm
                                                    replace hp0_N137_ : ((v138_ = 1 ∧ 0 ∈ zrS N122_) ∨ (v138_ = 0 ∧ ¬ 0 ∈ zrS N122_)) := hp0_N137_
                                                    rcases hp0_N137_ with ⟨rfl, ha109_0_hp0_N137_⟩ | ⟨rfl, ha109_0_hp0_N137_⟩
                                                    · skip
                                                      have hM0_ := ha109_0_hp0_N137_
                                                      show zW l m_M_formula (zn Mz + 0, zw Mz + 0) N122_ 112 [some (.ref 81), some (.int (Int32.ofInt 0))] [.int (Int32.ofInt 1)] _
                                                      refine zr_if_eq (pc := 112) (tgt := 27) ⟨(by decide), (by decide)⟩ (by decide) d_M_formula_112 (fun hc_112 => ?_) (fun hc_112 => ?_)
                                                      · skip
                                                        exact absurd hc_112 (by decide)
                                                      · skip
                                                        refine zw_aload_n (pc := 115) (n := 0) (x := 81) rfl d_M_formula_115 ?_
                                                        refine zw_iconst (pc := 116) (v := Int32.ofInt 2) (by decide) d_M_formula_116 ?_
                                                        refine zr_callV (hf_N122_.w hW) hf_N122_.x (pc := 117) [.int (Int32.ofInt 2)] [] l_M_337 (c_M_worksF l N122_ (hf_N122_.w hW) 2 (by decide) (by decide) F_ K_ hA_ c126_ hc2_ (show 2 ≤ 2 by first | (decide) | assumption) (show 2 ≤ 4 by first | (decide) | assumption)) rfl rfl rfl (by decide) (Nat.le_of_ble_eq_true rfl) d_M_formula_117 ?_
                                                        rintro _ N139_ ⟨rfl, hsN139_, ⟨hp0_N139_, hp1_N139_, hp2_N139_, hp3_N139_⟩⟩
                                                        have hf_N139_ := hf_N122_.tr hsN139_ (by decide +kernel) (by decide +kernel)
                                                        have hb0_N139_ := hb0_N122_.tr hsN139_ (by decide +kernel) (by decide +kernel)
                                                        have hb1_N139_ := hs123_.tr hsN139_ (by decide +kernel) (by decide +kernel)
                                                        have e3_N139_ : ze N139_ 81 3 = ze N122_ 81 3 := hsN139_.e (by decide)
                                                        have e4_N139_ : ze N139_ 81 4 = ze N122_ 81 4 := hsN139_.e (by decide)
                                                        have e7_N139_ : ze N139_ 81 7 = ze N122_ 81 7 := hsN139_.e (by decide)
                                                        have r38_N139_ := ze_r N139_ 81 38
                                                        have r39_N139_ := ze_r N139_ 81 39
                                                        have r41_N139_ := ze_r N139_ 81 41
                                                        have e42_N139_ : ze N139_ 81 42 = ze N122_ 81 42 := hsN139_.e (by decide)
                                                        have e43_N139_ : ze N139_ 81 43 = ze N122_ 81 43 := hsN139_.e (by decide)
                                                        have c141_ : zRmk F_ K_ N139_ := zRmk.fr hsN139_ c126_ (by decide +kernel) (by decide +kernel)
                                                        have c142_ : zRb b_ n_ N139_ := zRb.fr hsN139_ c127_ (by decide +kernel) (by decide +kernel)
                                                        have c143_ : zRNm nm_ F_ K_ b_ n_ N139_ := zRNm.fr hsN139_ c128_ (by decide +kernel) (by decide +kernel)
                                                        have c144_ : zRt b_ n_ N139_ := zRt.fr hsN139_ i124_ (by decide +kernel) (by decide +kernel)
                                                        show zW l m_M_formula (zn Mz + 0, zw Mz + 0) N139_ 120 [some (.ref 81), some (.int (Int32.ofInt 0))] [] _
                                                        have hw1_ := hp1_N139_
                                                        have hw2_ := hp2_N139_
                                                        have hw3_ := hp3_N139_ hh2_
                                                        have hcr_ := hp0_N139_
                                                        have hcr0_ := hcr_.1
                                                        have hcr2_ := hcr_.2.2.1
                                                        have hhz_ := zhd_0 (show 0 ∈ (zrS N139_, zrW F_ N139_, zrG N139_).1 by rw [hw1_]; exact (zrk_m (by decide) _ _).mpr hM0_) hw3_ (fun y_ h_ => hw2_ y_ h_)
                                                        refine zw_aload_n (pc := 120) (n := 0) (x := 81) rfl d_M_formula_120 ?_
                                                        refine zw_dup (pc := 121) rfl d_M_formula_121 ?_
                                                        refine zr_getI (hf_N139_.w hW) (pc := 122) f_M_305 rfl d_M_formula_122 ?_
                                                        refine zw_iconst (pc := 125) (v := Int32.ofInt 1) (by decide) d_M_formula_125 ?_
                                                        refine zr_isub (pc := 126) d_M_formula_126 ?_
                                                        refine zr_putI (hf_N139_.w hW) (pc := 127) f_M_305 rfl rfl ⟨by (exact zo_600 hcr0_), by (exact zo_601 r41_N139_.2)⟩ rfl rfl d_M_formula_127 (fun N145_ hsN145_ hvN145_ => ?_)
                                                        have hf_N145_ := hf_N139_.tr hsN145_ (by decide +kernel) (by decide +kernel)
                                                        have hb0_N145_ := hb0_N139_.tr hsN145_ (by decide +kernel) (by decide +kernel)
                                                        have hb1_N145_ := hb1_N139_.tr hsN145_ (by decide +kernel) (by decide +kernel)
                                                        have e3_N145_ : ze N145_ 81 3 = ze N139_ 81 3 := hsN145_.e (by decide)
                                                        have e4_N145_ : ze N145_ 81 4 = ze N139_ 81 4 := hsN145_.e (by decide)
                                                        have e7_N145_ : ze N145_ 81 7 = ze N139_ 81 7 := hsN145_.e (by decide)
                                                        have e38_N145_ : ze N145_ 81 38 = ze N139_ 81 38 := hsN145_.e (by decide)
                                                        have e39_N145_ : ze N145_ 81 39 = ze N139_ 81 39 := hsN145_.e (by decide)
                                                        have r41_N145_ := ze_r N145_ 81 41
                                                        have e42_N145_ : ze N145_ 81 42 = ze N139_ 81 42 := hsN145_.e (by decide)
                                                        have e43_N145_ : ze N145_ 81 43 = ze N139_ 81 43 := hsN145_.e (by decide)
                                                        have qzrG_N145_ : zrG N145_ = zrG N139_ := zrG_q hsN145_ (by decide)
                                                        have qzrW_N145_ : zrW F_ N145_ = zrW F_ N139_ := zrW_q hsN145_ (by decide)
                                                        have c146_ : zRmk F_ K_ N145_ := zRmk.fr hsN145_ c141_ (by decide +kernel) (by decide +kernel)
                                                        have c147_ : zRb b_ n_ N145_ := zRb.fr hsN145_ c142_ (by decide +kernel) (by decide +kernel)
                                                        have c148_ : zRNm nm_ F_ K_ b_ n_ N145_ := zRNm.fr hsN145_ c143_ (by decide +kernel) (by decide +kernel)
                                                        have c149_ : zRt b_ n_ N145_ := zRt.fr hsN145_ c144_ (by decide +kernel) (by decide +kernel)
                                                        refine zw_aload_n (pc := 130) (n := 0) (x := 81) rfl d_M_formula_130 ?_
                                                        refine zw_dup (pc := 131) rfl d_M_formula_131 ?_
                                                        refine zr_getI (hf_N145_.w hW) (pc := 132) f_M_296 rfl d_M_formula_132 ?_
                                                        refine zw_iconst (pc := 135) (v := Int32.ofInt 1) (by decide) d_M_formula_135 ?_
                                                        refine zr_isub (pc := 136) d_M_formula_136 ?_
                                                        refine zr_putI (hf_N145_.w hW) (pc := 137) f_M_296 rfl rfl ⟨by (exact zo_602 e42_N145_ hcr2_), by (exact zo_65 e42_N139_ e42_N145_ r42_N122_.2)⟩ rfl rfl d_M_formula_137 (fun N150_ hsN150_ hvN150_ => ?_)
                                                        have hf_N150_ := hf_N145_.tr hsN150_ (by decide +kernel) (by decide +kernel)
                                                        have hb0_N150_ := hb0_N145_.tr hsN150_ (by decide +kernel) (by decide +kernel)
                                                        have hb1_N150_ := hb1_N145_.tr hsN150_ (by decide +kernel) (by decide +kernel)
                                                        have e3_N150_ : ze N150_ 81 3 = ze N145_ 81 3 := hsN150_.e (by decide)
                                                        have e4_N150_ : ze N150_ 81 4 = ze N145_ 81 4 := hsN150_.e (by decide)
                                                        have e7_N150_ : ze N150_ 81 7 = ze N145_ 81 7 := hsN150_.e (by decide)
                                                        have e38_N150_ : ze N150_ 81 38 = ze N145_ 81 38 := hsN150_.e (by decide)
                                                        have e39_N150_ : ze N150_ 81 39 = ze N145_ 81 39 := hsN150_.e (by decide)
                                                        have e41_N150_ : ze N150_ 81 41 = ze N145_ 81 41 := hsN150_.e (by decide)
                                                        have r42_N150_ := ze_r N150_ 81 42
                                                        have e43_N150_ : ze N150_ 81 43 = ze N145_ 81 43 := hsN150_.e (by decide)
                                                        have qzrS_N150_ : zrS N150_ = zrS N145_ := zrS_q hsN150_ (by decide)
                                                        have qzrG_N150_ : zrG N150_ = zrG N145_ := zrG_q hsN150_ (by decide)
                                                        have qzrW_N150_ : zrW F_ N150_ = zrW F_ N145_ := zrW_q hsN150_ (by decide)
                                                        have c151_ : zRmk F_ K_ N150_ := zRmk.fr hsN150_ c146_ (by decide +kernel) (by decide +kernel)
                                                        have c152_ : zRb b_ n_ N150_ := zRb.fr hsN150_ c147_ (by decide +kernel) (by decide +kernel)
                                                        have c153_ : zRNm nm_ F_ K_ b_ n_ N150_ := zRNm.fr hsN150_ c148_ (by decide +kernel) (by decide +kernel)
                                                        have c154_ : zRt b_ n_ N150_ := zRt.fr hsN150_ c149_ (by decide +kernel) (by decide +kernel)
                                                        have hcd_ := zRI_cl (Mz := N139_) (Nz := N150_) hF27_ hcr_ hhz_ (by (exact zo_603 e41_N150_ hvN145_)) (fun i_ => (hsN150_.ie (by decide) (by decide) i_).trans (hsN145_.ie (by decide) (by decide) i_)) (by (exact zo_604 e42_N145_ hcr2_ hvN150_ r42_N150_.2)) (by (exact zo_53 e38_N145_ e38_N150_)) (by (exact zo_53 e39_N145_ e39_N150_)) (fun x_ => (hsN150_.jg (by decide) (by decide) x_).trans (hsN145_.jg (by decide) (by decide) x_))
                                                        have hcd1_ := hcd_.1
                                                        have hyt_ := c154_
                                                        have hyx_ := hyt_.x
                                                        refine zw_aload_n (pc := 140) (n := 0) (x := 81) rfl d_M_formula_140 ?_
                                                        refine zr_callV (hf_N150_.w hW) hf_N150_.x (pc := 141) [] [] l_M_193 (c_M_goOnF l N150_ (hf_N150_.w hW) b_ n_ c152_ (show 0 ≤ ze N150_ 81 3 by first | (exact zo_57 hyx_.2.1) | assumption) (show ze N150_ 81 3 ≤ n_ by first | (exact zo_605 hyx_.2.2) | assumption)) rfl rfl rfl (by decide) (Nat.le_of_ble_eq_true rfl) d_M_formula_141 ?_
                                                        rintro _ N155_ ⟨rfl, hsN155_, ⟨hp0_N155_, hp1_N155_⟩⟩
                                                        have hf_N155_ := hf_N150_.tr hsN155_ (by decide +kernel) (by decide +kernel)
                                                        have hb0_N155_ := hb0_N150_.tr hsN155_ (by decide +kernel) (by decide +kernel)
                                                        have hb1_N155_ := hb1_N150_.tr hsN155_ (by decide +kernel) (by decide +kernel)
                                                        have r3_N155_ := ze_r N155_ 81 3
                                                        have r4_N155_ := ze_r N155_ 81 4
                                                        have e7_N155_ : ze N155_ 81 7 = ze N150_ 81 7 := hsN155_.e (by decide)
                                                        have e38_N155_ : ze N155_ 81 38 = ze N150_ 81 38 := hsN155_.e (by decide)
                                                        have e39_N155_ : ze N155_ 81 39 = ze N150_ 81 39 := hsN155_.e (by decide)
                                                        have e41_N155_ : ze N155_ 81 41 = ze N150_ 81 41 := hsN155_.e (by decide)
                                                        have e42_N155_ : ze N155_ 81 42 = ze N150_ 81 42 := hsN155_.e (by decide)
                                                        have e43_N155_ : ze N155_ 81 43 = ze N150_ 81 43 := hsN155_.e (by decide)
                                                        have qzrS_N155_ : zrS N155_ = zrS N150_ := zrS_q hsN155_ (by decide)
                                                        have qzrG_N155_ : zrG N155_ = zrG N150_ := zrG_q hsN155_ (by decide)
                                                        have qzrW_N155_ : zrW F_ N155_ = zrW F_ N150_ := zrW_q hsN155_ (by decide)
                                                        have c157_ : zRmk F_ K_ N155_ := zRmk.fr hsN155_ c151_ (by decide +kernel) (by decide +kernel)
                                                        have c158_ : zRb b_ n_ N155_ := zRb.fr hsN155_ c152_ (by decide +kernel) (by decide +kernel)
                                                        have c159_ : zRNm nm_ F_ K_ b_ n_ N155_ := zRNm.fr hsN155_ c153_ (by decide +kernel) (by decide +kernel)
                                                        have c160_ : zRI F_ K_ 1 N155_ := zRI.fr hsN155_ hcd1_ (by decide +kernel) (by decide +kernel)
                                                        show zW l m_M_formula (zn Mz + 0, zw Mz + 0) N155_ 144 [some (.ref 81), some (.int (Int32.ofInt 0))] [] _
                                                        have hnn_ := hyt_.nx hp0_N155_
                                                        have hst1_ := hr2_.tr (zRea.st (zr2_c (Rz := N139_) (c := (0, 0)) (F := F_) (K := K_) (nm := nm_) hC_ hM0_ hw1_ (qzrS_N155_.trans hcd_.2.1) (qzrW_N155_.trans hcd_.2.2.1) (qzrG_N155_.trans hcd_.2.2.2) (by (exact zo_52 e43_N139_ e43_N145_ e43_N150_ e43_N155_)) (hnn_.2.trans (by rw [show ze N150_ 81 4 = ze N122_ 81 4 by (exact zo_606 e4_N139_ e4_N145_ e4_N150_ hyx_.1.1 r4_N122_.2)]))))
                                                        have hnp_ := hnn_.2.trans (show znx b_ n_ (ze N150_ 81 4).toNat = znx b_ n_ (ze N122_ 81 4).toNat by rw [show ze N150_ 81 4 = ze N122_ 81 4 by (exact zo_606 e4_N139_ e4_N145_ e4_N150_ hyx_.1.1 r4_N122_.2)])
                                                        have hgx_ := znx_ge (b := b_) (n := n_) (s := (ze N122_ 81 4).toNat)
                                                        have hgy_ := znx_g (b := b_) (n := n_) (s := (ze N122_ 81 4).toNat) (by have h_ := hC_.1; (exact zo_607 h_))
                                                        refine zw_aload_n (pc := 144) (n := 0) (x := 81) rfl d_M_formula_144 ?_
                                                        refine zr_callV (hf_N155_.w hW) hf_N155_.x (pc := 145) [] [] l_M_346 (c_M_closesF l N155_ (hf_N155_.w hW) F_ K_ hA_ b_ n_ nm_ c157_ c158_ hp1_N155_ c160_ (show ze N155_ 81 7 = 0 by first | (exact zo_608 e7_N139_ e7_N145_ e7_N150_ e7_N155_ hl88_0_i125_) | assumption)) rfl rfl rfl (by decide) (Nat.le_of_ble_eq_true rfl) d_M_formula_145 ?_
                                                        rintro _ N161_ ⟨rfl, hsN161_, ⟨hp0_N161_, hp1_N161_, hp2_N161_⟩⟩
                                                        have hf_N161_ := hf_N155_.tr hsN161_ (by decide +kernel) (by decide +kernel)
                                                        have hb0_N161_ := hb0_N155_.tr hsN161_ (by decide +kernel) (by decide +kernel)
                                                        have hb1_N161_ := hb1_N155_.tr hsN161_ (by decide +kernel) (by decide +kernel)
                                                        have r3_N161_ := ze_r N161_ 81 3
                                                        have r4_N161_ := ze_r N161_ 81 4
                                                        have r7_N161_ := ze_r N161_ 81 7
                                                        have e38_N161_ : ze N161_ 81 38 = ze N155_ 81 38 := hsN161_.e (by decide)
                                                        have r39_N161_ := ze_r N161_ 81 39
                                                        have r41_N161_ := ze_r N161_ 81 41
                                                        have r42_N161_ := ze_r N161_ 81 42
                                                        have e43_N161_ : ze N161_ 81 43 = ze N155_ 81 43 := hsN161_.e (by decide)
                                                        have c163_ : zRmk F_ K_ N161_ := zRmk.fr hsN161_ c157_ (by decide +kernel) (by decide +kernel)
                                                        have c164_ : zRb b_ n_ N161_ := zRb.fr hsN161_ c158_ (by decide +kernel) (by decide +kernel)
                                                        have c165_ : zRNm nm_ F_ K_ b_ n_ N161_ := zRNm.fr hsN161_ c159_ (by decide +kernel) (by decide +kernel)
                                                        rcases hp2_N161_ with ⟨ha145_0_hp2_N161_, ha145_1_hp2_N161_⟩ | ⟨ha145_0_hp2_N161_, ha145_1_hp2_N161_, ha145_2_hp2_N161_, ha145_3_hp2_N161_, ha145_4_hp2_N161_⟩
                                                        · skip
                                                          have hrt_ := hst1_.tr ha145_1_hp2_N161_
                                                          show zW l m_M_formula (zn Mz + 0, zw Mz + 0) N161_ 148 [some (.ref 81), some (.int (Int32.ofInt 0))] [] _
                                                          refine zw_aload_n (pc := 148) (n := 0) (x := 81) rfl d_M_formula_148 ?_
                                                          refine zr_callV (hf_N161_.w hW) hf_N161_.x (pc := 149) [] [] l_M_183 (c_M_isGood l N161_ (hf_N161_.w hW) ) rfl rfl rfl (by decide) (Nat.le_of_ble_eq_true rfl) d_M_formula_149 ?_
                                                          rintro _ N166_ ⟨v167_, rfl, ⟨hv167_a, hv167_b⟩, hsN166_, hp0_N166_⟩
                                                          obtain rfl := hsN166_.eq.symm
                                                          replace hp0_N166_ : ((v167_ = 1 ∧ ze N161_ 81 7 = 0) ∨ (v167_ = 0 ∧ ze N161_ 81 7 ≠ 0)) := hp0_N166_
                                                          rcases hp0_N166_ with ⟨rfl, ha149_0_hp0_N166_⟩ | ⟨rfl, ha149_0_hp0_N166_⟩
                                                          · skip
                                                            exfalso; (exact zo_609 ha145_0_hp2_N161_ ha149_0_hp0_N166_)
                                                          · skip
                                                            show zW l m_M_formula (zn Mz + 0, zw Mz + 0) N161_ 152 [some (.ref 81), some (.int (Int32.ofInt 0))] [.int (Int32.ofInt 0)] _
                                                            refine zr_if_eq (pc := 152) (tgt := 166) ⟨(by decide), (by decide)⟩ (by decide) d_M_formula_152 (fun hc_152 => ?_) (fun hc_152 => ?_)
                                                            · skip
                                                              refine zw_iconst (pc := 166) (v := Int32.ofInt 0) (by decide) d_M_formula_166 ?_
                                                              refine zw_istore_n (pc := 167) (i := 1) (L2 := [some (.ref 81), some (.int (Int32.ofInt 0))]) rfl (by decide) rfl d_M_formula_167 ?_
                                                              refine zw_goto (pc := 168) (tgt := 88) (by decide) d_M_formula_168 ?_
                                                              exact ih_88 0 (by decide) (by decide) (by (exact hu121_z)) N161_ hb1_N161_ hp0_N161_ (show (1 ≤ ze N161_ 81 7 ∧ (ze Mz 81 7 = 0 → zRea (zfs b_ n_ F_ K_ nm_) (0, (ze Mz 81 4).toNat, [], [], 0, false) zFt)) ∨ ((0 : Int) = 1 ∧ ze N161_ 81 7 = 0 ∧ ze Mz 81 7 = 0 ∧ zRea (zfs b_ n_ F_ K_ nm_) (0, (ze Mz 81 4).toNat, [], [], 0, false) (zRst 0 F_ N161_) ∧ zRI F_ K_ 0 N161_ ∧ 0 ≤ ze N161_ 81 43 ∧ ze N161_ 81 43 ≤ 30 ∧ ze Mz 81 4 ≤ ze N161_ 81 4 ∧ ze N27_ 81 4 < ze N161_ 81 4) ∨ ((0 : Int) = 0 ∧ ze N161_ 81 7 = 0 ∧ ze Mz 81 7 = 0 ∧ zRea (zfs b_ n_ F_ K_ nm_) (0, (ze Mz 81 4).toNat, [], [], 0, false) (zRst 2 F_ N161_) ∧ zRI F_ K_ 1 N161_ ∧ 0 ≤ ze N161_ 81 43 ∧ ze N161_ 81 43 ≤ 30 ∧ (zrS N161_).head? ≠ some 1 ∧ ¬ (zisg b_ n_ (ze N161_ 81 4).toNat 42 ∨ zisg b_ n_ (ze N161_ 81 4).toNat 43 ∨ zisg b_ n_ (ze N161_ 81 4).toNat 45) ∧ ze Mz 81 4 ≤ ze N161_ 81 4 ∧ ze N27_ 81 4 < ze N161_ 81 4) from Or.inl (⟨(show 1 ≤ ze N161_ 81 7 by first | rfl | assumption | omega | exact fun _ => hrt_ | exact hx0_ | exact hx1_ | exact hg0_ | exact hg1_), (show (ze Mz 81 7 = 0 → zRea (zfs b_ n_ F_ K_ nm_) (0, (ze Mz 81 4).toNat, [], [], 0, false) zFt) by first | rfl | assumption | omega | exact fun _ => hrt_ | exact hx0_ | exact hx1_ | exact hg0_ | exact hg1_)⟩)) (by have m1_ := zmF_c n_ N161_; have m2_ := zmF_c n_ N122_; have m3_ := hp0_N161_.x; omega)
                                                            · skip
                                                              exact absurd hc_152 (by decide)
                                                        · skip
                                                          have hz0_ := hst1_.tr ha145_1_hp2_N161_
                                                          have hz1_ := ha145_2_hp2_N161_
                                                          have hz2_ := ha145_3_hp2_N161_
                                                          have hz3_ := ha145_4_hp2_N161_
                                                          show zW l m_M_formula (zn Mz + 0, zw Mz + 0) N161_ 148 [some (.ref 81), some (.int (Int32.ofInt 0))] [] _
                                                          refine zw_aload_n (pc := 148) (n := 0) (x := 81) rfl d_M_formula_148 ?_
                                                          refine zr_callV (hf_N161_.w hW) hf_N161_.x (pc := 149) [] [] l_M_183 (c_M_isGood l N161_ (hf_N161_.w hW) ) rfl rfl rfl (by decide) (Nat.le_of_ble_eq_true rfl) d_M_formula_149 ?_
                                                          rintro _ N168_ ⟨v169_, rfl, ⟨hv169_a, hv169_b⟩, hsN168_, hp0_N168_⟩
                                                          obtain rfl := hsN168_.eq.symm
                                                          replace hp0_N168_ : ((v169_ = 1 ∧ ze N161_ 81 7 = 0) ∨ (v169_ = 0 ∧ ze N161_ 81 7 ≠ 0)) := hp0_N168_
                                                          rcases hp0_N168_ with ⟨rfl, ha149_0_hp0_N168_⟩ | ⟨rfl, ha149_0_hp0_N168_⟩
                                                          · skip
                                                            show zW l m_M_formula (zn Mz + 0, zw Mz + 0) N161_ 152 [some (.ref 81), some (.int (Int32.ofInt 0))] [.int (Int32.ofInt 1)] _
                                                            refine zr_if_eq (pc := 152) (tgt := 166) ⟨(by decide), (by decide)⟩ (by decide) d_M_formula_152 (fun hc_152 => ?_) (fun hc_152 => ?_)
                                                            · skip
                                                              exact absurd hc_152 (by decide)
                                                            · skip
                                                              refine zw_aload_n (pc := 155) (n := 0) (x := 81) rfl d_M_formula_155 ?_
                                                              refine zr_callV (hf_N161_.w hW) hf_N161_.x (pc := 156) [] [] l_M_349 (c_M_goesOnF l N161_ (hf_N161_.w hW) F_ K_ hA_ b_ n_ nm_ c163_ c164_ hp0_N161_ hz1_ (show (zrS N161_).head? ≠ some 1 by first | (exact ha145_3_hp2_N161_) | assumption) (show ze N161_ 81 7 = 0 by first | (exact ha145_0_hp2_N161_) | assumption)) rfl rfl rfl (by decide) (Nat.le_of_ble_eq_true rfl) d_M_formula_156 ?_
                                                              rintro _ N170_ ⟨v171_, rfl, ⟨hv171_a, hv171_b⟩, hsN170_, ⟨hp0_N170_, hp1_N170_, hp2_N170_⟩⟩
                                                              have hf_N170_ := hf_N161_.tr hsN170_ (by decide +kernel) (by decide +kernel)
                                                              have hb0_N170_ := hb0_N161_.tr hsN170_ (by decide +kernel) (by decide +kernel)
                                                              have hb1_N170_ := hb1_N161_.tr hsN170_ (by decide +kernel) (by decide +kernel)
                                                              have r3_N170_ := ze_r N170_ 81 3
                                                              have r4_N170_ := ze_r N170_ 81 4
                                                              have e7_N170_ : ze N170_ 81 7 = ze N161_ 81 7 := hsN170_.e (by decide)
                                                              have r38_N170_ := ze_r N170_ 81 38
                                                              have r39_N170_ := ze_r N170_ 81 39
                                                              have r41_N170_ := ze_r N170_ 81 41
                                                              have e42_N170_ : ze N170_ 81 42 = ze N161_ 81 42 := hsN170_.e (by decide)
                                                              have e43_N170_ : ze N170_ 81 43 = ze N161_ 81 43 := hsN170_.e (by decide)
                                                              have c172_ : zRmk F_ K_ N170_ := zRmk.fr hsN170_ c163_ (by decide +kernel) (by decide +kernel)
                                                              have c173_ : zRb b_ n_ N170_ := zRb.fr hsN170_ c164_ (by decide +kernel) (by decide +kernel)
                                                              have c174_ : zRNm nm_ F_ K_ b_ n_ N170_ := zRNm.fr hsN170_ c165_ (by decide +kernel) (by decide +kernel)
                                                              rcases hp2_N170_ with ⟨rfl, ha156_0_hp2_N170_, ha156_1_hp2_N170_, ha156_2_hp2_N170_⟩ | ⟨rfl, ha156_0_hp2_N170_, ha156_1_hp2_N170_, ha156_2_hp2_N170_, ha156_3_hp2_N170_, ha156_4_hp2_N170_⟩
                                                              · skip
                                                                have hg0_ := hz0_.tr ha156_0_hp2_N170_
                                                                have hg1_ := ha156_1_hp2_N170_
                                                                have hg2_ := ha156_2_hp2_N170_
                                                                show zW l m_M_formula (zn Mz + 0, zw Mz + 0) N170_ 159 [some (.ref 81), some (.int (Int32.ofInt 0))] [.int (Int32.ofInt 1)] _
                                                                refine zr_if_eq (pc := 159) (tgt := 166) ⟨(by decide), (by decide)⟩ (by decide) d_M_formula_159 (fun hc_159 => ?_) (fun hc_159 => ?_)
                                                                · skip
                                                                  exact absurd hc_159 (by decide)
                                                                · skip
                                                                  refine zw_iconst (pc := 162) (v := Int32.ofInt 1) (by decide) d_M_formula_162 ?_
                                                                  refine zw_goto (pc := 163) (tgt := 167) (by decide) d_M_formula_163 ?_
                                                                  refine zw_istore_n (pc := 167) (i := 1) (L2 := [some (.ref 81), some (.int (Int32.ofInt 1))]) rfl (by decide) rfl d_M_formula_167 ?_
                                                                  refine zw_goto (pc := 168) (tgt := 88) (by decide) d_M_formula_168 ?_
                                                                  exact ih_88 1 (by decide) (by decide) (by (decide)) N170_ hb1_N170_ hp0_N170_ (show (1 ≤ ze N170_ 81 7 ∧ (ze Mz 81 7 = 0 → zRea (zfs b_ n_ F_ K_ nm_) (0, (ze Mz 81 4).toNat, [], [], 0, false) zFt)) ∨ ((1 : Int) = 1 ∧ ze N170_ 81 7 = 0 ∧ ze Mz 81 7 = 0 ∧ zRea (zfs b_ n_ F_ K_ nm_) (0, (ze Mz 81 4).toNat, [], [], 0, false) (zRst 0 F_ N170_) ∧ zRI F_ K_ 0 N170_ ∧ 0 ≤ ze N170_ 81 43 ∧ ze N170_ 81 43 ≤ 30 ∧ ze Mz 81 4 ≤ ze N170_ 81 4 ∧ ze N27_ 81 4 < ze N170_ 81 4) ∨ ((1 : Int) = 0 ∧ ze N170_ 81 7 = 0 ∧ ze Mz 81 7 = 0 ∧ zRea (zfs b_ n_ F_ K_ nm_) (0, (ze Mz 81 4).toNat, [], [], 0, false) (zRst 2 F_ N170_) ∧ zRI F_ K_ 1 N170_ ∧ 0 ≤ ze N170_ 81 43 ∧ ze N170_ 81 43 ≤ 30 ∧ (zrS N170_).head? ≠ some 1 ∧ ¬ (zisg b_ n_ (ze N170_ 81 4).toNat 42 ∨ zisg b_ n_ (ze N170_ 81 4).toNat 43 ∨ zisg b_ n_ (ze N170_ 81 4).toNat 45) ∧ ze Mz 81 4 ≤ ze N170_ 81 4 ∧ ze N27_ 81 4 < ze N170_ 81 4) from Or.inr (Or.inl (⟨(show (1 : Int) = 1 by first | rfl | assumption | omega | exact fun _ => hrt_ | exact hx0_ | exact hx1_ | exact hg0_ | exact hg1_), (show ze N170_ 81 7 = 0 by first | rfl | assumption | (exact zo_610 e7_N170_ ha145_0_hp2_N161_) | exact fun _ => hrt_ | exact hx0_ | exact hx1_ | exact hg0_ | exact hg1_), (show ze Mz 81 7 = 0 by first | rfl | assumption | omega | exact fun _ => hrt_ | exact hx0_ | exact hx1_ | exact hg0_ | exact hg1_), (show zRea (zfs b_ n_ F_ K_ nm_) (0, (ze Mz 81 4).toNat, [], [], 0, false) (zRst 0 F_ N170_) by first | rfl | assumption | omega | exact fun _ => hrt_ | exact hx0_ | exact hx1_ | exact hg0_ | exact hg1_), (show zRI F_ K_ 0 N170_ by first | rfl | assumption | omega | exact fun _ => hrt_ | exact hx0_ | exact hx1_ | exact hg0_ | exact hg1_), (show 0 ≤ ze N170_ 81 43 by first | rfl | assumption | (exact zo_618 e43_N139_ e43_N145_ e43_N150_ e43_N155_ hl88_4_i125_ hp1_N161_ hp1_N170_) | exact fun _ => hrt_ | exact hx0_ | exact hx1_ | exact hg0_ | exact hg1_), (show ze N170_ 81 43 ≤ 30 by first | rfl | assumption | (exact zo_619 e43_N139_ e43_N145_ e43_N150_ e43_N155_ hl88_5_i125_ hp1_N161_ hp1_N170_) | exact fun _ => hrt_ | exact hx0_ | exact hx1_ | exact hg0_ | exact hg1_), (show ze Mz 81 4 ≤ ze N170_ 81 4 by first | rfl | assumption | (exact zo_613 ha145_4_hp2_N161_ ha156_2_hp2_N170_ hgy_ hl88_8_i125_ hnp_ hp0_N155_ r4_N155_.1 r_4.2) | exact fun _ => hrt_ | exact hx0_ | exact hx1_ | exact hg0_ | exact hg1_), (show ze N27_ 81 4 < ze N170_ 81 4 by first | rfl | assumption | (exact zo_620 ha145_4_hp2_N161_ ha156_2_hp2_N170_ hgy_ hl88_9_i125_ hnp_ hp0_N155_ r4_N155_.1 r4_N27_.2) | exact fun _ => hrt_ | exact hx0_ | exact hx1_ | exact hg0_ | exact hg1_)⟩))) (by have m1_ := zmF_c n_ N170_; have m2_ := zmF_c n_ N122_; have m3_ := hp0_N170_.x; omega)
                                                              · skip
                                                                have hg0_ := hz0_.tr ha156_0_hp2_N170_
                                                                have hg1_ := ha156_1_hp2_N170_
                                                                have hg2_ := ha156_2_hp2_N170_
                                                                have hg3_ := ha156_3_hp2_N170_
                                                                have hg4_ := ha156_4_hp2_N170_
                                                                show zW l m_M_formula (zn Mz + 0, zw Mz + 0) N170_ 159 [some (.ref 81), some (.int (Int32.ofInt 0))] [.int (Int32.ofInt 0)] _
                                                                refine zr_if_eq (pc := 159) (tgt := 166) ⟨(by decide), (by decide)⟩ (by decide) d_M_formula_159 (fun hc_159 => ?_) (fun hc_159 => ?_)
                                                                · skip
                                                                  refine zw_iconst (pc := 166) (v := Int32.ofInt 0) (by decide) d_M_formula_166 ?_
                                                                  refine zw_istore_n (pc := 167) (i := 1) (L2 := [some (.ref 81), some (.int (Int32.ofInt 0))]) rfl (by decide) rfl d_M_formula_167 ?_
                                                                  refine zw_goto (pc := 168) (tgt := 88) (by decide) d_M_formula_168 ?_
                                                                  exact ih_88 0 (by decide) (by decide) (by (exact hu121_z)) N170_ hb1_N170_ hp0_N170_ (show (1 ≤ ze N170_ 81 7 ∧ (ze Mz 81 7 = 0 → zRea (zfs b_ n_ F_ K_ nm_) (0, (ze Mz 81 4).toNat, [], [], 0, false) zFt)) ∨ ((0 : Int) = 1 ∧ ze N170_ 81 7 = 0 ∧ ze Mz 81 7 = 0 ∧ zRea (zfs b_ n_ F_ K_ nm_) (0, (ze Mz 81 4).toNat, [], [], 0, false) (zRst 0 F_ N170_) ∧ zRI F_ K_ 0 N170_ ∧ 0 ≤ ze N170_ 81 43 ∧ ze N170_ 81 43 ≤ 30 ∧ ze Mz 81 4 ≤ ze N170_ 81 4 ∧ ze N27_ 81 4 < ze N170_ 81 4) ∨ ((0 : Int) = 0 ∧ ze N170_ 81 7 = 0 ∧ ze Mz 81 7 = 0 ∧ zRea (zfs b_ n_ F_ K_ nm_) (0, (ze Mz 81 4).toNat, [], [], 0, false) (zRst 2 F_ N170_) ∧ zRI F_ K_ 1 N170_ ∧ 0 ≤ ze N170_ 81 43 ∧ ze N170_ 81 43 ≤ 30 ∧ (zrS N170_).head? ≠ some 1 ∧ ¬ (zisg b_ n_ (ze N170_ 81 4).toNat 42 ∨ zisg b_ n_ (ze N170_ 81 4).toNat 43 ∨ zisg b_ n_ (ze N170_ 81 4).toNat 45) ∧ ze Mz 81 4 ≤ ze N170_ 81 4 ∧ ze N27_ 81 4 < ze N170_ 81 4) from Or.inr (Or.inr (⟨(show (0 : Int) = 0 by first | rfl | assumption | omega | exact fun _ => hrt_ | exact hx0_ | exact hx1_ | exact hg0_ | exact hg1_), (show ze N170_ 81 7 = 0 by first | rfl | assumption | (exact zo_610 e7_N170_ ha145_0_hp2_N161_) | exact fun _ => hrt_ | exact hx0_ | exact hx1_ | exact hg0_ | exact hg1_), (show ze Mz 81 7 = 0 by first | rfl | assumption | omega | exact fun _ => hrt_ | exact hx0_ | exact hx1_ | exact hg0_ | exact hg1_), (show zRea (zfs b_ n_ F_ K_ nm_) (0, (ze Mz 81 4).toNat, [], [], 0, false) (zRst 2 F_ N170_) by first | rfl | assumption | omega | exact fun _ => hrt_ | exact hx0_ | exact hx1_ | exact hg0_ | exact hg1_), (show zRI F_ K_ 1 N170_ by first | rfl | assumption | omega | exact fun _ => hrt_ | exact hx0_ | exact hx1_ | exact hg0_ | exact hg1_), (show 0 ≤ ze N170_ 81 43 by first | rfl | assumption | (exact zo_618 e43_N139_ e43_N145_ e43_N150_ e43_N155_ hl88_4_i125_ hp1_N161_ hp1_N170_) | exact fun _ => hrt_ | exact hx0_ | exact hx1_ | exact hg0_ | exact hg1_), (show ze N170_ 81 43 ≤ 30 by first | rfl | assumption | (exact zo_619 e43_N139_ e43_N145_ e43_N150_ e43_N155_ hl88_5_i125_ hp1_N161_ hp1_N170_) | exact fun _ => hrt_ | exact hx0_ | exact hx1_ | exact hg0_ | exact hg1_), (show (zrS N170_).head? ≠ some 1 by first | rfl | assumption | omega | exact fun _ => hrt_ | exact hx0_ | exact hx1_ | exact hg0_ | exact hg1_), (show ¬ (zisg b_ n_ (ze N170_ 81 4).toNat 42 ∨ zisg b_ n_ (ze N170_ 81 4).toNat 43 ∨ zisg b_ n_ (ze N170_ 81 4).toNat 45) by first | rfl | assumption | omega | exact fun _ => hrt_ | exact hx0_ | exact hx1_ | exact hg0_ | exact hg1_), (show ze Mz 81 4 ≤ ze N170_ 81 4 by first | rfl | assumption | (exact zo_615 ha145_4_hp2_N161_ ha156_4_hp2_N170_ hgy_ hl88_8_i125_ hnp_ hp0_N155_ r4_N155_.1 r_4.2) | exact fun _ => hrt_ | exact hx0_ | exact hx1_ | exact hg0_ | exact hg1_), (show ze N27_ 81 4 < ze N170_ 81 4 by first | rfl | assumption | (exact zo_621 ha145_4_hp2_N161_ ha156_4_hp2_N170_ hgy_ hl88_9_i125_ hnp_ hp0_N155_ r4_N155_.1 r4_N27_.2) | exact fun _ => hrt_ | exact hx0_ | exact hx1_ | exact hg0_ | exact hg1_)⟩))) (by have m1_ := zmF_c n_ N170_; have m2_ := zmF_c n_ N122_; have m3_ := hp0_N170_.x; omega)
                                                                · skip
                                                                  exact absurd hc_159 (by decide)
                                                          · skip
                                                            exfalso; (exact zo_260 ha145_0_hp2_N161_ ha149_0_hp0_N168_)
                                                    · skip
                                                      have hM0_ := ha109_0_hp0_N137_
                                                      have hn41_ : ¬ (zisg b_ n_ (ze N122_ 81 4).toNat 41 ∧ 0 ∈ zrS N122_) := fun q_ => hM0_ q_.2
                                                      show zW l m_M_formula (zn Mz + 0, zw Mz + 0) N122_ 112 [some (.ref 81), some (.int (Int32.ofInt 0))] [.int (Int32.ofInt 0)] _
                                                      refine zr_if_eq (pc := 112) (tgt := 27) ⟨(by decide), (by decide)⟩ (by decide) d_M_formula_112 (fun hc_112 => ?_) (fun hc_112 => ?_)
                                                      · skip
                                                        exact ih_27 0 (by decide) (by decide) (by (exact hu121_z)) N122_ hb0_N122_ i124_ (show (1 ≤ ze N122_ 81 7 ∧ (ze Mz 81 7 = 0 → zRea (zfs b_ n_ F_ K_ nm_) (0, (ze Mz 81 4).toNat, [], [], 0, false) zFt)) ∨ ((0 : Int) = 1 ∧ ze N122_ 81 7 = 0 ∧ ze Mz 81 7 = 0 ∧ zRea (zfs b_ n_ F_ K_ nm_) (0, (ze Mz 81 4).toNat, [], [], 0, false) (zRst 0 F_ N122_) ∧ zRI F_ K_ 0 N122_ ∧ 0 ≤ ze N122_ 81 43 ∧ ze N122_ 81 43 ≤ 30 ∧ ze Mz 81 4 ≤ ze N122_ 81 4) ∨ ((0 : Int) = 0 ∧ ze N122_ 81 7 = 0 ∧ ze Mz 81 7 = 0 ∧ zRea (zfs b_ n_ F_ K_ nm_) (0, (ze Mz 81 4).toNat, [], [], 0, false) (zRst 2 F_ N122_) ∧ zRI F_ K_ 1 N122_ ∧ 0 ≤ ze N122_ 81 43 ∧ ze N122_ 81 43 ≤ 30 ∧ (zrS N122_).head? ≠ some 1 ∧ ¬ (zisg b_ n_ (ze N122_ 81 4).toNat 42 ∨ zisg b_ n_ (ze N122_ 81 4).toNat 43 ∨ zisg b_ n_ (ze N122_ 81 4).toNat 45) ∧ ze Mz 81 4 ≤ ze N122_ 81 4 ∧ ¬ (zisg b_ n_ (ze N122_ 81 4).toNat 41 ∧ 0 ∈ zrS N122_)) from Or.inr (Or.inr (⟨(show (0 : Int) = 0 by first | rfl | assumption | omega | exact fun _ => hrt_ | exact hx0_ | exact hx1_ | exact hg0_ | exact hg1_), (show ze N122_ 81 7 = 0 by first | rfl | assumption | omega | exact fun _ => hrt_ | exact hx0_ | exact hx1_ | exact hg0_ | exact hg1_), (show ze Mz 81 7 = 0 by first | rfl | assumption | omega | exact fun _ => hrt_ | exact hx0_ | exact hx1_ | exact hg0_ | exact hg1_), (show zRea (zfs b_ n_ F_ K_ nm_) (0, (ze Mz 81 4).toNat, [], [], 0, false) (zRst 2 F_ N122_) by first | rfl | assumption | omega | exact fun _ => hrt_ | exact hx0_ | exact hx1_ | exact hg0_ | exact hg1_), (show zRI F_ K_ 1 N122_ by first | rfl | assumption | omega | exact fun _ => hrt_ | exact hx0_ | exact hx1_ | exact hg0_ | exact hg1_), (show 0 ≤ ze N122_ 81 43 by first | rfl | assumption | omega | exact fun _ => hrt_ | exact hx0_ | exact hx1_ | exact hg0_ | exact hg1_), (show ze N122_ 81 43 ≤ 30 by first | rfl | assumption | omega | exact fun _ => hrt_ | exact hx0_ | exact hx1_ | exact hg0_ | exact hg1_), (show (zrS N122_).head? ≠ some 1 by first | rfl | assumption | omega | exact fun _ => hrt_ | exact hx0_ | exact hx1_ | exact hg0_ | exact hg1_), (show ¬ (zisg b_ n_ (ze N122_ 81 4).toNat 42 ∨ zisg b_ n_ (ze N122_ 81 4).toNat 43 ∨ zisg b_ n_ (ze N122_ 81 4).toNat 45) by first | rfl | assumption | omega | exact fun _ => hrt_ | exact hx0_ | exact hx1_ | exact hg0_ | exact hg1_), (show ze Mz 81 4 ≤ ze N122_ 81 4 by first | rfl | assumption | omega | exact fun _ => hrt_ | exact hx0_ | exact hx1_ | exact hg0_ | exact hg1_), (show ¬ (zisg b_ n_ (ze N122_ 81 4).toNat 41 ∧ 0 ∈ zrS N122_) by first | rfl | assumption | omega | exact fun _ => hrt_ | exact hx0_ | exact hx1_ | exact hg0_ | exact hg1_)⟩))) (by have m1_ := zmF_c n_ N122_; have m2_ := zmF_c n_ N27_; have m3_ := i124_.x; omega)
                                                      · skip
                                                        exact absurd hc_112 (by decide)
                                                · skip
                                                  have hC_ := ha102_0_hp0_N135_ (by (exact hl88_0_i125_))
                                                  have hn41_ : ¬ (zisg b_ n_ (ze N122_ 81 4).toNat 41 ∧ 0 ∈ zrS N122_) := fun q_ => hC_ q_.1
                                                  show zW l m_M_formula (zn Mz + 0, zw Mz + 0) N122_ 105 [some (.ref 81), some (.int (Int32.ofInt 0))] [.int (Int32.ofInt 0)] _
                                                  refine zr_if_eq (pc := 105) (tgt := 27) ⟨(by decide), (by decide)⟩ (by decide) d_M_formula_105 (fun hc_105 => ?_) (fun hc_105 => ?_)
                                                  · skip
                                                    exact ih_27 0 (by decide) (by decide) (by (exact hu121_z)) N122_ hb0_N122_ i124_ (show (1 ≤ ze N122_ 81 7 ∧ (ze Mz 81 7 = 0 → zRea (zfs b_ n_ F_ K_ nm_) (0, (ze Mz 81 4).toNat, [], [], 0, false) zFt)) ∨ ((0 : Int) = 1 ∧ ze N122_ 81 7 = 0 ∧ ze Mz 81 7 = 0 ∧ zRea (zfs b_ n_ F_ K_ nm_) (0, (ze Mz 81 4).toNat, [], [], 0, false) (zRst 0 F_ N122_) ∧ zRI F_ K_ 0 N122_ ∧ 0 ≤ ze N122_ 81 43 ∧ ze N122_ 81 43 ≤ 30 ∧ ze Mz 81 4 ≤ ze N122_ 81 4) ∨ ((0 : Int) = 0 ∧ ze N122_ 81 7 = 0 ∧ ze Mz 81 7 = 0 ∧ zRea (zfs b_ n_ F_ K_ nm_) (0, (ze Mz 81 4).toNat, [], [], 0, false) (zRst 2 F_ N122_) ∧ zRI F_ K_ 1 N122_ ∧ 0 ≤ ze N122_ 81 43 ∧ ze N122_ 81 43 ≤ 30 ∧ (zrS N122_).head? ≠ some 1 ∧ ¬ (zisg b_ n_ (ze N122_ 81 4).toNat 42 ∨ zisg b_ n_ (ze N122_ 81 4).toNat 43 ∨ zisg b_ n_ (ze N122_ 81 4).toNat 45) ∧ ze Mz 81 4 ≤ ze N122_ 81 4 ∧ ¬ (zisg b_ n_ (ze N122_ 81 4).toNat 41 ∧ 0 ∈ zrS N122_)) from Or.inr (Or.inr (⟨(show (0 : Int) = 0 by first | rfl | assumption | omega | exact fun _ => hrt_ | exact hx0_ | exact hx1_ | exact hg0_ | exact hg1_), (show ze N122_ 81 7 = 0 by first | rfl | assumption | omega | exact fun _ => hrt_ | exact hx0_ | exact hx1_ | exact hg0_ | exact hg1_), (show ze Mz 81 7 = 0 by first | rfl | assumption | omega | exact fun _ => hrt_ | exact hx0_ | exact hx1_ | exact hg0_ | exact hg1_), (show zRea (zfs b_ n_ F_ K_ nm_) (0, (ze Mz 81 4).toNat, [], [], 0, false) (zRst 2 F_ N122_) by first | rfl | assumption | omega | exact fun _ => hrt_ | exact hx0_ | exact hx1_ | exact hg0_ | exact hg1_), (show zRI F_ K_ 1 N122_ by first | rfl | assumption | omega | exact fun _ => hrt_ | exact hx0_ | exact hx1_ | exact hg0_ | exact hg1_), (show 0 ≤ ze N122_ 81 43 by first | rfl | assumption | omega | exact fun _ => hrt_ | exact hx0_ | exact hx1_ | exact hg0_ | exact hg1_), (show ze N122_ 81 43 ≤ 30 by first | rfl | assumption | omega | exact fun _ => hrt_ | exact hx0_ | exact hx1_ | exact hg0_ | exact hg1_), (show (zrS N122_).head? ≠ some 1 by first | rfl | assumption | omega | exact fun _ => hrt_ | exact hx0_ | exact hx1_ | exact hg0_ | exact hg1_), (show ¬ (zisg b_ n_ (ze N122_ 81 4).toNat 42 ∨ zisg b_ n_ (ze N122_ 81 4).toNat 43 ∨ zisg b_ n_ (ze N122_ 81 4).toNat 45) by first | rfl | assumption | omega | exact fun _ => hrt_ | exact hx0_ | exact hx1_ | exact hg0_ | exact hg1_), (show ze Mz 81 4 ≤ ze N122_ 81 4 by first | rfl | assumption | omega | exact fun _ => hrt_ | exact hx0_ | exact hx1_ | exact hg0_ | exact hg1_), (show ¬ (zisg b_ n_ (ze N122_ 81 4).toNat 41 ∧ 0 ∈ zrS N122_) by first | rfl | assumption | omega | exact fun _ => hrt_ | exact hx0_ | exact hx1_ | exact hg0_ | exact hg1_)⟩))) (by have m1_ := zmF_c n_ N122_; have m2_ := zmF_c n_ N27_; have m3_ := i124_.x; omega)
                                                  · skip
                                                    exact absurd hc_105 (by decide)
                                          · skip
                                            exfalso; (exact zo_260 hl88_0_i125_ ha89_0_hp0_N133_)
                                    exact lp_88 _ 0 (by decide) (by decide) (by (decide)) N112_ zFr.rf hp0_N112_ (show (1 ≤ ze N112_ 81 7 ∧ (ze Mz 81 7 = 0 → zRea (zfs b_ n_ F_ K_ nm_) (0, (ze Mz 81 4).toNat, [], [], 0, false) zFt)) ∨ ((0 : Int) = 1 ∧ ze N112_ 81 7 = 0 ∧ ze Mz 81 7 = 0 ∧ zRea (zfs b_ n_ F_ K_ nm_) (0, (ze Mz 81 4).toNat, [], [], 0, false) (zRst 0 F_ N112_) ∧ zRI F_ K_ 0 N112_ ∧ 0 ≤ ze N112_ 81 43 ∧ ze N112_ 81 43 ≤ 30 ∧ ze Mz 81 4 ≤ ze N112_ 81 4 ∧ ze N27_ 81 4 < ze N112_ 81 4) ∨ ((0 : Int) = 0 ∧ ze N112_ 81 7 = 0 ∧ ze Mz 81 7 = 0 ∧ zRea (zfs b_ n_ F_ K_ nm_) (0, (ze Mz 81 4).toNat, [], [], 0, false) (zRst 2 F_ N112_) ∧ zRI F_ K_ 1 N112_ ∧ 0 ≤ ze N112_ 81 43 ∧ ze N112_ 81 43 ≤ 30 ∧ (zrS N112_).head? ≠ some 1 ∧ ¬ (zisg b_ n_ (ze N112_ 81 4).toNat 42 ∨ zisg b_ n_ (ze N112_ 81 4).toNat 43 ∨ zisg b_ n_ (ze N112_ 81 4).toNat 45) ∧ ze Mz 81 4 ≤ ze N112_ 81 4 ∧ ze N27_ 81 4 < ze N112_ 81 4) from Or.inl (⟨(show 1 ≤ ze N112_ 81 7 by first | rfl | assumption | omega | exact fun _ => hrt_ | exact hg0_ | exact hg1_), (show (ze Mz 81 7 = 0 → zRea (zfs b_ n_ F_ K_ nm_) (0, (ze Mz 81 4).toNat, [], [], 0, false) zFt) by first | rfl | assumption | omega | exact fun _ => hrt_ | exact hg0_ | exact hg1_)⟩)) (Nat.lt_succ_self _)
                                  · skip
                                    exact absurd hc_72 (by decide)
                              · skip
                                exact absurd hc_61 (by decide)
                          · skip
                            exact absurd hc_49 (by decide)
                        · skip
                          have hy0_ := hr0_.tr ha46_1_hp1_N112_
                          have hy1_ := ha46_2_hp1_N112_
                          have hy2_ := ha46_3_hp1_N112_
                          show zW l m_M_formula (zn Mz + 0, zw Mz + 0) N112_ 49 [some (.ref 81), some (.int (Int32.ofInt u42_))] [.int (Int32.ofInt 1)] _
                          refine zr_if_ne (pc := 49) (tgt := 57) ⟨(by decide), (by decide)⟩ (by decide) (zdal_p dlC_M_formula_95 (i := 3) rfl) (fun hc_49 => ?_) (fun hc_49 => ?_)
                          · skip
                            refine zw_aload_n (pc := 57) (n := 0) (x := 81) rfl (zdal_p dlC_M_formula_95 (i := 7) rfl) ?_
                            refine zr_callV (hf_N112_.w hW) hf_N112_.x (pc := 58) [] [] l_M_183 (c_M_isGood l N112_ (hf_N112_.w hW) ) rfl rfl rfl (by decide) (Nat.le_of_ble_eq_true rfl) (zdal_p dlC_M_formula_95 (i := 8) rfl) ?_
                            rintro _ N175_ ⟨v176_, rfl, ⟨hv176_a, hv176_b⟩, hsN175_, hp0_N175_⟩
                            obtain rfl := hsN175_.eq.symm
                            replace hp0_N175_ : ((v176_ = 1 ∧ ze N112_ 81 7 = 0) ∨ (v176_ = 0 ∧ ze N112_ 81 7 ≠ 0)) := hp0_N175_
                            rcases hp0_N175_ with ⟨rfl, ha58_0_hp0_N175_⟩ | ⟨rfl, ha58_0_hp0_N175_⟩
                            · skip
                              show zW l m_M_formula (zn Mz + 0, zw Mz + 0) N112_ 61 [some (.ref 81), some (.int (Int32.ofInt u42_))] [.int (Int32.ofInt 1)] _
                              refine zr_if_eq (pc := 61) (tgt := 68) ⟨(by decide), (by decide)⟩ (by decide) (zdal_p dlC_M_formula_95 (i := 9) rfl) (fun hc_61 => ?_) (fun hc_61 => ?_)
                              · skip
                                exact absurd hc_61 (by decide)
                              · skip
                                refine zw_aload_n (pc := 64) (n := 0) (x := 81) rfl (zdal_p dlC_M_formula_95 (i := 10) rfl) ?_
                                refine zr_callV (hf_N112_.w hW) hf_N112_.x (pc := 65) [] [] l_M_346 (c_M_closesF l N112_ (hf_N112_.w hW) F_ K_ hA_ b_ n_ nm_ c114_ c115_ hp0_N112_ hy1_ (show ze N112_ 81 7 = 0 by first | (exact ha46_0_hp1_N112_) | assumption)) rfl rfl rfl (by decide) (Nat.le_of_ble_eq_true rfl) (zdal_p dlC_M_formula_95 (i := 11) rfl) ?_
                                rintro _ N177_ ⟨rfl, hsN177_, ⟨hp0_N177_, hp1_N177_, hp2_N177_⟩⟩
                                have hf_N177_ := hf_N112_.tr hsN177_ (by decide +kernel) (by decide +kernel)
                                have hb0_N177_ := hb0_N112_.tr hsN177_ (by decide +kernel) (by decide +kernel)
                                have r3_N177_ := ze_r N177_ 81 3
                                have r4_N177_ := ze_r N177_ 81 4
                                have r7_N177_ := ze_r N177_ 81 7
                                have e38_N177_ : ze N177_ 81 38 = ze N112_ 81 38 := hsN177_.e (by decide)
                                have r39_N177_ := ze_r N177_ 81 39
                                have r41_N177_ := ze_r N177_ 81 41
                                have r42_N177_ := ze_r N177_ 81 42
                                have e43_N177_ : ze N177_ 81 43 = ze N112_ 81 43 := hsN177_.e (by decide)
                                have c179_ : zRmk F_ K_ N177_ := zRmk.fr hsN177_ c114_ (by decide +kernel) (by decide +kernel)
                                have c180_ : zRb b_ n_ N177_ := zRb.fr hsN177_ c115_ (by decide +kernel) (by decide +kernel)
                                have c181_ : zRNm nm_ F_ K_ b_ n_ N177_ := zRNm.fr hsN177_ c116_ (by decide +kernel) (by decide +kernel)
                                rcases hp2_N177_ with ⟨ha65_0_hp2_N177_, ha65_1_hp2_N177_⟩ | ⟨ha65_0_hp2_N177_, ha65_1_hp2_N177_, ha65_2_hp2_N177_, ha65_3_hp2_N177_, ha65_4_hp2_N177_⟩
                                · skip
                                  have hrt_ := hy0_.tr ha65_1_hp2_N177_
                                  show zW l m_M_formula (zn Mz + 0, zw Mz + 0) N177_ 68 [some (.ref 81), some (.int (Int32.ofInt u42_))] [] _
                                  refine zw_aload_n (pc := 68) (n := 0) (x := 81) rfl (zdal_p dlC_M_formula_95 (i := 12) rfl) ?_
                                  refine zr_callV (hf_N177_.w hW) hf_N177_.x (pc := 69) [] [] l_M_183 (c_M_isGood l N177_ (hf_N177_.w hW) ) rfl rfl rfl (by decide) (Nat.le_of_ble_eq_true rfl) (zdal_p dlC_M_formula_95 (i := 13) rfl) ?_
                                  rintro _ N182_ ⟨v183_, rfl, ⟨hv183_a, hv183_b⟩, hsN182_, hp0_N182_⟩
                                  obtain rfl := hsN182_.eq.symm
                                  replace hp0_N182_ : ((v183_ = 1 ∧ ze N177_ 81 7 = 0) ∨ (v183_ = 0 ∧ ze N177_ 81 7 ≠ 0)) := hp0_N182_
                                  rcases hp0_N182_ with ⟨rfl, ha69_0_hp0_N182_⟩ | ⟨rfl, ha69_0_hp0_N182_⟩
                                  · skip
                                    exfalso; (exact zo_609 ha65_0_hp2_N177_ ha69_0_hp0_N182_)
                                  · skip
                                    show zW l m_M_formula (zn Mz + 0, zw Mz + 0) N177_ 72 [some (.ref 81), some (.int (Int32.ofInt u42_))] [.int (Int32.ofInt 0)] _
                                    refine zr_if_eq (pc := 72) (tgt := 86) ⟨(by decide), (by decide)⟩ (by decide) (zdal_p dlC_M_formula_95 (i := 14) rfl) (fun hc_72 => ?_) (fun hc_72 => ?_)
                                    · skip
                                      refine zw_iconst (pc := 86) (v := Int32.ofInt 0) (by decide) (zdal_p dlC_M_formula_95 (i := 20) rfl) ?_
                                      refine zw_istore_n (pc := 87) (i := 1) (L2 := [some (.ref 81), some (.int (Int32.ofInt 0))]) rfl (by decide) rfl d_M_formula_87 ?_
                                      have lp_88 : ∀ (n : Nat) (u184_ : Int) (hu184_a : -2147483648 ≤ u184_) (hu184_b : u184_ < 2147483648) (hu184_z : u184_ = 0 ∨ u184_ = 1) (N185_ : zMem) (hs186_ : zFr [3, 4, 5, 6, 7, 8, 11, 38, 39, 41, 42] [95, 96, 97, 100] N177_ N185_) (i187_ : zRt b_ n_ N185_) (i188_ : (1 ≤ ze N185_ 81 7 ∧ (ze Mz 81 7 = 0 → zRea (zfs b_ n_ F_ K_ nm_) (0, (ze Mz 81 4).toNat, [], [], 0, false) zFt)) ∨ (u184_ = 1 ∧ ze N185_ 81 7 = 0 ∧ ze Mz 81 7 = 0 ∧ zRea (zfs b_ n_ F_ K_ nm_) (0, (ze Mz 81 4).toNat, [], [], 0, false) (zRst 0 F_ N185_) ∧ zRI F_ K_ 0 N185_ ∧ 0 ≤ ze N185_ 81 43 ∧ ze N185_ 81 43 ≤ 30 ∧ ze Mz 81 4 ≤ ze N185_ 81 4 ∧ ze N27_ 81 4 < ze N185_ 81 4) ∨ (u184_ = 0 ∧ ze N185_ 81 7 = 0 ∧ ze Mz 81 7 = 0 ∧ zRea (zfs b_ n_ F_ K_ nm_) (0, (ze Mz 81 4).toNat, [], [], 0, false) (zRst 2 F_ N185_) ∧ zRI F_ K_ 1 N185_ ∧ 0 ≤ ze N185_ 81 43 ∧ ze N185_ 81 43 ≤ 30 ∧ (zrS N185_).head? ≠ some 1 ∧ ¬ (zisg b_ n_ (ze N185_ 81 4).toNat 42 ∨ zisg b_ n_ (ze N185_ 81 4).toNat 43 ∨ zisg b_ n_ (ze N185_ 81 4).toNat 45) ∧ ze Mz 81 4 ≤ ze N185_ 81 4 ∧ ze N27_ 81 4 < ze N185_ 81 4)), zmF n_ N185_ < n → zW l m_M_formula (zn Mz + 0, zw Mz + 0) N185_ 88 [some (.ref 81), some (.int (Int32.ofInt u184_))] [] (zpV [3, 4, 5, 6, 7, 8, 11, 38, 39, 41, 42, 43] [95, 96, 97, 100] Mz (fun N => zRt b_ n_ N ∧ (((1 ≤ ze N 81 7 ∧ (ze Mz 81 7 = 0 → zRea (zfs b_ n_ F_ K_ nm_) (0, (ze Mz 81 4).toNat, [], [], 0, false) zFt)) ∨ (ze N 81 7 = 0 ∧ ze Mz 81 7 = 0 ∧ zRea (zfs b_ n_ F_ K_ nm_) (0, (ze Mz 81 4).toNat, [], [], 0, false) (zRst 3 F_ N) ∧ zRI F_ K_ 1 N ∧ zrS N = [] ∧ ze Mz 81 4 ≤ ze N 81 4))))) := by
                                        clear hu42_a hu42_b hu42_z hv111_a hv111_b hsN112_ hv113_a hv113_b hp0_N112_ hf_N112_ hb0_N112_ hb1_N112_ r3_N112_ r4_N112_ r7_N112_ r38_N112_ r39_N112_ r41_N112_ r42_N112_ r43_N112_ c114_ c115_ c116_ ha46_0_hp1_N112_ ha46_1_hp1_N112_ ha46_2_hp1_N112_ ha46_3_hp1_N112_ ha46_4_hp1_N112_ ha46_5_hp1_N112_ hv176_a hv176_b ha58_0_hp0_N175_ hsN177_ hp1_N177_ e38_N177_ e43_N177_ ha65_1_hp2_N177_ hv183_a hv183_b
                                        intro n
                                        induction n with
                                        | zero =>
                                          intro u184_ hu184_a hu184_b hu184_z N185_ hs186_ i187_ i188_ h0
                                          exact absurd h0 (Nat.not_lt_zero _)
                                        | succ n ih_88 =>
                                          intro u184_ hu184_a hu184_b hu184_z N185_ hs186_ i187_ i188_ hlt_88
                                          have hf_N185_ := hf_N177_.tr hs186_ (by decide +kernel) (by decide +kernel)
                                          have hb0_N185_ := hb0_N177_.tr hs186_ (by decide +kernel) (by decide +kernel)
                                          have r3_N185_ := ze_r N185_ 81 3
                                          have r4_N185_ := ze_r N185_ 81 4
                                          have r7_N185_ := ze_r N185_ 81 7
                                          have r38_N185_ := ze_r N185_ 81 38
                                          have r39_N185_ := ze_r N185_ 81 39
                                          have r41_N185_ := ze_r N185_ 81 41
                                          have r42_N185_ := ze_r N185_ 81 42
                                          have e43_N185_ : ze N185_ 81 43 = ze N177_ 81 43 := hs186_.e (by decide)
                                          have c189_ : zRmk F_ K_ N185_ := zRmk.fr hs186_ c179_ (by decide +kernel) (by decide +kernel)
                                          have c190_ : zRb b_ n_ N185_ := zRb.fr hs186_ c180_ (by decide +kernel) (by decide +kernel)
                                          have c191_ : zRNm nm_ F_ K_ b_ n_ N185_ := zRNm.fr hs186_ c181_ (by decide +kernel) (by decide +kernel)
                                          rcases i188_ with ⟨hl88_0_i188_, hl88_1_i188_⟩ | ⟨rfl, hl88_0_i188_, hl88_1_i188_, hl88_2_i188_, hl88_3_i188_, hl88_4_i188_, hl88_5_i188_, hl88_6_i188_, hl88_7_i188_⟩ | ⟨rfl, hl88_0_i188_, hl88_1_i188_, hl88_2_i188_, hl88_3_i188_, hl88_4_i188_, hl88_5_i188_, hl88_6_i188_, hl88_7_i188_, hl88_8_i188_, hl88_9_i188_⟩
                                          · skip
                                            refine zw_aload_n (pc := 88) (n := 0) (x := 81) rfl d_M_formula_88 ?_
                                            refine zr_callV (hf_N185_.w hW) hf_N185_.x (pc := 89) [] [] l_M_183 (c_M_isGood l N185_ (hf_N185_.w hW) ) rfl rfl rfl (by decide) (Nat.le_of_ble_eq_true rfl) d_M_formula_89 ?_
                                            rintro _ N192_ ⟨v193_, rfl, ⟨hv193_a, hv193_b⟩, hsN192_, hp0_N192_⟩
                                            obtain rfl := hsN192_.eq.symm
                                            replace hp0_N192_ : ((v193_ = 1 ∧ ze N185_ 81 7 = 0) ∨ (v193_ = 0 ∧ ze N185_ 81 7 ≠ 0)) := hp0_N192_
                                            rcases hp0_N192_ with ⟨rfl, ha89_0_hp0_N192_⟩ | ⟨rfl, ha89_0_hp0_N192_⟩
                                            · skip
                                              exfalso; (exact zo_281 ha89_0_hp0_N192_ hl88_0_i188_)
                                            · skip
                                              show zW l m_M_formula (zn Mz + 0, zw Mz + 0) N185_ 92 [some (.ref 81), some (.int (Int32.ofInt u184_))] [.int (Int32.ofInt 0)] _
                                              refine zr_if_eq (pc := 92) (tgt := 27) ⟨(by decide), (by decide)⟩ (by decide) d_M_formula_92 (fun hc_92 => ?_) (fun hc_92 => ?_)
                                              · skip
                                                exact ih_27 u184_ hu184_a hu184_b (by (exact hu184_z)) N185_ hb0_N185_ i187_ (show (1 ≤ ze N185_ 81 7 ∧ (ze Mz 81 7 = 0 → zRea (zfs b_ n_ F_ K_ nm_) (0, (ze Mz 81 4).toNat, [], [], 0, false) zFt)) ∨ (u184_ = 1 ∧ ze N185_ 81 7 = 0 ∧ ze Mz 81 7 = 0 ∧ zRea (zfs b_ n_ F_ K_ nm_) (0, (ze Mz 81 4).toNat, [], [], 0, false) (zRst 0 F_ N185_) ∧ zRI F_ K_ 0 N185_ ∧ 0 ≤ ze N185_ 81 43 ∧ ze N185_ 81 43 ≤ 30 ∧ ze Mz 81 4 ≤ ze N185_ 81 4) ∨ (u184_ = 0 ∧ ze N185_ 81 7 = 0 ∧ ze Mz 81 7 = 0 ∧ zRea (zfs b_ n_ F_ K_ nm_) (0, (ze Mz 81 4).toNat, [], [], 0, false) (zRst 2 F_ N185_) ∧ zRI F_ K_ 1 N185_ ∧ 0 ≤ ze N185_ 81 43 ∧ ze N185_ 81 43 ≤ 30 ∧ (zrS N185_).head? ≠ some 1 ∧ ¬ (zisg b_ n_ (ze N185_ 81 4).toNat 42 ∨ zisg b_ n_ (ze N185_ 81 4).toNat 43 ∨ zisg b_ n_ (ze N185_ 81 4).toNat 45) ∧ ze Mz 81 4 ≤ ze N185_ 81 4 ∧ ¬ (zisg b_ n_ (ze N185_ 81 4).toNat 41 ∧ 0 ∈ zrS N185_)) from Or.inl (⟨(show 1 ≤ ze N185_ 81 7 by first | rfl | assumption | omega | exact fun _ => hrt_ | exact hx0_ | exact hx1_ | exact hg0_ | exact hg1_), (show (ze Mz 81 7 = 0 → zRea (zfs b_ n_ F_ K_ nm_) (0, (ze Mz 81 4).toNat, [], [], 0, false) zFt) by first | rfl | assumption | omega | exact fun _ => hrt_ | exact hx0_ | exact hx1_ | exact hg0_ | exact hg1_)⟩)) (by have m1_ := zmF_c n_ N185_; have m2_ := zmF_c n_ N27_; have m3_ := i187_.x; omega)
                                              · skip
                                                exact absurd hc_92 (by decide)
                                          · skip
                                            have hr0_ := hl88_2_i188_
                                            have hc0_ := hl88_3_i188_
                                            refine zw_aload_n (pc := 88) (n := 0) (x := 81) rfl d_M_formula_88 ?_
                                            refine zr_callV (hf_N185_.w hW) hf_N185_.x (pc := 89) [] [] l_M_183 (c_M_isGood l N185_ (hf_N185_.w hW) ) rfl rfl rfl (by decide) (Nat.le_of_ble_eq_true rfl) d_M_formula_89 ?_
                                            rintro _ N194_ ⟨v195_, rfl, ⟨hv195_a, hv195_b⟩, hsN194_, hp0_N194_⟩
                                            obtain rfl := hsN194_.eq.symm
                                            replace hp0_N194_ : ((v195_ = 1 ∧ ze N185_ 81 7 = 0) ∨ (v195_ = 0 ∧ ze N185_ 81 7 ≠ 0)) := hp0_N194_
                                            rcases hp0_N194_ with ⟨rfl, ha89_0_hp0_N194_⟩ | ⟨rfl, ha89_0_hp0_N194_⟩
                                            · skip
                                              show zW l m_M_formula (zn Mz + 0, zw Mz + 0) N185_ 92 [some (.ref 81), some (.int (Int32.ofInt 1))] [.int (Int32.ofInt 1)] _
                                              refine zr_if_eq (pc := 92) (tgt := 27) ⟨(by decide), (by decide)⟩ (by decide) d_M_formula_92 (fun hc_92 => ?_) (fun hc_92 => ?_)
                                              · skip
                                                exact absurd hc_92 (by decide)
                                              · skip
                                                refine zw_iload_n (pc := 95) (n := 1) (x := Int32.ofInt 1) rfl d_M_formula_95 ?_
                                                refine zr_if_ne (pc := 96) (tgt := 27) ⟨(by decide), (by decide)⟩ (by decide) d_M_formula_96 (fun hc_96 => ?_) (fun hc_96 => ?_)
                                                · skip
                                                  exact ih_27 1 (by decide) (by decide) (by (exact hu184_z)) N185_ hb0_N185_ i187_ (show (1 ≤ ze N185_ 81 7 ∧ (ze Mz 81 7 = 0 → zRea (zfs b_ n_ F_ K_ nm_) (0, (ze Mz 81 4).toNat, [], [], 0, false) zFt)) ∨ ((1 : Int) = 1 ∧ ze N185_ 81 7 = 0 ∧ ze Mz 81 7 = 0 ∧ zRea (zfs b_ n_ F_ K_ nm_) (0, (ze Mz 81 4).toNat, [], [], 0, false) (zRst 0 F_ N185_) ∧ zRI F_ K_ 0 N185_ ∧ 0 ≤ ze N185_ 81 43 ∧ ze N185_ 81 43 ≤ 30 ∧ ze Mz 81 4 ≤ ze N185_ 81 4) ∨ ((1 : Int) = 0 ∧ ze N185_ 81 7 = 0 ∧ ze Mz 81 7 = 0 ∧ zRea (zfs b_ n_ F_ K_ nm_) (0, (ze Mz 81 4).toNat, [], [], 0, false) (zRst 2 F_ N185_) ∧ zRI F_ K_ 1 N185_ ∧ 0 ≤ ze N185_ 81 43 ∧ ze N185_ 81 43 ≤ 30 ∧ (zrS N185_).head? ≠ some 1 ∧ ¬ (zisg b_ n_ (ze N185_ 81 4).toNat 42 ∨ zisg b_ n_ (ze N185_ 81 4).toNat 43 ∨ zisg b_ n_ (ze N185_ 81 4).toNat 45) ∧ ze Mz 81 4 ≤ ze N185_ 81 4 ∧ ¬ (zisg b_ n_ (ze N185_ 81 4).toNat 41 ∧ 0 ∈ zrS N185_)) from Or.inr (Or.inl (⟨(show (1 : Int) = 1 by first | rfl | assumption | omega | exact fun _ => hrt_ | exact hx0_ | exact hx1_ | exact hg0_ | exact hg1_), (show ze N185_ 81 7 = 0 by first | rfl | assumption | omega | exact fun _ => hrt_ | exact hx0_ | exact hx1_ | exact hg0_ | exact hg1_), (show ze Mz 81 7 = 0 by first | rfl | assumption | omega | exact fun _ => hrt_ | exact hx0_ | exact hx1_ | exact hg0_ | exact hg1_), (show zRea (zfs b_ n_ F_ K_ nm_) (0, (ze Mz 81 4).toNat, [], [], 0, false) (zRst 0 F_ N185_) by first | rfl | assumption | omega | exact fun _ => hrt_ | exact hx0_ | exact hx1_ | exact hg0_ | exact hg1_), (show zRI F_ K_ 0 N185_ by first | rfl | assumption | omega | exact fun _ => hrt_ | exact hx0_ | exact hx1_ | exact hg0_ | exact hg1_), (show 0 ≤ ze N185_ 81 43 by first | rfl | assumption | omega | exact fun _ => hrt_ | exact hx0_ | exact hx1_ | exact hg0_ | exact hg1_), (show ze N185_ 81 43 ≤ 30 by first | rfl | assumption | omega | exact fun _ => hrt_ | exact hx0_ | exact hx1_ | exact hg0_ | exact hg1_), (show ze Mz 81 4 ≤ ze N185_ 81 4 by first | rfl | assumption | omega | exact fun _ => hrt_ | exact hx0_ | exact hx1_ | exact hg0_ | exact hg1_)⟩))) (by have m1_ := zmF_c n_ N185_; have m2_ := zmF_c n_ N27_; have m3_ := i187_.x; omega)
                                                · skip
                                                  exact absurd hc_96 (by decide)
                                            · skip
                                              exfalso; (exact zo_260 hl88_0_i188_ ha89_0_hp0_N194_)
                                          · skip
                                            have hr2_ := hl88_2_i188_
                                            have hc2_ := hl88_3_i188_
                                            have hh2_ := hl88_6_i188_
                                            have hn4_ := hl88_7_i188_
                                            refine zw_aload_n (pc := 88) (n := 0) (x := 81) rfl d_M_formula_88 ?_
                                            refine zr_callV (hf_N185_.w hW) hf_N185_.x (pc := 89) [] [] l_M_183 (c_M_isGood l N185_ (hf_N185_.w hW) ) rfl rfl rfl (by decide) (Nat.le_of_ble_eq_true rfl) d_M_formula_89 ?_
                                            rintro _ N196_ ⟨v197_, rfl, ⟨hv197_a, hv197_b⟩, hsN196_, hp0_N196_⟩
                                            obtain rfl := hsN196_.eq.symm
                                            replace hp0_N196_ : ((v197_ = 1 ∧ ze N185_ 81 7 = 0) ∨ (v197_ = 0 ∧ ze N185_ 81 7 ≠ 0)) := hp0_N196_
                                            rcases hp0_N196_ with ⟨rfl, ha89_0_hp0_N196_⟩ | ⟨rfl, ha89_0_hp0_N196_⟩
                                            · skip
                                              show zW l m_M_formula (zn Mz + 0, zw Mz + 0) N185_ 92 [some (.ref 81), some (.int (Int32.ofInt 0))] [.int (Int32.ofInt 1)] _
                                              refine zr_if_eq (pc := 92) (tgt := 27) ⟨(by decide), (by decide)⟩ (by decide) d_M_formula_92 (fun hc_92 => ?_) (fun hc_92 => ?_)
                                              · skip
                                                exact absurd hc_92 (by decide)
                                              · skip
                                                refine zw_iload_n (pc := 95) (n := 1) (x := Int32.ofInt 0) rfl d_M_formula_95 ?_
                                                refine zr_if_ne (pc := 96) (tgt := 27) ⟨(by decide), (by decide)⟩ (by decide) d_M_formula_96 (fun hc_96 => ?_) (fun hc_96 => ?_)
                                                · skip
                                                  exact absurd hc_96 (by decide)
                                                · skip
                                                  refine zw_aload_n (pc := 99) (n := 0) (x := 81) rfl d_M_formula_99 ?_
                                                  refine zw_bipush (pc := 100) (v := Int32.ofInt 41) (by decide) d_M_formula_100 ?_
                                                  refine zr_callV (hf_N185_.w hW) hf_N185_.x (pc := 102) [.int (Int32.ofInt 41)] [] l_M_187 (c_M_isSignHereF l N185_ (hf_N185_.w hW) 41 (by decide) (by decide) b_ n_ i187_) rfl rfl rfl (by decide) (Nat.le_of_ble_eq_true rfl) d_M_formula_102 ?_
                                                  rintro _ N198_ ⟨v199_, rfl, ⟨hv199_a, hv199_b⟩, hsN198_, hp0_N198_⟩
                                                  obtain rfl := hsN198_.eq.symm
                                                  replace hp0_N198_ : ((v199_ = 1 ∧ ze N185_ 81 7 = 0 ∧ zisg b_ n_ (ze N185_ 81 4).toNat 41) ∨ (v199_ = 0 ∧ (ze N185_ 81 7 = 0 → ¬ zisg b_ n_ (ze N185_ 81 4).toNat 41))) := hp0_N198_
                                                  rcases hp0_N198_ with ⟨rfl, ha102_0_hp0_N198_, ha102_1_hp0_N198_⟩ | ⟨rfl, ha102_0_hp0_N198_⟩
                                                  · skip
                                                    have hC_ := ha102_1_hp0_N198_
                                                    show zW l m_M_formula (zn Mz + 0, zw Mz + 0) N185_ 105 [some (.ref 81), some (.int (Int32.ofInt 0))] [.int (Int32.ofInt 1)] _
                                                    refine zr_if_eq (pc := 105) (tgt := 27) ⟨(by decide), (by decide)⟩ (by decide) d_M_formula_105 (fun hc_105 => ?_) (fun hc_105 => ?_)
                                                    · skip
                                                      exact absurd hc_105 (by decide)
                                                    · skip
                                                      refine zw_aload_n (pc := 108) (n := 0) (x := 81) rfl d_M_formula_108 ?_
                                                      refine zr_callV (hf_N185_.w hW) hf_N185_.x (pc := 109) [] [] l_M_352 (c_M_isOpenF l N185_ (hf_N185_.w hW) F_ K_ hc2_) rfl rfl rfl (by decide) (Nat.le_of_ble_eq_true rfl) d_M_formula_109 ?_
                                                      rintro _ N200_ ⟨v201_, rfl, ⟨hv201_a, hv201_b⟩, hsN200_, hp0_N200_⟩
                                                      obtain rfl := hsN200_.eq.symm
                                                      replace hp0_N200_ : ((v201_ = 1 ∧ 0 ∈ zrS N185_) ∨ (v201_ = 0 ∧ ¬ 0 ∈ zrS N185_)) := hp0_N200_
                                                      rcases hp0_N200_ with ⟨rfl, ha109_0_hp0_N200_⟩ | ⟨rfl, ha109_0_hp0_N200_⟩
                                                      · skip
                                                        have hM0_ := ha109_0_hp0_N200_
                                                        show zW l m_M_formula (zn Mz + 0, zw Mz + 0) N185_ 112 [some (.ref 81), some (.int (Int32.ofInt 0))] [.int (Int32.ofInt 1)] _
                                                        refine zr_if_eq (pc := 112) (tgt := 27) ⟨(by decide), (by decide)⟩ (by decide) d_M_formula_112 (fun hc_112 => ?_) (fun hc_112 => ?_)
                                                        · skip
                                                          exact absurd hc_112 (by decide)
                                                        · skip
                                                          refine zw_aload_n (pc := 115) (n := 0) (x := 81) rfl d_M_formula_115 ?_
                                                          refine zw_iconst (pc := 116) (v := Int32.ofInt 2) (by decide) d_M_formula_116 ?_
                                                          refine zr_callV (hf_N185_.w hW) hf_N185_.x (pc := 117) [.int (Int32.ofInt 2)] [] l_M_337 (c_M_worksF l N185_ (hf_N185_.w hW) 2 (by decide) (by decide) F_ K_ hA_ c189_ hc2_ (show 2 ≤ 2 by first | (decide) | assumption) (show 2 ≤ 4 by first | (decide) | assumption)) rfl rfl rfl (by decide) (Nat.le_of_ble_eq_true rfl) d_M_formula_117 ?_
                                                          rintro _ N202_ ⟨rfl, hsN202_, ⟨hp0_N202_, hp1_N202_, hp2_N202_, hp3_N202_⟩⟩
                                                          have hf_N202_ := hf_N185_.tr hsN202_ (by decide +kernel) (by decide +kernel)
                                                          have hb0_N202_ := hb0_N185_.tr hsN202_ (by decide +kernel) (by decide +kernel)
                                                          have hb1_N202_ := hs186_.tr hsN202_ (by decide +kernel) (by decide +kernel)
                                                          have e3_N202_ : ze N202_ 81 3 = ze N185_ 81 3 := hsN202_.e (by decide)
                                                          have e4_N202_ : ze N202_ 81 4 = ze N185_ 81 4 := hsN202_.e (by decide)
                                                          have e7_N202_ : ze N202_ 81 7 = ze N185_ 81 7 := hsN202_.e (by decide)
                                                          have r38_N202_ := ze_r N202_ 81 38
                                                          have r39_N202_ := ze_r N202_ 81 39
                                                          have r41_N202_ := ze_r N202_ 81 41
                                                          have e42_N202_ : ze N202_ 81 42 = ze N185_ 81 42 := hsN202_.e (by decide)
                                                          have e43_N202_ : ze N202_ 81 43 = ze N185_ 81 43 := hsN202_.e (by decide)
                                                          have c204_ : zRmk F_ K_ N202_ := zRmk.fr hsN202_ c189_ (by decide +kernel) (by decide +kernel)
                                                          have c205_ : zRb b_ n_ N202_ := zRb.fr hsN202_ c190_ (by decide +kernel) (by decide +kernel)
                                                          have c206_ : zRNm nm_ F_ K_ b_ n_ N202_ := zRNm.fr hsN202_ c191_ (by decide +kernel) (by decide +kernel)
                                                          have c207_ : zRt b_ n_ N202_ := zRt.fr hsN202_ i187_ (by decide +kernel) (by decide +kernel)
                                                          show zW l m_M_formula (zn Mz + 0, zw Mz + 0) N202_ 120 [some (.ref 81), some (.int (Int32.ofInt 0))] [] _
                                                          have hw1_ := hp1_N202_
                                                          have hw2_ := hp2_N202_
                                                          have hw3_ := hp3_N202_ hh2_
                                                          have hcr_ := hp0_N202_
                                                          have hcr0_ := hcr_.1
                                                          have hcr2_ := hcr_.2.2.1
                                                          have hhz_ := zhd_0 (show 0 ∈ (zrS N202_, zrW F_ N202_, zrG N202_).1 by rw [hw1_]; exact (zrk_m (by decide) _ _).mpr hM0_) hw3_ (fun y_ h_ => hw2_ y_ h_)
                                                          refine zw_aload_n (pc := 120) (n := 0) (x := 81) rfl d_M_formula_120 ?_
                                                          refine zw_dup (pc := 121) rfl d_M_formula_121 ?_
                                                          refine zr_getI (hf_N202_.w hW) (pc := 122) f_M_305 rfl d_M_formula_122 ?_
                                                          refine zw_iconst (pc := 125) (v := Int32.ofInt 1) (by decide) d_M_formula_125 ?_
                                                          refine zr_isub (pc := 126) d_M_formula_126 ?_
                                                          refine zr_putI (hf_N202_.w hW) (pc := 127) f_M_305 rfl rfl ⟨by (exact zo_600 hcr0_), by (exact zo_601 r41_N202_.2)⟩ rfl rfl d_M_formula_127 (fun N208_ hsN208_ hvN208_ => ?_)
                                                          have hf_N208_ := hf_N202_.tr hsN208_ (by decide +kernel) (by decide +kernel)
                                                          have hb0_N208_ := hb0_N202_.tr hsN208_ (by decide +kernel) (by decide +kernel)
                                                          have hb1_N208_ := hb1_N202_.tr hsN208_ (by decide +kernel) (by decide +kernel)
                                                          have e3_N208_ : ze N208_ 81 3 = ze N202_ 81 3 := hsN208_.e (by decide)
                                                          have e4_N208_ : ze N208_ 81 4 = ze N202_ 81 4 := hsN208_.e (by decide)
                                                          have e7_N208_ : ze N208_ 81 7 = ze N202_ 81 7 := hsN208_.e (by decide)
                                                          have e38_N208_ : ze N208_ 81 38 = ze N202_ 81 38 := hsN208_.e (by decide)
                                                          have e39_N208_ : ze N208_ 81 39 = ze N202_ 81 39 := hsN208_.e (by decide)
                                                          have r41_N208_ := ze_r N208_ 81 41
                                                          have e42_N208_ : ze N208_ 81 42 = ze N202_ 81 42 := hsN208_.e (by decide)
                                                          have e43_N208_ : ze N208_ 81 43 = ze N202_ 81 43 := hsN208_.e (by decide)
                                                          have qzrG_N208_ : zrG N208_ = zrG N202_ := zrG_q hsN208_ (by decide)
                                                          have qzrW_N208_ : zrW F_ N208_ = zrW F_ N202_ := zrW_q hsN208_ (by decide)
                                                          have c209_ : zRmk F_ K_ N208_ := zRmk.fr hsN208_ c204_ (by decide +kernel) (by decide +kernel)
                                                          have c210_ : zRb b_ n_ N208_ := zRb.fr hsN208_ c205_ (by decide +kernel) (by decide +kernel)
                                                          have c211_ : zRNm nm_ F_ K_ b_ n_ N208_ := zRNm.fr hsN208_ c206_ (by decide +kernel) (by decide +kernel)
                                                          have c212_ : zRt b_ n_ N208_ := zRt.fr hsN208_ c207_ (by decide +kernel) (by decide +kernel)
                                                          refine zw_aload_n (pc := 130) (n := 0) (x := 81) rfl d_M_formula_130 ?_
                                                          refine zw_dup (pc := 131) rfl d_M_formula_131 ?_
                                                          refine zr_getI (hf_N208_.w hW) (pc := 132) f_M_296 rfl d_M_formula_132 ?_
                                                          refine zw_iconst (pc := 135) (v := Int32.ofInt 1) (by decide) d_M_formula_135 ?_
                                                          refine zr_isub (pc := 136) d_M_formula_136 ?_
                                                          refine zr_putI (hf_N208_.w hW) (pc := 137) f_M_296 rfl rfl ⟨by (exact zo_602 e42_N208_ hcr2_), by (exact zo_65 e42_N202_ e42_N208_ r42_N185_.2)⟩ rfl rfl d_M_formula_137 (fun N213_ hsN213_ hvN213_ => ?_)
                                                          have hf_N213_ := hf_N208_.tr hsN213_ (by decide +kernel) (by decide +kernel)
                                                          have hb0_N213_ := hb0_N208_.tr hsN213_ (by decide +kernel) (by decide +kernel)
                                                          have hb1_N213_ := hb1_N208_.tr hsN213_ (by decide +kernel) (by decide +kernel)
                                                          have e3_N213_ : ze N213_ 81 3 = ze N208_ 81 3 := hsN213_.e (by decide)
                                                          have e4_N213_ : ze N213_ 81 4 = ze N208_ 81 4 := hsN213_.e (by decide)
                                                          have e7_N213_ : ze N213_ 81 7 = ze N208_ 81 7 := hsN213_.e (by decide)
                                                          have e38_N213_ : ze N213_ 81 38 = ze N208_ 81 38 := hsN213_.e (by decide)
                                                          have e39_N213_ : ze N213_ 81 39 = ze N208_ 81 39 := hsN213_.e (by decide)
                                                          have e41_N213_ : ze N213_ 81 41 = ze N208_ 81 41 := hsN213_.e (by decide)
                                                          have r42_N213_ := ze_r N213_ 81 42
                                                          have e43_N213_ : ze N213_ 81 43 = ze N208_ 81 43 := hsN213_.e (by decide)
                                                          have qzrS_N213_ : zrS N213_ = zrS N208_ := zrS_q hsN213_ (by decide)
                                                          have qzrG_N213_ : zrG N213_ = zrG N208_ := zrG_q hsN213_ (by decide)
                                                          have qzrW_N213_ : zrW F_ N213_ = zrW F_ N208_ := zrW_q hsN213_ (by decide)
                                                          have c214_ : zRmk F_ K_ N213_ := zRmk.fr hsN213_ c209_ (by decide +kernel) (by decide +kernel)
                                                          have c215_ : zRb b_ n_ N213_ := zRb.fr hsN213_ c210_ (by decide +kernel) (by decide +kernel)
                                                          have c216_ : zRNm nm_ F_ K_ b_ n_ N213_ := zRNm.fr hsN213_ c211_ (by decide +kernel) (by decide +kernel)
                                                          have c217_ : zRt b_ n_ N213_ := zRt.fr hsN213_ c212_ (by decide +kernel) (by decide +kernel)
                                                          have hcd_ := zRI_cl (Mz := N202_) (Nz := N213_) hF27_ hcr_ hhz_ (by (exact zo_603 e41_N213_ hvN208_)) (fun i_ => (hsN213_.ie (by decide) (by decide) i_).trans (hsN208_.ie (by decide) (by decide) i_)) (by (exact zo_604 e42_N208_ hcr2_ hvN213_ r42_N213_.2)) (by (exact zo_53 e38_N208_ e38_N213_)) (by (exact zo_53 e39_N208_ e39_N213_)) (fun x_ => (hsN213_.jg (by decide) (by decide) x_).trans (hsN208_.jg (by decide) (by decide) x_))
                                                          have hcd1_ := hcd_.1
                                                          have hyt_ := c217_
                                                          have hyx_ := hyt_.x
                                                          refine zw_aload_n (pc := 140) (n := 0) (x := 81) rfl d_M_formula_140 ?_
                                                          refine zr_callV (hf_N213_.w hW) hf_N213_.x (pc := 141) [] [] l_M_193 (c_M_goOnF l N213_ (hf_N213_.w hW) b_ n_ c215_ (show 0 ≤ ze N213_ 81 3 by first | (exact zo_57 hyx_.2.1) | assumption) (show ze N213_ 81 3 ≤ n_ by first | (exact zo_605 hyx_.2.2) | assumption)) rfl rfl rfl (by decide) (Nat.le_of_ble_eq_true rfl) d_M_formula_141 ?_
                                                          rintro _ N218_ ⟨rfl, hsN218_, ⟨hp0_N218_, hp1_N218_⟩⟩
                                                          have hf_N218_ := hf_N213_.tr hsN218_ (by decide +kernel) (by decide +kernel)
                                                          have hb0_N218_ := hb0_N213_.tr hsN218_ (by decide +kernel) (by decide +kernel)
                                                          have hb1_N218_ := hb1_N213_.tr hsN218_ (by decide +kernel) (by decide +kernel)
                                                          have r3_N218_ := ze_r N218_ 81 3
                                                          have r4_N218_ := ze_r N218_ 81 4
                                                          have e7_N218_ : ze N218_ 81 7 = ze N213_ 81 7 := hsN218_.e (by decide)
                                                          have e38_N218_ : ze N218_ 81 38 = ze N213_ 81 38 := hsN218_.e (by decide)
                                                          have e39_N218_ : ze N218_ 81 39 = ze N213_ 81 39 := hsN218_.e (by decide)
                                                          have e41_N218_ : ze N218_ 81 41 = ze N213_ 81 41 := hsN218_.e (by decide)
                                                          have e42_N218_ : ze N218_ 81 42 = ze N213_ 81 42 := hsN218_.e (by decide)
                                                          have e43_N218_ : ze N218_ 81 43 = ze N213_ 81 43 := hsN218_.e (by decide)
                                                          have qzrS_N218_ : zrS N218_ = zrS N213_ := zrS_q hsN218_ (by decide)
                                                          have qzrG_N218_ : zrG N218_ = zrG N213_ := zrG_q hsN218_ (by decide)
                                                          have qzrW_N218_ : zrW F_ N218_ = zrW F_ N213_ := zrW_q hsN218_ (by decide)
                                                          have c220_ : zRmk F_ K_ N218_ := zRmk.fr hsN218_ c214_ (by decide +kernel) (by decide +kernel)
                                                          have c221_ : zRb b_ n_ N218_ := zRb.fr hsN218_ c215_ (by decide +kernel) (by decide +kernel)
                                                          have c222_ : zRNm nm_ F_ K_ b_ n_ N218_ := zRNm.fr hsN218_ c216_ (by decide +kernel) (by decide +kernel)
                                                          have c223_ : zRI F_ K_ 1 N218_ := zRI.fr hsN218_ hcd1_ (by decide +kernel) (by decide +kernel)
                                                          show zW l m_M_formula (zn Mz + 0, zw Mz + 0) N218_ 144 [some (.ref 81), some (.int (Int32.ofInt 0))] [] _
                                                          have hnn_ := hyt_.nx hp0_N218_
                                                          have hst1_ := hr2_.tr (zRea.st (zr2_c (Rz := N202_) (c := (0, 0)) (F := F_) (K := K_) (nm := nm_) hC_ hM0_ hw1_ (qzrS_N218_.trans hcd_.2.1) (qzrW_N218_.trans hcd_.2.2.1) (qzrG_N218_.trans hcd_.2.2.2) (by (exact zo_52 e43_N202_ e43_N208_ e43_N213_ e43_N218_)) (hnn_.2.trans (by rw [show ze N213_ 81 4 = ze N185_ 81 4 by (exact zo_606 e4_N202_ e4_N208_ e4_N213_ hyx_.1.1 r4_N185_.2)]))))
                                                          have hnp_ := hnn_.2.trans (show znx b_ n_ (ze N213_ 81 4).toNat = znx b_ n_ (ze N185_ 81 4).toNat by rw [show ze N213_ 81 4 = ze N185_ 81 4 by (exact zo_606 e4_N202_ e4_N208_ e4_N213_ hyx_.1.1 r4_N185_.2)])
                                                          have hgx_ := znx_ge (b := b_) (n := n_) (s := (ze N185_ 81 4).toNat)
                                                          have hgy_ := znx_g (b := b_) (n := n_) (s := (ze N185_ 81 4).toNat) (by have h_ := hC_.1; (exact zo_607 h_))
                                                          refine zw_aload_n (pc := 144) (n := 0) (x := 81) rfl d_M_formula_144 ?_
                                                          refine zr_callV (hf_N218_.w hW) hf_N218_.x (pc := 145) [] [] l_M_346 (c_M_closesF l N218_ (hf_N218_.w hW) F_ K_ hA_ b_ n_ nm_ c220_ c221_ hp1_N218_ c223_ (show ze N218_ 81 7 = 0 by first | (exact zo_608 e7_N202_ e7_N208_ e7_N213_ e7_N218_ hl88_0_i188_) | assumption)) rfl rfl rfl (by decide) (Nat.le_of_ble_eq_true rfl) d_M_formula_145 ?_
                                                          rintro _ N224_ ⟨rfl, hsN224_, ⟨hp0_N224_, hp1_N224_, hp2_N224_⟩⟩
                                                          have hf_N224_ := hf_N218_.tr hsN224_ (by decide +kernel) (by decide +kernel)
                                                          have hb0_N224_ := hb0_N218_.tr hsN224_ (by decide +kernel) (by decide +kernel)
                                                          have hb1_N224_ := hb1_N218_.tr hsN224_ (by decide +kernel) (by decide +kernel)
                                                          have r3_N224_ := ze_r N224_ 81 3
                                                          have r4_N224_ := ze_r N224_ 81 4
                                                          have r7_N224_ := ze_r N224_ 81 7
                                                          have e38_N224_ : ze N224_ 81 38 = ze N218_ 81 38 := hsN224_.e (by decide)
                                                          have r39_N224_ := ze_r N224_ 81 39
                                                          have r41_N224_ := ze_r N224_ 81 41
                                                          have r42_N224_ := ze_r N224_ 81 42
                                                          have e43_N224_ : ze N224_ 81 43 = ze N218_ 81 43 := hsN224_.e (by decide)
                                                          have c226_ : zRmk F_ K_ N224_ := zRmk.fr hsN224_ c220_ (by decide +kernel) (by decide +kernel)
                                                          have c227_ : zRb b_ n_ N224_ := zRb.fr hsN224_ c221_ (by decide +kernel) (by decide +kernel)
                                                          have c228_ : zRNm nm_ F_ K_ b_ n_ N224_ := zRNm.fr hsN224_ c222_ (by decide +kernel) (by decide +kernel)
                                                          rcases hp2_N224_ with ⟨ha145_0_hp2_N224_, ha145_1_hp2_N224_⟩ | ⟨ha145_0_hp2_N224_, ha145_1_hp2_N224_, ha145_2_hp2_N224_, ha145_3_hp2_N224_, ha145_4_hp2_N224_⟩
                                                          · skip
                                                            have hrt_ := hst1_.tr ha145_1_hp2_N224_
                                                            show zW l m_M_formula (zn Mz + 0, zw Mz + 0) N224_ 148 [some (.ref 81), some (.int (Int32.ofInt 0))] [] _
                                                            refine zw_aload_n (pc := 148) (n := 0) (x := 81) rfl d_M_formula_148 ?_
                                                            refine zr_callV (hf_N224_.w hW) hf_N224_.x (pc := 149) [] [] l_M_183 (c_M_isGood l N224_ (hf_N224_.w hW) ) rfl rfl rfl (by decide) (Nat.le_of_ble_eq_true rfl) d_M_formula_149 ?_
                                                            rintro _ N229_ ⟨v230_, rfl, ⟨hv230_a, hv230_b⟩, hsN229_, hp0_N229_⟩
                                                            obtain rfl := hsN229_.eq.symm
                                                            replace hp0_N229_ : ((v230_ = 1 ∧ ze N224_ 81 7 = 0) ∨ (v230_ = 0 ∧ ze N224_ 81 7 ≠ 0)) := hp0_N229_
                                                            rcases hp0_N229_ with ⟨rfl, ha149_0_hp0_N229_⟩ | ⟨rfl, ha149_0_hp0_N229_⟩
                                                            · skip
                                                              exfalso; (exact zo_609 ha145_0_hp2_N224_ ha149_0_hp0_N229_)
                                                            · skip
                                                              show zW l m_M_formula (zn Mz + 0, zw Mz + 0) N224_ 152 [some (.ref 81), some (.int (Int32.ofInt 0))] [.int (Int32.ofInt 0)] _
                                                              refine zr_if_eq (pc := 152) (tgt := 166) ⟨(by decide), (by decide)⟩ (by decide) d_M_formula_152 (fun hc_152 => ?_) (fun hc_152 => ?_)
                                                              · skip
                                                                refine zw_iconst (pc := 166) (v := Int32.ofInt 0) (by decide) d_M_formula_166 ?_
                                                                refine zw_istore_n (pc := 167) (i := 1) (L2 := [some (.ref 81), some (.int (Int32.ofInt 0))]) rfl (by decide) rfl d_M_formula_167 ?_
                                                                refine zw_goto (pc := 168) (tgt := 88) (by decide) d_M_formula_168 ?_
                                                                exact ih_88 0 (by decide) (by decide) (by (exact hu184_z)) N224_ hb1_N224_ hp0_N224_ (show (1 ≤ ze N224_ 81 7 ∧ (ze Mz 81 7 = 0 → zRea (zfs b_ n_ F_ K_ nm_) (0, (ze Mz 81 4).toNat, [], [], 0, false) zFt)) ∨ ((0 : Int) = 1 ∧ ze N224_ 81 7 = 0 ∧ ze Mz 81 7 = 0 ∧ zRea (zfs b_ n_ F_ K_ nm_) (0, (ze Mz 81 4).toNat, [], [], 0, false) (zRst 0 F_ N224_) ∧ zRI F_ K_ 0 N224_ ∧ 0 ≤ ze N224_ 81 43 ∧ ze N224_ 81 43 ≤ 30 ∧ ze Mz 81 4 ≤ ze N224_ 81 4 ∧ ze N27_ 81 4 < ze N224_ 81 4) ∨ ((0 : Int) = 0 ∧ ze N224_ 81 7 = 0 ∧ ze Mz 81 7 = 0 ∧ zRea (zfs b_ n_ F_ K_ nm_) (0, (ze Mz 81 4).toNat, [], [], 0, false) (zRst 2 F_ N224_) ∧ zRI F_ K_ 1 N224_ ∧ 0 ≤ ze N224_ 81 43 ∧ ze N224_ 81 43 ≤ 30 ∧ (zrS N224_).head? ≠ some 1 ∧ ¬ (zisg b_ n_ (ze N224_ 81 4).toNat 42 ∨ zisg b_ n_ (ze N224_ 81 4).toNat 43 ∨ zisg b_ n_ (ze N224_ 81 4).toNat 45) ∧ ze Mz 81 4 ≤ ze N224_ 81 4 ∧ ze N27_ 81 4 < ze N224_ 81 4) from Or.inl (⟨(show 1 ≤ ze N224_ 81 7 by first | rfl | assumption | omega | exact fun _ => hrt_ | exact hx0_ | exact hx1_ | exact hg0_ | exact hg1_), (show (ze Mz 81 7 = 0 → zRea (zfs b_ n_ F_ K_ nm_) (0, (ze Mz 81 4).toNat, [], [], 0, false) zFt) by first | rfl | assumption | omega | exact fun _ => hrt_ | exact hx0_ | exact hx1_ | exact hg0_ | exact hg1_)⟩)) (by have m1_ := zmF_c n_ N224_; have m2_ := zmF_c n_ N185_; have m3_ := hp0_N224_.x; omega)
                                                              · skip
                                                                exact absurd hc_152 (by decide)
                                                          · skip
                                                            have hz0_ := hst1_.tr ha145_1_hp2_N224_
                                                            have hz1_ := ha145_2_hp2_N224_
                                                            have hz2_ := ha145_3_hp2_N224_
                                                            have hz3_ := ha145_4_hp2_N224_
                                                            show zW l m_M_formula (zn Mz + 0, zw Mz + 0) N224_ 148 [some (.ref 81), some (.int (Int32.ofInt 0))] [] _
                                                            refine zw_aload_n (pc := 148) (n := 0) (x := 81) rfl d_M_formula_148 ?_
                                                            refine zr_callV (hf_N224_.w hW) hf_N224_.x (pc := 149) [] [] l_M_183 (c_M_isGood l N224_ (hf_N224_.w hW) ) rfl rfl rfl (by decide) (Nat.le_of_ble_eq_true rfl) d_M_formula_149 ?_
                                                            rintro _ N231_ ⟨v232_, rfl, ⟨hv232_a, hv232_b⟩, hsN231_, hp0_N231_⟩
                                                            obtain rfl := hsN231_.eq.symm
                                                            replace hp0_N231_ : ((v232_ = 1 ∧ ze N224_ 81 7 = 0) ∨ (v232_ = 0 ∧ ze N224_ 81 7 ≠ 0)) := hp0_N231_
                                                            rcases hp0_N231_ with ⟨rfl, ha149_0_hp0_N231_⟩ | ⟨rfl, ha149_0_hp0_N231_⟩
                                                            · skip
                                                              show zW l m_M_formula (zn Mz + 0, zw Mz + 0) N224_ 152 [some (.ref 81), some (.int (Int32.ofInt 0))] [.int (Int32.ofInt 1)] _
                                                              refine zr_if_eq (pc := 152) (tgt := 166) ⟨(by decide), (by decide)⟩ (by decide) d_M_formula_152 (fun hc_152 => ?_) (fun hc_152 => ?_)
                                                              · skip
                                                                exact absurd hc_152 (by decide)
                                                              · skip
                                                                refine zw_aload_n (pc := 155) (n := 0) (x := 81) rfl d_M_formula_155 ?_
                                                                refine zr_callV (hf_N224_.w hW) hf_N224_.x (pc := 156) [] [] l_M_349 (c_M_goesOnF l N224_ (hf_N224_.w hW) F_ K_ hA_ b_ n_ nm_ c226_ c227_ hp0_N224_ hz1_ (show (zrS N224_).head? ≠ some 1 by first | (exact ha145_3_hp2_N224_) | assumption) (show ze N224_ 81 7 = 0 by first | (exact ha145_0_hp2_N224_) | assumption)) rfl rfl rfl (by decide) (Nat.le_of_ble_eq_true rfl) d_M_formula_156 ?_
                                                                rintro _ N233_ ⟨v234_, rfl, ⟨hv234_a, hv234_b⟩, hsN233_, ⟨hp0_N233_, hp1_N233_, hp2_N233_⟩⟩
                                                                have hf_N233_ := hf_N224_.tr hsN233_ (by decide +kernel) (by decide +kernel)
                                                                have hb0_N233_ := hb0_N224_.tr hsN233_ (by decide +kernel) (by decide +kernel)
                                                                have hb1_N233_ := hb1_N224_.tr hsN233_ (by decide +kernel) (by decide +kernel)
                                                                have r3_N233_ := ze_r N233_ 81 3
                                                                have r4_N233_ := ze_r N233_ 81 4
                                                                have e7_N233_ : ze N233_ 81 7 = ze N224_ 81 7 := hsN233_.e (by decide)
                                                                have r38_N233_ := ze_r N233_ 81 38
                                                                have r39_N233_ := ze_r N233_ 81 39
                                                                have r41_N233_ := ze_r N233_ 81 41
                                                                have e42_N233_ : ze N233_ 81 42 = ze N224_ 81 42 := hsN233_.e (by decide)
                                                                have e43_N233_ : ze N233_ 81 43 = ze N224_ 81 43 := hsN233_.e (by decide)
                                                                have c235_ : zRmk F_ K_ N233_ := zRmk.fr hsN233_ c226_ (by decide +kernel) (by decide +kernel)
                                                                have c236_ : zRb b_ n_ N233_ := zRb.fr hsN233_ c227_ (by decide +kernel) (by decide +kernel)
                                                                have c237_ : zRNm nm_ F_ K_ b_ n_ N233_ := zRNm.fr hsN233_ c228_ (by decide +kernel) (by decide +kernel)
                                                                rcases hp2_N233_ with ⟨rfl, ha156_0_hp2_N233_, ha156_1_hp2_N233_, ha156_2_hp2_N233_⟩ | ⟨rfl, ha156_0_hp2_N233_, ha156_1_hp2_N233_, ha156_2_hp2_N233_, ha156_3_hp2_N233_, ha156_4_hp2_N233_⟩
                                                                · skip
                                                                  have hg0_ := hz0_.tr ha156_0_hp2_N233_
                                                                  have hg1_ := ha156_1_hp2_N233_
                                                                  have hg2_ := ha156_2_hp2_N233_
                                                                  show zW l m_M_formula (zn Mz + 0, zw Mz + 0) N233_ 159 [some (.ref 81), some (.int (Int32.ofInt 0))] [.int (Int32.ofInt 1)] _
                                                                  refine zr_if_eq (pc := 159) (tgt := 166) ⟨(by decide), (by decide)⟩ (by decide) d_M_formula_159 (fun hc_159 => ?_) (fun hc_159 => ?_)
                                                                  · skip
                                                                    exact absurd hc_159 (by decide)
                                                                  · skip
                                                                    refine zw_iconst (pc := 162) (v := Int32.ofInt 1) (by decide) d_M_formula_162 ?_
                                                                    refine zw_goto (pc := 163) (tgt := 167) (by decide) d_M_formula_163 ?_
                                                                    refine zw_istore_n (pc := 167) (i := 1) (L2 := [some (.ref 81), some (.int (Int32.ofInt 1))]) rfl (by decide) rfl d_M_formula_167 ?_
                                                                    refine zw_goto (pc := 168) (tgt := 88) (by decide) d_M_formula_168 ?_
                                                                    exact ih_88 1 (by decide) (by decide) (by (decide)) N233_ hb1_N233_ hp0_N233_ (show (1 ≤ ze N233_ 81 7 ∧ (ze Mz 81 7 = 0 → zRea (zfs b_ n_ F_ K_ nm_) (0, (ze Mz 81 4).toNat, [], [], 0, false) zFt)) ∨ ((1 : Int) = 1 ∧ ze N233_ 81 7 = 0 ∧ ze Mz 81 7 = 0 ∧ zRea (zfs b_ n_ F_ K_ nm_) (0, (ze Mz 81 4).toNat, [], [], 0, false) (zRst 0 F_ N233_) ∧ zRI F_ K_ 0 N233_ ∧ 0 ≤ ze N233_ 81 43 ∧ ze N233_ 81 43 ≤ 30 ∧ ze Mz 81 4 ≤ ze N233_ 81 4 ∧ ze N27_ 81 4 < ze N233_ 81 4) ∨ ((1 : Int) = 0 ∧ ze N233_ 81 7 = 0 ∧ ze Mz 81 7 = 0 ∧ zRea (zfs b_ n_ F_ K_ nm_) (0, (ze Mz 81 4).toNat, [], [], 0, false) (zRst 2 F_ N233_) ∧ zRI F_ K_ 1 N233_ ∧ 0 ≤ ze N233_ 81 43 ∧ ze N233_ 81 43 ≤ 30 ∧ (zrS N233_).head? ≠ some 1 ∧ ¬ (zisg b_ n_ (ze N233_ 81 4).toNat 42 ∨ zisg b_ n_ (ze N233_ 81 4).toNat 43 ∨ zisg b_ n_ (ze N233_ 81 4).toNat 45) ∧ ze Mz 81 4 ≤ ze N233_ 81 4 ∧ ze N27_ 81 4 < ze N233_ 81 4) from Or.inr (Or.inl (⟨(show (1 : Int) = 1 by first | rfl | assumption | omega | exact fun _ => hrt_ | exact hx0_ | exact hx1_ | exact hg0_ | exact hg1_), (show ze N233_ 81 7 = 0 by first | rfl | assumption | (exact zo_610 e7_N233_ ha145_0_hp2_N224_) | exact fun _ => hrt_ | exact hx0_ | exact hx1_ | exact hg0_ | exact hg1_), (show ze Mz 81 7 = 0 by first | rfl | assumption | omega | exact fun _ => hrt_ | exact hx0_ | exact hx1_ | exact hg0_ | exact hg1_), (show zRea (zfs b_ n_ F_ K_ nm_) (0, (ze Mz 81 4).toNat, [], [], 0, false) (zRst 0 F_ N233_) by first | rfl | assumption | omega | exact fun _ => hrt_ | exact hx0_ | exact hx1_ | exact hg0_ | exact hg1_), (show zRI F_ K_ 0 N233_ by first | rfl | assumption | omega | exact fun _ => hrt_ | exact hx0_ | exact hx1_ | exact hg0_ | exact hg1_), (show 0 ≤ ze N233_ 81 43 by first | rfl | assumption | (exact zo_618 e43_N202_ e43_N208_ e43_N213_ e43_N218_ hl88_4_i188_ hp1_N224_ hp1_N233_) | exact fun _ => hrt_ | exact hx0_ | exact hx1_ | exact hg0_ | exact hg1_), (show ze N233_ 81 43 ≤ 30 by first | rfl | assumption | (exact zo_619 e43_N202_ e43_N208_ e43_N213_ e43_N218_ hl88_5_i188_ hp1_N224_ hp1_N233_) | exact fun _ => hrt_ | exact hx0_ | exact hx1_ | exact hg0_ | exact hg1_), (show ze Mz 81 4 ≤ ze N233_ 81 4 by first | rfl | assumption | (exact zo_613 ha145_4_hp2_N224_ ha156_2_hp2_N233_ hgy_ hl88_8_i188_ hnp_ hp0_N218_ r4_N218_.1 r_4.2) | exact fun _ => hrt_ | exact hx0_ | exact hx1_ | exact hg0_ | exact hg1_), (show ze N27_ 81 4 < ze N233_ 81 4 by first | rfl | assumption | (exact zo_620 ha145_4_hp2_N224_ ha156_2_hp2_N233_ hgy_ hl88_9_i188_ hnp_ hp0_N218_ r4_N218_.1 r4_N27_.2) | exact fun _ => hrt_ | exact hx0_ | exact hx1_ | exact hg0_ | exact hg1_)⟩))) (by have m1_ := zmF_c n_ N233_; have m2_ := zmF_c n_ N185_; have m3_ := hp0_N233_.x; omega)
                                                                · skip
                                                                  have hg0_ := hz0_.tr ha156_0_hp2_N233_
                                                                  have hg1_ := ha156_1_hp2_N233_
                                                                  have hg2_ := ha156_2_hp2_N233_
                                                                  have hg3_ := ha156_3_hp2_N233_
                                                                  have hg4_ := ha156_4_hp2_N233_
                                                                  show zW l m_M_formula (zn Mz + 0, zw Mz + 0) N233_ 159 [some (.ref 81), some (.int (Int32.ofInt 0))] [.int (Int32.ofInt 0)] _
                                                                  refine zr_if_eq (pc := 159) (tgt := 166) ⟨(by decide), (by decide)⟩ (by decide) d_M_formula_159 (fun hc_159 => ?_) (fun hc_159 => ?_)
                                                                  · skip
                                                                    refine zw_iconst (pc := 166) (v := Int32.ofInt 0) (by decide) d_M_formula_166 ?_
                                                                    refine zw_istore_n (pc := 167) (i := 1) (L2 := [some (.ref 81), some (.int (Int32.ofInt 0))]) rfl (by decide) rfl d_M_formula_167 ?_
                                                                    refine zw_goto (pc := 168) (tgt := 88) (by decide) d_M_formula_168 ?_
                                                                    exact ih_88 0 (by decide) (by decide) (by (exact hu184_z)) N233_ hb1_N233_ hp0_N233_ (show (1 ≤ ze N233_ 81 7 ∧ (ze Mz 81 7 = 0 → zRea (zfs b_ n_ F_ K_ nm_) (0, (ze Mz 81 4).toNat, [], [], 0, false) zFt)) ∨ ((0 : Int) = 1 ∧ ze N233_ 81 7 = 0 ∧ ze Mz 81 7 = 0 ∧ zRea (zfs b_ n_ F_ K_ nm_) (0, (ze Mz 81 4).toNat, [], [], 0, false) (zRst 0 F_ N233_) ∧ zRI F_ K_ 0 N233_ ∧ 0 ≤ ze N233_ 81 43 ∧ ze N233_ 81 43 ≤ 30 ∧ ze Mz 81 4 ≤ ze N233_ 81 4 ∧ ze N27_ 81 4 < ze N233_ 81 4) ∨ ((0 : Int) = 0 ∧ ze N233_ 81 7 = 0 ∧ ze Mz 81 7 = 0 ∧ zRea (zfs b_ n_ F_ K_ nm_) (0, (ze Mz 81 4).toNat, [], [], 0, false) (zRst 2 F_ N233_) ∧ zRI F_ K_ 1 N233_ ∧ 0 ≤ ze N233_ 81 43 ∧ ze N233_ 81 43 ≤ 30 ∧ (zrS N233_).head? ≠ some 1 ∧ ¬ (zisg b_ n_ (ze N233_ 81 4).toNat 42 ∨ zisg b_ n_ (ze N233_ 81 4).toNat 43 ∨ zisg b_ n_ (ze N233_ 81 4).toNat 45) ∧ ze Mz 81 4 ≤ ze N233_ 81 4 ∧ ze N27_ 81 4 < ze N233_ 81 4) from Or.inr (Or.inr (⟨(show (0 : Int) = 0 by first | rfl | assumption | omega | exact fun _ => hrt_ | exact hx0_ | exact hx1_ | exact hg0_ | exact hg1_), (show ze N233_ 81 7 = 0 by first | rfl | assumption | (exact zo_610 e7_N233_ ha145_0_hp2_N224_) | exact fun _ => hrt_ | exact hx0_ | exact hx1_ | exact hg0_ | exact hg1_), (show ze Mz 81 7 = 0 by first | rfl | assumption | omega | exact fun _ => hrt_ | exact hx0_ | exact hx1_ | exact hg0_ | exact hg1_), (show zRea (zfs b_ n_ F_ K_ nm_) (0, (ze Mz 81 4).toNat, [], [], 0, false) (zRst 2 F_ N233_) by first | rfl | assumption | omega | exact fun _ => hrt_ | exact hx0_ | exact hx1_ | exact hg0_ | exact hg1_), (show zRI F_ K_ 1 N233_ by first | rfl | assumption | omega | exact fun _ => hrt_ | exact hx0_ | exact hx1_ | exact hg0_ | exact hg1_), (show 0 ≤ ze N233_ 81 43 by first | rfl | assumption | (exact zo_618 e43_N202_ e43_N208_ e43_N213_ e43_N218_ hl88_4_i188_ hp1_N224_ hp1_N233_) | exact fun _ => hrt_ | exact hx0_ | exact hx1_ | exact hg0_ | exact hg1_), (show ze N233_ 81 43 ≤ 30 by first | rfl | assumption | (exact zo_619 e43_N202_ e43_N208_ e43_N213_ e43_N218_ hl88_5_i188_ hp1_N224_ hp1_N233_) | exact fun _ => hrt_ | exact hx0_ | exact hx1_ | exact hg0_ | exact hg1_), (show (zrS N233_).head? ≠ some 1 by first | rfl | assumption | omega | exact fun _ => hrt_ | exact hx0_ | exact hx1_ | exact hg0_ | exact hg1_), (show ¬ (zisg b_ n_ (ze N233_ 81 4).toNat 42 ∨ zisg b_ n_ (ze N233_ 81 4).toNat 43 ∨ zisg b_ n_ (ze N233_ 81 4).toNat 45) by first | rfl | assumption | omega | exact fun _ => hrt_ | exact hx0_ | exact hx1_ | exact hg0_ | exact hg1_), (show ze Mz 81 4 ≤ ze N233_ 81 4 by first | rfl | assumption | (exact zo_615 ha145_4_hp2_N224_ ha156_4_hp2_N233_ hgy_ hl88_8_i188_ hnp_ hp0_N218_ r4_N218_.1 r_4.2) | exact fun _ => hrt_ | exact hx0_ | exact hx1_ | exact hg0_ | exact hg1_), (show ze N27_ 81 4 < ze N233_ 81 4 by first | rfl | assumption | (exact zo_621 ha145_4_hp2_N224_ ha156_4_hp2_N233_ hgy_ hl88_9_i188_ hnp_ hp0_N218_ r4_N218_.1 r4_N27_.2) | exact fun _ => hrt_ | exact hx0_ | exact hx1_ | exact hg0_ | exact hg1_)⟩))) (by have m1_ := zmF_c n_ N233_; have m2_ := zmF_c n_ N185_; have m3_ := hp0_N233_.x; omega)
                                                                  · skip
                                                                    exact absurd hc_159 (by decide)
                                                            · skip
                                                              exfalso; (exact zo_260 ha145_0_hp2_N224_ ha149_0_hp0_N231_)
                                                      · skip
                                                        have hM0_ := ha109_0_hp0_N200_
                                                        have hn41_ : ¬ (zisg b_ n_ (ze N185_ 81 4).toNat 41 ∧ 0 ∈ zrS N185_) := fun q_ => hM0_ q_.2
                                                        show zW l m_M_formula (zn Mz + 0, zw Mz + 0) N185_ 112 [some (.ref 81), some (.int (Int32.ofInt 0))] [.int (Int32.ofInt 0)] _
                                                        refine zr_if_eq (pc := 112) (tgt := 27) ⟨(by decide), (by decide)⟩ (by decide) d_M_formula_112 (fun hc_112 => ?_) (fun hc_112 => ?_)
                                                        · skip
                                                          exact ih_27 0 (by decide) (by decide) (by (exact hu184_z)) N185_ hb0_N185_ i187_ (show (1 ≤ ze N185_ 81 7 ∧ (ze Mz 81 7 = 0 → zRea (zfs b_ n_ F_ K_ nm_) (0, (ze Mz 81 4).toNat, [], [], 0, false) zFt)) ∨ ((0 : Int) = 1 ∧ ze N185_ 81 7 = 0 ∧ ze Mz 81 7 = 0 ∧ zRea (zfs b_ n_ F_ K_ nm_) (0, (ze Mz 81 4).toNat, [], [], 0, false) (zRst 0 F_ N185_) ∧ zRI F_ K_ 0 N185_ ∧ 0 ≤ ze N185_ 81 43 ∧ ze N185_ 81 43 ≤ 30 ∧ ze Mz 81 4 ≤ ze N185_ 81 4) ∨ ((0 : Int) = 0 ∧ ze N185_ 81 7 = 0 ∧ ze Mz 81 7 = 0 ∧ zRea (zfs b_ n_ F_ K_ nm_) (0, (ze Mz 81 4).toNat, [], [], 0, false) (zRst 2 F_ N185_) ∧ zRI F_ K_ 1 N185_ ∧ 0 ≤ ze N185_ 81 43 ∧ ze N185_ 81 43 ≤ 30 ∧ (zrS N185_).head? ≠ some 1 ∧ ¬ (zisg b_ n_ (ze N185_ 81 4).toNat 42 ∨ zisg b_ n_ (ze N185_ 81 4).toNat 43 ∨ zisg b_ n_ (ze N185_ 81 4).toNat 45) ∧ ze Mz 81 4 ≤ ze N185_ 81 4 ∧ ¬ (zisg b_ n_ (ze N185_ 81 4).toNat 41 ∧ 0 ∈ zrS N185_)) from Or.inr (Or.inr (⟨(show (0 : Int) = 0 by first | rfl | assumption | omega | exact fun _ => hrt_ | exact hx0_ | exact hx1_ | exact hg0_ | exact hg1_), (show ze N185_ 81 7 = 0 by first | rfl | assumption | omega | exact fun _ => hrt_ | exact hx0_ | exact hx1_ | exact hg0_ | exact hg1_), (show ze Mz 81 7 = 0 by first | rfl | assumption | omega | exact fun _ => hrt_ | exact hx0_ | exact hx1_ | exact hg0_ | exact hg1_), (show zRea (zfs b_ n_ F_ K_ nm_) (0, (ze Mz 81 4).toNat, [], [], 0, false) (zRst 2 F_ N185_) by first | rfl | assumption | omega | exact fun _ => hrt_ | exact hx0_ | exact hx1_ | exact hg0_ | exact hg1_), (show zRI F_ K_ 1 N185_ by first | rfl | assumption | omega | exact fun _ => hrt_ | exact hx0_ | exact hx1_ | exact hg0_ | exact hg1_), (show 0 ≤ ze N185_ 81 43 by first | rfl | assumption | omega | exact fun _ => hrt_ | exact hx0_ | exact hx1_ | exact hg0_ | exact hg1_), (show ze N185_ 81 43 ≤ 30 by first | rfl | assumption | omega | exact fun _ => hrt_ | exact hx0_ | exact hx1_ | exact hg0_ | exact hg1_), (show (zrS N185_).head? ≠ some 1 by first | rfl | assumption | omega | exact fun _ => hrt_ | exact hx0_ | exact hx1_ | exact hg0_ | exact hg1_), (show ¬ (zisg b_ n_ (ze N185_ 81 4).toNat 42 ∨ zisg b_ n_ (ze N185_ 81 4).toNat 43 ∨ zisg b_ n_ (ze N185_ 81 4).toNat 45) by first | rfl | assumption | omega | exact fun _ => hrt_ | exact hx0_ | exact hx1_ | exact hg0_ | exact hg1_), (show ze Mz 81 4 ≤ ze N185_ 81 4 by first | rfl | assumption | omega | exact fun _ => hrt_ | exact hx0_ | exact hx1_ | exact hg0_ | exact hg1_), (show ¬ (zisg b_ n_ (ze N185_ 81 4).toNat 41 ∧ 0 ∈ zrS N185_) by first | rfl | assumption | omega | exact fun _ => hrt_ | exact hx0_ | exact hx1_ | exact hg0_ | exact hg1_)⟩))) (by have m1_ := zmF_c n_ N185_; have m2_ := zmF_c n_ N27_; have m3_ := i187_.x; omega)
                                                        · skip
                                                          exact absurd hc_112 (by decide)
                                                  · skip
                                                    have hC_ := ha102_0_hp0_N198_ (by (exact hl88_0_i188_))
                                                    have hn41_ : ¬ (zisg b_ n_ (ze N185_ 81 4).toNat 41 ∧ 0 ∈ zrS N185_) := fun q_ => hC_ q_.1
                                                    show zW l m_M_formula (zn Mz + 0, zw Mz + 0) N185_ 105 [some (.ref 81), some (.int (Int32.ofInt 0))] [.int (Int32.ofInt 0)] _
                                                    refine zr_if_eq (pc := 105) (tgt := 27) ⟨(by decide), (by decide)⟩ (by decide) d_M_formula_105 (fun hc_105 => ?_) (fun hc_105 => ?_)
                                                    · skip
                                                      exact ih_27 0 (by decide) (by decide) (by (exact hu184_z)) N185_ hb0_N185_ i187_ (show (1 ≤ ze N185_ 81 7 ∧ (ze Mz 81 7 = 0 → zRea (zfs b_ n_ F_ K_ nm_) (0, (ze Mz 81 4).toNat, [], [], 0, false) zFt)) ∨ ((0 : Int) = 1 ∧ ze N185_ 81 7 = 0 ∧ ze Mz 81 7 = 0 ∧ zRea (zfs b_ n_ F_ K_ nm_) (0, (ze Mz 81 4).toNat, [], [], 0, false) (zRst 0 F_ N185_) ∧ zRI F_ K_ 0 N185_ ∧ 0 ≤ ze N185_ 81 43 ∧ ze N185_ 81 43 ≤ 30 ∧ ze Mz 81 4 ≤ ze N185_ 81 4) ∨ ((0 : Int) = 0 ∧ ze N185_ 81 7 = 0 ∧ ze Mz 81 7 = 0 ∧ zRea (zfs b_ n_ F_ K_ nm_) (0, (ze Mz 81 4).toNat, [], [], 0, false) (zRst 2 F_ N185_) ∧ zRI F_ K_ 1 N185_ ∧ 0 ≤ ze N185_ 81 43 ∧ ze N185_ 81 43 ≤ 30 ∧ (zrS N185_).head? ≠ some 1 ∧ ¬ (zisg b_ n_ (ze N185_ 81 4).toNat 42 ∨ zisg b_ n_ (ze N185_ 81 4).toNat 43 ∨ zisg b_ n_ (ze N185_ 81 4).toNat 45) ∧ ze Mz 81 4 ≤ ze N185_ 81 4 ∧ ¬ (zisg b_ n_ (ze N185_ 81 4).toNat 41 ∧ 0 ∈ zrS N185_)) from Or.inr (Or.inr (⟨(show (0 : Int) = 0 by first | rfl | assumption | omega | exact fun _ => hrt_ | exact hx0_ | exact hx1_ | exact hg0_ | exact hg1_), (show ze N185_ 81 7 = 0 by first | rfl | assumption | omega | exact fun _ => hrt_ | exact hx0_ | exact hx1_ | exact hg0_ | exact hg1_), (show ze Mz 81 7 = 0 by first | rfl | assumption | omega | exact fun _ => hrt_ | exact hx0_ | exact hx1_ | exact hg0_ | exact hg1_), (show zRea (zfs b_ n_ F_ K_ nm_) (0, (ze Mz 81 4).toNat, [], [], 0, false) (zRst 2 F_ N185_) by first | rfl | assumption | omega | exact fun _ => hrt_ | exact hx0_ | exact hx1_ | exact hg0_ | exact hg1_), (show zRI F_ K_ 1 N185_ by first | rfl | assumption | omega | exact fun _ => hrt_ | exact hx0_ | exact hx1_ | exact hg0_ | exact hg1_), (show 0 ≤ ze N185_ 81 43 by first | rfl | assumption | omega | exact fun _ => hrt_ | exact hx0_ | exact hx1_ | exact hg0_ | exact hg1_), (show ze N185_ 81 43 ≤ 30 by first | rfl | assumption | omega | exact fun _ => hrt_ | exact hx0_ | exact hx1_ | exact hg0_ | exact hg1_), (show (zrS N185_).head? ≠ some 1 by first | rfl | assumption | omega | exact fun _ => hrt_ | exact hx0_ | exact hx1_ | exact hg0_ | exact hg1_), (show ¬ (zisg b_ n_ (ze N185_ 81 4).toNat 42 ∨ zisg b_ n_ (ze N185_ 81 4).toNat 43 ∨ zisg b_ n_ (ze N185_ 81 4).toNat 45) by first | rfl | assumption | omega | exact fun _ => hrt_ | exact hx0_ | exact hx1_ | exact hg0_ | exact hg1_), (show ze Mz 81 4 ≤ ze N185_ 81 4 by first | rfl | assumption | omega | exact fun _ => hrt_ | exact hx0_ | exact hx1_ | exact hg0_ | exact hg1_), (show ¬ (zisg b_ n_ (ze N185_ 81 4).toNat 41 ∧ 0 ∈ zrS N185_) by first | rfl | assumption | omega | exact fun _ => hrt_ | exact hx0_ | exact hx1_ | exact hg0_ | exact hg1_)⟩))) (by have m1_ := zmF_c n_ N185_; have m2_ := zmF_c n_ N27_; have m3_ := i187_.x; omega)
                                                    · skip
                                                      exact absurd hc_105 (by decide)
                                            · skip
                                              exfalso; (exact zo_260 hl88_0_i188_ ha89_0_hp0_N196_)
                                      exact lp_88 _ 0 (by decide) (by decide) (by (decide)) N177_ zFr.rf hp0_N177_ (show (1 ≤ ze N177_ 81 7 ∧ (ze Mz 81 7 = 0 → zRea (zfs b_ n_ F_ K_ nm_) (0, (ze Mz 81 4).toNat, [], [], 0, false) zFt)) ∨ ((0 : Int) = 1 ∧ ze N177_ 81 7 = 0 ∧ ze Mz 81 7 = 0 ∧ zRea (zfs b_ n_ F_ K_ nm_) (0, (ze Mz 81 4).toNat, [], [], 0, false) (zRst 0 F_ N177_) ∧ zRI F_ K_ 0 N177_ ∧ 0 ≤ ze N177_ 81 43 ∧ ze N177_ 81 43 ≤ 30 ∧ ze Mz 81 4 ≤ ze N177_ 81 4 ∧ ze N27_ 81 4 < ze N177_ 81 4) ∨ ((0 : Int) = 0 ∧ ze N177_ 81 7 = 0 ∧ ze Mz 81 7 = 0 ∧ zRea (zfs b_ n_ F_ K_ nm_) (0, (ze Mz 81 4).toNat, [], [], 0, false) (zRst 2 F_ N177_) ∧ zRI F_ K_ 1 N177_ ∧ 0 ≤ ze N177_ 81 43 ∧ ze N177_ 81 43 ≤ 30 ∧ (zrS N177_).head? ≠ some 1 ∧ ¬ (zisg b_ n_ (ze N177_ 81 4).toNat 42 ∨ zisg b_ n_ (ze N177_ 81 4).toNat 43 ∨ zisg b_ n_ (ze N177_ 81 4).toNat 45) ∧ ze Mz 81 4 ≤ ze N177_ 81 4 ∧ ze N27_ 81 4 < ze N177_ 81 4) from Or.inl (⟨(show 1 ≤ ze N177_ 81 7 by first | rfl | assumption | omega | exact fun _ => hrt_ | exact hg0_ | exact hg1_), (show (ze Mz 81 7 = 0 → zRea (zfs b_ n_ F_ K_ nm_) (0, (ze Mz 81 4).toNat, [], [], 0, false) zFt) by first | rfl | assumption | omega | exact fun _ => hrt_ | exact hg0_ | exact hg1_)⟩)) (Nat.lt_succ_self _)
                                    · skip
                                      exact absurd hc_72 (by decide)
                                · skip
                                  have hz0_ := hy0_.tr ha65_1_hp2_N177_
                                  have hz1_ := ha65_2_hp2_N177_
                                  have hz2_ := ha65_3_hp2_N177_
                                  have hz3_ := ha65_4_hp2_N177_
                                  show zW l m_M_formula (zn Mz + 0, zw Mz + 0) N177_ 68 [some (.ref 81), some (.int (Int32.ofInt u42_))] [] _
                                  refine zw_aload_n (pc := 68) (n := 0) (x := 81) rfl (zdal_p dlC_M_formula_95 (i := 12) rfl) ?_
                                  refine zr_callV (hf_N177_.w hW) hf_N177_.x (pc := 69) [] [] l_M_183 (c_M_isGood l N177_ (hf_N177_.w hW) ) rfl rfl rfl (by decide) (Nat.le_of_ble_eq_true rfl) (zdal_p dlC_M_formula_95 (i := 13) rfl) ?_
                                  rintro _ N238_ ⟨v239_, rfl, ⟨hv239_a, hv239_b⟩, hsN238_, hp0_N238_⟩
                                  obtain rfl := hsN238_.eq.symm
                                  replace hp0_N238_ : ((v239_ = 1 ∧ ze N177_ 81 7 = 0) ∨ (v239_ = 0 ∧ ze N177_ 81 7 ≠ 0)) := hp0_N238_
                                  rcases hp0_N238_ with ⟨rfl, ha69_0_hp0_N238_⟩ | ⟨rfl, ha69_0_hp0_N238_⟩
                                  · skip
                                    show zW l m_M_formula (zn Mz + 0, zw Mz + 0) N177_ 72 [some (.ref 81), some (.int (Int32.ofInt u42_))] [.int (Int32.ofInt 1)] _
                                    refine zr_if_eq (pc := 72) (tgt := 86) ⟨(by decide), (by decide)⟩ (by decide) (zdal_p dlC_M_formula_95 (i := 14) rfl) (fun hc_72 => ?_) (fun hc_72 => ?_)
                                    · skip
                                      exact absurd hc_72 (by decide)
                                    · skip
                                      refine zw_aload_n (pc := 75) (n := 0) (x := 81) rfl (zdal_p dlC_M_formula_95 (i := 15) rfl) ?_
                                      refine zr_callV (hf_N177_.w hW) hf_N177_.x (pc := 76) [] [] l_M_349 (c_M_goesOnF l N177_ (hf_N177_.w hW) F_ K_ hA_ b_ n_ nm_ c179_ c180_ hp0_N177_ hz1_ (show (zrS N177_).head? ≠ some 1 by first | (exact ha65_3_hp2_N177_) | assumption) (show ze N177_ 81 7 = 0 by first | (exact ha65_0_hp2_N177_) | assumption)) rfl rfl rfl (by decide) (Nat.le_of_ble_eq_true rfl) (zdal_p dlC_M_formula_95 (i := 16) rfl) ?_
                                      rintro _ N240_ ⟨v241_, rfl, ⟨hv241_a, hv241_b⟩, hsN240_, ⟨hp0_N240_, hp1_N240_, hp2_N240_⟩⟩
                                      have hf_N240_ := hf_N177_.tr hsN240_ (by decide +kernel) (by decide +kernel)
                                      have hb0_N240_ := hb0_N177_.tr hsN240_ (by decide +kernel) (by decide +kernel)
                                      have r3_N240_ := ze_r N240_ 81 3
                                      have r4_N240_ := ze_r N240_ 81 4
                                      have e7_N240_ : ze N240_ 81 7 = ze N177_ 81 7 := hsN240_.e (by decide)
                                      have r38_N240_ := ze_r N240_ 81 38
                                      have r39_N240_ := ze_r N240_ 81 39
                                      have r41_N240_ := ze_r N240_ 81 41
                                      have e42_N240_ : ze N240_ 81 42 = ze N177_ 81 42 := hsN240_.e (by decide)
                                      have e43_N240_ : ze N240_ 81 43 = ze N177_ 81 43 := hsN240_.e (by decide)
                                      have c242_ : zRmk F_ K_ N240_ := zRmk.fr hsN240_ c179_ (by decide +kernel) (by decide +kernel)
                                      have c243_ : zRb b_ n_ N240_ := zRb.fr hsN240_ c180_ (by decide +kernel) (by decide +kernel)
                                      have c244_ : zRNm nm_ F_ K_ b_ n_ N240_ := zRNm.fr hsN240_ c181_ (by decide +kernel) (by decide +kernel)
                                      rcases hp2_N240_ with ⟨rfl, ha76_0_hp2_N240_, ha76_1_hp2_N240_, ha76_2_hp2_N240_⟩ | ⟨rfl, ha76_0_hp2_N240_, ha76_1_hp2_N240_, ha76_2_hp2_N240_, ha76_3_hp2_N240_, ha76_4_hp2_N240_⟩
                                      · skip
                                        have hg0_ := hz0_.tr ha76_0_hp2_N240_
                                        have hg1_ := ha76_1_hp2_N240_
                                        have hg2_ := ha76_2_hp2_N240_
                                        show zW l m_M_formula (zn Mz + 0, zw Mz + 0) N240_ 79 [some (.ref 81), some (.int (Int32.ofInt u42_))] [.int (Int32.ofInt 1)] _
                                        refine zr_if_eq (pc := 79) (tgt := 86) ⟨(by decide), (by decide)⟩ (by decide) (zdal_p dlC_M_formula_95 (i := 17) rfl) (fun hc_79 => ?_) (fun hc_79 => ?_)
                                        · skip
                                          exact absurd hc_79 (by decide)
                                        · skip
                                          refine zw_iconst (pc := 82) (v := Int32.ofInt 1) (by decide) (zdal_p dlC_M_formula_95 (i := 18) rfl) ?_
                                          refine zw_goto (pc := 83) (tgt := 87) (by decide) (zdal_p dlC_M_formula_95 (i := 19) rfl) ?_
                                          refine zw_istore_n (pc := 87) (i := 1) (L2 := [some (.ref 81), some (.int (Int32.ofInt 1))]) rfl (by decide) rfl d_M_formula_87 ?_
                                          have lp_88 : ∀ (n : Nat) (u245_ : Int) (hu245_a : -2147483648 ≤ u245_) (hu245_b : u245_ < 2147483648) (hu245_z : u245_ = 0 ∨ u245_ = 1) (N246_ : zMem) (hs247_ : zFr [3, 4, 5, 6, 7, 8, 11, 38, 39, 41, 42] [95, 96, 97, 100] N240_ N246_) (i248_ : zRt b_ n_ N246_) (i249_ : (1 ≤ ze N246_ 81 7 ∧ (ze Mz 81 7 = 0 → zRea (zfs b_ n_ F_ K_ nm_) (0, (ze Mz 81 4).toNat, [], [], 0, false) zFt)) ∨ (u245_ = 1 ∧ ze N246_ 81 7 = 0 ∧ ze Mz 81 7 = 0 ∧ zRea (zfs b_ n_ F_ K_ nm_) (0, (ze Mz 81 4).toNat, [], [], 0, false) (zRst 0 F_ N246_) ∧ zRI F_ K_ 0 N246_ ∧ 0 ≤ ze N246_ 81 43 ∧ ze N246_ 81 43 ≤ 30 ∧ ze Mz 81 4 ≤ ze N246_ 81 4 ∧ ze N27_ 81 4 < ze N246_ 81 4) ∨ (u245_ = 0 ∧ ze N246_ 81 7 = 0 ∧ ze Mz 81 7 = 0 ∧ zRea (zfs b_ n_ F_ K_ nm_) (0, (ze Mz 81 4).toNat, [], [], 0, false) (zRst 2 F_ N246_) ∧ zRI F_ K_ 1 N246_ ∧ 0 ≤ ze N246_ 81 43 ∧ ze N246_ 81 43 ≤ 30 ∧ (zrS N246_).head? ≠ some 1 ∧ ¬ (zisg b_ n_ (ze N246_ 81 4).toNat 42 ∨ zisg b_ n_ (ze N246_ 81 4).toNat 43 ∨ zisg b_ n_ (ze N246_ 81 4).toNat 45) ∧ ze Mz 81 4 ≤ ze N246_ 81 4 ∧ ze N27_ 81 4 < ze N246_ 81 4)), zmF n_ N246_ < n → zW l m_M_formula (zn Mz + 0, zw Mz + 0) N246_ 88 [some (.ref 81), some (.int (Int32.ofInt u245_))] [] (zpV [3, 4, 5, 6, 7, 8, 11, 38, 39, 41, 42, 43] [95, 96, 97, 100] Mz (fun N => zRt b_ n_ N ∧ (((1 ≤ ze N 81 7 ∧ (ze Mz 81 7 = 0 → zRea (zfs b_ n_ F_ K_ nm_) (0, (ze Mz 81 4).toNat, [], [], 0, false) zFt)) ∨ (ze N 81 7 = 0 ∧ ze Mz 81 7 = 0 ∧ zRea (zfs b_ n_ F_ K_ nm_) (0, (ze Mz 81 4).toNat, [], [], 0, false) (zRst 3 F_ N) ∧ zRI F_ K_ 1 N ∧ zrS N = [] ∧ ze Mz 81 4 ≤ ze N 81 4))))) := by
                                            clear hu42_a hu42_b hu42_z hv111_a hv111_b hsN112_ hv113_a hv113_b hp0_N112_ hf_N112_ hb0_N112_ hb1_N112_ r3_N112_ r4_N112_ r7_N112_ r38_N112_ r39_N112_ r41_N112_ r42_N112_ r43_N112_ c114_ c115_ c116_ ha46_0_hp1_N112_ ha46_1_hp1_N112_ ha46_2_hp1_N112_ ha46_3_hp1_N112_ ha46_4_hp1_N112_ ha46_5_hp1_N112_ hv176_a hv176_b ha58_0_hp0_N175_ hsN177_ hp0_N177_ hp1_N177_ hf_N177_ hb0_N177_ r3_N177_ r4_N177_ r7_N177_ e38_N177_ r39_N177_ r41_N177_ r42_N177_ e43_N177_ c179_ c180_ c181_ ha65_0_hp2_N177_ ha65_1_hp2_N177_ ha65_2_hp2_N177_ ha65_3_hp2_N177_ ha65_4_hp2_N177_ hv239_a hv239_b ha69_0_hp0_N238_ hsN240_ hv241_a hv241_b hp1_N240_ e7_N240_ e42_N240_ e43_N240_ ha76_0_hp2_N240_ ha76_2_hp2_N240_
                                            intro n
                                            induction n with
                                            | zero =>
                                              intro u245_ hu245_a hu245_b hu245_z N246_ hs247_ i248_ i249_ h0
                                              exact absurd h0 (Nat.not_lt_zero _)
                                            | succ n ih_88 =>
                                              intro u245_ hu245_a hu245_b hu245_z N246_ hs247_ i248_ i249_ hlt_88
                                              have hf_N246_ := hf_N240_.tr hs247_ (by decide +kernel) (by decide +kernel)
                                              have hb0_N246_ := hb0_N240_.tr hs247_ (by decide +kernel) (by decide +kernel)
                                              have r3_N246_ := ze_r N246_ 81 3
                                              have r4_N246_ := ze_r N246_ 81 4
                                              have r7_N246_ := ze_r N246_ 81 7
                                              have r38_N246_ := ze_r N246_ 81 38
                                              have r39_N246_ := ze_r N246_ 81 39
                                              have r41_N246_ := ze_r N246_ 81 41
                                              have r42_N246_ := ze_r N246_ 81 42
                                              have e43_N246_ : ze N246_ 81 43 = ze N240_ 81 43 := hs247_.e (by decide)
                                              have c250_ : zRmk F_ K_ N246_ := zRmk.fr hs247_ c242_ (by decide +kernel) (by decide +kernel)
                                              have c251_ : zRb b_ n_ N246_ := zRb.fr hs247_ c243_ (by decide +kernel) (by decide +kernel)
                                              have c252_ : zRNm nm_ F_ K_ b_ n_ N246_ := zRNm.fr hs247_ c244_ (by decide +kernel) (by decide +kernel)
                                              rcases i249_ with ⟨hl88_0_i249_, hl88_1_i249_⟩ | ⟨rfl, hl88_0_i249_, hl88_1_i249_, hl88_2_i249_, hl88_3_i249_, hl88_4_i249_, hl88_5_i249_, hl88_6_i249_, hl88_7_i249_⟩ | ⟨rfl, hl88_0_i249_, hl88_1_i249_, hl88_2_i249_, hl88_3_i249_, hl88_4_i249_, hl88_5_i249_, hl88_6_i249_, hl88_7_i249_, hl88_8_i249_, hl88_9_i249_⟩
                                              · skip
                                                refine zw_aload_n (pc := 88) (n := 0) (x := 81) rfl d_M_formula_88 ?_
                                                refine zr_callV (hf_N246_.w hW) hf_N246_.x (pc := 89) [] [] l_M_183 (c_M_isGood l N246_ (hf_N246_.w hW) ) rfl rfl rfl (by decide) (Nat.le_of_ble_eq_true rfl) d_M_formula_89 ?_
                                                rintro _ N253_ ⟨v254_, rfl, ⟨hv254_a, hv254_b⟩, hsN253_, hp0_N253_⟩
                                                obtain rfl := hsN253_.eq.symm
                                                replace hp0_N253_ : ((v254_ = 1 ∧ ze N246_ 81 7 = 0) ∨ (v254_ = 0 ∧ ze N246_ 81 7 ≠ 0)) := hp0_N253_
                                                rcases hp0_N253_ with ⟨rfl, ha89_0_hp0_N253_⟩ | ⟨rfl, ha89_0_hp0_N253_⟩
                                                · skip
                                                  exfalso; (exact zo_281 ha89_0_hp0_N253_ hl88_0_i249_)
                                                · skip
                                                  show zW l m_M_formula (zn Mz + 0, zw Mz + 0) N246_ 92 [some (.ref 81), some (.int (Int32.ofInt u245_))] [.int (Int32.ofInt 0)] _
                                                  refine zr_if_eq (pc := 92) (tgt := 27) ⟨(by decide), (by decide)⟩ (by decide) d_M_formula_92 (fun hc_92 => ?_) (fun hc_92 => ?_)
                                                  · skip
                                                    exact ih_27 u245_ hu245_a hu245_b (by (exact hu245_z)) N246_ hb0_N246_ i248_ (show (1 ≤ ze N246_ 81 7 ∧ (ze Mz 81 7 = 0 → zRea (zfs b_ n_ F_ K_ nm_) (0, (ze Mz 81 4).toNat, [], [], 0, false) zFt)) ∨ (u245_ = 1 ∧ ze N246_ 81 7 = 0 ∧ ze Mz 81 7 = 0 ∧ zRea (zfs b_ n_ F_ K_ nm_) (0, (ze Mz 81 4).toNat, [], [], 0, false) (zRst 0 F_ N246_) ∧ zRI F_ K_ 0 N246_ ∧ 0 ≤ ze N246_ 81 43 ∧ ze N246_ 81 43 ≤ 30 ∧ ze Mz 81 4 ≤ ze N246_ 81 4) ∨ (u245_ = 0 ∧ ze N246_ 81 7 = 0 ∧ ze Mz 81 7 = 0 ∧ zRea (zfs b_ n_ F_ K_ nm_) (0, (ze Mz 81 4).toNat, [], [], 0, false) (zRst 2 F_ N246_) ∧ zRI F_ K_ 1 N246_ ∧ 0 ≤ ze N246_ 81 43 ∧ ze N246_ 81 43 ≤ 30 ∧ (zrS N246_).head? ≠ some 1 ∧ ¬ (zisg b_ n_ (ze N246_ 81 4).toNat 42 ∨ zisg b_ n_ (ze N246_ 81 4).toNat 43 ∨ zisg b_ n_ (ze N246_ 81 4).toNat 45) ∧ ze Mz 81 4 ≤ ze N246_ 81 4 ∧ ¬ (zisg b_ n_ (ze N246_ 81 4).toNat 41 ∧ 0 ∈ zrS N246_)) from Or.inl (⟨(show 1 ≤ ze N246_ 81 7 by first | rfl | assumption | omega | exact fun _ => hrt_ | exact hx0_ | exact hx1_ | exact hg0_ | exact hg1_), (show (ze Mz 81 7 = 0 → zRea (zfs b_ n_ F_ K_ nm_) (0, (ze Mz 81 4).toNat, [], [], 0, false) zFt) by first | rfl | assumption | omega | exact fun _ => hrt_ | exact hx0_ | exact hx1_ | exact hg0_ | exact hg1_)⟩)) (by have m1_ := zmF_c n_ N246_; have m2_ := zmF_c n_ N27_; have m3_ := i248_.x; omega)
                                                  · skip
                                                    exact absurd hc_92 (by decide)
                                              · skip
                                                have hr0_ := hl88_2_i249_
                                                have hc0_ := hl88_3_i249_
                                                refine zw_aload_n (pc := 88) (n := 0) (x := 81) rfl d_M_formula_88 ?_
                                                refine zr_callV (hf_N246_.w hW) hf_N246_.x (pc := 89) [] [] l_M_183 (c_M_isGood l N246_ (hf_N246_.w hW) ) rfl rfl rfl (by decide) (Nat.le_of_ble_eq_true rfl) d_M_formula_89 ?_
                                                rintro _ N255_ ⟨v256_, rfl, ⟨hv256_a, hv256_b⟩, hsN255_, hp0_N255_⟩
                                                obtain rfl := hsN255_.eq.symm
                                                replace hp0_N255_ : ((v256_ = 1 ∧ ze N246_ 81 7 = 0) ∨ (v256_ = 0 ∧ ze N246_ 81 7 ≠ 0)) := hp0_N255_
                                                rcases hp0_N255_ with ⟨rfl, ha89_0_hp0_N255_⟩ | ⟨rfl, ha89_0_hp0_N255_⟩
                                                · skip
                                                  show zW l m_M_formula (zn Mz + 0, zw Mz + 0) N246_ 92 [some (.ref 81), some (.int (Int32.ofInt 1))] [.int (Int32.ofInt 1)] _
                                                  refine zr_if_eq (pc := 92) (tgt := 27) ⟨(by decide), (by decide)⟩ (by decide) d_M_formula_92 (fun hc_92 => ?_) (fun hc_92 => ?_)
                                                  · skip
                                                    exact absurd hc_92 (by decide)
                                                  · skip
                                                    refine zw_iload_n (pc := 95) (n := 1) (x := Int32.ofInt 1) rfl d_M_formula_95 ?_
                                                    refine zr_if_ne (pc := 96) (tgt := 27) ⟨(by decide), (by decide)⟩ (by decide) d_M_formula_96 (fun hc_96 => ?_) (fun hc_96 => ?_)
                                                    · skip
                                                      exact ih_27 1 (by decide) (by decide) (by (exact hu245_z)) N246_ hb0_N246_ i248_ (show (1 ≤ ze N246_ 81 7 ∧ (ze Mz 81 7 = 0 → zRea (zfs b_ n_ F_ K_ nm_) (0, (ze Mz 81 4).toNat, [], [], 0, false) zFt)) ∨ ((1 : Int) = 1 ∧ ze N246_ 81 7 = 0 ∧ ze Mz 81 7 = 0 ∧ zRea (zfs b_ n_ F_ K_ nm_) (0, (ze Mz 81 4).toNat, [], [], 0, false) (zRst 0 F_ N246_) ∧ zRI F_ K_ 0 N246_ ∧ 0 ≤ ze N246_ 81 43 ∧ ze N246_ 81 43 ≤ 30 ∧ ze Mz 81 4 ≤ ze N246_ 81 4) ∨ ((1 : Int) = 0 ∧ ze N246_ 81 7 = 0 ∧ ze Mz 81 7 = 0 ∧ zRea (zfs b_ n_ F_ K_ nm_) (0, (ze Mz 81 4).toNat, [], [], 0, false) (zRst 2 F_ N246_) ∧ zRI F_ K_ 1 N246_ ∧ 0 ≤ ze N246_ 81 43 ∧ ze N246_ 81 43 ≤ 30 ∧ (zrS N246_).head? ≠ some 1 ∧ ¬ (zisg b_ n_ (ze N246_ 81 4).toNat 42 ∨ zisg b_ n_ (ze N246_ 81 4).toNat 43 ∨ zisg b_ n_ (ze N246_ 81 4).toNat 45) ∧ ze Mz 81 4 ≤ ze N246_ 81 4 ∧ ¬ (zisg b_ n_ (ze N246_ 81 4).toNat 41 ∧ 0 ∈ zrS N246_)) from Or.inr (Or.inl (⟨(show (1 : Int) = 1 by first | rfl | assumption | omega | exact fun _ => hrt_ | exact hx0_ | exact hx1_ | exact hg0_ | exact hg1_), (show ze N246_ 81 7 = 0 by first | rfl | assumption | omega | exact fun _ => hrt_ | exact hx0_ | exact hx1_ | exact hg0_ | exact hg1_), (show ze Mz 81 7 = 0 by first | rfl | assumption | omega | exact fun _ => hrt_ | exact hx0_ | exact hx1_ | exact hg0_ | exact hg1_), (show zRea (zfs b_ n_ F_ K_ nm_) (0, (ze Mz 81 4).toNat, [], [], 0, false) (zRst 0 F_ N246_) by first | rfl | assumption | omega | exact fun _ => hrt_ | exact hx0_ | exact hx1_ | exact hg0_ | exact hg1_), (show zRI F_ K_ 0 N246_ by first | rfl | assumption | omega | exact fun _ => hrt_ | exact hx0_ | exact hx1_ | exact hg0_ | exact hg1_), (show 0 ≤ ze N246_ 81 43 by first | rfl | assumption | omega | exact fun _ => hrt_ | exact hx0_ | exact hx1_ | exact hg0_ | exact hg1_), (show ze N246_ 81 43 ≤ 30 by first | rfl | assumption | omega | exact fun _ => hrt_ | exact hx0_ | exact hx1_ | exact hg0_ | exact hg1_), (show ze Mz 81 4 ≤ ze N246_ 81 4 by first | rfl | assumption | omega | exact fun _ => hrt_ | exact hx0_ | exact hx1_ | exact hg0_ | exact hg1_)⟩))) (by have m1_ := zmF_c n_ N246_; have m2_ := zmF_c n_ N27_; have m3_ := i248_.x; omega)
                                                    · skip
                                                      exact absurd hc_96 (by decide)
                                                · skip
                                                  exfalso; (exact zo_260 hl88_0_i249_ ha89_0_hp0_N255_)
                                              · skip
                                                have hr2_ := hl88_2_i249_
                                                have hc2_ := hl88_3_i249_
                                                have hh2_ := hl88_6_i249_
                                                have hn4_ := hl88_7_i249_
                                                refine zw_aload_n (pc := 88) (n := 0) (x := 81) rfl d_M_formula_88 ?_
                                                refine zr_callV (hf_N246_.w hW) hf_N246_.x (pc := 89) [] [] l_M_183 (c_M_isGood l N246_ (hf_N246_.w hW) ) rfl rfl rfl (by decide) (Nat.le_of_ble_eq_true rfl) d_M_formula_89 ?_
                                                rintro _ N257_ ⟨v258_, rfl, ⟨hv258_a, hv258_b⟩, hsN257_, hp0_N257_⟩
                                                obtain rfl := hsN257_.eq.symm
                                                replace hp0_N257_ : ((v258_ = 1 ∧ ze N246_ 81 7 = 0) ∨ (v258_ = 0 ∧ ze N246_ 81 7 ≠ 0)) := hp0_N257_
                                                rcases hp0_N257_ with ⟨rfl, ha89_0_hp0_N257_⟩ | ⟨rfl, ha89_0_hp0_N257_⟩
                                                · skip
                                                  show zW l m_M_formula (zn Mz + 0, zw Mz + 0) N246_ 92 [some (.ref 81), some (.int (Int32.ofInt 0))] [.int (Int32.ofInt 1)] _
                                                  refine zr_if_eq (pc := 92) (tgt := 27) ⟨(by decide), (by decide)⟩ (by decide) d_M_formula_92 (fun hc_92 => ?_) (fun hc_92 => ?_)
                                                  · skip
                                                    exact absurd hc_92 (by decide)
                                                  · skip
                                                    refine zw_iload_n (pc := 95) (n := 1) (x := Int32.ofInt 0) rfl d_M_formula_95 ?_
                                                    refine zr_if_ne (pc := 96) (tgt := 27) ⟨(by decide), (by decide)⟩ (by decide) d_M_formula_96 (fun hc_96 => ?_) (fun hc_96 => ?_)
                                                    · skip
                                                      exact absurd hc_96 (by decide)
                                                    · skip
                                                      refine zw_aload_n (pc := 99) (n := 0) (x := 81) rfl d_M_formula_99 ?_
                                                      refine zw_bipush (pc := 100) (v := Int32.ofInt 41) (by decide) d_M_formula_100 ?_
                                                      refine zr_callV (hf_N246_.w hW) hf_N246_.x (pc := 102) [.int (Int32.ofInt 41)] [] l_M_187 (c_M_isSignHereF l N246_ (hf_N246_.w hW) 41 (by decide) (by decide) b_ n_ i248_) rfl rfl rfl (by decide) (Nat.le_of_ble_eq_true rfl) d_M_formula_102 ?_
                                                      rintro _ N259_ ⟨v260_, rfl, ⟨hv260_a, hv260_b⟩, hsN259_, hp0_N259_⟩
                                                      obtain rfl := hsN259_.eq.symm
                                                      replace hp0_N259_ : ((v260_ = 1 ∧ ze N246_ 81 7 = 0 ∧ zisg b_ n_ (ze N246_ 81 4).toNat 41) ∨ (v260_ = 0 ∧ (ze N246_ 81 7 = 0 → ¬ zisg b_ n_ (ze N246_ 81 4).toNat 41))) := hp0_N259_
                                                      rcases hp0_N259_ with ⟨rfl, ha102_0_hp0_N259_, ha102_1_hp0_N259_⟩ | ⟨rfl, ha102_0_hp0_N259_⟩
                                                      · skip
                                                        have hC_ := ha102_1_hp0_N259_
                                                        show zW l m_M_formula (zn Mz + 0, zw Mz + 0) N246_ 105 [some (.ref 81), some (.int (Int32.ofInt 0))] [.int (Int32.ofInt 1)] _
                                                        refine zr_if_eq (pc := 105) (tgt := 27) ⟨(by decide), (by decide)⟩ (by decide) d_M_formula_105 (fun hc_105 => ?_) (fun hc_105 => ?_)
                                                        · skip
                                                          exact absurd hc_105 (by decide)
                                                        · skip
                                                          refine zw_aload_n (pc := 108) (n := 0) (x := 81) rfl d_M_formula_108 ?_
                                                          refine zr_callV (hf_N246_.w hW) hf_N246_.x (pc := 109) [] [] l_M_352 (c_M_isOpenF l N246_ (hf_N246_.w hW) F_ K_ hc2_) rfl rfl rfl (by decide) (Nat.le_of_ble_eq_true rfl) d_M_formula_109 ?_
                                                          rintro _ N261_ ⟨v262_, rfl, ⟨hv262_a, hv262_b⟩, hsN261_, hp0_N261_⟩
                                                          obtain rfl := hsN261_.eq.symm
                                                          replace hp0_N261_ : ((v262_ = 1 ∧ 0 ∈ zrS N246_) ∨ (v262_ = 0 ∧ ¬ 0 ∈ zrS N246_)) := hp0_N261_
                                                          rcases hp0_N261_ with ⟨rfl, ha109_0_hp0_N261_⟩ | ⟨rfl, ha109_0_hp0_N261_⟩
                                                          · skip
                                                            have hM0_ := ha109_0_hp0_N261_
                                                            show zW l m_M_formula (zn Mz + 0, zw Mz + 0) N246_ 112 [some (.ref 81), some (.int (Int32.ofInt 0))] [.int (Int32.ofInt 1)] _
                                                            refine zr_if_eq (pc := 112) (tgt := 27) ⟨(by decide), (by decide)⟩ (by decide) d_M_formula_112 (fun hc_112 => ?_) (fun hc_112 => ?_)
                                                            · skip
                                                              exact absurd hc_112 (by decide)
                                                            · skip
                                                              refine zw_aload_n (pc := 115) (n := 0) (x := 81) rfl d_M_formula_115 ?_
                                                              refine zw_iconst (pc := 116) (v := Int32.ofInt 2) (by decide) d_M_formula_116 ?_
                                                              refine zr_callV (hf_N246_.w hW) hf_N246_.x (pc := 117) [.int (Int32.ofInt 2)] [] l_M_337 (c_M_worksF l N246_ (hf_N246_.w hW) 2 (by decide) (by decide) F_ K_ hA_ c250_ hc2_ (show 2 ≤ 2 by first | (decide) | assumption) (show 2 ≤ 4 by first | (decide) | assumption)) rfl rfl rfl (by decide) (Nat.le_of_ble_eq_true rfl) d_M_formula_117 ?_
                                                              rintro _ N263_ ⟨rfl, hsN263_, ⟨hp0_N263_, hp1_N263_, hp2_N263_, hp3_N263_⟩⟩
                                                              have hf_N263_ := hf_N246_.tr hsN263_ (by decide +kernel) (by decide +kernel)
                                                              have hb0_N263_ := hb0_N246_.tr hsN263_ (by decide +kernel) (by decide +kernel)
                                                              have hb1_N263_ := hs247_.tr hsN263_ (by decide +kernel) (by decide +kernel)
                                                              have e3_N263_ : ze N263_ 81 3 = ze N246_ 81 3 := hsN263_.e (by decide)
                                                              have e4_N263_ : ze N263_ 81 4 = ze N246_ 81 4 := hsN263_.e (by decide)
                                                              have e7_N263_ : ze N263_ 81 7 = ze N246_ 81 7 := hsN263_.e (by decide)
                                                              have r38_N263_ := ze_r N263_ 81 38
                                                              have r39_N263_ := ze_r N263_ 81 39
                                                              have r41_N263_ := ze_r N263_ 81 41
                                                              have e42_N263_ : ze N263_ 81 42 = ze N246_ 81 42 := hsN263_.e (by decide)
                                                              have e43_N263_ : ze N263_ 81 43 = ze N246_ 81 43 := hsN263_.e (by decide)
                                                              have c265_ : zRmk F_ K_ N263_ := zRmk.fr hsN263_ c250_ (by decide +kernel) (by decide +kernel)
                                                              have c266_ : zRb b_ n_ N263_ := zRb.fr hsN263_ c251_ (by decide +kernel) (by decide +kernel)
                                                              have c267_ : zRNm nm_ F_ K_ b_ n_ N263_ := zRNm.fr hsN263_ c252_ (by decide +kernel) (by decide +kernel)
                                                              have c268_ : zRt b_ n_ N263_ := zRt.fr hsN263_ i248_ (by decide +kernel) (by decide +kernel)
                                                              show zW l m_M_formula (zn Mz + 0, zw Mz + 0) N263_ 120 [some (.ref 81), some (.int (Int32.ofInt 0))] [] _
                                                              have hw1_ := hp1_N263_
                                                              have hw2_ := hp2_N263_
                                                              have hw3_ := hp3_N263_ hh2_
                                                              have hcr_ := hp0_N263_
                                                              have hcr0_ := hcr_.1
                                                              have hcr2_ := hcr_.2.2.1
                                                              have hhz_ := zhd_0 (show 0 ∈ (zrS N263_, zrW F_ N263_, zrG N263_).1 by rw [hw1_]; exact (zrk_m (by decide) _ _).mpr hM0_) hw3_ (fun y_ h_ => hw2_ y_ h_)
                                                              refine zw_aload_n (pc := 120) (n := 0) (x := 81) rfl d_M_formula_120 ?_
                                                              refine zw_dup (pc := 121) rfl d_M_formula_121 ?_
                                                              refine zr_getI (hf_N263_.w hW) (pc := 122) f_M_305 rfl d_M_formula_122 ?_
                                                              refine zw_iconst (pc := 125) (v := Int32.ofInt 1) (by decide) d_M_formula_125 ?_
                                                              refine zr_isub (pc := 126) d_M_formula_126 ?_
                                                              refine zr_putI (hf_N263_.w hW) (pc := 127) f_M_305 rfl rfl ⟨by (exact zo_600 hcr0_), by (exact zo_601 r41_N263_.2)⟩ rfl rfl d_M_formula_127 (fun N269_ hsN269_ hvN269_ => ?_)
                                                              have hf_N269_ := hf_N263_.tr hsN269_ (by decide +kernel) (by decide +kernel)
                                                              have hb0_N269_ := hb0_N263_.tr hsN269_ (by decide +kernel) (by decide +kernel)
                                                              have hb1_N269_ := hb1_N263_.tr hsN269_ (by decide +kernel) (by decide +kernel)
                                                              have e3_N269_ : ze N269_ 81 3 = ze N263_ 81 3 := hsN269_.e (by decide)
                                                              have e4_N269_ : ze N269_ 81 4 = ze N263_ 81 4 := hsN269_.e (by decide)
                                                              have e7_N269_ : ze N269_ 81 7 = ze N263_ 81 7 := hsN269_.e (by decide)
                                                              have e38_N269_ : ze N269_ 81 38 = ze N263_ 81 38 := hsN269_.e (by decide)
                                                              have e39_N269_ : ze N269_ 81 39 = ze N263_ 81 39 := hsN269_.e (by decide)
                                                              have r41_N269_ := ze_r N269_ 81 41
                                                              have e42_N269_ : ze N269_ 81 42 = ze N263_ 81 42 := hsN269_.e (by decide)
                                                              have e43_N269_ : ze N269_ 81 43 = ze N263_ 81 43 := hsN269_.e (by decide)
                                                              have qzrG_N269_ : zrG N269_ = zrG N263_ := zrG_q hsN269_ (by decide)
                                                              have qzrW_N269_ : zrW F_ N269_ = zrW F_ N263_ := zrW_q hsN269_ (by decide)
                                                              have c270_ : zRmk F_ K_ N269_ := zRmk.fr hsN269_ c265_ (by decide +kernel) (by decide +kernel)
                                                              have c271_ : zRb b_ n_ N269_ := zRb.fr hsN269_ c266_ (by decide +kernel) (by decide +kernel)
                                                              have c272_ : zRNm nm_ F_ K_ b_ n_ N269_ := zRNm.fr hsN269_ c267_ (by decide +kernel) (by decide +kernel)
                                                              have c273_ : zRt b_ n_ N269_ := zRt.fr hsN269_ c268_ (by decide +kernel) (by decide +kernel)
                                                              refine zw_aload_n (pc := 130) (n := 0) (x := 81) rfl d_M_formula_130 ?_
                                                              refine zw_dup (pc := 131) rfl d_M_formula_131 ?_
                                                              refine zr_getI (hf_N269_.w hW) (pc := 132) f_M_296 rfl d_M_formula_132 ?_
                                                              refine zw_iconst (pc := 135) (v := Int32.ofInt 1) (by decide) d_M_formula_135 ?_
                                                              refine zr_isub (pc := 136) d_M_formula_136 ?_
                                                              refine zr_putI (hf_N269_.w hW) (pc := 137) f_M_296 rfl rfl ⟨by (exact zo_602 e42_N269_ hcr2_), by (exact zo_65 e42_N263_ e42_N269_ r42_N246_.2)⟩ rfl rfl d_M_formula_137 (fun N274_ hsN274_ hvN274_ => ?_)
                                                              have hf_N274_ := hf_N269_.tr hsN274_ (by decide +kernel) (by decide +kernel)
                                                              have hb0_N274_ := hb0_N269_.tr hsN274_ (by decide +kernel) (by decide +kernel)
                                                              have hb1_N274_ := hb1_N269_.tr hsN274_ (by decide +kernel) (by decide +kernel)
                                                              have e3_N274_ : ze N274_ 81 3 = ze N269_ 81 3 := hsN274_.e (by decide)
                                                              have e4_N274_ : ze N274_ 81 4 = ze N269_ 81 4 := hsN274_.e (by decide)
                                                              have e7_N274_ : ze N274_ 81 7 = ze N269_ 81 7 := hsN274_.e (by decide)
                                                              have e38_N274_ : ze N274_ 81 38 = ze N269_ 81 38 := hsN274_.e (by decide)
                                                              have e39_N274_ : ze N274_ 81 39 = ze N269_ 81 39 := hsN274_.e (by decide)
                                                              have e41_N274_ : ze N274_ 81 41 = ze N269_ 81 41 := hsN274_.e (by decide)
                                                              have r42_N274_ := ze_r N274_ 81 42
                                                              have e43_N274_ : ze N274_ 81 43 = ze N269_ 81 43 := hsN274_.e (by decide)
                                                              have qzrS_N274_ : zrS N274_ = zrS N269_ := zrS_q hsN274_ (by decide)
                                                              have qzrG_N274_ : zrG N274_ = zrG N269_ := zrG_q hsN274_ (by decide)
                                                              have qzrW_N274_ : zrW F_ N274_ = zrW F_ N269_ := zrW_q hsN274_ (by decide)
                                                              have c275_ : zRmk F_ K_ N274_ := zRmk.fr hsN274_ c270_ (by decide +kernel) (by decide +kernel)
                                                              have c276_ : zRb b_ n_ N274_ := zRb.fr hsN274_ c271_ (by decide +kernel) (by decide +kernel)
                                                              have c277_ : zRNm nm_ F_ K_ b_ n_ N274_ := zRNm.fr hsN274_ c272_ (by decide +kernel) (by decide +kernel)
                                                              have c278_ : zRt b_ n_ N274_ := zRt.fr hsN274_ c273_ (by decide +kernel) (by decide +kernel)
                                                              have hcd_ := zRI_cl (Mz := N263_) (Nz := N274_) hF27_ hcr_ hhz_ (by (exact zo_603 e41_N274_ hvN269_)) (fun i_ => (hsN274_.ie (by decide) (by decide) i_).trans (hsN269_.ie (by decide) (by decide) i_)) (by (exact zo_604 e42_N269_ hcr2_ hvN274_ r42_N274_.2)) (by (exact zo_53 e38_N269_ e38_N274_)) (by (exact zo_53 e39_N269_ e39_N274_)) (fun x_ => (hsN274_.jg (by decide) (by decide) x_).trans (hsN269_.jg (by decide) (by decide) x_))
                                                              have hcd1_ := hcd_.1
                                                              have hyt_ := c278_
                                                              have hyx_ := hyt_.x
                                                              refine zw_aload_n (pc := 140) (n := 0) (x := 81) rfl d_M_formula_140 ?_
                                                              refine zr_callV (hf_N274_.w hW) hf_N274_.x (pc := 141) [] [] l_M_193 (c_M_goOnF l N274_ (hf_N274_.w hW) b_ n_ c276_ (show 0 ≤ ze N274_ 81 3 by first | (exact zo_57 hyx_.2.1) | assumption) (show ze N274_ 81 3 ≤ n_ by first | (exact zo_605 hyx_.2.2) | assumption)) rfl rfl rfl (by decide) (Nat.le_of_ble_eq_true rfl) d_M_formula_141 ?_
                                                              rintro _ N279_ ⟨rfl, hsN279_, ⟨hp0_N279_, hp1_N279_⟩⟩
                                                              have hf_N279_ := hf_N274_.tr hsN279_ (by decide +kernel) (by decide +kernel)
                                                              have hb0_N279_ := hb0_N274_.tr hsN279_ (by decide +kernel) (by decide +kernel)
                                                              have hb1_N279_ := hb1_N274_.tr hsN279_ (by decide +kernel) (by decide +kernel)
                                                              have r3_N279_ := ze_r N279_ 81 3
                                                              have r4_N279_ := ze_r N279_ 81 4
                                                              have e7_N279_ : ze N279_ 81 7 = ze N274_ 81 7 := hsN279_.e (by decide)
                                                              have e38_N279_ : ze N279_ 81 38 = ze N274_ 81 38 := hsN279_.e (by decide)
                                                              have e39_N279_ : ze N279_ 81 39 = ze N274_ 81 39 := hsN279_.e (by decide)
                                                              have e41_N279_ : ze N279_ 81 41 = ze N274_ 81 41 := hsN279_.e (by decide)
                                                              have e42_N279_ : ze N279_ 81 42 = ze N274_ 81 42 := hsN279_.e (by decide)
                                                              have e43_N279_ : ze N279_ 81 43 = ze N274_ 81 43 := hsN279_.e (by decide)
                                                              have qzrS_N279_ : zrS N279_ = zrS N274_ := zrS_q hsN279_ (by decide)
                                                              have qzrG_N279_ : zrG N279_ = zrG N274_ := zrG_q hsN279_ (by decide)
                                                              have qzrW_N279_ : zrW F_ N279_ = zrW F_ N274_ := zrW_q hsN279_ (by decide)
                                                              have c281_ : zRmk F_ K_ N279_ := zRmk.fr hsN279_ c275_ (by decide +kernel) (by decide +kernel)
                                                              have c282_ : zRb b_ n_ N279_ := zRb.fr hsN279_ c276_ (by decide +kernel) (by decide +kernel)
                                                              have c283_ : zRNm nm_ F_ K_ b_ n_ N279_ := zRNm.fr hsN279_ c277_ (by decide +kernel) (by decide +kernel)
                                                              have c284_ : zRI F_ K_ 1 N279_ := zRI.fr hsN279_ hcd1_ (by decide +kernel) (by decide +kernel)
                                                              show zW l m_M_formula (zn Mz + 0, zw Mz + 0) N279_ 144 [some (.ref 81), some (.int (Int32.ofInt 0))] [] _
                                                              have hnn_ := hyt_.nx hp0_N279_
                                                              have hst1_ := hr2_.tr (zRea.st (zr2_c (Rz := N263_) (c := (0, 0)) (F := F_) (K := K_) (nm := nm_) hC_ hM0_ hw1_ (qzrS_N279_.trans hcd_.2.1) (qzrW_N279_.trans hcd_.2.2.1) (qzrG_N279_.trans hcd_.2.2.2) (by (exact zo_52 e43_N263_ e43_N269_ e43_N274_ e43_N279_)) (hnn_.2.trans (by rw [show ze N274_ 81 4 = ze N246_ 81 4 by (exact zo_606 e4_N263_ e4_N269_ e4_N274_ hyx_.1.1 r4_N246_.2)]))))
                                                              have hnp_ := hnn_.2.trans (show znx b_ n_ (ze N274_ 81 4).toNat = znx b_ n_ (ze N246_ 81 4).toNat by rw [show ze N274_ 81 4 = ze N246_ 81 4 by (exact zo_606 e4_N263_ e4_N269_ e4_N274_ hyx_.1.1 r4_N246_.2)])
                                                              have hgx_ := znx_ge (b := b_) (n := n_) (s := (ze N246_ 81 4).toNat)
                                                              have hgy_ := znx_g (b := b_) (n := n_) (s := (ze N246_ 81 4).toNat) (by have h_ := hC_.1; (exact zo_607 h_))
                                                              refine zw_aload_n (pc := 144) (n := 0) (x := 81) rfl d_M_formula_144 ?_
                                                              refine zr_callV (hf_N279_.w hW) hf_N279_.x (pc := 145) [] [] l_M_346 (c_M_closesF l N279_ (hf_N279_.w hW) F_ K_ hA_ b_ n_ nm_ c281_ c282_ hp1_N279_ c284_ (show ze N279_ 81 7 = 0 by first | (exact zo_608 e7_N263_ e7_N269_ e7_N274_ e7_N279_ hl88_0_i249_) | assumption)) rfl rfl rfl (by decide) (Nat.le_of_ble_eq_true rfl) d_M_formula_145 ?_
                                                              rintro _ N285_ ⟨rfl, hsN285_, ⟨hp0_N285_, hp1_N285_, hp2_N285_⟩⟩
                                                              have hf_N285_ := hf_N279_.tr hsN285_ (by decide +kernel) (by decide +kernel)
                                                              have hb0_N285_ := hb0_N279_.tr hsN285_ (by decide +kernel) (by decide +kernel)
                                                              have hb1_N285_ := hb1_N279_.tr hsN285_ (by decide +kernel) (by decide +kernel)
                                                              have r3_N285_ := ze_r N285_ 81 3
                                                              have r4_N285_ := ze_r N285_ 81 4
                                                              have r7_N285_ := ze_r N285_ 81 7
                                                              have e38_N285_ : ze N285_ 81 38 = ze N279_ 81 38 := hsN285_.e (by decide)
                                                              have r39_N285_ := ze_r N285_ 81 39
                                                              have r41_N285_ := ze_r N285_ 81 41
                                                              have r42_N285_ := ze_r N285_ 81 42
                                                              have e43_N285_ : ze N285_ 81 43 = ze N279_ 81 43 := hsN285_.e (by decide)
                                                              have c287_ : zRmk F_ K_ N285_ := zRmk.fr hsN285_ c281_ (by decide +kernel) (by decide +kernel)
                                                              have c288_ : zRb b_ n_ N285_ := zRb.fr hsN285_ c282_ (by decide +kernel) (by decide +kernel)
                                                              have c289_ : zRNm nm_ F_ K_ b_ n_ N285_ := zRNm.fr hsN285_ c283_ (by decide +kernel) (by decide +kernel)
                                                              rcases hp2_N285_ with ⟨ha145_0_hp2_N285_, ha145_1_hp2_N285_⟩ | ⟨ha145_0_hp2_N285_, ha145_1_hp2_N285_, ha145_2_hp2_N285_, ha145_3_hp2_N285_, ha145_4_hp2_N285_⟩
                                                              · skip
                                                                have hrt_ := hst1_.tr ha145_1_hp2_N285_
                                                                show zW l m_M_formula (zn Mz + 0, zw Mz + 0) N285_ 148 [some (.ref 81), some (.int (Int32.ofInt 0))] [] _
                                                                refine zw_aload_n (pc := 148) (n := 0) (x := 81) rfl d_M_formula_148 ?_
                                                                refine zr_callV (hf_N285_.w hW) hf_N285_.x (pc := 149) [] [] l_M_183 (c_M_isGood l N285_ (hf_N285_.w hW) ) rfl rfl rfl (by decide) (Nat.le_of_ble_eq_true rfl) d_M_formula_149 ?_
                                                                rintro _ N290_ ⟨v291_, rfl, ⟨hv291_a, hv291_b⟩, hsN290_, hp0_N290_⟩
                                                                obtain rfl := hsN290_.eq.symm
                                                                replace hp0_N290_ : ((v291_ = 1 ∧ ze N285_ 81 7 = 0) ∨ (v291_ = 0 ∧ ze N285_ 81 7 ≠ 0)) := hp0_N290_
                                                                rcases hp0_N290_ with ⟨rfl, ha149_0_hp0_N290_⟩ | ⟨rfl, ha149_0_hp0_N290_⟩
                                                                · skip
                                                                  exfalso; (exact zo_609 ha145_0_hp2_N285_ ha149_0_hp0_N290_)
                                                                · skip
                                                                  show zW l m_M_formula (zn Mz + 0, zw Mz + 0) N285_ 152 [some (.ref 81), some (.int (Int32.ofInt 0))] [.int (Int32.ofInt 0)] _
                                                                  refine zr_if_eq (pc := 152) (tgt := 166) ⟨(by decide), (by decide)⟩ (by decide) d_M_formula_152 (fun hc_152 => ?_) (fun hc_152 => ?_)
                                                                  · skip
                                                                    refine zw_iconst (pc := 166) (v := Int32.ofInt 0) (by decide) d_M_formula_166 ?_
                                                                    refine zw_istore_n (pc := 167) (i := 1) (L2 := [some (.ref 81), some (.int (Int32.ofInt 0))]) rfl (by decide) rfl d_M_formula_167 ?_
                                                                    refine zw_goto (pc := 168) (tgt := 88) (by decide) d_M_formula_168 ?_
                                                                    exact ih_88 0 (by decide) (by decide) (by (exact hu245_z)) N285_ hb1_N285_ hp0_N285_ (show (1 ≤ ze N285_ 81 7 ∧ (ze Mz 81 7 = 0 → zRea (zfs b_ n_ F_ K_ nm_) (0, (ze Mz 81 4).toNat, [], [], 0, false) zFt)) ∨ ((0 : Int) = 1 ∧ ze N285_ 81 7 = 0 ∧ ze Mz 81 7 = 0 ∧ zRea (zfs b_ n_ F_ K_ nm_) (0, (ze Mz 81 4).toNat, [], [], 0, false) (zRst 0 F_ N285_) ∧ zRI F_ K_ 0 N285_ ∧ 0 ≤ ze N285_ 81 43 ∧ ze N285_ 81 43 ≤ 30 ∧ ze Mz 81 4 ≤ ze N285_ 81 4 ∧ ze N27_ 81 4 < ze N285_ 81 4) ∨ ((0 : Int) = 0 ∧ ze N285_ 81 7 = 0 ∧ ze Mz 81 7 = 0 ∧ zRea (zfs b_ n_ F_ K_ nm_) (0, (ze Mz 81 4).toNat, [], [], 0, false) (zRst 2 F_ N285_) ∧ zRI F_ K_ 1 N285_ ∧ 0 ≤ ze N285_ 81 43 ∧ ze N285_ 81 43 ≤ 30 ∧ (zrS N285_).head? ≠ some 1 ∧ ¬ (zisg b_ n_ (ze N285_ 81 4).toNat 42 ∨ zisg b_ n_ (ze N285_ 81 4).toNat 43 ∨ zisg b_ n_ (ze N285_ 81 4).toNat 45) ∧ ze Mz 81 4 ≤ ze N285_ 81 4 ∧ ze N27_ 81 4 < ze N285_ 81 4) from Or.inl (⟨(show 1 ≤ ze N285_ 81 7 by first | rfl | assumption | omega | exact fun _ => hrt_ | exact hx0_ | exact hx1_ | exact hg0_ | exact hg1_), (show (ze Mz 81 7 = 0 → zRea (zfs b_ n_ F_ K_ nm_) (0, (ze Mz 81 4).toNat, [], [], 0, false) zFt) by first | rfl | assumption | omega | exact fun _ => hrt_ | exact hx0_ | exact hx1_ | exact hg0_ | exact hg1_)⟩)) (by have m1_ := zmF_c n_ N285_; have m2_ := zmF_c n_ N246_; have m3_ := hp0_N285_.x; omega)
                                                                  · skip
                                                                    exact absurd hc_152 (by decide)
                                                              · skip
                                                                have hz0_ := hst1_.tr ha145_1_hp2_N285_
                                                                have hz1_ := ha145_2_hp2_N285_
                                                                have hz2_ := ha145_3_hp2_N285_
                                                                have hz3_ := ha145_4_hp2_N285_
                                                                show zW l m_M_formula (zn Mz + 0, zw Mz + 0) N285_ 148 [some (.ref 81), some (.int (Int32.ofInt 0))] [] _
                                                                refine zw_aload_n (pc := 148) (n := 0) (x := 81) rfl d_M_formula_148 ?_
                                                                refine zr_callV (hf_N285_.w hW) hf_N285_.x (pc := 149) [] [] l_M_183 (c_M_isGood l N285_ (hf_N285_.w hW) ) rfl rfl rfl (by decide) (Nat.le_of_ble_eq_true rfl) d_M_formula_149 ?_
                                                                rintro _ N292_ ⟨v293_, rfl, ⟨hv293_a, hv293_b⟩, hsN292_, hp0_N292_⟩
                                                                obtain rfl := hsN292_.eq.symm
                                                                replace hp0_N292_ : ((v293_ = 1 ∧ ze N285_ 81 7 = 0) ∨ (v293_ = 0 ∧ ze N285_ 81 7 ≠ 0)) := hp0_N292_
                                                                rcases hp0_N292_ with ⟨rfl, ha149_0_hp0_N292_⟩ | ⟨rfl, ha149_0_hp0_N292_⟩
                                                                · skip
                                                                  show zW l m_M_formula (zn Mz + 0, zw Mz + 0) N285_ 152 [some (.ref 81), some (.int (Int32.ofInt 0))] [.int (Int32.ofInt 1)] _
                                                                  refine zr_if_eq (pc := 152) (tgt := 166) ⟨(by decide), (by decide)⟩ (by decide) d_M_formula_152 (fun hc_152 => ?_) (fun hc_152 => ?_)
                                                                  · skip
                                                                    exact absurd hc_152 (by decide)
                                                                  · skip
                                                                    refine zw_aload_n (pc := 155) (n := 0) (x := 81) rfl d_M_formula_155 ?_
                                                                    refine zr_callV (hf_N285_.w hW) hf_N285_.x (pc := 156) [] [] l_M_349 (c_M_goesOnF l N285_ (hf_N285_.w hW) F_ K_ hA_ b_ n_ nm_ c287_ c288_ hp0_N285_ hz1_ (show (zrS N285_).head? ≠ some 1 by first | (exact ha145_3_hp2_N285_) | assumption) (show ze N285_ 81 7 = 0 by first | (exact ha145_0_hp2_N285_) | assumption)) rfl rfl rfl (by decide) (Nat.le_of_ble_eq_true rfl) d_M_formula_156 ?_
                                                                    rintro _ N294_ ⟨v295_, rfl, ⟨hv295_a, hv295_b⟩, hsN294_, ⟨hp0_N294_, hp1_N294_, hp2_N294_⟩⟩
                                                                    have hf_N294_ := hf_N285_.tr hsN294_ (by decide +kernel) (by decide +kernel)
                                                                    have hb0_N294_ := hb0_N285_.tr hsN294_ (by decide +kernel) (by decide +kernel)
                                                                    have hb1_N294_ := hb1_N285_.tr hsN294_ (by decide +kernel) (by decide +kernel)
                                                                    have r3_N294_ := ze_r N294_ 81 3
                                                                    have r4_N294_ := ze_r N294_ 81 4
                                                                    have e7_N294_ : ze N294_ 81 7 = ze N285_ 81 7 := hsN294_.e (by decide)
                                                                    have r38_N294_ := ze_r N294_ 81 38
                                                                    have r39_N294_ := ze_r N294_ 81 39
                                                                    have r41_N294_ := ze_r N294_ 81 41
                                                                    have e42_N294_ : ze N294_ 81 42 = ze N285_ 81 42 := hsN294_.e (by decide)
                                                                    have e43_N294_ : ze N294_ 81 43 = ze N285_ 81 43 := hsN294_.e (by decide)
                                                                    have c296_ : zRmk F_ K_ N294_ := zRmk.fr hsN294_ c287_ (by decide +kernel) (by decide +kernel)
                                                                    have c297_ : zRb b_ n_ N294_ := zRb.fr hsN294_ c288_ (by decide +kernel) (by decide +kernel)
                                                                    have c298_ : zRNm nm_ F_ K_ b_ n_ N294_ := zRNm.fr hsN294_ c289_ (by decide +kernel) (by decide +kernel)
                                                                    rcases hp2_N294_ with ⟨rfl, ha156_0_hp2_N294_, ha156_1_hp2_N294_, ha156_2_hp2_N294_⟩ | ⟨rfl, ha156_0_hp2_N294_, ha156_1_hp2_N294_, ha156_2_hp2_N294_, ha156_3_hp2_N294_, ha156_4_hp2_N294_⟩
                                                                    · skip
                                                                      have hg0_ := hz0_.tr ha156_0_hp2_N294_
                                                                      have hg1_ := ha156_1_hp2_N294_
                                                                      have hg2_ := ha156_2_hp2_N294_
                                                                      show zW l m_M_formula (zn Mz + 0, zw Mz + 0) N294_ 159 [some (.ref 81), some (.int (Int32.ofInt 0))] [.int (Int32.ofInt 1)] _
                                                                      refine zr_if_eq (pc := 159) (tgt := 166) ⟨(by decide), (by decide)⟩ (by decide) d_M_formula_159 (fun hc_159 => ?_) (fun hc_159 => ?_)
                                                                      · skip
                                                                        exact absurd hc_159 (by decide)
                                                                      · skip
                                                                        refine zw_iconst (pc := 162) (v := Int32.ofInt 1) (by decide) d_M_formula_162 ?_
                                                                        refine zw_goto (pc := 163) (tgt := 167) (by decide) d_M_formula_163 ?_
                                                                        refine zw_istore_n (pc := 167) (i := 1) (L2 := [some (.ref 81), some (.int (Int32.ofInt 1))]) rfl (by decide) rfl d_M_formula_167 ?_
                                                                        refine zw_goto (pc := 168) (tgt := 88) (by decide) d_M_formula_168 ?_
                                                                        exact ih_88 1 (by decide) (by decide) (by (decide)) N294_ hb1_N294_ hp0_N294_ (show (1 ≤ ze N294_ 81 7 ∧ (ze Mz 81 7 = 0 → zRea (zfs b_ n_ F_ K_ nm_) (0, (ze Mz 81 4).toNat, [], [], 0, false) zFt)) ∨ ((1 : Int) = 1 ∧ ze N294_ 81 7 = 0 ∧ ze Mz 81 7 = 0 ∧ zRea (zfs b_ n_ F_ K_ nm_) (0, (ze Mz 81 4).toNat, [], [], 0, false) (zRst 0 F_ N294_) ∧ zRI F_ K_ 0 N294_ ∧ 0 ≤ ze N294_ 81 43 ∧ ze N294_ 81 43 ≤ 30 ∧ ze Mz 81 4 ≤ ze N294_ 81 4 ∧ ze N27_ 81 4 < ze N294_ 81 4) ∨ ((1 : Int) = 0 ∧ ze N294_ 81 7 = 0 ∧ ze Mz 81 7 = 0 ∧ zRea (zfs b_ n_ F_ K_ nm_) (0, (ze Mz 81 4).toNat, [], [], 0, false) (zRst 2 F_ N294_) ∧ zRI F_ K_ 1 N294_ ∧ 0 ≤ ze N294_ 81 43 ∧ ze N294_ 81 43 ≤ 30 ∧ (zrS N294_).head? ≠ some 1 ∧ ¬ (zisg b_ n_ (ze N294_ 81 4).toNat 42 ∨ zisg b_ n_ (ze N294_ 81 4).toNat 43 ∨ zisg b_ n_ (ze N294_ 81 4).toNat 45) ∧ ze Mz 81 4 ≤ ze N294_ 81 4 ∧ ze N27_ 81 4 < ze N294_ 81 4) from Or.inr (Or.inl (⟨(show (1 : Int) = 1 by first | rfl | assumption | omega | exact fun _ => hrt_ | exact hx0_ | exact hx1_ | exact hg0_ | exact hg1_), (show ze N294_ 81 7 = 0 by first | rfl | assumption | (exact zo_610 e7_N294_ ha145_0_hp2_N285_) | exact fun _ => hrt_ | exact hx0_ | exact hx1_ | exact hg0_ | exact hg1_), (show ze Mz 81 7 = 0 by first | rfl | assumption | omega | exact fun _ => hrt_ | exact hx0_ | exact hx1_ | exact hg0_ | exact hg1_), (show zRea (zfs b_ n_ F_ K_ nm_) (0, (ze Mz 81 4).toNat, [], [], 0, false) (zRst 0 F_ N294_) by first | rfl | assumption | omega | exact fun _ => hrt_ | exact hx0_ | exact hx1_ | exact hg0_ | exact hg1_), (show zRI F_ K_ 0 N294_ by first | rfl | assumption | omega | exact fun _ => hrt_ | exact hx0_ | exact hx1_ | exact hg0_ | exact hg1_), (show 0 ≤ ze N294_ 81 43 by first | rfl | assumption | (exact zo_618 e43_N263_ e43_N269_ e43_N274_ e43_N279_ hl88_4_i249_ hp1_N285_ hp1_N294_) | exact fun _ => hrt_ | exact hx0_ | exact hx1_ | exact hg0_ | exact hg1_), (show ze N294_ 81 43 ≤ 30 by first | rfl | assumption | (exact zo_619 e43_N263_ e43_N269_ e43_N274_ e43_N279_ hl88_5_i249_ hp1_N285_ hp1_N294_) | exact fun _ => hrt_ | exact hx0_ | exact hx1_ | exact hg0_ | exact hg1_), (show ze Mz 81 4 ≤ ze N294_ 81 4 by first | rfl | assumption | (exact zo_613 ha145_4_hp2_N285_ ha156_2_hp2_N294_ hgy_ hl88_8_i249_ hnp_ hp0_N279_ r4_N279_.1 r_4.2) | exact fun _ => hrt_ | exact hx0_ | exact hx1_ | exact hg0_ | exact hg1_), (show ze N27_ 81 4 < ze N294_ 81 4 by first | rfl | assumption | (exact zo_620 ha145_4_hp2_N285_ ha156_2_hp2_N294_ hgy_ hl88_9_i249_ hnp_ hp0_N279_ r4_N279_.1 r4_N27_.2) | exact fun _ => hrt_ | exact hx0_ | exact hx1_ | exact hg0_ | exact hg1_)⟩))) (by have m1_ := zmF_c n_ N294_; have m2_ := zmF_c n_ N246_; have m3_ := hp0_N294_.x; omega)
                                                                    · skip
                                                                      have hg0_ := hz0_.tr ha156_0_hp2_N294_
                                                                      have hg1_ := ha156_1_hp2_N294_
                                                                      have hg2_ := ha156_2_hp2_N294_
                                                                      have hg3_ := ha156_3_hp2_N294_
                                                                      have hg4_ := ha156_4_hp2_N294_
                                                                      show zW l m_M_formula (zn Mz + 0, zw Mz + 0) N294_ 159 [some (.ref 81), some (.int (Int32.ofInt 0))] [.int (Int32.ofInt 0)] _
                                                                      refine zr_if_eq (pc := 159) (tgt := 166) ⟨(by decide), (by decide)⟩ (by decide) d_M_formula_159 (fun hc_159 => ?_) (fun hc_159 => ?_)
                                                                      · skip
                                                                        refine zw_iconst (pc := 166) (v := Int32.ofInt 0) (by decide) d_M_formula_166 ?_
                                                                        refine zw_istore_n (pc := 167) (i := 1) (L2 := [some (.ref 81), some (.int (Int32.ofInt 0))]) rfl (by decide) rfl d_M_formula_167 ?_
                                                                        refine zw_goto (pc := 168) (tgt := 88) (by decide) d_M_formula_168 ?_
                                                                        exact ih_88 0 (by decide) (by decide) (by (exact hu245_z)) N294_ hb1_N294_ hp0_N294_ (show (1 ≤ ze N294_ 81 7 ∧ (ze Mz 81 7 = 0 → zRea (zfs b_ n_ F_ K_ nm_) (0, (ze Mz 81 4).toNat, [], [], 0, false) zFt)) ∨ ((0 : Int) = 1 ∧ ze N294_ 81 7 = 0 ∧ ze Mz 81 7 = 0 ∧ zRea (zfs b_ n_ F_ K_ nm_) (0, (ze Mz 81 4).toNat, [], [], 0, false) (zRst 0 F_ N294_) ∧ zRI F_ K_ 0 N294_ ∧ 0 ≤ ze N294_ 81 43 ∧ ze N294_ 81 43 ≤ 30 ∧ ze Mz 81 4 ≤ ze N294_ 81 4 ∧ ze N27_ 81 4 < ze N294_ 81 4) ∨ ((0 : Int) = 0 ∧ ze N294_ 81 7 = 0 ∧ ze Mz 81 7 = 0 ∧ zRea (zfs b_ n_ F_ K_ nm_) (0, (ze Mz 81 4).toNat, [], [], 0, false) (zRst 2 F_ N294_) ∧ zRI F_ K_ 1 N294_ ∧ 0 ≤ ze N294_ 81 43 ∧ ze N294_ 81 43 ≤ 30 ∧ (zrS N294_).head? ≠ some 1 ∧ ¬ (zisg b_ n_ (ze N294_ 81 4).toNat 42 ∨ zisg b_ n_ (ze N294_ 81 4).toNat 43 ∨ zisg b_ n_ (ze N294_ 81 4).toNat 45) ∧ ze Mz 81 4 ≤ ze N294_ 81 4 ∧ ze N27_ 81 4 < ze N294_ 81 4) from Or.inr (Or.inr (⟨(show (0 : Int) = 0 by first | rfl | assumption | omega | exact fun _ => hrt_ | exact hx0_ | exact hx1_ | exact hg0_ | exact hg1_), (show ze N294_ 81 7 = 0 by first | rfl | assumption | (exact zo_610 e7_N294_ ha145_0_hp2_N285_) | exact fun _ => hrt_ | exact hx0_ | exact hx1_ | exact hg0_ | exact hg1_), (show ze Mz 81 7 = 0 by first | rfl | assumption | omega | exact fun _ => hrt_ | exact hx0_ | exact hx1_ | exact hg0_ | exact hg1_), (show zRea (zfs b_ n_ F_ K_ nm_) (0, (ze Mz 81 4).toNat, [], [], 0, false) (zRst 2 F_ N294_) by first | rfl | assumption | omega | exact fun _ => hrt_ | exact hx0_ | exact hx1_ | exact hg0_ | exact hg1_), (show zRI F_ K_ 1 N294_ by first | rfl | assumption | omega | exact fun _ => hrt_ | exact hx0_ | exact hx1_ | exact hg0_ | exact hg1_), (show 0 ≤ ze N294_ 81 43 by first | rfl | assumption | (exact zo_618 e43_N263_ e43_N269_ e43_N274_ e43_N279_ hl88_4_i249_ hp1_N285_ hp1_N294_) | exact fun _ => hrt_ | exact hx0_ | exact hx1_ | exact hg0_ | exact hg1_), (show ze N294_ 81 43 ≤ 30 by first | rfl | assumption | (exact zo_619 e43_N263_ e43_N269_ e43_N274_ e43_N279_ hl88_5_i249_ hp1_N285_ hp1_N294_) | exact fun _ => hrt_ | exact hx0_ | exact hx1_ | exact hg0_ | exact hg1_), (show (zrS N294_).head? ≠ some 1 by first | rfl | assumption | omega | exact fun _ => hrt_ | exact hx0_ | exact hx1_ | exact hg0_ | exact hg1_), (show ¬ (zisg b_ n_ (ze N294_ 81 4).toNat 42 ∨ zisg b_ n_ (ze N294_ 81 4).toNat 43 ∨ zisg b_ n_ (ze N294_ 81 4).toNat 45) by first | rfl | assumption | omega | exact fun _ => hrt_ | exact hx0_ | exact hx1_ | exact hg0_ | exact hg1_), (show ze Mz 81 4 ≤ ze N294_ 81 4 by first | rfl | assumption | (exact zo_615 ha145_4_hp2_N285_ ha156_4_hp2_N294_ hgy_ hl88_8_i249_ hnp_ hp0_N279_ r4_N279_.1 r_4.2) | exact fun _ => hrt_ | exact hx0_ | exact hx1_ | exact hg0_ | exact hg1_), (show ze N27_ 81 4 < ze N294_ 81 4 by first | rfl | assumption | (exact zo_621 ha145_4_hp2_N285_ ha156_4_hp2_N294_ hgy_ hl88_9_i249_ hnp_ hp0_N279_ r4_N279_.1 r4_N27_.2) | exact fun _ => hrt_ | exact hx0_ | exact hx1_ | exact hg0_ | exact hg1_)⟩))) (by have m1_ := zmF_c n_ N294_; have m2_ := zmF_c n_ N246_; have m3_ := hp0_N294_.x; omega)
                                                                      · skip
                                                                        exact absurd hc_159 (by decide)
                                                                · skip
                                                                  exfalso; (exact zo_260 ha145_0_hp2_N285_ ha149_0_hp0_N292_)
                                                          · skip
                                                            have hM0_ := ha109_0_hp0_N261_
                                                            have hn41_ : ¬ (zisg b_ n_ (ze N246_ 81 4).toNat 41 ∧ 0 ∈ zrS N246_) := fun q_ => hM0_ q_.2
                                                            show zW l m_M_formula (zn Mz + 0, zw Mz + 0) N246_ 112 [some (.ref 81), some (.int (Int32.ofInt 0))] [.int (Int32.ofInt 0)] _
                                                            refine zr_if_eq (pc := 112) (tgt := 27) ⟨(by decide), (by decide)⟩ (by decide) d_M_formula_112 (fun hc_112 => ?_) (fun hc_112 => ?_)
                                                            · skip
                                                              exact ih_27 0 (by decide) (by decide) (by (exact hu245_z)) N246_ hb0_N246_ i248_ (show (1 ≤ ze N246_ 81 7 ∧ (ze Mz 81 7 = 0 → zRea (zfs b_ n_ F_ K_ nm_) (0, (ze Mz 81 4).toNat, [], [], 0, false) zFt)) ∨ ((0 : Int) = 1 ∧ ze N246_ 81 7 = 0 ∧ ze Mz 81 7 = 0 ∧ zRea (zfs b_ n_ F_ K_ nm_) (0, (ze Mz 81 4).toNat, [], [], 0, false) (zRst 0 F_ N246_) ∧ zRI F_ K_ 0 N246_ ∧ 0 ≤ ze N246_ 81 43 ∧ ze N246_ 81 43 ≤ 30 ∧ ze Mz 81 4 ≤ ze N246_ 81 4) ∨ ((0 : Int) = 0 ∧ ze N246_ 81 7 = 0 ∧ ze Mz 81 7 = 0 ∧ zRea (zfs b_ n_ F_ K_ nm_) (0, (ze Mz 81 4).toNat, [], [], 0, false) (zRst 2 F_ N246_) ∧ zRI F_ K_ 1 N246_ ∧ 0 ≤ ze N246_ 81 43 ∧ ze N246_ 81 43 ≤ 30 ∧ (zrS N246_).head? ≠ some 1 ∧ ¬ (zisg b_ n_ (ze N246_ 81 4).toNat 42 ∨ zisg b_ n_ (ze N246_ 81 4).toNat 43 ∨ zisg b_ n_ (ze N246_ 81 4).toNat 45) ∧ ze Mz 81 4 ≤ ze N246_ 81 4 ∧ ¬ (zisg b_ n_ (ze N246_ 81 4).toNat 41 ∧ 0 ∈ zrS N246_)) from Or.inr (Or.inr (⟨(show (0 : Int) = 0 by first | rfl | assumption | omega | exact fun _ => hrt_ | exact hx0_ | exact hx1_ | exact hg0_ | exact hg1_), (show ze N246_ 81 7 = 0 by first | rfl | assumption | omega | exact fun _ => hrt_ | exact hx0_ | exact hx1_ | exact hg0_ | exact hg1_), (show ze Mz 81 7 = 0 by first | rfl | assumption | omega | exact fun _ => hrt_ | exact hx0_ | exact hx1_ | exact hg0_ | exact hg1_), (show zRea (zfs b_ n_ F_ K_ nm_) (0, (ze Mz 81 4).toNat, [], [], 0, false) (zRst 2 F_ N246_) by first | rfl | assumption | omega | exact fun _ => hrt_ | exact hx0_ | exact hx1_ | exact hg0_ | exact hg1_), (show zRI F_ K_ 1 N246_ by first | rfl | assumption | omega | exact fun _ => hrt_ | exact hx0_ | exact hx1_ | exact hg0_ | exact hg1_), (show 0 ≤ ze N246_ 81 43 by first | rfl | assumption | omega | exact fun _ => hrt_ | exact hx0_ | exact hx1_ | exact hg0_ | exact hg1_), (show ze N246_ 81 43 ≤ 30 by first | rfl | assumption | omega | exact fun _ => hrt_ | exact hx0_ | exact hx1_ | exact hg0_ | exact hg1_), (show (zrS N246_).head? ≠ some 1 by first | rfl | assumption | omega | exact fun _ => hrt_ | exact hx0_ | exact hx1_ | exact hg0_ | exact hg1_), (show ¬ (zisg b_ n_ (ze N246_ 81 4).toNat 42 ∨ zisg b_ n_ (ze N246_ 81 4).toNat 43 ∨ zisg b_ n_ (ze N246_ 81 4).toNat 45) by first | rfl | assumption | omega | exact fun _ => hrt_ | exact hx0_ | exact hx1_ | exact hg0_ | exact hg1_), (show ze Mz 81 4 ≤ ze N246_ 81 4 by first | rfl | assumption | omega | exact fun _ => hrt_ | exact hx0_ | exact hx1_ | exact hg0_ | exact hg1_), (show ¬ (zisg b_ n_ (ze N246_ 81 4).toNat 41 ∧ 0 ∈ zrS N246_) by first | rfl | assumption | omega | exact fun _ => hrt_ | exact hx0_ | exact hx1_ | exact hg0_ | exact hg1_)⟩))) (by have m1_ := zmF_c n_ N246_; have m2_ := zmF_c n_ N27_; have m3_ := i248_.x; omega)
                                                            · skip
                                                              exact absurd hc_112 (by decide)
                                                      · skip
                                                        have hC_ := ha102_0_hp0_N259_ (by (exact hl88_0_i249_))
                                                        have hn41_ : ¬ (zisg b_ n_ (ze N246_ 81 4).toNat 41 ∧ 0 ∈ zrS N246_) := fun q_ => hC_ q_.1
                                                        show zW l m_M_formula (zn Mz + 0, zw Mz + 0) N246_ 105 [some (.ref 81), some (.int (Int32.ofInt 0))] [.int (Int32.ofInt 0)] _
                                                        refine zr_if_eq (pc := 105) (tgt := 27) ⟨(by decide), (by decide)⟩ (by decide) d_M_formula_105 (fun hc_105 => ?_) (fun hc_105 => ?_)
                                                        · skip
                                                          exact ih_27 0 (by decide) (by decide) (by (exact hu245_z)) N246_ hb0_N246_ i248_ (show (1 ≤ ze N246_ 81 7 ∧ (ze Mz 81 7 = 0 → zRea (zfs b_ n_ F_ K_ nm_) (0, (ze Mz 81 4).toNat, [], [], 0, false) zFt)) ∨ ((0 : Int) = 1 ∧ ze N246_ 81 7 = 0 ∧ ze Mz 81 7 = 0 ∧ zRea (zfs b_ n_ F_ K_ nm_) (0, (ze Mz 81 4).toNat, [], [], 0, false) (zRst 0 F_ N246_) ∧ zRI F_ K_ 0 N246_ ∧ 0 ≤ ze N246_ 81 43 ∧ ze N246_ 81 43 ≤ 30 ∧ ze Mz 81 4 ≤ ze N246_ 81 4) ∨ ((0 : Int) = 0 ∧ ze N246_ 81 7 = 0 ∧ ze Mz 81 7 = 0 ∧ zRea (zfs b_ n_ F_ K_ nm_) (0, (ze Mz 81 4).toNat, [], [], 0, false) (zRst 2 F_ N246_) ∧ zRI F_ K_ 1 N246_ ∧ 0 ≤ ze N246_ 81 43 ∧ ze N246_ 81 43 ≤ 30 ∧ (zrS N246_).head? ≠ some 1 ∧ ¬ (zisg b_ n_ (ze N246_ 81 4).toNat 42 ∨ zisg b_ n_ (ze N246_ 81 4).toNat 43 ∨ zisg b_ n_ (ze N246_ 81 4).toNat 45) ∧ ze Mz 81 4 ≤ ze N246_ 81 4 ∧ ¬ (zisg b_ n_ (ze N246_ 81 4).toNat 41 ∧ 0 ∈ zrS N246_)) from Or.inr (Or.inr (⟨(show (0 : Int) = 0 by first | rfl | assumption | omega | exact fun _ => hrt_ | exact hx0_ | exact hx1_ | exact hg0_ | exact hg1_), (show ze N246_ 81 7 = 0 by first | rfl | assumption | omega | exact fun _ => hrt_ | exact hx0_ | exact hx1_ | exact hg0_ | exact hg1_), (show ze Mz 81 7 = 0 by first | rfl | assumption | omega | exact fun _ => hrt_ | exact hx0_ | exact hx1_ | exact hg0_ | exact hg1_), (show zRea (zfs b_ n_ F_ K_ nm_) (0, (ze Mz 81 4).toNat, [], [], 0, false) (zRst 2 F_ N246_) by first | rfl | assumption | omega | exact fun _ => hrt_ | exact hx0_ | exact hx1_ | exact hg0_ | exact hg1_), (show zRI F_ K_ 1 N246_ by first | rfl | assumption | omega | exact fun _ => hrt_ | exact hx0_ | exact hx1_ | exact hg0_ | exact hg1_), (show 0 ≤ ze N246_ 81 43 by first | rfl | assumption | omega | exact fun _ => hrt_ | exact hx0_ | exact hx1_ | exact hg0_ | exact hg1_), (show ze N246_ 81 43 ≤ 30 by first | rfl | assumption | omega | exact fun _ => hrt_ | exact hx0_ | exact hx1_ | exact hg0_ | exact hg1_), (show (zrS N246_).head? ≠ some 1 by first | rfl | assumption | omega | exact fun _ => hrt_ | exact hx0_ | exact hx1_ | exact hg0_ | exact hg1_), (show ¬ (zisg b_ n_ (ze N246_ 81 4).toNat 42 ∨ zisg b_ n_ (ze N246_ 81 4).toNat 43 ∨ zisg b_ n_ (ze N246_ 81 4).toNat 45) by first | rfl | assumption | omega | exact fun _ => hrt_ | exact hx0_ | exact hx1_ | exact hg0_ | exact hg1_), (show ze Mz 81 4 ≤ ze N246_ 81 4 by first | rfl | assumption | omega | exact fun _ => hrt_ | exact hx0_ | exact hx1_ | exact hg0_ | exact hg1_), (show ¬ (zisg b_ n_ (ze N246_ 81 4).toNat 41 ∧ 0 ∈ zrS N246_) by first | rfl | assumption | omega | exact fun _ => hrt_ | exact hx0_ | exact hx1_ | exact hg0_ | exact hg1_)⟩))) (by have m1_ := zmF_c n_ N246_; have m2_ := zmF_c n_ N27_; have m3_ := i248_.x; omega)
                                                        · skip
                                                          exact absurd hc_105 (by decide)
                                                · skip
                                                  exfalso; (exact zo_260 hl88_0_i249_ ha89_0_hp0_N257_)
                                          exact lp_88 _ 1 (by decide) (by decide) (by (decide)) N240_ zFr.rf hp0_N240_ (show (1 ≤ ze N240_ 81 7 ∧ (ze Mz 81 7 = 0 → zRea (zfs b_ n_ F_ K_ nm_) (0, (ze Mz 81 4).toNat, [], [], 0, false) zFt)) ∨ ((1 : Int) = 1 ∧ ze N240_ 81 7 = 0 ∧ ze Mz 81 7 = 0 ∧ zRea (zfs b_ n_ F_ K_ nm_) (0, (ze Mz 81 4).toNat, [], [], 0, false) (zRst 0 F_ N240_) ∧ zRI F_ K_ 0 N240_ ∧ 0 ≤ ze N240_ 81 43 ∧ ze N240_ 81 43 ≤ 30 ∧ ze Mz 81 4 ≤ ze N240_ 81 4 ∧ ze N27_ 81 4 < ze N240_ 81 4) ∨ ((1 : Int) = 0 ∧ ze N240_ 81 7 = 0 ∧ ze Mz 81 7 = 0 ∧ zRea (zfs b_ n_ F_ K_ nm_) (0, (ze Mz 81 4).toNat, [], [], 0, false) (zRst 2 F_ N240_) ∧ zRI F_ K_ 1 N240_ ∧ 0 ≤ ze N240_ 81 43 ∧ ze N240_ 81 43 ≤ 30 ∧ (zrS N240_).head? ≠ some 1 ∧ ¬ (zisg b_ n_ (ze N240_ 81 4).toNat 42 ∨ zisg b_ n_ (ze N240_ 81 4).toNat 43 ∨ zisg b_ n_ (ze N240_ 81 4).toNat 45) ∧ ze Mz 81 4 ≤ ze N240_ 81 4 ∧ ze N27_ 81 4 < ze N240_ 81 4) from Or.inr (Or.inl (⟨(show (1 : Int) = 1 by first | rfl | assumption | omega | exact fun _ => hrt_ | exact hg0_ | exact hg1_), (show ze N240_ 81 7 = 0 by first | rfl | assumption | (exact zo_610 e7_N240_ ha65_0_hp2_N177_) | exact fun _ => hrt_ | exact hg0_ | exact hg1_), (show ze Mz 81 7 = 0 by first | rfl | assumption | omega | exact fun _ => hrt_ | exact hg0_ | exact hg1_), (show zRea (zfs b_ n_ F_ K_ nm_) (0, (ze Mz 81 4).toNat, [], [], 0, false) (zRst 0 F_ N240_) by first | rfl | assumption | omega | exact fun _ => hrt_ | exact hg0_ | exact hg1_), (show zRI F_ K_ 0 N240_ by first | rfl | assumption | omega | exact fun _ => hrt_ | exact hg0_ | exact hg1_), (show 0 ≤ ze N240_ 81 43 by first | rfl | assumption | (exact zo_622 ha46_4_hp1_N112_ hp1_N177_ hp1_N240_) | exact fun _ => hrt_ | exact hg0_ | exact hg1_), (show ze N240_ 81 43 ≤ 30 by first | rfl | assumption | (exact zo_623 ha46_5_hp1_N112_ hp1_N177_ hp1_N240_) | exact fun _ => hrt_ | exact hg0_ | exact hg1_), (show ze Mz 81 4 ≤ ze N240_ 81 4 by first | rfl | assumption | (exact zo_624 ha46_3_hp1_N112_ ha65_4_hp2_N177_ ha76_2_hp2_N240_ hl38_6_i46_ r4_N240_.1 r_4.2) | exact fun _ => hrt_ | exact hg0_ | exact hg1_), (show ze N27_ 81 4 < ze N240_ 81 4 by first | rfl | assumption | (exact zo_625 ha46_3_hp1_N112_ ha65_4_hp2_N177_ ha76_2_hp2_N240_ hl38_7_i46_ r4_N240_.1 r4_N27_.2) | exact fun _ => hrt_ | exact hg0_ | exact hg1_)⟩))) (Nat.lt_succ_self _)
                                      · skip
                                        have hg0_ := hz0_.tr ha76_0_hp2_N240_
                                        have hg1_ := ha76_1_hp2_N240_
                                        have hg2_ := ha76_2_hp2_N240_
                                        have hg3_ := ha76_3_hp2_N240_
                                        have hg4_ := ha76_4_hp2_N240_
                                        show zW l m_M_formula (zn Mz + 0, zw Mz + 0) N240_ 79 [some (.ref 81), some (.int (Int32.ofInt u42_))] [.int (Int32.ofInt 0)] _
                                        refine zr_if_eq (pc := 79) (tgt := 86) ⟨(by decide), (by decide)⟩ (by decide) (zdal_p dlC_M_formula_95 (i := 17) rfl) (fun hc_79 => ?_) (fun hc_79 => ?_)
                                        · skip
                                          refine zw_iconst (pc := 86) (v := Int32.ofInt 0) (by decide) (zdal_p dlC_M_formula_95 (i := 20) rfl) ?_
                                          refine zw_istore_n (pc := 87) (i := 1) (L2 := [some (.ref 81), some (.int (Int32.ofInt 0))]) rfl (by decide) rfl d_M_formula_87 ?_
                                          have lp_88 : ∀ (n : Nat) (u299_ : Int) (hu299_a : -2147483648 ≤ u299_) (hu299_b : u299_ < 2147483648) (hu299_z : u299_ = 0 ∨ u299_ = 1) (N300_ : zMem) (hs301_ : zFr [3, 4, 5, 6, 7, 8, 11, 38, 39, 41, 42] [95, 96, 97, 100] N240_ N300_) (i302_ : zRt b_ n_ N300_) (i303_ : (1 ≤ ze N300_ 81 7 ∧ (ze Mz 81 7 = 0 → zRea (zfs b_ n_ F_ K_ nm_) (0, (ze Mz 81 4).toNat, [], [], 0, false) zFt)) ∨ (u299_ = 1 ∧ ze N300_ 81 7 = 0 ∧ ze Mz 81 7 = 0 ∧ zRea (zfs b_ n_ F_ K_ nm_) (0, (ze Mz 81 4).toNat, [], [], 0, false) (zRst 0 F_ N300_) ∧ zRI F_ K_ 0 N300_ ∧ 0 ≤ ze N300_ 81 43 ∧ ze N300_ 81 43 ≤ 30 ∧ ze Mz 81 4 ≤ ze N300_ 81 4 ∧ ze N27_ 81 4 < ze N300_ 81 4) ∨ (u299_ = 0 ∧ ze N300_ 81 7 = 0 ∧ ze Mz 81 7 = 0 ∧ zRea (zfs b_ n_ F_ K_ nm_) (0, (ze Mz 81 4).toNat, [], [], 0, false) (zRst 2 F_ N300_) ∧ zRI F_ K_ 1 N300_ ∧ 0 ≤ ze N300_ 81 43 ∧ ze N300_ 81 43 ≤ 30 ∧ (zrS N300_).head? ≠ some 1 ∧ ¬ (zisg b_ n_ (ze N300_ 81 4).toNat 42 ∨ zisg b_ n_ (ze N300_ 81 4).toNat 43 ∨ zisg b_ n_ (ze N300_ 81 4).toNat 45) ∧ ze Mz 81 4 ≤ ze N300_ 81 4 ∧ ze N27_ 81 4 < ze N300_ 81 4)), zmF n_ N300_ < n → zW l m_M_formula (zn Mz + 0, zw Mz + 0) N300_ 88 [some (.ref 81), some (.int (Int32.ofInt u299_))] [] (zpV [3, 4, 5, 6, 7, 8, 11, 38, 39, 41, 42, 43] [95, 96, 97, 100] Mz (fun N => zRt b_ n_ N ∧ (((1 ≤ ze N 81 7 ∧ (ze Mz 81 7 = 0 → zRea (zfs b_ n_ F_ K_ nm_) (0, (ze Mz 81 4).toNat, [], [], 0, false) zFt)) ∨ (ze N 81 7 = 0 ∧ ze Mz 81 7 = 0 ∧ zRea (zfs b_ n_ F_ K_ nm_) (0, (ze Mz 81 4).toNat, [], [], 0, false) (zRst 3 F_ N) ∧ zRI F_ K_ 1 N ∧ zrS N = [] ∧ ze Mz 81 4 ≤ ze N 81 4))))) := by
                                            clear hu42_a hu42_b hu42_z hv111_a hv111_b hsN112_ hv113_a hv113_b hp0_N112_ hf_N112_ hb0_N112_ hb1_N112_ r3_N112_ r4_N112_ r7_N112_ r38_N112_ r39_N112_ r41_N112_ r42_N112_ r43_N112_ c114_ c115_ c116_ ha46_0_hp1_N112_ ha46_1_hp1_N112_ ha46_2_hp1_N112_ ha46_3_hp1_N112_ ha46_4_hp1_N112_ ha46_5_hp1_N112_ hv176_a hv176_b ha58_0_hp0_N175_ hsN177_ hp0_N177_ hp1_N177_ hf_N177_ hb0_N177_ r3_N177_ r4_N177_ r7_N177_ e38_N177_ r39_N177_ r41_N177_ r42_N177_ e43_N177_ c179_ c180_ c181_ ha65_0_hp2_N177_ ha65_1_hp2_N177_ ha65_2_hp2_N177_ ha65_3_hp2_N177_ ha65_4_hp2_N177_ hv239_a hv239_b ha69_0_hp0_N238_ hsN240_ hv241_a hv241_b hp1_N240_ e7_N240_ e42_N240_ e43_N240_ ha76_0_hp2_N240_ ha76_4_hp2_N240_
                                            intro n
                                            induction n with
                                            | zero =>
                                              intro u299_ hu299_a hu299_b hu299_z N300_ hs301_ i302_ i303_ h0
                                              exact absurd h0 (Nat.not_lt_zero _)
                                            | succ n ih_88 =>
                                              intro u299_ hu299_a hu299_b hu299_z N300_ hs301_ i302_ i303_ hlt_88
                                              have hf_N300_ := hf_N240_.tr hs301_ (by decide +kernel) (by decide +kernel)
                                              have hb0_N300_ := hb0_N240_.tr hs301_ (by decide +kernel) (by decide +kernel)
                                              have r3_N300_ := ze_r N300_ 81 3
                                              have r4_N300_ := ze_r N300_ 81 4
                                              have r7_N300_ := ze_r N300_ 81 7
                                              have r38_N300_ := ze_r N300_ 81 38
                                              have r39_N300_ := ze_r N300_ 81 39
                                              have r41_N300_ := ze_r N300_ 81 41
                                              have r42_N300_ := ze_r N300_ 81 42
                                              have e43_N300_ : ze N300_ 81 43 = ze N240_ 81 43 := hs301_.e (by decide)
                                              have c304_ : zRmk F_ K_ N300_ := zRmk.fr hs301_ c242_ (by decide +kernel) (by decide +kernel)
                                              have c305_ : zRb b_ n_ N300_ := zRb.fr hs301_ c243_ (by decide +kernel) (by decide +kernel)
                                              have c306_ : zRNm nm_ F_ K_ b_ n_ N300_ := zRNm.fr hs301_ c244_ (by decide +kernel) (by decide +kernel)
                                              rcases i303_ with ⟨hl88_0_i303_, hl88_1_i303_⟩ | ⟨rfl, hl88_0_i303_, hl88_1_i303_, hl88_2_i303_, hl88_3_i303_, hl88_4_i303_, hl88_5_i303_, hl88_6_i303_, hl88_7_i303_⟩ | ⟨rfl, hl88_0_i303_, hl88_1_i303_, hl88_2_i303_, hl88_3_i303_, hl88_4_i303_, hl88_5_i303_, hl88_6_i303_, hl88_7_i303_, hl88_8_i303_, hl88_9_i303_⟩
                                              · skip
                                                refine zw_aload_n (pc := 88) (n := 0) (x := 81) rfl d_M_formula_88 ?_
                                                refine zr_callV (hf_N300_.w hW) hf_N300_.x (pc := 89) [] [] l_M_183 (c_M_isGood l N300_ (hf_N300_.w hW) ) rfl rfl rfl (by decide) (Nat.le_of_ble_eq_true rfl) d_M_formula_89 ?_
                                                rintro _ N307_ ⟨v308_, rfl, ⟨hv308_a, hv308_b⟩, hsN307_, hp0_N307_⟩
                                                obtain rfl := hsN307_.eq.symm
                                                replace hp0_N307_ : ((v308_ = 1 ∧ ze N300_ 81 7 = 0) ∨ (v308_ = 0 ∧ ze N300_ 81 7 ≠ 0)) := hp0_N307_
                                                rcases hp0_N307_ with ⟨rfl, ha89_0_hp0_N307_⟩ | ⟨rfl, ha89_0_hp0_N307_⟩
                                                · skip
                                                  exfalso; (exact zo_281 ha89_0_hp0_N307_ hl88_0_i303_)
                                                · skip
                                                  show zW l m_M_formula (zn Mz + 0, zw Mz + 0) N300_ 92 [some (.ref 81), some (.int (Int32.ofInt u299_))] [.int (Int32.ofInt 0)] _
                                                  refine zr_if_eq (pc := 92) (tgt := 27) ⟨(by decide), (by decide)⟩ (by decide) d_M_formula_92 (fun hc_92 => ?_) (fun hc_92 => ?_)
                                                  · skip
                                                    exact ih_27 u299_ hu299_a hu299_b (by (exact hu299_z)) N300_ hb0_N300_ i302_ (show (1 ≤ ze N300_ 81 7 ∧ (ze Mz 81 7 = 0 → zRea (zfs b_ n_ F_ K_ nm_) (0, (ze Mz 81 4).toNat, [], [], 0, false) zFt)) ∨ (u299_ = 1 ∧ ze N300_ 81 7 = 0 ∧ ze Mz 81 7 = 0 ∧ zRea (zfs b_ n_ F_ K_ nm_) (0, (ze Mz 81 4).toNat, [], [], 0, false) (zRst 0 F_ N300_) ∧ zRI F_ K_ 0 N300_ ∧ 0 ≤ ze N300_ 81 43 ∧ ze N300_ 81 43 ≤ 30 ∧ ze Mz 81 4 ≤ ze N300_ 81 4) ∨ (u299_ = 0 ∧ ze N300_ 81 7 = 0 ∧ ze Mz 81 7 = 0 ∧ zRea (zfs b_ n_ F_ K_ nm_) (0, (ze Mz 81 4).toNat, [], [], 0, false) (zRst 2 F_ N300_) ∧ zRI F_ K_ 1 N300_ ∧ 0 ≤ ze N300_ 81 43 ∧ ze N300_ 81 43 ≤ 30 ∧ (zrS N300_).head? ≠ some 1 ∧ ¬ (zisg b_ n_ (ze N300_ 81 4).toNat 42 ∨ zisg b_ n_ (ze N300_ 81 4).toNat 43 ∨ zisg b_ n_ (ze N300_ 81 4).toNat 45) ∧ ze Mz 81 4 ≤ ze N300_ 81 4 ∧ ¬ (zisg b_ n_ (ze N300_ 81 4).toNat 41 ∧ 0 ∈ zrS N300_)) from Or.inl (⟨(show 1 ≤ ze N300_ 81 7 by first | rfl | assumption | omega | exact fun _ => hrt_ | exact hx0_ | exact hx1_ | exact hg0_ | exact hg1_), (show (ze Mz 81 7 = 0 → zRea (zfs b_ n_ F_ K_ nm_) (0, (ze Mz 81 4).toNat, [], [], 0, false) zFt) by first | rfl | assumption | omega | exact fun _ => hrt_ | exact hx0_ | exact hx1_ | exact hg0_ | exact hg1_)⟩)) (by have m1_ := zmF_c n_ N300_; have m2_ := zmF_c n_ N27_; have m3_ := i302_.x; omega)
                                                  · skip
                                                    exact absurd hc_92 (by decide)
                                              · skip
                                                have hr0_ := hl88_2_i303_
                                                have hc0_ := hl88_3_i303_
                                                refine zw_aload_n (pc := 88) (n := 0) (x := 81) rfl d_M_formula_88 ?_
                                                refine zr_callV (hf_N300_.w hW) hf_N300_.x (pc := 89) [] [] l_M_183 (c_M_isGood l N300_ (hf_N300_.w hW) ) rfl rfl rfl (by decide) (Nat.le_of_ble_eq_true rfl) d_M_formula_89 ?_
                                                rintro _ N309_ ⟨v310_, rfl, ⟨hv310_a, hv310_b⟩, hsN309_, hp0_N309_⟩
                                                obtain rfl := hsN309_.eq.symm
                                                replace hp0_N309_ : ((v310_ = 1 ∧ ze N300_ 81 7 = 0) ∨ (v310_ = 0 ∧ ze N300_ 81 7 ≠ 0)) := hp0_N309_
                                                rcases hp0_N309_ with ⟨rfl, ha89_0_hp0_N309_⟩ | ⟨rfl, ha89_0_hp0_N309_⟩
                                                · skip
                                                  show zW l m_M_formula (zn Mz + 0, zw Mz + 0) N300_ 92 [some (.ref 81), some (.int (Int32.ofInt 1))] [.int (Int32.ofInt 1)] _
                                                  refine zr_if_eq (pc := 92) (tgt := 27) ⟨(by decide), (by decide)⟩ (by decide) d_M_formula_92 (fun hc_92 => ?_) (fun hc_92 => ?_)
                                                  · skip
                                                    exact absurd hc_92 (by decide)
                                                  · skip
                                                    refine zw_iload_n (pc := 95) (n := 1) (x := Int32.ofInt 1) rfl d_M_formula_95 ?_
                                                    refine zr_if_ne (pc := 96) (tgt := 27) ⟨(by decide), (by decide)⟩ (by decide) d_M_formula_96 (fun hc_96 => ?_) (fun hc_96 => ?_)
                                                    · skip
                                                      exact ih_27 1 (by decide) (by decide) (by (exact hu299_z)) N300_ hb0_N300_ i302_ (show (1 ≤ ze N300_ 81 7 ∧ (ze Mz 81 7 = 0 → zRea (zfs b_ n_ F_ K_ nm_) (0, (ze Mz 81 4).toNat, [], [], 0, false) zFt)) ∨ ((1 : Int) = 1 ∧ ze N300_ 81 7 = 0 ∧ ze Mz 81 7 = 0 ∧ zRea (zfs b_ n_ F_ K_ nm_) (0, (ze Mz 81 4).toNat, [], [], 0, false) (zRst 0 F_ N300_) ∧ zRI F_ K_ 0 N300_ ∧ 0 ≤ ze N300_ 81 43 ∧ ze N300_ 81 43 ≤ 30 ∧ ze Mz 81 4 ≤ ze N300_ 81 4) ∨ ((1 : Int) = 0 ∧ ze N300_ 81 7 = 0 ∧ ze Mz 81 7 = 0 ∧ zRea (zfs b_ n_ F_ K_ nm_) (0, (ze Mz 81 4).toNat, [], [], 0, false) (zRst 2 F_ N300_) ∧ zRI F_ K_ 1 N300_ ∧ 0 ≤ ze N300_ 81 43 ∧ ze N300_ 81 43 ≤ 30 ∧ (zrS N300_).head? ≠ some 1 ∧ ¬ (zisg b_ n_ (ze N300_ 81 4).toNat 42 ∨ zisg b_ n_ (ze N300_ 81 4).toNat 43 ∨ zisg b_ n_ (ze N300_ 81 4).toNat 45) ∧ ze Mz 81 4 ≤ ze N300_ 81 4 ∧ ¬ (zisg b_ n_ (ze N300_ 81 4).toNat 41 ∧ 0 ∈ zrS N300_)) from Or.inr (Or.inl (⟨(show (1 : Int) = 1 by first | rfl | assumption | omega | exact fun _ => hrt_ | exact hx0_ | exact hx1_ | exact hg0_ | exact hg1_), (show ze N300_ 81 7 = 0 by first | rfl | assumption | omega | exact fun _ => hrt_ | exact hx0_ | exact hx1_ | exact hg0_ | exact hg1_), (show ze Mz 81 7 = 0 by first | rfl | assumption | omega | exact fun _ => hrt_ | exact hx0_ | exact hx1_ | exact hg0_ | exact hg1_), (show zRea (zfs b_ n_ F_ K_ nm_) (0, (ze Mz 81 4).toNat, [], [], 0, false) (zRst 0 F_ N300_) by first | rfl | assumption | omega | exact fun _ => hrt_ | exact hx0_ | exact hx1_ | exact hg0_ | exact hg1_), (show zRI F_ K_ 0 N300_ by first | rfl | assumption | omega | exact fun _ => hrt_ | exact hx0_ | exact hx1_ | exact hg0_ | exact hg1_), (show 0 ≤ ze N300_ 81 43 by first | rfl | assumption | omega | exact fun _ => hrt_ | exact hx0_ | exact hx1_ | exact hg0_ | exact hg1_), (show ze N300_ 81 43 ≤ 30 by first | rfl | assumption | omega | exact fun _ => hrt_ | exact hx0_ | exact hx1_ | exact hg0_ | exact hg1_), (show ze Mz 81 4 ≤ ze N300_ 81 4 by first | rfl | assumption | omega | exact fun _ => hrt_ | exact hx0_ | exact hx1_ | exact hg0_ | exact hg1_)⟩))) (by have m1_ := zmF_c n_ N300_; have m2_ := zmF_c n_ N27_; have m3_ := i302_.x; omega)
                                                    · skip
                                                      exact absurd hc_96 (by decide)
                                                · skip
                                                  exfalso; (exact zo_260 hl88_0_i303_ ha89_0_hp0_N309_)
                                              · skip
                                                have hr2_ := hl88_2_i303_
                                                have hc2_ := hl88_3_i303_
                                                have hh2_ := hl88_6_i303_
                                                have hn4_ := hl88_7_i303_
                                                refine zw_aload_n (pc := 88) (n := 0) (x := 81) rfl d_M_formula_88 ?_
                                                refine zr_callV (hf_N300_.w hW) hf_N300_.x (pc := 89) [] [] l_M_183 (c_M_isGood l N300_ (hf_N300_.w hW) ) rfl rfl rfl (by decide) (Nat.le_of_ble_eq_true rfl) d_M_formula_89 ?_
                                                rintro _ N311_ ⟨v312_, rfl, ⟨hv312_a, hv312_b⟩, hsN311_, hp0_N311_⟩
                                                obtain rfl := hsN311_.eq.symm
                                                replace hp0_N311_ : ((v312_ = 1 ∧ ze N300_ 81 7 = 0) ∨ (v312_ = 0 ∧ ze N300_ 81 7 ≠ 0)) := hp0_N311_
                                                rcases hp0_N311_ with ⟨rfl, ha89_0_hp0_N311_⟩ | ⟨rfl, ha89_0_hp0_N311_⟩
                                                · skip
                                                  show zW l m_M_formula (zn Mz + 0, zw Mz + 0) N300_ 92 [some (.ref 81), some (.int (Int32.ofInt 0))] [.int (Int32.ofInt 1)] _
                                                  refine zr_if_eq (pc := 92) (tgt := 27) ⟨(by decide), (by decide)⟩ (by decide) d_M_formula_92 (fun hc_92 => ?_) (fun hc_92 => ?_)
                                                  · skip
                                                    exact absurd hc_92 (by decide)
                                                  · skip
                                                    refine zw_iload_n (pc := 95) (n := 1) (x := Int32.ofInt 0) rfl d_M_formula_95 ?_
                                                    refine zr_if_ne (pc := 96) (tgt := 27) ⟨(by decide), (by decide)⟩ (by decide) d_M_formula_96 (fun hc_96 => ?_) (fun hc_96 => ?_)
                                                    · skip
                                                      exact absurd hc_96 (by decide)
                                                    · skip
                                                      refine zw_aload_n (pc := 99) (n := 0) (x := 81) rfl d_M_formula_99 ?_
                                                      refine zw_bipush (pc := 100) (v := Int32.ofInt 41) (by decide) d_M_formula_100 ?_
                                                      refine zr_callV (hf_N300_.w hW) hf_N300_.x (pc := 102) [.int (Int32.ofInt 41)] [] l_M_187 (c_M_isSignHereF l N300_ (hf_N300_.w hW) 41 (by decide) (by decide) b_ n_ i302_) rfl rfl rfl (by decide) (Nat.le_of_ble_eq_true rfl) d_M_formula_102 ?_
                                                      rintro _ N313_ ⟨v314_, rfl, ⟨hv314_a, hv314_b⟩, hsN313_, hp0_N313_⟩
                                                      obtain rfl := hsN313_.eq.symm
                                                      replace hp0_N313_ : ((v314_ = 1 ∧ ze N300_ 81 7 = 0 ∧ zisg b_ n_ (ze N300_ 81 4).toNat 41) ∨ (v314_ = 0 ∧ (ze N300_ 81 7 = 0 → ¬ zisg b_ n_ (ze N300_ 81 4).toNat 41))) := hp0_N313_
                                                      rcases hp0_N313_ with ⟨rfl, ha102_0_hp0_N313_, ha102_1_hp0_N313_⟩ | ⟨rfl, ha102_0_hp0_N313_⟩
                                                      · skip
                                                        have hC_ := ha102_1_hp0_N313_
                                                        show zW l m_M_formula (zn Mz + 0, zw Mz + 0) N300_ 105 [some (.ref 81), some (.int (Int32.ofInt 0))] [.int (Int32.ofInt 1)] _
                                                        refine zr_if_eq (pc := 105) (tgt := 27) ⟨(by decide), (by decide)⟩ (by decide) d_M_formula_105 (fun hc_105 => ?_) (fun hc_105 => ?_)
                                                        · skip
                                                          exact absurd hc_105 (by decide)
                                                        · skip
                                                          refine zw_aload_n (pc := 108) (n := 0) (x := 81) rfl d_M_formula_108 ?_
                                                          refine zr_callV (hf_N300_.w hW) hf_N300_.x (pc := 109) [] [] l_M_352 (c_M_isOpenF l N300_ (hf_N300_.w hW) F_ K_ hc2_) rfl rfl rfl (by decide) (Nat.le_of_ble_eq_true rfl) d_M_formula_109 ?_
                                                          rintro _ N315_ ⟨v316_, rfl, ⟨hv316_a, hv316_b⟩, hsN315_, hp0_N315_⟩
                                                          obtain rfl := hsN315_.eq.symm
                                                          replace hp0_N315_ : ((v316_ = 1 ∧ 0 ∈ zrS N300_) ∨ (v316_ = 0 ∧ ¬ 0 ∈ zrS N300_)) := hp0_N315_
                                                          rcases hp0_N315_ with ⟨rfl, ha109_0_hp0_N315_⟩ | ⟨rfl, ha109_0_hp0_N315_⟩
                                                          · skip
                                                            have hM0_ := ha109_0_hp0_N315_
                                                            show zW l m_M_formula (zn Mz + 0, zw Mz + 0) N300_ 112 [some (.ref 81), some (.int (Int32.ofInt 0))] [.int (Int32.ofInt 1)] _
                                                            refine zr_if_eq (pc := 112) (tgt := 27) ⟨(by decide), (by decide)⟩ (by decide) d_M_formula_112 (fun hc_112 => ?_) (fun hc_112 => ?_)
                                                            · skip
                                                              exact absurd hc_112 (by decide)
                                                            · skip
                                                              refine zw_aload_n (pc := 115) (n := 0) (x := 81) rfl d_M_formula_115 ?_
                                                              refine zw_iconst (pc := 116) (v := Int32.ofInt 2) (by decide) d_M_formula_116 ?_
                                                              refine zr_callV (hf_N300_.w hW) hf_N300_.x (pc := 117) [.int (Int32.ofInt 2)] [] l_M_337 (c_M_worksF l N300_ (hf_N300_.w hW) 2 (by decide) (by decide) F_ K_ hA_ c304_ hc2_ (show 2 ≤ 2 by first | (decide) | assumption) (show 2 ≤ 4 by first | (decide) | assumption)) rfl rfl rfl (by decide) (Nat.le_of_ble_eq_true rfl) d_M_formula_117 ?_
                                                              rintro _ N317_ ⟨rfl, hsN317_, ⟨hp0_N317_, hp1_N317_, hp2_N317_, hp3_N317_⟩⟩
                                                              have hf_N317_ := hf_N300_.tr hsN317_ (by decide +kernel) (by decide +kernel)
                                                              have hb0_N317_ := hb0_N300_.tr hsN317_ (by decide +kernel) (by decide +kernel)
                                                              have hb1_N317_ := hs301_.tr hsN317_ (by decide +kernel) (by decide +kernel)
                                                              have e3_N317_ : ze N317_ 81 3 = ze N300_ 81 3 := hsN317_.e (by decide)
                                                              have e4_N317_ : ze N317_ 81 4 = ze N300_ 81 4 := hsN317_.e (by decide)
                                                              have e7_N317_ : ze N317_ 81 7 = ze N300_ 81 7 := hsN317_.e (by decide)
                                                              have r38_N317_ := ze_r N317_ 81 38
                                                              have r39_N317_ := ze_r N317_ 81 39
                                                              have r41_N317_ := ze_r N317_ 81 41
                                                              have e42_N317_ : ze N317_ 81 42 = ze N300_ 81 42 := hsN317_.e (by decide)
                                                              have e43_N317_ : ze N317_ 81 43 = ze N300_ 81 43 := hsN317_.e (by decide)
                                                              have c319_ : zRmk F_ K_ N317_ := zRmk.fr hsN317_ c304_ (by decide +kernel) (by decide +kernel)
                                                              have c320_ : zRb b_ n_ N317_ := zRb.fr hsN317_ c305_ (by decide +kernel) (by decide +kernel)
                                                              have c321_ : zRNm nm_ F_ K_ b_ n_ N317_ := zRNm.fr hsN317_ c306_ (by decide +kernel) (by decide +kernel)
                                                              have c322_ : zRt b_ n_ N317_ := zRt.fr hsN317_ i302_ (by decide +kernel) (by decide +kernel)
                                                              show zW l m_M_formula (zn Mz + 0, zw Mz + 0) N317_ 120 [some (.ref 81), some (.int (Int32.ofInt 0))] [] _
                                                              have hw1_ := hp1_N317_
                                                              have hw2_ := hp2_N317_
                                                              have hw3_ := hp3_N317_ hh2_
                                                              have hcr_ := hp0_N317_
                                                              have hcr0_ := hcr_.1
                                                              have hcr2_ := hcr_.2.2.1
                                                              have hhz_ := zhd_0 (show 0 ∈ (zrS N317_, zrW F_ N317_, zrG N317_).1 by rw [hw1_]; exact (zrk_m (by decide) _ _).mpr hM0_) hw3_ (fun y_ h_ => hw2_ y_ h_)
                                                              refine zw_aload_n (pc := 120) (n := 0) (x := 81) rfl d_M_formula_120 ?_
                                                              refine zw_dup (pc := 121) rfl d_M_formula_121 ?_
                                                              refine zr_getI (hf_N317_.w hW) (pc := 122) f_M_305 rfl d_M_formula_122 ?_
                                                              refine zw_iconst (pc := 125) (v := Int32.ofInt 1) (by decide) d_M_formula_125 ?_
                                                              refine zr_isub (pc := 126) d_M_formula_126 ?_
                                                              refine zr_putI (hf_N317_.w hW) (pc := 127) f_M_305 rfl rfl ⟨by (exact zo_600 hcr0_), by (exact zo_601 r41_N317_.2)⟩ rfl rfl d_M_formula_127 (fun N323_ hsN323_ hvN323_ => ?_)
                                                              have hf_N323_ := hf_N317_.tr hsN323_ (by decide +kernel) (by decide +kernel)
                                                              have hb0_N323_ := hb0_N317_.tr hsN323_ (by decide +kernel) (by decide +kernel)
                                                              have hb1_N323_ := hb1_N317_.tr hsN323_ (by decide +kernel) (by decide +kernel)
                                                              have e3_N323_ : ze N323_ 81 3 = ze N317_ 81 3 := hsN323_.e (by decide)
                                                              have e4_N323_ : ze N323_ 81 4 = ze N317_ 81 4 := hsN323_.e (by decide)
                                                              have e7_N323_ : ze N323_ 81 7 = ze N317_ 81 7 := hsN323_.e (by decide)
                                                              have e38_N323_ : ze N323_ 81 38 = ze N317_ 81 38 := hsN323_.e (by decide)
                                                              have e39_N323_ : ze N323_ 81 39 = ze N317_ 81 39 := hsN323_.e (by decide)
                                                              have r41_N323_ := ze_r N323_ 81 41
                                                              have e42_N323_ : ze N323_ 81 42 = ze N317_ 81 42 := hsN323_.e (by decide)
                                                              have e43_N323_ : ze N323_ 81 43 = ze N317_ 81 43 := hsN323_.e (by decide)
                                                              have qzrG_N323_ : zrG N323_ = zrG N317_ := zrG_q hsN323_ (by decide)
                                                              have qzrW_N323_ : zrW F_ N323_ = zrW F_ N317_ := zrW_q hsN323_ (by decide)
                                                              have c324_ : zRmk F_ K_ N323_ := zRmk.fr hsN323_ c319_ (by decide +kernel) (by decide +kernel)
                                                              have c325_ : zRb b_ n_ N323_ := zRb.fr hsN323_ c320_ (by decide +kernel) (by decide +kernel)
                                                              have c326_ : zRNm nm_ F_ K_ b_ n_ N323_ := zRNm.fr hsN323_ c321_ (by decide +kernel) (by decide +kernel)
                                                              have c327_ : zRt b_ n_ N323_ := zRt.fr hsN323_ c322_ (by decide +kernel) (by decide +kernel)
                                                              refine zw_aload_n (pc := 130) (n := 0) (x := 81) rfl d_M_formula_130 ?_
                                                              refine zw_dup (pc := 131) rfl d_M_formula_131 ?_
                                                              refine zr_getI (hf_N323_.w hW) (pc := 132) f_M_296 rfl d_M_formula_132 ?_
                                                              refine zw_iconst (pc := 135) (v := Int32.ofInt 1) (by decide) d_M_formula_135 ?_
                                                              refine zr_isub (pc := 136) d_M_formula_136 ?_
                                                              refine zr_putI (hf_N323_.w hW) (pc := 137) f_M_296 rfl rfl ⟨by (exact zo_602 e42_N323_ hcr2_), by (exact zo_65 e42_N317_ e42_N323_ r42_N300_.2)⟩ rfl rfl d_M_formula_137 (fun N328_ hsN328_ hvN328_ => ?_)
                                                              have hf_N328_ := hf_N323_.tr hsN328_ (by decide +kernel) (by decide +kernel)
                                                              have hb0_N328_ := hb0_N323_.tr hsN328_ (by decide +kernel) (by decide +kernel)
                                                              have hb1_N328_ := hb1_N323_.tr hsN328_ (by decide +kernel) (by decide +kernel)
                                                              have e3_N328_ : ze N328_ 81 3 = ze N323_ 81 3 := hsN328_.e (by decide)
                                                              have e4_N328_ : ze N328_ 81 4 = ze N323_ 81 4 := hsN328_.e (by decide)
                                                              have e7_N328_ : ze N328_ 81 7 = ze N323_ 81 7 := hsN328_.e (by decide)
                                                              have e38_N328_ : ze N328_ 81 38 = ze N323_ 81 38 := hsN328_.e (by decide)
                                                              have e39_N328_ : ze N328_ 81 39 = ze N323_ 81 39 := hsN328_.e (by decide)
                                                              have e41_N328_ : ze N328_ 81 41 = ze N323_ 81 41 := hsN328_.e (by decide)
                                                              have r42_N328_ := ze_r N328_ 81 42
                                                              have e43_N328_ : ze N328_ 81 43 = ze N323_ 81 43 := hsN328_.e (by decide)
                                                              have qzrS_N328_ : zrS N328_ = zrS N323_ := zrS_q hsN328_ (by decide)
                                                              have qzrG_N328_ : zrG N328_ = zrG N323_ := zrG_q hsN328_ (by decide)
                                                              have qzrW_N328_ : zrW F_ N328_ = zrW F_ N323_ := zrW_q hsN328_ (by decide)
                                                              have c329_ : zRmk F_ K_ N328_ := zRmk.fr hsN328_ c324_ (by decide +kernel) (by decide +kernel)
                                                              have c330_ : zRb b_ n_ N328_ := zRb.fr hsN328_ c325_ (by decide +kernel) (by decide +kernel)
                                                              have c331_ : zRNm nm_ F_ K_ b_ n_ N328_ := zRNm.fr hsN328_ c326_ (by decide +kernel) (by decide +kernel)
                                                              have c332_ : zRt b_ n_ N328_ := zRt.fr hsN328_ c327_ (by decide +kernel) (by decide +kernel)
                                                              have hcd_ := zRI_cl (Mz := N317_) (Nz := N328_) hF27_ hcr_ hhz_ (by (exact zo_603 e41_N328_ hvN323_)) (fun i_ => (hsN328_.ie (by decide) (by decide) i_).trans (hsN323_.ie (by decide) (by decide) i_)) (by (exact zo_604 e42_N323_ hcr2_ hvN328_ r42_N328_.2)) (by (exact zo_53 e38_N323_ e38_N328_)) (by (exact zo_53 e39_N323_ e39_N328_)) (fun x_ => (hsN328_.jg (by decide) (by decide) x_).trans (hsN323_.jg (by decide) (by decide) x_))
                                                              have hcd1_ := hcd_.1
                                                              have hyt_ := c332_
                                                              have hyx_ := hyt_.x
                                                              refine zw_aload_n (pc := 140) (n := 0) (x := 81) rfl d_M_formula_140 ?_
                                                              refine zr_callV (hf_N328_.w hW) hf_N328_.x (pc := 141) [] [] l_M_193 (c_M_goOnF l N328_ (hf_N328_.w hW) b_ n_ c330_ (show 0 ≤ ze N328_ 81 3 by first | (exact zo_57 hyx_.2.1) | assumption) (show ze N328_ 81 3 ≤ n_ by first | (exact zo_605 hyx_.2.2) | assumption)) rfl rfl rfl (by decide) (Nat.le_of_ble_eq_true rfl) d_M_formula_141 ?_
                                                              rintro _ N333_ ⟨rfl, hsN333_, ⟨hp0_N333_, hp1_N333_⟩⟩
                                                              have hf_N333_ := hf_N328_.tr hsN333_ (by decide +kernel) (by decide +kernel)
                                                              have hb0_N333_ := hb0_N328_.tr hsN333_ (by decide +kernel) (by decide +kernel)
                                                              have hb1_N333_ := hb1_N328_.tr hsN333_ (by decide +kernel) (by decide +kernel)
                                                              have r3_N333_ := ze_r N333_ 81 3
                                                              have r4_N333_ := ze_r N333_ 81 4
                                                              have e7_N333_ : ze N333_ 81 7 = ze N328_ 81 7 := hsN333_.e (by decide)
                                                              have e38_N333_ : ze N333_ 81 38 = ze N328_ 81 38 := hsN333_.e (by decide)
                                                              have e39_N333_ : ze N333_ 81 39 = ze N328_ 81 39 := hsN333_.e (by decide)
                                                              have e41_N333_ : ze N333_ 81 41 = ze N328_ 81 41 := hsN333_.e (by decide)
                                                              have e42_N333_ : ze N333_ 81 42 = ze N328_ 81 42 := hsN333_.e (by decide)
                                                              have e43_N333_ : ze N333_ 81 43 = ze N328_ 81 43 := hsN333_.e (by decide)
                                                              have qzrS_N333_ : zrS N333_ = zrS N328_ := zrS_q hsN333_ (by decide)
                                                              have qzrG_N333_ : zrG N333_ = zrG N328_ := zrG_q hsN333_ (by decide)
                                                              have qzrW_N333_ : zrW F_ N333_ = zrW F_ N328_ := zrW_q hsN333_ (by decide)
                                                              have c335_ : zRmk F_ K_ N333_ := zRmk.fr hsN333_ c329_ (by decide +kernel) (by decide +kernel)
                                                              have c336_ : zRb b_ n_ N333_ := zRb.fr hsN333_ c330_ (by decide +kernel) (by decide +kernel)
                                                              have c337_ : zRNm nm_ F_ K_ b_ n_ N333_ := zRNm.fr hsN333_ c331_ (by decide +kernel) (by decide +kernel)
                                                              have c338_ : zRI F_ K_ 1 N333_ := zRI.fr hsN333_ hcd1_ (by decide +kernel) (by decide +kernel)
                                                              show zW l m_M_formula (zn Mz + 0, zw Mz + 0) N333_ 144 [some (.ref 81), some (.int (Int32.ofInt 0))] [] _
                                                              have hnn_ := hyt_.nx hp0_N333_
                                                              have hst1_ := hr2_.tr (zRea.st (zr2_c (Rz := N317_) (c := (0, 0)) (F := F_) (K := K_) (nm := nm_) hC_ hM0_ hw1_ (qzrS_N333_.trans hcd_.2.1) (qzrW_N333_.trans hcd_.2.2.1) (qzrG_N333_.trans hcd_.2.2.2) (by (exact zo_52 e43_N317_ e43_N323_ e43_N328_ e43_N333_)) (hnn_.2.trans (by rw [show ze N328_ 81 4 = ze N300_ 81 4 by (exact zo_606 e4_N317_ e4_N323_ e4_N328_ hyx_.1.1 r4_N300_.2)]))))
                                                              have hnp_ := hnn_.2.trans (show znx b_ n_ (ze N328_ 81 4).toNat = znx b_ n_ (ze N300_ 81 4).toNat by rw [show ze N328_ 81 4 = ze N300_ 81 4 by (exact zo_606 e4_N317_ e4_N323_ e4_N328_ hyx_.1.1 r4_N300_.2)])
                                                              have hgx_ := znx_ge (b := b_) (n := n_) (s := (ze N300_ 81 4).toNat)
                                                              have hgy_ := znx_g (b := b_) (n := n_) (s := (ze N300_ 81 4).toNat) (by have h_ := hC_.1; (exact zo_607 h_))
                                                              refine zw_aload_n (pc := 144) (n := 0) (x := 81) rfl d_M_formula_144 ?_
                                                              refine zr_callV (hf_N333_.w hW) hf_N333_.x (pc := 145) [] [] l_M_346 (c_M_closesF l N333_ (hf_N333_.w hW) F_ K_ hA_ b_ n_ nm_ c335_ c336_ hp1_N333_ c338_ (show ze N333_ 81 7 = 0 by first | (exact zo_608 e7_N317_ e7_N323_ e7_N328_ e7_N333_ hl88_0_i303_) | assumption)) rfl rfl rfl (by decide) (Nat.le_of_ble_eq_true rfl) d_M_formula_145 ?_
                                                              rintro _ N339_ ⟨rfl, hsN339_, ⟨hp0_N339_, hp1_N339_, hp2_N339_⟩⟩
                                                              have hf_N339_ := hf_N333_.tr hsN339_ (by decide +kernel) (by decide +kernel)
                                                              have hb0_N339_ := hb0_N333_.tr hsN339_ (by decide +kernel) (by decide +kernel)
                                                              have hb1_N339_ := hb1_N333_.tr hsN339_ (by decide +kernel) (by decide +kernel)
                                                              have r3_N339_ := ze_r N339_ 81 3
                                                              have r4_N339_ := ze_r N339_ 81 4
                                                              have r7_N339_ := ze_r N339_ 81 7
                                                              have e38_N339_ : ze N339_ 81 38 = ze N333_ 81 38 := hsN339_.e (by decide)
                                                              have r39_N339_ := ze_r N339_ 81 39
                                                              have r41_N339_ := ze_r N339_ 81 41
                                                              have r42_N339_ := ze_r N339_ 81 42
                                                              have e43_N339_ : ze N339_ 81 43 = ze N333_ 81 43 := hsN339_.e (by decide)
                                                              have c341_ : zRmk F_ K_ N339_ := zRmk.fr hsN339_ c335_ (by decide +kernel) (by decide +kernel)
                                                              have c342_ : zRb b_ n_ N339_ := zRb.fr hsN339_ c336_ (by decide +kernel) (by decide +kernel)
                                                              have c343_ : zRNm nm_ F_ K_ b_ n_ N339_ := zRNm.fr hsN339_ c337_ (by decide +kernel) (by decide +kernel)
                                                              rcases hp2_N339_ with ⟨ha145_0_hp2_N339_, ha145_1_hp2_N339_⟩ | ⟨ha145_0_hp2_N339_, ha145_1_hp2_N339_, ha145_2_hp2_N339_, ha145_3_hp2_N339_, ha145_4_hp2_N339_⟩
                                                              · skip
                                                                have hrt_ := hst1_.tr ha145_1_hp2_N339_
                                                                show zW l m_M_formula (zn Mz + 0, zw Mz + 0) N339_ 148 [some (.ref 81), some (.int (Int32.ofInt 0))] [] _
                                                                refine zw_aload_n (pc := 148) (n := 0) (x := 81) rfl d_M_formula_148 ?_
                                                                refine zr_callV (hf_N339_.w hW) hf_N339_.x (pc := 149) [] [] l_M_183 (c_M_isGood l N339_ (hf_N339_.w hW) ) rfl rfl rfl (by decide) (Nat.le_of_ble_eq_true rfl) d_M_formula_149 ?_
                                                                rintro _ N344_ ⟨v345_, rfl, ⟨hv345_a, hv345_b⟩, hsN344_, hp0_N344_⟩
                                                                obtain rfl := hsN344_.eq.symm
                                                                replace hp0_N344_ : ((v345_ = 1 ∧ ze N339_ 81 7 = 0) ∨ (v345_ = 0 ∧ ze N339_ 81 7 ≠ 0)) := hp0_N344_
                                                                rcases hp0_N344_ with ⟨rfl, ha149_0_hp0_N344_⟩ | ⟨rfl, ha149_0_hp0_N344_⟩
                                                                · skip
                                                                  exfalso; (exact zo_609 ha145_0_hp2_N339_ ha149_0_hp0_N344_)
                                                                · skip
                                                                  show zW l m_M_formula (zn Mz + 0, zw Mz + 0) N339_ 152 [some (.ref 81), some (.int (Int32.ofInt 0))] [.int (Int32.ofInt 0)] _
                                                                  refine zr_if_eq (pc := 152) (tgt := 166) ⟨(by decide), (by decide)⟩ (by decide) d_M_formula_152 (fun hc_152 => ?_) (fun hc_152 => ?_)
                                                                  · skip
                                                                    refine zw_iconst (pc := 166) (v := Int32.ofInt 0) (by decide) d_M_formula_166 ?_
                                                                    refine zw_istore_n (pc := 167) (i := 1) (L2 := [some (.ref 81), some (.int (Int32.ofInt 0))]) rfl (by decide) rfl d_M_formula_167 ?_
                                                                    refine zw_goto (pc := 168) (tgt := 88) (by decide) d_M_formula_168 ?_
                                                                    exact ih_88 0 (by decide) (by decide) (by (exact hu299_z)) N339_ hb1_N339_ hp0_N339_ (show (1 ≤ ze N339_ 81 7 ∧ (ze Mz 81 7 = 0 → zRea (zfs b_ n_ F_ K_ nm_) (0, (ze Mz 81 4).toNat, [], [], 0, false) zFt)) ∨ ((0 : Int) = 1 ∧ ze N339_ 81 7 = 0 ∧ ze Mz 81 7 = 0 ∧ zRea (zfs b_ n_ F_ K_ nm_) (0, (ze Mz 81 4).toNat, [], [], 0, false) (zRst 0 F_ N339_) ∧ zRI F_ K_ 0 N339_ ∧ 0 ≤ ze N339_ 81 43 ∧ ze N339_ 81 43 ≤ 30 ∧ ze Mz 81 4 ≤ ze N339_ 81 4 ∧ ze N27_ 81 4 < ze N339_ 81 4) ∨ ((0 : Int) = 0 ∧ ze N339_ 81 7 = 0 ∧ ze Mz 81 7 = 0 ∧ zRea (zfs b_ n_ F_ K_ nm_) (0, (ze Mz 81 4).toNat, [], [], 0, false) (zRst 2 F_ N339_) ∧ zRI F_ K_ 1 N339_ ∧ 0 ≤ ze N339_ 81 43 ∧ ze N339_ 81 43 ≤ 30 ∧ (zrS N339_).head? ≠ some 1 ∧ ¬ (zisg b_ n_ (ze N339_ 81 4).toNat 42 ∨ zisg b_ n_ (ze N339_ 81 4).toNat 43 ∨ zisg b_ n_ (ze N339_ 81 4).toNat 45) ∧ ze Mz 81 4 ≤ ze N339_ 81 4 ∧ ze N27_ 81 4 < ze N339_ 81 4) from Or.inl (⟨(show 1 ≤ ze N339_ 81 7 by first | rfl | assumption | omega | exact fun _ => hrt_ | exact hx0_ | exact hx1_ | exact hg0_ | exact hg1_), (show (ze Mz 81 7 = 0 → zRea (zfs b_ n_ F_ K_ nm_) (0, (ze Mz 81 4).toNat, [], [], 0, false) zFt) by first | rfl | assumption | omega | exact fun _ => hrt_ | exact hx0_ | exact hx1_ | exact hg0_ | exact hg1_)⟩)) (by have m1_ := zmF_c n_ N339_; have m2_ := zmF_c n_ N300_; have m3_ := hp0_N339_.x; omega)
                                                                  · skip
                                                                    exact absurd hc_152 (by decide)
                                                              · skip
                                                                have hz0_ := hst1_.tr ha145_1_hp2_N339_
                                                                have hz1_ := ha145_2_hp2_N339_
                                                                have hz2_ := ha145_3_hp2_N339_
                                                                have hz3_ := ha145_4_hp2_N339_
                                                                show zW l m_M_formula (zn Mz + 0, zw Mz + 0) N339_ 148 [some (.ref 81), some (.int (Int32.ofInt 0))] [] _
                                                                refine zw_aload_n (pc := 148) (n := 0) (x := 81) rfl d_M_formula_148 ?_
                                                                refine zr_callV (hf_N339_.w hW) hf_N339_.x (pc := 149) [] [] l_M_183 (c_M_isGood l N339_ (hf_N339_.w hW) ) rfl rfl rfl (by decide) (Nat.le_of_ble_eq_true rfl) d_M_formula_149 ?_
                                                                rintro _ N346_ ⟨v347_, rfl, ⟨hv347_a, hv347_b⟩, hsN346_, hp0_N346_⟩
                                                                obtain rfl := hsN346_.eq.symm
                                                                replace hp0_N346_ : ((v347_ = 1 ∧ ze N339_ 81 7 = 0) ∨ (v347_ = 0 ∧ ze N339_ 81 7 ≠ 0)) := hp0_N346_
                                                                rcases hp0_N346_ with ⟨rfl, ha149_0_hp0_N346_⟩ | ⟨rfl, ha149_0_hp0_N346_⟩
                                                                · skip
                                                                  show zW l m_M_formula (zn Mz + 0, zw Mz + 0) N339_ 152 [some (.ref 81), some (.int (Int32.ofInt 0))] [.int (Int32.ofInt 1)] _
                                                                  refine zr_if_eq (pc := 152) (tgt := 166) ⟨(by decide), (by decide)⟩ (by decide) d_M_formula_152 (fun hc_152 => ?_) (fun hc_152 => ?_)
                                                                  · skip
                                                                    exact absurd hc_152 (by decide)
                                                                  · skip
                                                                    refine zw_aload_n (pc := 155) (n := 0) (x := 81) rfl d_M_formula_155 ?_
                                                                    refine zr_callV (hf_N339_.w hW) hf_N339_.x (pc := 156) [] [] l_M_349 (c_M_goesOnF l N339_ (hf_N339_.w hW) F_ K_ hA_ b_ n_ nm_ c341_ c342_ hp0_N339_ hz1_ (show (zrS N339_).head? ≠ some 1 by first | (exact ha145_3_hp2_N339_) | assumption) (show ze N339_ 81 7 = 0 by first | (exact ha145_0_hp2_N339_) | assumption)) rfl rfl rfl (by decide) (Nat.le_of_ble_eq_true rfl) d_M_formula_156 ?_
                                                                    rintro _ N348_ ⟨v349_, rfl, ⟨hv349_a, hv349_b⟩, hsN348_, ⟨hp0_N348_, hp1_N348_, hp2_N348_⟩⟩
                                                                    have hf_N348_ := hf_N339_.tr hsN348_ (by decide +kernel) (by decide +kernel)
                                                                    have hb0_N348_ := hb0_N339_.tr hsN348_ (by decide +kernel) (by decide +kernel)
                                                                    have hb1_N348_ := hb1_N339_.tr hsN348_ (by decide +kernel) (by decide +kernel)
                                                                    have r3_N348_ := ze_r N348_ 81 3
                                                                    have r4_N348_ := ze_r N348_ 81 4
                                                                    have e7_N348_ : ze N348_ 81 7 = ze N339_ 81 7 := hsN348_.e (by decide)
                                                                    have r38_N348_ := ze_r N348_ 81 38
                                                                    have r39_N348_ := ze_r N348_ 81 39
                                                                    have r41_N348_ := ze_r N348_ 81 41
                                                                    have e42_N348_ : ze N348_ 81 42 = ze N339_ 81 42 := hsN348_.e (by decide)
                                                                    have e43_N348_ : ze N348_ 81 43 = ze N339_ 81 43 := hsN348_.e (by decide)
                                                                    have c350_ : zRmk F_ K_ N348_ := zRmk.fr hsN348_ c341_ (by decide +kernel) (by decide +kernel)
                                                                    have c351_ : zRb b_ n_ N348_ := zRb.fr hsN348_ c342_ (by decide +kernel) (by decide +kernel)
                                                                    have c352_ : zRNm nm_ F_ K_ b_ n_ N348_ := zRNm.fr hsN348_ c343_ (by decide +kernel) (by decide +kernel)
                                                                    rcases hp2_N348_ with ⟨rfl, ha156_0_hp2_N348_, ha156_1_hp2_N348_, ha156_2_hp2_N348_⟩ | ⟨rfl, ha156_0_hp2_N348_, ha156_1_hp2_N348_, ha156_2_hp2_N348_, ha156_3_hp2_N348_, ha156_4_hp2_N348_⟩
                                                                    · skip
                                                                      have hg0_ := hz0_.tr ha156_0_hp2_N348_
                                                                      have hg1_ := ha156_1_hp2_N348_
                                                                      have hg2_ := ha156_2_hp2_N348_
                                                                      show zW l m_M_formula (zn Mz + 0, zw Mz + 0) N348_ 159 [some (.ref 81), some (.int (Int32.ofInt 0))] [.int (Int32.ofInt 1)] _
                                                                      refine zr_if_eq (pc := 159) (tgt := 166) ⟨(by decide), (by decide)⟩ (by decide) d_M_formula_159 (fun hc_159 => ?_) (fun hc_159 => ?_)
                                                                      · skip
                                                                        exact absurd hc_159 (by decide)
                                                                      · skip
                                                                        refine zw_iconst (pc := 162) (v := Int32.ofInt 1) (by decide) d_M_formula_162 ?_
                                                                        refine zw_goto (pc := 163) (tgt := 167) (by decide) d_M_formula_163 ?_
                                                                        refine zw_istore_n (pc := 167) (i := 1) (L2 := [some (.ref 81), some (.int (Int32.ofInt 1))]) rfl (by decide) rfl d_M_formula_167 ?_
                                                                        refine zw_goto (pc := 168) (tgt := 88) (by decide) d_M_formula_168 ?_
                                                                        exact ih_88 1 (by decide) (by decide) (by (decide)) N348_ hb1_N348_ hp0_N348_ (show (1 ≤ ze N348_ 81 7 ∧ (ze Mz 81 7 = 0 → zRea (zfs b_ n_ F_ K_ nm_) (0, (ze Mz 81 4).toNat, [], [], 0, false) zFt)) ∨ ((1 : Int) = 1 ∧ ze N348_ 81 7 = 0 ∧ ze Mz 81 7 = 0 ∧ zRea (zfs b_ n_ F_ K_ nm_) (0, (ze Mz 81 4).toNat, [], [], 0, false) (zRst 0 F_ N348_) ∧ zRI F_ K_ 0 N348_ ∧ 0 ≤ ze N348_ 81 43 ∧ ze N348_ 81 43 ≤ 30 ∧ ze Mz 81 4 ≤ ze N348_ 81 4 ∧ ze N27_ 81 4 < ze N348_ 81 4) ∨ ((1 : Int) = 0 ∧ ze N348_ 81 7 = 0 ∧ ze Mz 81 7 = 0 ∧ zRea (zfs b_ n_ F_ K_ nm_) (0, (ze Mz 81 4).toNat, [], [], 0, false) (zRst 2 F_ N348_) ∧ zRI F_ K_ 1 N348_ ∧ 0 ≤ ze N348_ 81 43 ∧ ze N348_ 81 43 ≤ 30 ∧ (zrS N348_).head? ≠ some 1 ∧ ¬ (zisg b_ n_ (ze N348_ 81 4).toNat 42 ∨ zisg b_ n_ (ze N348_ 81 4).toNat 43 ∨ zisg b_ n_ (ze N348_ 81 4).toNat 45) ∧ ze Mz 81 4 ≤ ze N348_ 81 4 ∧ ze N27_ 81 4 < ze N348_ 81 4) from Or.inr (Or.inl (⟨(show (1 : Int) = 1 by first | rfl | assumption | omega | exact fun _ => hrt_ | exact hx0_ | exact hx1_ | exact hg0_ | exact hg1_), (show ze N348_ 81 7 = 0 by first | rfl | assumption | (exact zo_610 e7_N348_ ha145_0_hp2_N339_) | exact fun _ => hrt_ | exact hx0_ | exact hx1_ | exact hg0_ | exact hg1_), (show ze Mz 81 7 = 0 by first | rfl | assumption | omega | exact fun _ => hrt_ | exact hx0_ | exact hx1_ | exact hg0_ | exact hg1_), (show zRea (zfs b_ n_ F_ K_ nm_) (0, (ze Mz 81 4).toNat, [], [], 0, false) (zRst 0 F_ N348_) by first | rfl | assumption | omega | exact fun _ => hrt_ | exact hx0_ | exact hx1_ | exact hg0_ | exact hg1_), (show zRI F_ K_ 0 N348_ by first | rfl | assumption | omega | exact fun _ => hrt_ | exact hx0_ | exact hx1_ | exact hg0_ | exact hg1_), (show 0 ≤ ze N348_ 81 43 by first | rfl | assumption | (exact zo_618 e43_N317_ e43_N323_ e43_N328_ e43_N333_ hl88_4_i303_ hp1_N339_ hp1_N348_) | exact fun _ => hrt_ | exact hx0_ | exact hx1_ | exact hg0_ | exact hg1_), (show ze N348_ 81 43 ≤ 30 by first | rfl | assumption | (exact zo_619 e43_N317_ e43_N323_ e43_N328_ e43_N333_ hl88_5_i303_ hp1_N339_ hp1_N348_) | exact fun _ => hrt_ | exact hx0_ | exact hx1_ | exact hg0_ | exact hg1_), (show ze Mz 81 4 ≤ ze N348_ 81 4 by first | rfl | assumption | (exact zo_613 ha145_4_hp2_N339_ ha156_2_hp2_N348_ hgy_ hl88_8_i303_ hnp_ hp0_N333_ r4_N333_.1 r_4.2) | exact fun _ => hrt_ | exact hx0_ | exact hx1_ | exact hg0_ | exact hg1_), (show ze N27_ 81 4 < ze N348_ 81 4 by first | rfl | assumption | (exact zo_614 ha145_4_hp2_N339_ ha156_2_hp2_N348_ hgy_ hl88_9_i303_ hnp_ hp0_N333_ r4_N27_.2 r4_N333_.1) | exact fun _ => hrt_ | exact hx0_ | exact hx1_ | exact hg0_ | exact hg1_)⟩))) (by have m1_ := zmF_c n_ N348_; have m2_ := zmF_c n_ N300_; have m3_ := hp0_N348_.x; omega)
                                                                    · skip
                                                                      have hg0_ := hz0_.tr ha156_0_hp2_N348_
                                                                      have hg1_ := ha156_1_hp2_N348_
                                                                      have hg2_ := ha156_2_hp2_N348_
                                                                      have hg3_ := ha156_3_hp2_N348_
                                                                      have hg4_ := ha156_4_hp2_N348_
                                                                      show zW l m_M_formula (zn Mz + 0, zw Mz + 0) N348_ 159 [some (.ref 81), some (.int (Int32.ofInt 0))] [.int (Int32.ofInt 0)] _
                                                                      refine zr_if_eq (pc := 159) (tgt := 166) ⟨(by decide), (by decide)⟩ (by decide) d_M_formula_159 (fun hc_159 => ?_) (fun hc_159 => ?_)
                                                                      · skip
                                                                        refine zw_iconst (pc := 166) (v := Int32.ofInt 0) (by decide) d_M_formula_166 ?_
                                                                        refine zw_istore_n (pc := 167) (i := 1) (L2 := [some (.ref 81), some (.int (Int32.ofInt 0))]) rfl (by decide) rfl d_M_formula_167 ?_
                                                                        refine zw_goto (pc := 168) (tgt := 88) (by decide) d_M_formula_168 ?_
                                                                        exact ih_88 0 (by decide) (by decide) (by (exact hu299_z)) N348_ hb1_N348_ hp0_N348_ (show (1 ≤ ze N348_ 81 7 ∧ (ze Mz 81 7 = 0 → zRea (zfs b_ n_ F_ K_ nm_) (0, (ze Mz 81 4).toNat, [], [], 0, false) zFt)) ∨ ((0 : Int) = 1 ∧ ze N348_ 81 7 = 0 ∧ ze Mz 81 7 = 0 ∧ zRea (zfs b_ n_ F_ K_ nm_) (0, (ze Mz 81 4).toNat, [], [], 0, false) (zRst 0 F_ N348_) ∧ zRI F_ K_ 0 N348_ ∧ 0 ≤ ze N348_ 81 43 ∧ ze N348_ 81 43 ≤ 30 ∧ ze Mz 81 4 ≤ ze N348_ 81 4 ∧ ze N27_ 81 4 < ze N348_ 81 4) ∨ ((0 : Int) = 0 ∧ ze N348_ 81 7 = 0 ∧ ze Mz 81 7 = 0 ∧ zRea (zfs b_ n_ F_ K_ nm_) (0, (ze Mz 81 4).toNat, [], [], 0, false) (zRst 2 F_ N348_) ∧ zRI F_ K_ 1 N348_ ∧ 0 ≤ ze N348_ 81 43 ∧ ze N348_ 81 43 ≤ 30 ∧ (zrS N348_).head? ≠ some 1 ∧ ¬ (zisg b_ n_ (ze N348_ 81 4).toNat 42 ∨ zisg b_ n_ (ze N348_ 81 4).toNat 43 ∨ zisg b_ n_ (ze N348_ 81 4).toNat 45) ∧ ze Mz 81 4 ≤ ze N348_ 81 4 ∧ ze N27_ 81 4 < ze N348_ 81 4) from Or.inr (Or.inr (⟨(show (0 : Int) = 0 by first | rfl | assumption | omega | exact fun _ => hrt_ | exact hx0_ | exact hx1_ | exact hg0_ | exact hg1_), (show ze N348_ 81 7 = 0 by first | rfl | assumption | (exact zo_610 e7_N348_ ha145_0_hp2_N339_) | exact fun _ => hrt_ | exact hx0_ | exact hx1_ | exact hg0_ | exact hg1_), (show ze Mz 81 7 = 0 by first | rfl | assumption | omega | exact fun _ => hrt_ | exact hx0_ | exact hx1_ | exact hg0_ | exact hg1_), (show zRea (zfs b_ n_ F_ K_ nm_) (0, (ze Mz 81 4).toNat, [], [], 0, false) (zRst 2 F_ N348_) by first | rfl | assumption | omega | exact fun _ => hrt_ | exact hx0_ | exact hx1_ | exact hg0_ | exact hg1_), (show zRI F_ K_ 1 N348_ by first | rfl | assumption | omega | exact fun _ => hrt_ | exact hx0_ | exact hx1_ | exact hg0_ | exact hg1_), (show 0 ≤ ze N348_ 81 43 by first | rfl | assumption | (exact zo_618 e43_N317_ e43_N323_ e43_N328_ e43_N333_ hl88_4_i303_ hp1_N339_ hp1_N348_) | exact fun _ => hrt_ | exact hx0_ | exact hx1_ | exact hg0_ | exact hg1_), (show ze N348_ 81 43 ≤ 30 by first | rfl | assumption | (exact zo_619 e43_N317_ e43_N323_ e43_N328_ e43_N333_ hl88_5_i303_ hp1_N339_ hp1_N348_) | exact fun _ => hrt_ | exact hx0_ | exact hx1_ | exact hg0_ | exact hg1_), (show (zrS N348_).head? ≠ some 1 by first | rfl | assumption | omega | exact fun _ => hrt_ | exact hx0_ | exact hx1_ | exact hg0_ | exact hg1_), (show ¬ (zisg b_ n_ (ze N348_ 81 4).toNat 42 ∨ zisg b_ n_ (ze N348_ 81 4).toNat 43 ∨ zisg b_ n_ (ze N348_ 81 4).toNat 45) by first | rfl | assumption | omega | exact fun _ => hrt_ | exact hx0_ | exact hx1_ | exact hg0_ | exact hg1_), (show ze Mz 81 4 ≤ ze N348_ 81 4 by first | rfl | assumption | (exact zo_615 ha145_4_hp2_N339_ ha156_4_hp2_N348_ hgy_ hl88_8_i303_ hnp_ hp0_N333_ r4_N333_.1 r_4.2) | exact fun _ => hrt_ | exact hx0_ | exact hx1_ | exact hg0_ | exact hg1_), (show ze N27_ 81 4 < ze N348_ 81 4 by first | rfl | assumption | (exact zo_616 ha145_4_hp2_N339_ ha156_4_hp2_N348_ hgy_ hl88_9_i303_ hnp_ hp0_N333_ r4_N27_.2 r4_N333_.1) | exact fun _ => hrt_ | exact hx0_ | exact hx1_ | exact hg0_ | exact hg1_)⟩))) (by have m1_ := zmF_c n_ N348_; have m2_ := zmF_c n_ N300_; have m3_ := hp0_N348_.x; omega)
                                                                      · skip
                                                                        exact absurd hc_159 (by decide)
                                                                · skip
                                                                  exfalso; (exact zo_260 ha145_0_hp2_N339_ ha149_0_hp0_N346_)
                                                          · skip
                                                            have hM0_ := ha109_0_hp0_N315_
                                                            have hn41_ : ¬ (zisg b_ n_ (ze N300_ 81 4).toNat 41 ∧ 0 ∈ zrS N300_) := fun q_ => hM0_ q_.2
                                                            show zW l m_M_formula (zn Mz + 0, zw Mz + 0) N300_ 112 [some (.ref 81), some (.int (Int32.ofInt 0))] [.int (Int32.ofInt 0)] _
                                                            refine zr_if_eq (pc := 112) (tgt := 27) ⟨(by decide), (by decide)⟩ (by decide) d_M_formula_112 (fun hc_112 => ?_) (fun hc_112 => ?_)
                                                            · skip
                                                              exact ih_27 0 (by decide) (by decide) (by (exact hu299_z)) N300_ hb0_N300_ i302_ (show (1 ≤ ze N300_ 81 7 ∧ (ze Mz 81 7 = 0 → zRea (zfs b_ n_ F_ K_ nm_) (0, (ze Mz 81 4).toNat, [], [], 0, false) zFt)) ∨ ((0 : Int) = 1 ∧ ze N300_ 81 7 = 0 ∧ ze Mz 81 7 = 0 ∧ zRea (zfs b_ n_ F_ K_ nm_) (0, (ze Mz 81 4).toNat, [], [], 0, false) (zRst 0 F_ N300_) ∧ zRI F_ K_ 0 N300_ ∧ 0 ≤ ze N300_ 81 43 ∧ ze N300_ 81 43 ≤ 30 ∧ ze Mz 81 4 ≤ ze N300_ 81 4) ∨ ((0 : Int) = 0 ∧ ze N300_ 81 7 = 0 ∧ ze Mz 81 7 = 0 ∧ zRea (zfs b_ n_ F_ K_ nm_) (0, (ze Mz 81 4).toNat, [], [], 0, false) (zRst 2 F_ N300_) ∧ zRI F_ K_ 1 N300_ ∧ 0 ≤ ze N300_ 81 43 ∧ ze N300_ 81 43 ≤ 30 ∧ (zrS N300_).head? ≠ some 1 ∧ ¬ (zisg b_ n_ (ze N300_ 81 4).toNat 42 ∨ zisg b_ n_ (ze N300_ 81 4).toNat 43 ∨ zisg b_ n_ (ze N300_ 81 4).toNat 45) ∧ ze Mz 81 4 ≤ ze N300_ 81 4 ∧ ¬ (zisg b_ n_ (ze N300_ 81 4).toNat 41 ∧ 0 ∈ zrS N300_)) from Or.inr (Or.inr (⟨(show (0 : Int) = 0 by first | rfl | assumption | omega | exact fun _ => hrt_ | exact hx0_ | exact hx1_ | exact hg0_ | exact hg1_), (show ze N300_ 81 7 = 0 by first | rfl | assumption | omega | exact fun _ => hrt_ | exact hx0_ | exact hx1_ | exact hg0_ | exact hg1_), (show ze Mz 81 7 = 0 by first | rfl | assumption | omega | exact fun _ => hrt_ | exact hx0_ | exact hx1_ | exact hg0_ | exact hg1_), (show zRea (zfs b_ n_ F_ K_ nm_) (0, (ze Mz 81 4).toNat, [], [], 0, false) (zRst 2 F_ N300_) by first | rfl | assumption | omega | exact fun _ => hrt_ | exact hx0_ | exact hx1_ | exact hg0_ | exact hg1_), (show zRI F_ K_ 1 N300_ by first | rfl | assumption | omega | exact fun _ => hrt_ | exact hx0_ | exact hx1_ | exact hg0_ | exact hg1_), (show 0 ≤ ze N300_ 81 43 by first | rfl | assumption | omega | exact fun _ => hrt_ | exact hx0_ | exact hx1_ | exact hg0_ | exact hg1_), (show ze N300_ 81 43 ≤ 30 by first | rfl | assumption | omega | exact fun _ => hrt_ | exact hx0_ | exact hx1_ | exact hg0_ | exact hg1_), (show (zrS N300_).head? ≠ some 1 by first | rfl | assumption | omega | exact fun _ => hrt_ | exact hx0_ | exact hx1_ | exact hg0_ | exact hg1_), (show ¬ (zisg b_ n_ (ze N300_ 81 4).toNat 42 ∨ zisg b_ n_ (ze N300_ 81 4).toNat 43 ∨ zisg b_ n_ (ze N300_ 81 4).toNat 45) by first | rfl | assumption | omega | exact fun _ => hrt_ | exact hx0_ | exact hx1_ | exact hg0_ | exact hg1_), (show ze Mz 81 4 ≤ ze N300_ 81 4 by first | rfl | assumption | omega | exact fun _ => hrt_ | exact hx0_ | exact hx1_ | exact hg0_ | exact hg1_), (show ¬ (zisg b_ n_ (ze N300_ 81 4).toNat 41 ∧ 0 ∈ zrS N300_) by first | rfl | assumption | omega | exact fun _ => hrt_ | exact hx0_ | exact hx1_ | exact hg0_ | exact hg1_)⟩))) (by have m1_ := zmF_c n_ N300_; have m2_ := zmF_c n_ N27_; have m3_ := i302_.x; omega)
                                                            · skip
                                                              exact absurd hc_112 (by decide)
                                                      · skip
                                                        have hC_ := ha102_0_hp0_N313_ (by (exact hl88_0_i303_))
                                                        have hn41_ : ¬ (zisg b_ n_ (ze N300_ 81 4).toNat 41 ∧ 0 ∈ zrS N300_) := fun q_ => hC_ q_.1
                                                        show zW l m_M_formula (zn Mz + 0, zw Mz + 0) N300_ 105 [some (.ref 81), some (.int (Int32.ofInt 0))] [.int (Int32.ofInt 0)] _
                                                        refine zr_if_eq (pc := 105) (tgt := 27) ⟨(by decide), (by decide)⟩ (by decide) d_M_formula_105 (fun hc_105 => ?_) (fun hc_105 => ?_)
                                                        · skip
                                                          exact ih_27 0 (by decide) (by decide) (by (exact hu299_z)) N300_ hb0_N300_ i302_ (show (1 ≤ ze N300_ 81 7 ∧ (ze Mz 81 7 = 0 → zRea (zfs b_ n_ F_ K_ nm_) (0, (ze Mz 81 4).toNat, [], [], 0, false) zFt)) ∨ ((0 : Int) = 1 ∧ ze N300_ 81 7 = 0 ∧ ze Mz 81 7 = 0 ∧ zRea (zfs b_ n_ F_ K_ nm_) (0, (ze Mz 81 4).toNat, [], [], 0, false) (zRst 0 F_ N300_) ∧ zRI F_ K_ 0 N300_ ∧ 0 ≤ ze N300_ 81 43 ∧ ze N300_ 81 43 ≤ 30 ∧ ze Mz 81 4 ≤ ze N300_ 81 4) ∨ ((0 : Int) = 0 ∧ ze N300_ 81 7 = 0 ∧ ze Mz 81 7 = 0 ∧ zRea (zfs b_ n_ F_ K_ nm_) (0, (ze Mz 81 4).toNat, [], [], 0, false) (zRst 2 F_ N300_) ∧ zRI F_ K_ 1 N300_ ∧ 0 ≤ ze N300_ 81 43 ∧ ze N300_ 81 43 ≤ 30 ∧ (zrS N300_).head? ≠ some 1 ∧ ¬ (zisg b_ n_ (ze N300_ 81 4).toNat 42 ∨ zisg b_ n_ (ze N300_ 81 4).toNat 43 ∨ zisg b_ n_ (ze N300_ 81 4).toNat 45) ∧ ze Mz 81 4 ≤ ze N300_ 81 4 ∧ ¬ (zisg b_ n_ (ze N300_ 81 4).toNat 41 ∧ 0 ∈ zrS N300_)) from Or.inr (Or.inr (⟨(show (0 : Int) = 0 by first | rfl | assumption | omega | exact fun _ => hrt_ | exact hx0_ | exact hx1_ | exact hg0_ | exact hg1_), (show ze N300_ 81 7 = 0 by first | rfl | assumption | omega | exact fun _ => hrt_ | exact hx0_ | exact hx1_ | exact hg0_ | exact hg1_), (show ze Mz 81 7 = 0 by first | rfl | assumption | omega | exact fun _ => hrt_ | exact hx0_ | exact hx1_ | exact hg0_ | exact hg1_), (show zRea (zfs b_ n_ F_ K_ nm_) (0, (ze Mz 81 4).toNat, [], [], 0, false) (zRst 2 F_ N300_) by first | rfl | assumption | omega | exact fun _ => hrt_ | exact hx0_ | exact hx1_ | exact hg0_ | exact hg1_), (show zRI F_ K_ 1 N300_ by first | rfl | assumption | omega | exact fun _ => hrt_ | exact hx0_ | exact hx1_ | exact hg0_ | exact hg1_), (show 0 ≤ ze N300_ 81 43 by first | rfl | assumption | omega | exact fun _ => hrt_ | exact hx0_ | exact hx1_ | exact hg0_ | exact hg1_), (show ze N300_ 81 43 ≤ 30 by first | rfl | assumption | omega | exact fun _ => hrt_ | exact hx0_ | exact hx1_ | exact hg0_ | exact hg1_), (show (zrS N300_).head? ≠ some 1 by first | rfl | assumption | omega | exact fun _ => hrt_ | exact hx0_ | exact hx1_ | exact hg0_ | exact hg1_), (show ¬ (zisg b_ n_ (ze N300_ 81 4).toNat 42 ∨ zisg b_ n_ (ze N300_ 81 4).toNat 43 ∨ zisg b_ n_ (ze N300_ 81 4).toNat 45) by first | rfl | assumption | omega | exact fun _ => hrt_ | exact hx0_ | exact hx1_ | exact hg0_ | exact hg1_), (show ze Mz 81 4 ≤ ze N300_ 81 4 by first | rfl | assumption | omega | exact fun _ => hrt_ | exact hx0_ | exact hx1_ | exact hg0_ | exact hg1_), (show ¬ (zisg b_ n_ (ze N300_ 81 4).toNat 41 ∧ 0 ∈ zrS N300_) by first | rfl | assumption | omega | exact fun _ => hrt_ | exact hx0_ | exact hx1_ | exact hg0_ | exact hg1_)⟩))) (by have m1_ := zmF_c n_ N300_; have m2_ := zmF_c n_ N27_; have m3_ := i302_.x; omega)
                                                        · skip
                                                          exact absurd hc_105 (by decide)
                                                · skip
                                                  exfalso; (exact zo_260 hl88_0_i303_ ha89_0_hp0_N311_)
                                          exact lp_88 _ 0 (by decide) (by decide) (by (decide)) N240_ zFr.rf hp0_N240_ (show (1 ≤ ze N240_ 81 7 ∧ (ze Mz 81 7 = 0 → zRea (zfs b_ n_ F_ K_ nm_) (0, (ze Mz 81 4).toNat, [], [], 0, false) zFt)) ∨ ((0 : Int) = 1 ∧ ze N240_ 81 7 = 0 ∧ ze Mz 81 7 = 0 ∧ zRea (zfs b_ n_ F_ K_ nm_) (0, (ze Mz 81 4).toNat, [], [], 0, false) (zRst 0 F_ N240_) ∧ zRI F_ K_ 0 N240_ ∧ 0 ≤ ze N240_ 81 43 ∧ ze N240_ 81 43 ≤ 30 ∧ ze Mz 81 4 ≤ ze N240_ 81 4 ∧ ze N27_ 81 4 < ze N240_ 81 4) ∨ ((0 : Int) = 0 ∧ ze N240_ 81 7 = 0 ∧ ze Mz 81 7 = 0 ∧ zRea (zfs b_ n_ F_ K_ nm_) (0, (ze Mz 81 4).toNat, [], [], 0, false) (zRst 2 F_ N240_) ∧ zRI F_ K_ 1 N240_ ∧ 0 ≤ ze N240_ 81 43 ∧ ze N240_ 81 43 ≤ 30 ∧ (zrS N240_).head? ≠ some 1 ∧ ¬ (zisg b_ n_ (ze N240_ 81 4).toNat 42 ∨ zisg b_ n_ (ze N240_ 81 4).toNat 43 ∨ zisg b_ n_ (ze N240_ 81 4).toNat 45) ∧ ze Mz 81 4 ≤ ze N240_ 81 4 ∧ ze N27_ 81 4 < ze N240_ 81 4) from Or.inr (Or.inr (⟨(show (0 : Int) = 0 by first | rfl | assumption | omega | exact fun _ => hrt_ | exact hg0_ | exact hg1_), (show ze N240_ 81 7 = 0 by first | rfl | assumption | (exact zo_610 e7_N240_ ha65_0_hp2_N177_) | exact fun _ => hrt_ | exact hg0_ | exact hg1_), (show ze Mz 81 7 = 0 by first | rfl | assumption | omega | exact fun _ => hrt_ | exact hg0_ | exact hg1_), (show zRea (zfs b_ n_ F_ K_ nm_) (0, (ze Mz 81 4).toNat, [], [], 0, false) (zRst 2 F_ N240_) by first | rfl | assumption | omega | exact fun _ => hrt_ | exact hg0_ | exact hg1_), (show zRI F_ K_ 1 N240_ by first | rfl | assumption | omega | exact fun _ => hrt_ | exact hg0_ | exact hg1_), (show 0 ≤ ze N240_ 81 43 by first | rfl | assumption | (exact zo_622 ha46_4_hp1_N112_ hp1_N177_ hp1_N240_) | exact fun _ => hrt_ | exact hg0_ | exact hg1_), (show ze N240_ 81 43 ≤ 30 by first | rfl | assumption | (exact zo_623 ha46_5_hp1_N112_ hp1_N177_ hp1_N240_) | exact fun _ => hrt_ | exact hg0_ | exact hg1_), (show (zrS N240_).head? ≠ some 1 by first | rfl | assumption | omega | exact fun _ => hrt_ | exact hg0_ | exact hg1_), (show ¬ (zisg b_ n_ (ze N240_ 81 4).toNat 42 ∨ zisg b_ n_ (ze N240_ 81 4).toNat 43 ∨ zisg b_ n_ (ze N240_ 81 4).toNat 45) by first | rfl | assumption | omega | exact fun _ => hrt_ | exact hg0_ | exact hg1_), (show ze Mz 81 4 ≤ ze N240_ 81 4 by first | rfl | assumption | (exact zo_626 ha46_3_hp1_N112_ ha65_4_hp2_N177_ ha76_4_hp2_N240_ hl38_6_i46_ r4_N240_.1 r_4.2) | exact fun _ => hrt_ | exact hg0_ | exact hg1_), (show ze N27_ 81 4 < ze N240_ 81 4 by first | rfl | assumption | (exact zo_627 ha46_3_hp1_N112_ ha65_4_hp2_N177_ ha76_4_hp2_N240_ hl38_7_i46_) | exact fun _ => hrt_ | exact hg0_ | exact hg1_)⟩))) (Nat.lt_succ_self _)
                                        · skip
                                          exact absurd hc_79 (by decide)
                                  · skip
                                    exfalso; (exact zo_260 ha65_0_hp2_N177_ ha69_0_hp0_N238_)
                            · skip
                              exfalso; (exact zo_260 ha46_0_hp1_N112_ ha58_0_hp0_N175_)
                          · skip
                            exact absurd hc_49 (by decide)
                    · skip
                      exfalso; (exact zo_260 hl38_0_i46_ ha39_0_hp0_N110_)
              exact lp_38 _ 1 (by decide) (by decide) (by (exact hu26_z)) N27_ zFr.rf i29_ (show (1 ≤ ze N27_ 81 7 ∧ (ze Mz 81 7 = 0 → zRea (zfs b_ n_ F_ K_ nm_) (0, (ze Mz 81 4).toNat, [], [], 0, false) zFt)) ∨ (ze N27_ 81 7 = 0 ∧ ze Mz 81 7 = 0 ∧ zRea (zfs b_ n_ F_ K_ nm_) (0, (ze Mz 81 4).toNat, [], [], 0, false) (zRst 0 F_ N27_) ∧ zRI F_ K_ 0 N27_ ∧ 0 ≤ ze N27_ 81 43 ∧ ze N27_ 81 43 ≤ 30 ∧ ze Mz 81 4 ≤ ze N27_ 81 4 ∧ ze N27_ 81 4 ≤ ze N27_ 81 4) from Or.inr (⟨(show ze N27_ 81 7 = 0 by first | rfl | assumption | omega | exact fun _ => hrt_ | exact hg0_ | exact hg1_), (show ze Mz 81 7 = 0 by first | rfl | assumption | omega | exact fun _ => hrt_ | exact hg0_ | exact hg1_), (show zRea (zfs b_ n_ F_ K_ nm_) (0, (ze Mz 81 4).toNat, [], [], 0, false) (zRst 0 F_ N27_) by first | rfl | assumption | omega | exact fun _ => hrt_ | exact hg0_ | exact hg1_), (show zRI F_ K_ 0 N27_ by first | rfl | assumption | omega | exact fun _ => hrt_ | exact hg0_ | exact hg1_), (show 0 ≤ ze N27_ 81 43 by first | rfl | assumption | omega | exact fun _ => hrt_ | exact hg0_ | exact hg1_), (show ze N27_ 81 43 ≤ 30 by first | rfl | assumption | omega | exact fun _ => hrt_ | exact hg0_ | exact hg1_), (show ze Mz 81 4 ≤ ze N27_ 81 4 by first | rfl | assumption | omega | exact fun _ => hrt_ | exact hg0_ | exact hg1_), (show ze N27_ 81 4 ≤ ze N27_ 81 4 by first | rfl | assumption | (exact zo_628) | exact fun _ => hrt_ | exact hg0_ | exact hg1_)⟩)) (Nat.lt_succ_self _)
        · skip
          exfalso; (exact zo_260 hl27_0_i30_ ha28_0_hp0_N40_)
      · skip
        have hr2_ := hl27_2_i30_
        have hc2_ := hl27_3_i30_
        have hh2_ := hl27_6_i30_
        have hn4_ := hl27_7_i30_
        have hn1_ := hl27_9_i30_
        refine zw_aload_n (pc := 27) (n := 0) (x := 81) rfl (zdal_p dlC_M_formula_94 (i := 17) rfl) ?_
        refine zr_callV (hf_N27_.w hW) hf_N27_.x (pc := 28) [] [] l_M_183 (c_M_isGood l N27_ (hf_N27_.w hW) ) rfl rfl rfl (by decide) (Nat.le_of_ble_eq_true rfl) (zdal_p dlC_M_formula_94 (i := 18) rfl) ?_
        rintro _ N353_ ⟨v354_, rfl, ⟨hv354_a, hv354_b⟩, hsN353_, hp0_N353_⟩
        obtain rfl := hsN353_.eq.symm
        replace hp0_N353_ : ((v354_ = 1 ∧ ze N27_ 81 7 = 0) ∨ (v354_ = 0 ∧ ze N27_ 81 7 ≠ 0)) := hp0_N353_
        rcases hp0_N353_ with ⟨rfl, ha28_0_hp0_N353_⟩ | ⟨rfl, ha28_0_hp0_N353_⟩
        · skip
          show zW l m_M_formula (zn Mz + 0, zw Mz + 0) N27_ 31 [some (.ref 81), some (.int (Int32.ofInt 0))] [.int (Int32.ofInt 1)] _
          refine zr_if_eq (pc := 31) (tgt := 171) ⟨(by decide), (by decide)⟩ (by decide) (zdal_p dlC_M_formula_94 (i := 19) rfl) (fun hc_31 => ?_) (fun hc_31 => ?_)
          · skip
            exact absurd hc_31 (by decide)
          · skip
            refine zw_iload_n (pc := 34) (n := 1) (x := Int32.ofInt 0) rfl (zdal_p dlC_M_formula_94 (i := 20) rfl) ?_
            refine zr_if_eq (pc := 35) (tgt := 171) ⟨(by decide), (by decide)⟩ (by decide) (zdal_p dlC_M_formula_94 (i := 21) rfl) (fun hc_35 => ?_) (fun hc_35 => ?_)
            · skip
              refine zw_aload_n (pc := 171) (n := 0) (x := 81) rfl (zdal_p dlC_M_formula_97 (i := 16) rfl) ?_
              refine zr_callV (hf_N27_.w hW) hf_N27_.x (pc := 172) [] [] l_M_183 (c_M_isGood l N27_ (hf_N27_.w hW) ) rfl rfl rfl (by decide) (Nat.le_of_ble_eq_true rfl) (zdal_p dlC_M_formula_97 (i := 17) rfl) ?_
              rintro _ N355_ ⟨v356_, rfl, ⟨hv356_a, hv356_b⟩, hsN355_, hp0_N355_⟩
              obtain rfl := hsN355_.eq.symm
              replace hp0_N355_ : ((v356_ = 1 ∧ ze N27_ 81 7 = 0) ∨ (v356_ = 0 ∧ ze N27_ 81 7 ≠ 0)) := hp0_N355_
              rcases hp0_N355_ with ⟨rfl, ha172_0_hp0_N355_⟩ | ⟨rfl, ha172_0_hp0_N355_⟩
              · skip
                show zW l m_M_formula (zn Mz + 0, zw Mz + 0) N27_ 175 [some (.ref 81), some (.int (Int32.ofInt 0))] [.int (Int32.ofInt 1)] _
                refine zr_if_eq (pc := 175) (tgt := 190) ⟨(by decide), (by decide)⟩ (by decide) (zdal_p dlC_M_formula_97 (i := 18) rfl) (fun hc_175 => ?_) (fun hc_175 => ?_)
                · skip
                  exact absurd hc_175 (by decide)
                · skip
                  refine zw_aload_n (pc := 178) (n := 0) (x := 81) rfl (zdal_p dlC_M_formula_97 (i := 19) rfl) ?_
                  refine zr_callV (hf_N27_.w hW) hf_N27_.x (pc := 179) [] [] l_M_352 (c_M_isOpenF l N27_ (hf_N27_.w hW) F_ K_ hc2_) rfl rfl rfl (by decide) (Nat.le_of_ble_eq_true rfl) (zdal_p dlC_M_formula_97 (i := 20) rfl) ?_
                  rintro _ N357_ ⟨v358_, rfl, ⟨hv358_a, hv358_b⟩, hsN357_, hp0_N357_⟩
                  obtain rfl := hsN357_.eq.symm
                  replace hp0_N357_ : ((v358_ = 1 ∧ 0 ∈ zrS N27_) ∨ (v358_ = 0 ∧ ¬ 0 ∈ zrS N27_)) := hp0_N357_
                  rcases hp0_N357_ with ⟨rfl, ha179_0_hp0_N357_⟩ | ⟨rfl, ha179_0_hp0_N357_⟩
                  · skip
                    have hrt_ := hr2_.tr (zRea.st (zr2_f (F := F_) (K := K_) (nm := nm_) hn4_ hn1_ ha179_0_hp0_N357_))
                    show zW l m_M_formula (zn Mz + 0, zw Mz + 0) N27_ 182 [some (.ref 81), some (.int (Int32.ofInt 0))] [.int (Int32.ofInt 1)] _
                    refine zr_if_eq (pc := 182) (tgt := 190) ⟨(by decide), (by decide)⟩ (by decide) (zdal_p dlC_M_formula_97 (i := 21) rfl) (fun hc_182 => ?_) (fun hc_182 => ?_)
                    · skip
                      exact absurd hc_182 (by decide)
                    · skip
                      refine zw_aload_n (pc := 185) (n := 0) (x := 81) rfl (zdal_p dlC_M_formula_97 (i := 22) rfl) ?_
                      refine zw_iconst (pc := 186) (v := Int32.ofInt 2) (by decide) (zdal_p dlC_M_formula_97 (i := 23) rfl) ?_
                      refine zr_callV (hf_N27_.w hW) hf_N27_.x (pc := 187) [.int (Int32.ofInt 2)] [] l_M_190 (c_M_wrongF l N27_ (hf_N27_.w hW) 2 (by decide) (by decide) (show 1 ≤ 2 by first | (decide) | assumption)) rfl rfl rfl (by decide) (Nat.le_of_ble_eq_true rfl) (zdal_p dlC_M_formula_98 (i := 0) rfl) ?_
                      rintro _ N359_ ⟨rfl, hsN359_, hp0_N359_⟩
                      replace hp0_N359_ : 1 ≤ ze N359_ 81 7 := hp0_N359_
                      have hf_N359_ := hf_N27_.tr hsN359_ (by decide +kernel) (by decide +kernel)
                      have e3_N359_ : ze N359_ 81 3 = ze N27_ 81 3 := hsN359_.e (by decide)
                      have e4_N359_ : ze N359_ 81 4 = ze N27_ 81 4 := hsN359_.e (by decide)
                      have r7_N359_ := ze_r N359_ 81 7
                      have e38_N359_ : ze N359_ 81 38 = ze N27_ 81 38 := hsN359_.e (by decide)
                      have e39_N359_ : ze N359_ 81 39 = ze N27_ 81 39 := hsN359_.e (by decide)
                      have e41_N359_ : ze N359_ 81 41 = ze N27_ 81 41 := hsN359_.e (by decide)
                      have e42_N359_ : ze N359_ 81 42 = ze N27_ 81 42 := hsN359_.e (by decide)
                      have e43_N359_ : ze N359_ 81 43 = ze N27_ 81 43 := hsN359_.e (by decide)
                      have qzrS_N359_ : zrS N359_ = zrS N27_ := zrS_q hsN359_ (by decide)
                      have qzrG_N359_ : zrG N359_ = zrG N27_ := zrG_q hsN359_ (by decide)
                      have qzrW_N359_ : zrW F_ N359_ = zrW F_ N27_ := zrW_q hsN359_ (by decide)
                      have c361_ : zRmk F_ K_ N359_ := zRmk.fr hsN359_ c31_ (by decide +kernel) (by decide +kernel)
                      have c362_ : zRb b_ n_ N359_ := zRb.fr hsN359_ c32_ (by decide +kernel) (by decide +kernel)
                      have c363_ : zRNm nm_ F_ K_ b_ n_ N359_ := zRNm.fr hsN359_ c33_ (by decide +kernel) (by decide +kernel)
                      have c364_ : zRt b_ n_ N359_ := zRt.fr hsN359_ i29_ (by decide +kernel) (by decide +kernel)
                      have c365_ : zRI F_ K_ 1 N359_ := zRI.fr hsN359_ hc2_ (by decide +kernel) (by decide +kernel)
                      show zW l m_M_formula (zn Mz + 0, zw Mz + 0) N359_ 190 [some (.ref 81), some (.int (Int32.ofInt 0))] [] _
                      refine zw_aload_n (pc := 190) (n := 0) (x := 81) rfl (zdal_p dlC_M_formula_98 (i := 1) rfl) ?_
                      refine zr_callV (hf_N359_.w hW) hf_N359_.x (pc := 191) [] [] l_M_183 (c_M_isGood l N359_ (hf_N359_.w hW) ) rfl rfl rfl (by decide) (Nat.le_of_ble_eq_true rfl) (zdal_p dlC_M_formula_98 (i := 2) rfl) ?_
                      rintro _ N366_ ⟨v367_, rfl, ⟨hv367_a, hv367_b⟩, hsN366_, hp0_N366_⟩
                      obtain rfl := hsN366_.eq.symm
                      replace hp0_N366_ : ((v367_ = 1 ∧ ze N359_ 81 7 = 0) ∨ (v367_ = 0 ∧ ze N359_ 81 7 ≠ 0)) := hp0_N366_
                      rcases hp0_N366_ with ⟨rfl, ha191_0_hp0_N366_⟩ | ⟨rfl, ha191_0_hp0_N366_⟩
                      · skip
                        exfalso; (exact zo_281 ha191_0_hp0_N366_ hp0_N359_)
                      · skip
                        show zW l m_M_formula (zn Mz + 0, zw Mz + 0) N359_ 194 [some (.ref 81), some (.int (Int32.ofInt 0))] [.int (Int32.ofInt 0)] _
                        refine zr_if_eq (pc := 194) (tgt := 202) ⟨(by decide), (by decide)⟩ (by decide) (zdal_p dlC_M_formula_98 (i := 3) rfl) (fun hc_194 => ?_) (fun hc_194 => ?_)
                        · skip
                          exact zr_vret (pc := 202) rfl hf_N359_ ⟨c364_, (show ((1 ≤ ze N359_ 81 7 ∧ (ze Mz 81 7 = 0 → zRea (zfs b_ n_ F_ K_ nm_) (0, (ze Mz 81 4).toNat, [], [], 0, false) zFt)) ∨ (ze N359_ 81 7 = 0 ∧ ze Mz 81 7 = 0 ∧ zRea (zfs b_ n_ F_ K_ nm_) (0, (ze Mz 81 4).toNat, [], [], 0, false) (zRst 3 F_ N359_) ∧ zRI F_ K_ 1 N359_ ∧ zrS N359_ = [] ∧ ze Mz 81 4 ≤ ze N359_ 81 4)) from Or.inl (⟨(show 1 ≤ ze N359_ 81 7 by first | (exact hp0_N359_) | assumption | exact fun _ => hrt_), (show (ze Mz 81 7 = 0 → zRea (zfs b_ n_ F_ K_ nm_) (0, (ze Mz 81 4).toNat, [], [], 0, false) zFt) by first | omega | assumption | exact fun _ => hrt_)⟩))⟩ (zdal_p dlC_M_formula_98 (i := 7) rfl)
                        · skip
                          exact absurd hc_194 (by decide)
                  · skip
                    have hnb_ := ha179_0_hp0_N357_
                    show zW l m_M_formula (zn Mz + 0, zw Mz + 0) N27_ 182 [some (.ref 81), some (.int (Int32.ofInt 0))] [.int (Int32.ofInt 0)] _
                    refine zr_if_eq (pc := 182) (tgt := 190) ⟨(by decide), (by decide)⟩ (by decide) (zdal_p dlC_M_formula_97 (i := 21) rfl) (fun hc_182 => ?_) (fun hc_182 => ?_)
                    · skip
                      refine zw_aload_n (pc := 190) (n := 0) (x := 81) rfl (zdal_p dlC_M_formula_98 (i := 1) rfl) ?_
                      refine zr_callV (hf_N27_.w hW) hf_N27_.x (pc := 191) [] [] l_M_183 (c_M_isGood l N27_ (hf_N27_.w hW) ) rfl rfl rfl (by decide) (Nat.le_of_ble_eq_true rfl) (zdal_p dlC_M_formula_98 (i := 2) rfl) ?_
                      rintro _ N368_ ⟨v369_, rfl, ⟨hv369_a, hv369_b⟩, hsN368_, hp0_N368_⟩
                      obtain rfl := hsN368_.eq.symm
                      replace hp0_N368_ : ((v369_ = 1 ∧ ze N27_ 81 7 = 0) ∨ (v369_ = 0 ∧ ze N27_ 81 7 ≠ 0)) := hp0_N368_
                      rcases hp0_N368_ with ⟨rfl, ha191_0_hp0_N368_⟩ | ⟨rfl, ha191_0_hp0_N368_⟩
                      · skip
                        show zW l m_M_formula (zn Mz + 0, zw Mz + 0) N27_ 194 [some (.ref 81), some (.int (Int32.ofInt 0))] [.int (Int32.ofInt 1)] _
                        refine zr_if_eq (pc := 194) (tgt := 202) ⟨(by decide), (by decide)⟩ (by decide) (zdal_p dlC_M_formula_98 (i := 3) rfl) (fun hc_194 => ?_) (fun hc_194 => ?_)
                        · skip
                          exact absurd hc_194 (by decide)
                        · skip
                          refine zw_aload_n (pc := 197) (n := 0) (x := 81) rfl (zdal_p dlC_M_formula_98 (i := 4) rfl) ?_
                          refine zw_iconst (pc := 198) (v := Int32.ofInt 2) (by decide) (zdal_p dlC_M_formula_98 (i := 5) rfl) ?_
                          refine zr_callV (hf_N27_.w hW) hf_N27_.x (pc := 199) [.int (Int32.ofInt 2)] [] l_M_337 (c_M_worksF l N27_ (hf_N27_.w hW) 2 (by decide) (by decide) F_ K_ hA_ c31_ hc2_ (show 2 ≤ 2 by first | (decide) | assumption) (show 2 ≤ 4 by first | (decide) | assumption)) rfl rfl rfl (by decide) (Nat.le_of_ble_eq_true rfl) (zdal_p dlC_M_formula_98 (i := 6) rfl) ?_
                          rintro _ N370_ ⟨rfl, hsN370_, ⟨hp0_N370_, hp1_N370_, hp2_N370_, hp3_N370_⟩⟩
                          have hf_N370_ := hf_N27_.tr hsN370_ (by decide +kernel) (by decide +kernel)
                          have e3_N370_ : ze N370_ 81 3 = ze N27_ 81 3 := hsN370_.e (by decide)
                          have e4_N370_ : ze N370_ 81 4 = ze N27_ 81 4 := hsN370_.e (by decide)
                          have e7_N370_ : ze N370_ 81 7 = ze N27_ 81 7 := hsN370_.e (by decide)
                          have r38_N370_ := ze_r N370_ 81 38
                          have r39_N370_ := ze_r N370_ 81 39
                          have r41_N370_ := ze_r N370_ 81 41
                          have e42_N370_ : ze N370_ 81 42 = ze N27_ 81 42 := hsN370_.e (by decide)
                          have e43_N370_ : ze N370_ 81 43 = ze N27_ 81 43 := hsN370_.e (by decide)
                          have c372_ : zRmk F_ K_ N370_ := zRmk.fr hsN370_ c31_ (by decide +kernel) (by decide +kernel)
                          have c373_ : zRb b_ n_ N370_ := zRb.fr hsN370_ c32_ (by decide +kernel) (by decide +kernel)
                          have c374_ : zRNm nm_ F_ K_ b_ n_ N370_ := zRNm.fr hsN370_ c33_ (by decide +kernel) (by decide +kernel)
                          have c375_ : zRt b_ n_ N370_ := zRt.fr hsN370_ i29_ (by decide +kernel) (by decide +kernel)
                          show zW l m_M_formula (zn Mz + 0, zw Mz + 0) N370_ 202 [some (.ref 81), some (.int (Int32.ofInt 0))] [] _
                          have hw1_ := hp1_N370_
                          have hw2_ := hp2_N370_
                          have hw3_ := hp3_N370_ hh2_
                          have hcr_ := hp0_N370_
                          have hcr0_ := hcr_.1
                          have hcr2_ := hcr_.2.2.1
                          have hst3_ := hr2_.tr (zRea.st (zr2_e (F := F_) (K := K_) (nm := nm_) hn4_ hnb_ hw1_ (by (exact e43_N370_)) (by (exact e4_N370_))))
                          have hnl_ : zrS N370_ = [] := zhd_n (fun q_ => hnb_ ((zrk_m (by decide) _ _).mp (show 0 ∈ (zrk F_ K_ 2 _ _).1 from hw1_ ▸ (show 0 ∈ (zrS N370_, zrW F_ N370_, zrG N370_).1 from q_)))) hw3_ (fun y_ h_ => hw2_ y_ h_)
                          exact zr_vret (pc := 202) rfl hf_N370_ ⟨c375_, (show ((1 ≤ ze N370_ 81 7 ∧ (ze Mz 81 7 = 0 → zRea (zfs b_ n_ F_ K_ nm_) (0, (ze Mz 81 4).toNat, [], [], 0, false) zFt)) ∨ (ze N370_ 81 7 = 0 ∧ ze Mz 81 7 = 0 ∧ zRea (zfs b_ n_ F_ K_ nm_) (0, (ze Mz 81 4).toNat, [], [], 0, false) (zRst 3 F_ N370_) ∧ zRI F_ K_ 1 N370_ ∧ zrS N370_ = [] ∧ ze Mz 81 4 ≤ ze N370_ 81 4)) from Or.inr (⟨(show ze N370_ 81 7 = 0 by first | (exact zo_610 e7_N370_ hl27_0_i30_) | assumption | exact hst3_ | exact hcr_ | exact hnl_), (show ze Mz 81 7 = 0 by first | (exact hl27_1_i30_) | assumption | exact hst3_ | exact hcr_ | exact hnl_), (show zRea (zfs b_ n_ F_ K_ nm_) (0, (ze Mz 81 4).toNat, [], [], 0, false) (zRst 3 F_ N370_) by first | (exact hst3_) | assumption | exact hst3_ | exact hcr_ | exact hnl_), (show zRI F_ K_ 1 N370_ by first | (exact hp0_N370_) | assumption | exact hst3_ | exact hcr_ | exact hnl_), (show zrS N370_ = [] by first | (exact hnl_) | assumption | exact hst3_ | exact hcr_ | exact hnl_), (show ze Mz 81 4 ≤ ze N370_ 81 4 by first | (exact zo_629 e4_N370_ hl27_8_i30_) | assumption | exact hst3_ | exact hcr_ | exact hnl_)⟩))⟩ (zdal_p dlC_M_formula_98 (i := 7) rfl)
                      · skip
                        exfalso; (exact zo_260 hl27_0_i30_ ha191_0_hp0_N368_)
                    · skip
                      exact absurd hc_182 (by decide)
              · skip
                exfalso; (exact zo_260 hl27_0_i30_ ha172_0_hp0_N355_)
            · skip
              exact absurd hc_35 (by decide)
        · skip
          exfalso; (exact zo_260 hl27_0_i30_ ha28_0_hp0_N353_)
  exact lp_27 _ 1 (by decide) (by decide) (by (decide)) N21_ zFr.rf c24_ (show (1 ≤ ze N21_ 81 7 ∧ (ze Mz 81 7 = 0 → zRea (zfs b_ n_ F_ K_ nm_) (0, (ze Mz 81 4).toNat, [], [], 0, false) zFt)) ∨ ((1 : Int) = 1 ∧ ze N21_ 81 7 = 0 ∧ ze Mz 81 7 = 0 ∧ zRea (zfs b_ n_ F_ K_ nm_) (0, (ze Mz 81 4).toNat, [], [], 0, false) (zRst 0 F_ N21_) ∧ zRI F_ K_ 0 N21_ ∧ 0 ≤ ze N21_ 81 43 ∧ ze N21_ 81 43 ≤ 30 ∧ ze Mz 81 4 ≤ ze N21_ 81 4) ∨ ((1 : Int) = 0 ∧ ze N21_ 81 7 = 0 ∧ ze Mz 81 7 = 0 ∧ zRea (zfs b_ n_ F_ K_ nm_) (0, (ze Mz 81 4).toNat, [], [], 0, false) (zRst 2 F_ N21_) ∧ zRI F_ K_ 1 N21_ ∧ 0 ≤ ze N21_ 81 43 ∧ ze N21_ 81 43 ≤ 30 ∧ (zrS N21_).head? ≠ some 1 ∧ ¬ (zisg b_ n_ (ze N21_ 81 4).toNat 42 ∨ zisg b_ n_ (ze N21_ 81 4).toNat 43 ∨ zisg b_ n_ (ze N21_ 81 4).toNat 45) ∧ ze Mz 81 4 ≤ ze N21_ 81 4 ∧ ¬ (zisg b_ n_ (ze N21_ 81 4).toNat 41 ∧ 0 ∈ zrS N21_)) by by_cases g_ : ze Mz 81 7 = 0; exact Or.inr (Or.inl ⟨rfl, by (exact zo_630 e7_N11_ e7_N16_ e7_N1_ e7_N21_ e7_N6_ g_ p4_), g_, hst0_, hi1_, by (exact zo_631 e43_N21_ hvN16_), by (exact zo_632 e43_N21_ hvN16_), by (exact zo_633 e4_N11_ e4_N16_ e4_N1_ e4_N21_ e4_N6_)⟩); exact Or.inl ⟨by (exact zo_634 e7_N11_ e7_N16_ e7_N1_ e7_N21_ e7_N6_ p4_ g_), fun q_ => absurd q_ g_⟩) (Nat.lt_succ_self _)
