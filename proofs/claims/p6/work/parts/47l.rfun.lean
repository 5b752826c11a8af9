set_option maxHeartbeats 40000000 in
theorem c_M_formulaF (l : Launch) (Mz : zMem) (hW : zMt Mz) (F_ : Nat) (K_ : Nat → Nat → Int) (hA_ : zTA F_ K_) (b_ : Nat → Int) (n_ : Nat) (nm_ : List (Int × (Nat → Int))) (p0_ : zRmk F_ K_ Mz) (p1_ : zRb b_ n_ Mz) (p2_ : zRt b_ n_ Mz) (p3_ : zRNm nm_ F_ K_ b_ n_ Mz) (p4_ : 0 ≤ ze Mz 81 7) : zC l m_M_formula 0 0 [.ref 81] Mz (zpV [3, 4, 5, 6, 7, 8, 11, 38, 39, 41, 42, 43] [95, 96, 97, 100] Mz (fun N => zRt b_ n_ N ∧ (((1 ≤ ze N 81 7 ∧ (ze Mz 81 7 = 0 → zRea (zfs b_ n_ F_ K_ nm_) (0, (ze Mz 81 4).toNat, [], [], 0, false) zFt)) ∨ (ze N 81 7 = 0 ∧ ze Mz 81 7 = 0 ∧ zRea (zfs b_ n_ F_ K_ nm_) (0, (ze Mz 81 4).toNat, [], [], 0, false) (zRst 3 F_ N) ∧ zRI F_ K_ 1 N ∧ zrS N = [] ∧ ze Mz 81 4 ≤ ze N 81 4))))) := by
  refine zC_of (L0 := [some (.ref 81), none]) md_M_formula (Nat.le_of_ble_eq_true rfl) rfl ?_ zQ0
  have hf : zFr [3, 4, 5, 6, 7, 8, 11, 38, 39, 41, 42, 43] [95, 96, 97, 100] Mz Mz := zFr.rf
  have r_3 := ze_r Mz 81 3
  have r_4 := ze_r Mz 81 4
  have r_7 := ze_r Mz 81 7
  have r_38 := ze_r Mz 81 38
  have r_39 := ze_r Mz 81 39
  have r_41 := ze_r Mz 81 41
  have r_42 := ze_r Mz 81 42
  have r_43 := ze_r Mz 81 43
  obtain ⟨⟨hF1_, hF27_⟩, hAr_⟩ := id hA_
  obtain ⟨hFc_, hKt_⟩ := id p0_
  refine zw_aload_n (pc := 0) (n := 0) (x := 81) rfl (zdal_p dlC_M_formula_94 (i := 0) rfl) ?_
  refine zw_iconst (pc := 1) (v := Int32.ofInt 0) (by decide) (zdal_p dlC_M_formula_94 (i := 1) rfl) ?_
  refine zr_putI (hf.w hW) (pc := 2) f_M_268 rfl rfl ⟨by (decide), by (decide)⟩ rfl rfl (zdal_p dlC_M_formula_94 (i := 2) rfl) (fun N1_ hsN1_ hvN1_ => ?_)
  have hf_N1_ : zFr [3, 4, 5, 6, 7, 8, 11, 38, 39, 41, 42, 43] [95, 96, 97, 100] Mz N1_ := hf.tr hsN1_ (by decide) (by decide)
  have e3_N1_ : ze N1_ 81 3 = ze Mz 81 3 := hsN1_.e (by decide)
  have e4_N1_ : ze N1_ 81 4 = ze Mz 81 4 := hsN1_.e (by decide)
  have e7_N1_ : ze N1_ 81 7 = ze Mz 81 7 := hsN1_.e (by decide)
  have r38_N1_ := ze_r N1_ 81 38
  have e39_N1_ : ze N1_ 81 39 = ze Mz 81 39 := hsN1_.e (by decide)
  have e41_N1_ : ze N1_ 81 41 = ze Mz 81 41 := hsN1_.e (by decide)
  have e42_N1_ : ze N1_ 81 42 = ze Mz 81 42 := hsN1_.e (by decide)
  have e43_N1_ : ze N1_ 81 43 = ze Mz 81 43 := hsN1_.e (by decide)
  have qzrS_N1_ : zrS N1_ = zrS Mz := zrS_q hsN1_ (by decide)
  have qzrG_N1_ : zrG N1_ = zrG Mz := zrG_q hsN1_ (by decide)
  have c2_ : zRmk F_ K_ N1_ := zRmk.fr hsN1_ p0_ (by decide) (by decide)
  have c3_ : zRb b_ n_ N1_ := zRb.fr hsN1_ p1_ (by decide) (by decide)
  have c4_ : zRt b_ n_ N1_ := zRt.fr hsN1_ p2_ (by decide) (by decide)
  have c5_ : zRNm nm_ F_ K_ b_ n_ N1_ := zRNm.fr hsN1_ p3_ (by decide) (by decide)
  refine zw_aload_n (pc := 5) (n := 0) (x := 81) rfl (zdal_p dlC_M_formula_94 (i := 3) rfl) ?_
  refine zw_iconst (pc := 6) (v := Int32.ofInt 0) (by decide) (zdal_p dlC_M_formula_94 (i := 4) rfl) ?_
  refine zr_putI (hf_N1_.w hW) (pc := 7) f_M_305 rfl rfl ⟨by (decide), by (decide)⟩ rfl rfl (zdal_p dlC_M_formula_94 (i := 5) rfl) (fun N6_ hsN6_ hvN6_ => ?_)
  have hf_N6_ : zFr [3, 4, 5, 6, 7, 8, 11, 38, 39, 41, 42, 43] [95, 96, 97, 100] Mz N6_ := hf_N1_.tr hsN6_ (by decide) (by decide)
  have e3_N6_ : ze N6_ 81 3 = ze N1_ 81 3 := hsN6_.e (by decide)
  have e4_N6_ : ze N6_ 81 4 = ze N1_ 81 4 := hsN6_.e (by decide)
  have e7_N6_ : ze N6_ 81 7 = ze N1_ 81 7 := hsN6_.e (by decide)
  have e38_N6_ : ze N6_ 81 38 = ze N1_ 81 38 := hsN6_.e (by decide)
  have e39_N6_ : ze N6_ 81 39 = ze N1_ 81 39 := hsN6_.e (by decide)
  have r41_N6_ := ze_r N6_ 81 41
  have e42_N6_ : ze N6_ 81 42 = ze N1_ 81 42 := hsN6_.e (by decide)
  have e43_N6_ : ze N6_ 81 43 = ze N1_ 81 43 := hsN6_.e (by decide)
  have qzrG_N6_ : zrG N6_ = zrG N1_ := zrG_q hsN6_ (by decide)
  have qzrW_N6_ : zrW F_ N6_ = zrW F_ N1_ := zrW_q hsN6_ (by decide)
  have c7_ : zRmk F_ K_ N6_ := zRmk.fr hsN6_ c2_ (by decide) (by decide)
  have c8_ : zRb b_ n_ N6_ := zRb.fr hsN6_ c3_ (by decide) (by decide)
  have c9_ : zRt b_ n_ N6_ := zRt.fr hsN6_ c4_ (by decide) (by decide)
  have c10_ : zRNm nm_ F_ K_ b_ n_ N6_ := zRNm.fr hsN6_ c5_ (by decide) (by decide)
  refine zw_aload_n (pc := 10) (n := 0) (x := 81) rfl (zdal_p dlC_M_formula_94 (i := 6) rfl) ?_
  refine zw_iconst (pc := 11) (v := Int32.ofInt 0) (by decide) (zdal_p dlC_M_formula_94 (i := 7) rfl) ?_
  refine zr_putI (hf_N6_.w hW) (pc := 12) f_M_296 rfl rfl ⟨by (decide), by (decide)⟩ rfl rfl (zdal_p dlC_M_formula_94 (i := 8) rfl) (fun N11_ hsN11_ hvN11_ => ?_)
  have hf_N11_ : zFr [3, 4, 5, 6, 7, 8, 11, 38, 39, 41, 42, 43] [95, 96, 97, 100] Mz N11_ := hf_N6_.tr hsN11_ (by decide) (by decide)
  have e3_N11_ : ze N11_ 81 3 = ze N6_ 81 3 := hsN11_.e (by decide)
  have e4_N11_ : ze N11_ 81 4 = ze N6_ 81 4 := hsN11_.e (by decide)
  have e7_N11_ : ze N11_ 81 7 = ze N6_ 81 7 := hsN11_.e (by decide)
  have e38_N11_ : ze N11_ 81 38 = ze N6_ 81 38 := hsN11_.e (by decide)
  have e39_N11_ : ze N11_ 81 39 = ze N6_ 81 39 := hsN11_.e (by decide)
  have e41_N11_ : ze N11_ 81 41 = ze N6_ 81 41 := hsN11_.e (by decide)
  have r42_N11_ := ze_r N11_ 81 42
  have e43_N11_ : ze N11_ 81 43 = ze N6_ 81 43 := hsN11_.e (by decide)
  have qzrS_N11_ : zrS N11_ = zrS N6_ := zrS_q hsN11_ (by decide)
  have qzrG_N11_ : zrG N11_ = zrG N6_ := zrG_q hsN11_ (by decide)
  have qzrW_N11_ : zrW F_ N11_ = zrW F_ N6_ := zrW_q hsN11_ (by decide)
  have c12_ : zRmk F_ K_ N11_ := zRmk.fr hsN11_ c7_ (by decide) (by decide)
  have c13_ : zRb b_ n_ N11_ := zRb.fr hsN11_ c8_ (by decide) (by decide)
  have c14_ : zRt b_ n_ N11_ := zRt.fr hsN11_ c9_ (by decide) (by decide)
  have c15_ : zRNm nm_ F_ K_ b_ n_ N11_ := zRNm.fr hsN11_ c10_ (by decide) (by decide)
  refine zw_aload_n (pc := 15) (n := 0) (x := 81) rfl (zdal_p dlC_M_formula_94 (i := 9) rfl) ?_
  refine zw_iconst (pc := 16) (v := Int32.ofInt 0) (by decide) (zdal_p dlC_M_formula_94 (i := 10) rfl) ?_
  refine zr_putI (hf_N11_.w hW) (pc := 17) f_M_293 rfl rfl ⟨by (decide), by (decide)⟩ rfl rfl (zdal_p dlC_M_formula_94 (i := 11) rfl) (fun N16_ hsN16_ hvN16_ => ?_)
  have hf_N16_ : zFr [3, 4, 5, 6, 7, 8, 11, 38, 39, 41, 42, 43] [95, 96, 97, 100] Mz N16_ := hf_N11_.tr hsN16_ (by decide) (by decide)
  have e3_N16_ : ze N16_ 81 3 = ze N11_ 81 3 := hsN16_.e (by decide)
  have e4_N16_ : ze N16_ 81 4 = ze N11_ 81 4 := hsN16_.e (by decide)
  have e7_N16_ : ze N16_ 81 7 = ze N11_ 81 7 := hsN16_.e (by decide)
  have e38_N16_ : ze N16_ 81 38 = ze N11_ 81 38 := hsN16_.e (by decide)
  have e39_N16_ : ze N16_ 81 39 = ze N11_ 81 39 := hsN16_.e (by decide)
  have e41_N16_ : ze N16_ 81 41 = ze N11_ 81 41 := hsN16_.e (by decide)
  have e42_N16_ : ze N16_ 81 42 = ze N11_ 81 42 := hsN16_.e (by decide)
  have r43_N16_ := ze_r N16_ 81 43
  have qzrS_N16_ : zrS N16_ = zrS N11_ := zrS_q hsN16_ (by decide)
  have qzrG_N16_ : zrG N16_ = zrG N11_ := zrG_q hsN16_ (by decide)
  have qzrW_N16_ : zrW F_ N16_ = zrW F_ N11_ := zrW_q hsN16_ (by decide)
  have c17_ : zRmk F_ K_ N16_ := zRmk.fr hsN16_ c12_ (by decide) (by decide)
  have c18_ : zRb b_ n_ N16_ := zRb.fr hsN16_ c13_ (by decide) (by decide)
  have c19_ : zRt b_ n_ N16_ := zRt.fr hsN16_ c14_ (by decide) (by decide)
  have c20_ : zRNm nm_ F_ K_ b_ n_ N16_ := zRNm.fr hsN16_ c15_ (by decide) (by decide)
  refine zw_aload_n (pc := 20) (n := 0) (x := 81) rfl (zdal_p dlC_M_formula_94 (i := 12) rfl) ?_
  refine zw_iconst (pc := 21) (v := Int32.ofInt 0) (by decide) (zdal_p dlC_M_formula_94 (i := 13) rfl) ?_
  refine zr_putI (hf_N16_.w hW) (pc := 22) f_M_275 rfl rfl ⟨by (decide), by (decide)⟩ (z_narB (by (decide))) (z_fitB (by (decide))) (zdal_p dlC_M_formula_94 (i := 14) rfl) (fun N21_ hsN21_ hvN21_ => ?_)
  have hf_N21_ : zFr [3, 4, 5, 6, 7, 8, 11, 38, 39, 41, 42, 43] [95, 96, 97, 100] Mz N21_ := hf_N16_.tr hsN21_ (by decide) (by decide)
  have e3_N21_ : ze N21_ 81 3 = ze N16_ 81 3 := hsN21_.e (by decide)
  have e4_N21_ : ze N21_ 81 4 = ze N16_ 81 4 := hsN21_.e (by decide)
  have e7_N21_ : ze N21_ 81 7 = ze N16_ 81 7 := hsN21_.e (by decide)
  have e38_N21_ : ze N21_ 81 38 = ze N16_ 81 38 := hsN21_.e (by decide)
  have r39_N21_ := ze_r N21_ 81 39
  have e41_N21_ : ze N21_ 81 41 = ze N16_ 81 41 := hsN21_.e (by decide)
  have e42_N21_ : ze N21_ 81 42 = ze N16_ 81 42 := hsN21_.e (by decide)
  have e43_N21_ : ze N21_ 81 43 = ze N16_ 81 43 := hsN21_.e (by decide)
  have qzrS_N21_ : zrS N21_ = zrS N16_ := zrS_q hsN21_ (by decide)
  have c22_ : zRmk F_ K_ N21_ := zRmk.fr hsN21_ c17_ (by decide) (by decide)
  have c23_ : zRb b_ n_ N21_ := zRb.fr hsN21_ c18_ (by decide) (by decide)
  have c24_ : zRt b_ n_ N21_ := zRt.fr hsN21_ c19_ (by decide) (by decide)
  have c25_ : zRNm nm_ F_ K_ b_ n_ N21_ := zRNm.fr hsN21_ c20_ (by decide) (by decide)
  have hi_ := zRI_0 (F := F_) (K := K_) (Mz := N21_) (by (exact zo_595 e41_N11_ e41_N16_ e41_N21_ hvN6_)) (by (exact zo_596 e42_N16_ e42_N21_ hvN11_)) (by (exact zo_597 e38_N11_ e38_N16_ e38_N21_ e38_N6_ hvN1_)) (by (exact hvN21_))
  have hst0_ : zRea (zfs b_ n_ F_ K_ nm_) (0, (ze Mz 81 4).toNat, [], [], 0, false) (zRst 0 F_ N21_) := by unfold zRst; rw [hi_.2.1, hi_.2.2.1, hi_.2.2.2, show ze N21_ 81 4 = ze Mz 81 4 by (exact zo_598 e4_N11_ e4_N16_ e4_N1_ e4_N21_ e4_N6_), show (ze N21_ 81 43).toNat = 0 by (exact zo_599 e43_N21_ hvN16_)]; exact zRea.rf
  have hi1_ := hi_.1
  refine zw_iconst (pc := 25) (v := Int32.ofInt 1) (by decide) (zdal_p dlC_M_formula_94 (i := 15) rfl) ?_
  refine zw_istore_n (pc := 26) (i := 1) (L2 := [some (.ref 81), some (.int (Int32.ofInt 1))]) rfl (by decide) rfl (zdal_p dlC_M_formula_94 (i := 16) rfl) ?_
  have lp_27 : ∀ (n : Nat) (u26_ : Int) (hu26_a : -2147483648 ≤ u26_) (hu26_b : u26_ < 2147483648) (hu26_z : u26_ = 0 ∨ u26_ = 1) (N27_ : zMem) (hs28_ : zFr [3, 4, 5, 6, 7, 8, 11, 38, 39, 41, 42, 43] [95, 96, 97, 100] N21_ N27_) (i29_ : zRt b_ n_ N27_) (i30_ : (1 ≤ ze N27_ 81 7 ∧ (ze Mz 81 7 = 0 → zRea (zfs b_ n_ F_ K_ nm_) (0, (ze Mz 81 4).toNat, [], [], 0, false) zFt)) ∨ (u26_ = 1 ∧ ze N27_ 81 7 = 0 ∧ ze Mz 81 7 = 0 ∧ zRea (zfs b_ n_ F_ K_ nm_) (0, (ze Mz 81 4).toNat, [], [], 0, false) (zRst 0 F_ N27_) ∧ zRI F_ K_ 0 N27_ ∧ 0 ≤ ze N27_ 81 43 ∧ ze N27_ 81 43 ≤ 30 ∧ ze Mz 81 4 ≤ ze N27_ 81 4) ∨ (u26_ = 0 ∧ ze N27_ 81 7 = 0 ∧ ze Mz 81 7 = 0 ∧ zRea (zfs b_ n_ F_ K_ nm_) (0, (ze Mz 81 4).toNat, [], [], 0, false) (zRst 2 F_ N27_) ∧ zRI F_ K_ 1 N27_ ∧ 0 ≤ ze N27_ 81 43 ∧ ze N27_ 81 43 ≤ 30 ∧ (zrS N27_).head? ≠ some 1 ∧ ¬ (zisg b_ n_ (ze N27_ 81 4).toNat 42 ∨ zisg b_ n_ (ze N27_ 81 4).toNat 43 ∨ zisg b_ n_ (ze N27_ 81 4).toNat 45) ∧ ze Mz 81 4 ≤ ze N27_ 81 4 ∧ ¬ (zisg b_ n_ (ze N27_ 81 4).toNat 41 ∧ 0 ∈ zrS N27_))), zmF n_ N27_ < n → zW l m_M_formula (zn Mz + 0, zw Mz + 0) N27_ 27 [some (.ref 81), some (.int (Int32.ofInt u26_))] [] (zpV [3, 4, 5, 6, 7, 8, 11, 38, 39, 41, 42, 43] [95, 96, 97, 100] Mz (fun N => zRt b_ n_ N ∧ (((1 ≤ ze N 81 7 ∧ (ze Mz 81 7 = 0 → zRea (zfs b_ n_ F_ K_ nm_) (0, (ze Mz 81 4).toNat, [], [], 0, false) zFt)) ∨ (ze N 81 7 = 0 ∧ ze Mz 81 7 = 0 ∧ zRea (zfs b_ n_ F_ K_ nm_) (0, (ze Mz 81 4).toNat, [], [], 0, false) (zRst 3 F_ N) ∧ zRI F_ K_ 1 N ∧ zrS N = [] ∧ ze Mz 81 4 ≤ ze N 81 4))))) := by
    clear hsN1_ hvN1_ hf_N1_ e3_N1_ e4_N1_ e7_N1_ r38_N1_ e39_N1_ e41_N1_ e42_N1_ e43_N1_ qzrS_N1_ qzrG_N1_ c2_ c3_ c4_ c5_ hsN6_ hvN6_ hf_N6_ e3_N6_ e4_N6_ e7_N6_ e38_N6_ e39_N6_ r41_N6_ e42_N6_ e43_N6_ qzrG_N6_ qzrW_N6_ c7_ c8_ c9_ c10_ hsN11_ hvN11_ hf_N11_ e3_N11_ e4_N11_ e7_N11_ e38_N11_ e39_N11_ e41_N11_ r42_N11_ e43_N11_ qzrS_N11_ qzrG_N11_ qzrW_N11_ c12_ c13_ c14_ c15_ hsN16_ hvN16_ hf_N16_ e3_N16_ e4_N16_ e7_N16_ e38_N16_ e39_N16_ e41_N16_ e42_N16_ r43_N16_ qzrS_N16_ qzrG_N16_ qzrW_N16_ c17_ c18_ c19_ c20_ hsN21_ e3_N21_ e4_N21_ e7_N21_ e38_N21_ e41_N21_ e42_N21_ e43_N21_ qzrS_N21_
    intro n
    induction n with
    | zero =>
      intro u26_ hu26_a hu26_b hu26_z N27_ hs28_ i29_ i30_ h0
      exact absurd h0 (Nat.not_lt_zero _)
    | succ n ih_27 =>
      intro u26_ hu26_a hu26_b hu26_z N27_ hs28_ i29_ i30_ hlt_27
      have hf_N27_ : zFr [3, 4, 5, 6, 7, 8, 11, 38, 39, 41, 42, 43] [95, 96, 97, 100] Mz N27_ := hf_N21_.tr hs28_ (by decide) (by decide)
      have r3_N27_ := ze_r N27_ 81 3
      have r4_N27_ := ze_r N27_ 81 4
      have r7_N27_ := ze_r N27_ 81 7
      have r38_N27_ := ze_r N27_ 81 38
      have r39_N27_ := ze_r N27_ 81 39
      have r41_N27_ := ze_r N27_ 81 41
      have r42_N27_ := ze_r N27_ 81 42
      have r43_N27_ := ze_r N27_ 81 43
      have c31_ : zRmk F_ K_ N27_ := zRmk.fr hs28_ c22_ (by decide) (by decide)
      have c32_ : zRb b_ n_ N27_ := zRb.fr hs28_ c23_ (by decide) (by decide)
      have c33_ : zRNm nm_ F_ K_ b_ n_ N27_ := zRNm.fr hs28_ c25_ (by decide) (by decide)
      rcases i30_ with ⟨hl27_0_i30_, hl27_1_i30_⟩ | ⟨rfl, hl27_0_i30_, hl27_1_i30_, hl27_2_i30_, hl27_3_i30_, hl27_4_i30_, hl27_5_i30_, hl27_6_i30_⟩ | ⟨rfl, hl27_0_i30_, hl27_1_i30_, hl27_2_i30_, hl27_3_i30_, hl27_4_i30_, hl27_5_i30_, hl27_6_i30_, hl27_7_i30_, hl27_8_i30_, hl27_9_i30_⟩
      · skip
        refine zw_aload_n (pc := 27) (n := 0) (x := 81) rfl (zdal_p dlC_M_formula_94 (i := 17) rfl) ?_
        refine zr_callV (hf_N27_.w hW) hf_N27_.x (pc := 28) [] [] l_M_183 (c_M_isGood l N27_ (hf_N27_.w hW) ) rfl rfl rfl (by decide) (Nat.le_of_ble_eq_true rfl) (zdal_p dlC_M_formula_94 (i := 18) rfl) ?_
        rintro _ N34_ ⟨v35_, rfl, ⟨hv35_a, hv35_b⟩, hsN34_, hp0_N34_⟩
        obtain rfl := hsN34_.eq.symm
        replace hp0_N34_ : ((v35_ = 1 ∧ ze N27_ 81 7 = 0) ∨ (v35_ = 0 ∧ ze N27_ 81 7 ≠ 0)) := hp0_N34_
        rcases hp0_N34_ with ⟨rfl, ha28_0_hp0_N34_⟩ | ⟨rfl, ha28_0_hp0_N34_⟩
        · skip
          exfalso; (exact zo_281 ha28_0_hp0_N34_ hl27_0_i30_)
        · skip
          show zW l m_M_formula (zn Mz + 0, zw Mz + 0) N27_ 31 [some (.ref 81), some (.int (Int32.ofInt u26_))] [.int (Int32.ofInt 0)] _
          refine zr_if_eq (pc := 31) (tgt := 171) ⟨(by decide), (by decide)⟩ (by decide) (zdal_p dlC_M_formula_94 (i := 19) rfl) (fun hc_31 => ?_) (fun hc_31 => ?_)
          · skip
            refine zw_aload_n (pc := 171) (n := 0) (x := 81) rfl (zdal_p dlC_M_formula_97 (i := 16) rfl) ?_
            refine zr_callV (hf_N27_.w hW) hf_N27_.x (pc := 172) [] [] l_M_183 (c_M_isGood l N27_ (hf_N27_.w hW) ) rfl rfl rfl (by decide) (Nat.le_of_ble_eq_true rfl) (zdal_p dlC_M_formula_97 (i := 17) rfl) ?_
            rintro _ N36_ ⟨v37_, rfl, ⟨hv37_a, hv37_b⟩, hsN36_, hp0_N36_⟩
            obtain rfl := hsN36_.eq.symm
            replace hp0_N36_ : ((v37_ = 1 ∧ ze N27_ 81 7 = 0) ∨ (v37_ = 0 ∧ ze N27_ 81 7 ≠ 0)) := hp0_N36_
            rcases hp0_N36_ with ⟨rfl, ha172_0_hp0_N36_⟩ | ⟨rfl, ha172_0_hp0_N36_⟩
            · skip
              exfalso; (exact zo_281 ha172_0_hp0_N36_ hl27_0_i30_)
            · skip
              show zW l m_M_formula (zn Mz + 0, zw Mz + 0) N27_ 175 [some (.ref 81), some (.int (Int32.ofInt u26_))] [.int (Int32.ofInt 0)] _
              refine zr_if_eq (pc := 175) (tgt := 190) ⟨(by decide), (by decide)⟩ (by decide) (zdal_p dlC_M_formula_97 (i := 18) rfl) (fun hc_175 => ?_) (fun hc_175 => ?_)
              · skip
                refine zw_aload_n (pc := 190) (n := 0) (x := 81) rfl (zdal_p dlC_M_formula_98 (i := 1) rfl) ?_
                refine zr_callV (hf_N27_.w hW) hf_N27_.x (pc := 191) [] [] l_M_183 (c_M_isGood l N27_ (hf_N27_.w hW) ) rfl rfl rfl (by decide) (Nat.le_of_ble_eq_true rfl) (zdal_p dlC_M_formula_98 (i := 2) rfl) ?_
                rintro _ N38_ ⟨v39_, rfl, ⟨hv39_a, hv39_b⟩, hsN38_, hp0_N38_⟩
                obtain rfl := hsN38_.eq.symm
                replace hp0_N38_ : ((v39_ = 1 ∧ ze N27_ 81 7 = 0) ∨ (v39_ = 0 ∧ ze N27_ 81 7 ≠ 0)) := hp0_N38_
                rcases hp0_N38_ with ⟨rfl, ha191_0_hp0_N38_⟩ | ⟨rfl, ha191_0_hp0_N38_⟩
                · skip
                  exfalso; (exact zo_281 ha191_0_hp0_N38_ hl27_0_i30_)
                · skip
                  show zW l m_M_formula (zn Mz + 0, zw Mz + 0) N27_ 194 [some (.ref 81), some (.int (Int32.ofInt u26_))] [.int (Int32.ofInt 0)] _
                  refine zr_if_eq (pc := 194) (tgt := 202) ⟨(by decide), (by decide)⟩ (by decide) (zdal_p dlC_M_formula_98 (i := 3) rfl) (fun hc_194 => ?_) (fun hc_194 => ?_)
                  · skip
                    exact zr_vret (pc := 202) rfl hf_N27_ ⟨i29_, (show ((1 ≤ ze N27_ 81 7 ∧ (ze Mz 81 7 = 0 → zRea (zfs b_ n_ F_ K_ nm_) (0, (ze Mz 81 4).toNat, [], [], 0, false) zFt)) ∨ (ze N27_ 81 7 = 0 ∧ ze Mz 81 7 = 0 ∧ zRea (zfs b_ n_ F_ K_ nm_) (0, (ze Mz 81 4).toNat, [], [], 0, false) (zRst 3 F_ N27_) ∧ zRI F_ K_ 1 N27_ ∧ zrS N27_ = [] ∧ ze Mz 81 4 ≤ ze N27_ 81 4)) from Or.inl (⟨(show 1 ≤ ze N27_ 81 7 by first | with_reducible assumption | assumption | omega | exact fun _ => hrt_), (show (ze Mz 81 7 = 0 → zRea (zfs b_ n_ F_ K_ nm_) (0, (ze Mz 81 4).toNat, [], [], 0, false) zFt) by first | with_reducible assumption | assumption | omega | exact fun _ => hrt_)⟩))⟩ (zdal_p dlC_M_formula_98 (i := 7) rfl)
                  · skip
                    exact absurd hc_194 (by decide)
              · skip
                exact absurd hc_175 (by decide)
          · skip
            exact absurd hc_31 (by decide)
      · skip
        have hr0_ := hl27_2_i30_
        have hc0_ := hl27_3_i30_
        refine zw_aload_n (pc := 27) (n := 0) (x := 81) rfl (zdal_p dlC_M_formula_94 (i := 17) rfl) ?_
        refine zr_callV (hf_N27_.w hW) hf_N27_.x (pc := 28) [] [] l_M_183 (c_M_isGood l N27_ (hf_N27_.w hW) ) rfl rfl rfl (by decide) (Nat.le_of_ble_eq_true rfl) (zdal_p dlC_M_formula_94 (i := 18) rfl) ?_
        rintro _ N40_ ⟨v41_, rfl, ⟨hv41_a, hv41_b⟩, hsN40_, hp0_N40_⟩
        obtain rfl := hsN40_.eq.symm
        replace hp0_N40_ : ((v41_ = 1 ∧ ze N27_ 81 7 = 0) ∨ (v41_ = 0 ∧ ze N27_ 81 7 ≠ 0)) := hp0_N40_
        rcases hp0_N40_ with ⟨rfl, ha28_0_hp0_N40_⟩ | ⟨rfl, ha28_0_hp0_N40_⟩
        · skip
          show zW l m_M_formula (zn Mz + 0, zw Mz + 0) N27_ 31 [some (.ref 81), some (.int (Int32.ofInt 1))] [.int (Int32.ofInt 1)] _
          refine zr_if_eq (pc := 31) (tgt := 171) ⟨(by decide), (by decide)⟩ (by decide) (zdal_p dlC_M_formula_94 (i := 19) rfl) (fun hc_31 => ?_) (fun hc_31 => ?_)
          · skip
            exact absurd hc_31 (by decide)
          · skip
            refine zw_iload_n (pc := 34) (n := 1) (x := Int32.ofInt 1) rfl (zdal_p dlC_M_formula_94 (i := 20) rfl) ?_
            have lp_88 : ∀ (n : Nat) (u42_ : Int) (hu42_a : -2147483648 ≤ u42_) (hu42_b : u42_ < 2147483648) (hu42_z : u42_ = 0 ∨ u42_ = 1) (N43_ : zMem) (hs44_ : zFr [3, 4, 5, 6, 7, 8, 11, 38, 39, 41, 42, 43] [95, 96, 97, 100] N27_ N43_) (i45_ : zRt b_ n_ N43_) (i46_ : (1 ≤ ze N43_ 81 7 ∧ (ze Mz 81 7 = 0 → zRea (zfs b_ n_ F_ K_ nm_) (0, (ze Mz 81 4).toNat, [], [], 0, false) zFt)) ∨ (u42_ = 1 ∧ ze N43_ 81 7 = 0 ∧ ze Mz 81 7 = 0 ∧ zRea (zfs b_ n_ F_ K_ nm_) (0, (ze Mz 81 4).toNat, [], [], 0, false) (zRst 0 F_ N43_) ∧ zRI F_ K_ 0 N43_ ∧ 0 ≤ ze N43_ 81 43 ∧ ze N43_ 81 43 ≤ 30 ∧ ze Mz 81 4 ≤ ze N43_ 81 4 ∧ ze N27_ 81 4 < ze N43_ 81 4) ∨ (u42_ = 0 ∧ ze N43_ 81 7 = 0 ∧ ze Mz 81 7 = 0 ∧ zRea (zfs b_ n_ F_ K_ nm_) (0, (ze Mz 81 4).toNat, [], [], 0, false) (zRst 2 F_ N43_) ∧ zRI F_ K_ 1 N43_ ∧ 0 ≤ ze N43_ 81 43 ∧ ze N43_ 81 43 ≤ 30 ∧ (zrS N43_).head? ≠ some 1 ∧ ¬ (zisg b_ n_ (ze N43_ 81 4).toNat 42 ∨ zisg b_ n_ (ze N43_ 81 4).toNat 43 ∨ zisg b_ n_ (ze N43_ 81 4).toNat 45) ∧ ze Mz 81 4 ≤ ze N43_ 81 4 ∧ ze N27_ 81 4 < ze N43_ 81 4)), zmF n_ N43_ < n → zW l m_M_formula (zn Mz + 0, zw Mz + 0) N43_ 88 [some (.ref 81), some (.int (Int32.ofInt u42_))] [] (zpV [3, 4, 5, 6, 7, 8, 11, 38, 39, 41, 42, 43] [95, 96, 97, 100] Mz (fun N => zRt b_ n_ N ∧ (((1 ≤ ze N 81 7 ∧ (ze Mz 81 7 = 0 → zRea (zfs b_ n_ F_ K_ nm_) (0, (ze Mz 81 4).toNat, [], [], 0, false) zFt)) ∨ (ze N 81 7 = 0 ∧ ze Mz 81 7 = 0 ∧ zRea (zfs b_ n_ F_ K_ nm_) (0, (ze Mz 81 4).toNat, [], [], 0, false) (zRst 3 F_ N) ∧ zRI F_ K_ 1 N ∧ zrS N = [] ∧ ze Mz 81 4 ≤ ze N 81 4))))) := by
              clear hu26_a hu26_b hu26_z hv41_a hv41_b
              intro n
              induction n with
              | zero =>
                intro u42_ hu42_a hu42_b hu42_z N43_ hs44_ i45_ i46_ h0
                exact absurd h0 (Nat.not_lt_zero _)
              | succ n ih_88 =>
                intro u42_ hu42_a hu42_b hu42_z N43_ hs44_ i45_ i46_ hlt_88
                have hf_N43_ : zFr [3, 4, 5, 6, 7, 8, 11, 38, 39, 41, 42, 43] [95, 96, 97, 100] Mz N43_ := hf_N27_.tr hs44_ (by decide) (by decide)
                have hb0_N43_ : zFr [3, 4, 5, 6, 7, 8, 11, 38, 39, 41, 42, 43] [95, 96, 97, 100] N21_ N43_ := hs28_.tr hs44_ (by decide) (by decide)
                have r3_N43_ := ze_r N43_ 81 3
                have r4_N43_ := ze_r N43_ 81 4
                have r7_N43_ := ze_r N43_ 81 7
                have r38_N43_ := ze_r N43_ 81 38
                have r39_N43_ := ze_r N43_ 81 39
                have r41_N43_ := ze_r N43_ 81 41
                have r42_N43_ := ze_r N43_ 81 42
                have r43_N43_ := ze_r N43_ 81 43
                have c47_ : zRmk F_ K_ N43_ := zRmk.fr hs44_ c31_ (by decide) (by decide)
                have c48_ : zRb b_ n_ N43_ := zRb.fr hs44_ c32_ (by decide) (by decide)
                rcases i46_ with ⟨hl88_0_i46_, hl88_1_i46_⟩ | ⟨rfl, hl88_0_i46_, hl88_1_i46_, hl88_2_i46_, hl88_3_i46_, hl88_4_i46_, hl88_5_i46_, hl88_6_i46_, hl88_7_i46_⟩ | ⟨rfl, hl88_0_i46_, hl88_1_i46_, hl88_2_i46_, hl88_3_i46_, hl88_4_i46_, hl88_5_i46_, hl88_6_i46_, hl88_7_i46_, hl88_8_i46_, hl88_9_i46_⟩
                · skip
                  refine zw_aload_n (pc := 88) (n := 0) (x := 81) rfl (zdal_p dlC_M_formula_95 (i := 22) rfl) ?_
                  refine zr_callV (hf_N43_.w hW) hf_N43_.x (pc := 89) [] [] l_M_183 (c_M_isGood l N43_ (hf_N43_.w hW) ) rfl rfl rfl (by decide) (Nat.le_of_ble_eq_true rfl) (zdal_p dlC_M_formula_95 (i := 23) rfl) ?_
                  rintro _ N50_ ⟨v51_, rfl, ⟨hv51_a, hv51_b⟩, hsN50_, hp0_N50_⟩
                  obtain rfl := hsN50_.eq.symm
                  replace hp0_N50_ : ((v51_ = 1 ∧ ze N43_ 81 7 = 0) ∨ (v51_ = 0 ∧ ze N43_ 81 7 ≠ 0)) := hp0_N50_
                  rcases hp0_N50_ with ⟨rfl, ha89_0_hp0_N50_⟩ | ⟨rfl, ha89_0_hp0_N50_⟩
                  · skip
                    exfalso; (exact zo_281 ha89_0_hp0_N50_ hl88_0_i46_)
                  · skip
                    show zW l m_M_formula (zn Mz + 0, zw Mz + 0) N43_ 92 [some (.ref 81), some (.int (Int32.ofInt u42_))] [.int (Int32.ofInt 0)] _
                    refine zr_if_eq (pc := 92) (tgt := 27) ⟨(by decide), (by decide)⟩ (by decide) (zdal_p dlC_M_formula_96 (i := 0) rfl) (fun hc_92 => ?_) (fun hc_92 => ?_)
                    · skip
                      exact ih_27 u42_ hu42_a hu42_b (by (exact hu42_z)) N43_ hb0_N43_ i45_ (show (1 ≤ ze N43_ 81 7 ∧ (ze Mz 81 7 = 0 → zRea (zfs b_ n_ F_ K_ nm_) (0, (ze Mz 81 4).toNat, [], [], 0, false) zFt)) ∨ (u42_ = 1 ∧ ze N43_ 81 7 = 0 ∧ ze Mz 81 7 = 0 ∧ zRea (zfs b_ n_ F_ K_ nm_) (0, (ze Mz 81 4).toNat, [], [], 0, false) (zRst 0 F_ N43_) ∧ zRI F_ K_ 0 N43_ ∧ 0 ≤ ze N43_ 81 43 ∧ ze N43_ 81 43 ≤ 30 ∧ ze Mz 81 4 ≤ ze N43_ 81 4) ∨ (u42_ = 0 ∧ ze N43_ 81 7 = 0 ∧ ze Mz 81 7 = 0 ∧ zRea (zfs b_ n_ F_ K_ nm_) (0, (ze Mz 81 4).toNat, [], [], 0, false) (zRst 2 F_ N43_) ∧ zRI F_ K_ 1 N43_ ∧ 0 ≤ ze N43_ 81 43 ∧ ze N43_ 81 43 ≤ 30 ∧ (zrS N43_).head? ≠ some 1 ∧ ¬ (zisg b_ n_ (ze N43_ 81 4).toNat 42 ∨ zisg b_ n_ (ze N43_ 81 4).toNat 43 ∨ zisg b_ n_ (ze N43_ 81 4).toNat 45) ∧ ze Mz 81 4 ≤ ze N43_ 81 4 ∧ ¬ (zisg b_ n_ (ze N43_ 81 4).toNat 41 ∧ 0 ∈ zrS N43_)) from Or.inl (⟨(show 1 ≤ ze N43_ 81 7 by first | rfl | with_reducible assumption | assumption | omega | exact fun _ => hrt_ | exact hx0_ | exact hx1_ | exact hg0_ | exact hg1_), (show (ze Mz 81 7 = 0 → zRea (zfs b_ n_ F_ K_ nm_) (0, (ze Mz 81 4).toNat, [], [], 0, false) zFt) by first | rfl | with_reducible assumption | assumption | omega | exact fun _ => hrt_ | exact hx0_ | exact hx1_ | exact hg0_ | exact hg1_)⟩)) (by have m1_ := zmF_c n_ N43_; have m2_ := zmF_c n_ N27_; have m3_ := i45_.x; omega)
                    · skip
                      exact absurd hc_92 (by decide)
                · skip
                  have hr0_ := hl88_2_i46_
                  have hc0_ := hl88_3_i46_
                  refine zw_aload_n (pc := 88) (n := 0) (x := 81) rfl (zdal_p dlC_M_formula_95 (i := 22) rfl) ?_
                  refine zr_callV (hf_N43_.w hW) hf_N43_.x (pc := 89) [] [] l_M_183 (c_M_isGood l N43_ (hf_N43_.w hW) ) rfl rfl rfl (by decide) (Nat.le_of_ble_eq_true rfl) (zdal_p dlC_M_formula_95 (i := 23) rfl) ?_
                  rintro _ N52_ ⟨v53_, rfl, ⟨hv53_a, hv53_b⟩, hsN52_, hp0_N52_⟩
                  obtain rfl := hsN52_.eq.symm
                  replace hp0_N52_ : ((v53_ = 1 ∧ ze N43_ 81 7 = 0) ∨ (v53_ = 0 ∧ ze N43_ 81 7 ≠ 0)) := hp0_N52_
                  rcases hp0_N52_ with ⟨rfl, ha89_0_hp0_N52_⟩ | ⟨rfl, ha89_0_hp0_N52_⟩
                  · skip
                    show zW l m_M_formula (zn Mz + 0, zw Mz + 0) N43_ 92 [some (.ref 81), some (.int (Int32.ofInt 1))] [.int (Int32.ofInt 1)] _
                    refine zr_if_eq (pc := 92) (tgt := 27) ⟨(by decide), (by decide)⟩ (by decide) (zdal_p dlC_M_formula_96 (i := 0) rfl) (fun hc_92 => ?_) (fun hc_92 => ?_)
                    · skip
                      exact absurd hc_92 (by decide)
                    · skip
                      refine zw_iload_n (pc := 95) (n := 1) (x := Int32.ofInt 1) rfl (zdal_p dlC_M_formula_96 (i := 1) rfl) ?_
                      refine zr_if_ne (pc := 96) (tgt := 27) ⟨(by decide), (by decide)⟩ (by decide) (zdal_p dlC_M_formula_96 (i := 2) rfl) (fun hc_96 => ?_) (fun hc_96 => ?_)
                      · skip
                        exact ih_27 1 (by decide) (by decide) (by (exact hu42_z)) N43_ hb0_N43_ i45_ (show (1 ≤ ze N43_ 81 7 ∧ (ze Mz 81 7 = 0 → zRea (zfs b_ n_ F_ K_ nm_) (0, (ze Mz 81 4).toNat, [], [], 0, false) zFt)) ∨ ((1 : Int) = 1 ∧ ze N43_ 81 7 = 0 ∧ ze Mz 81 7 = 0 ∧ zRea (zfs b_ n_ F_ K_ nm_) (0, (ze Mz 81 4).toNat, [], [], 0, false) (zRst 0 F_ N43_) ∧ zRI F_ K_ 0 N43_ ∧ 0 ≤ ze N43_ 81 43 ∧ ze N43_ 81 43 ≤ 30 ∧ ze Mz 81 4 ≤ ze N43_ 81 4) ∨ ((1 : Int) = 0 ∧ ze N43_ 81 7 = 0 ∧ ze Mz 81 7 = 0 ∧ zRea (zfs b_ n_ F_ K_ nm_) (0, (ze Mz 81 4).toNat, [], [], 0, false) (zRst 2 F_ N43_) ∧ zRI F_ K_ 1 N43_ ∧ 0 ≤ ze N43_ 81 43 ∧ ze N43_ 81 43 ≤ 30 ∧ (zrS N43_).head? ≠ some 1 ∧ ¬ (zisg b_ n_ (ze N43_ 81 4).toNat 42 ∨ zisg b_ n_ (ze N43_ 81 4).toNat 43 ∨ zisg b_ n_ (ze N43_ 81 4).toNat 45) ∧ ze Mz 81 4 ≤ ze N43_ 81 4 ∧ ¬ (zisg b_ n_ (ze N43_ 81 4).toNat 41 ∧ 0 ∈ zrS N43_)) from Or.inr (Or.inl (⟨(show (1 : Int) = 1 by first | rfl | with_reducible assumption | assumption | omega | exact fun _ => hrt_ | exact hx0_ | exact hx1_ | exact hg0_ | exact hg1_), (show ze N43_ 81 7 = 0 by first | rfl | with_reducible assumption | assumption | omega | exact fun _ => hrt_ | exact hx0_ | exact hx1_ | exact hg0_ | exact hg1_), (show ze Mz 81 7 = 0 by first | rfl | with_reducible assumption | assumption | omega | exact fun _ => hrt_ | exact hx0_ | exact hx1_ | exact hg0_ | exact hg1_), (show zRea (zfs b_ n_ F_ K_ nm_) (0, (ze Mz 81 4).toNat, [], [], 0, false) (zRst 0 F_ N43_) by first | rfl | with_reducible assumption | assumption | omega | exact fun _ => hrt_ | exact hx0_ | exact hx1_ | exact hg0_ | exact hg1_), (show zRI F_ K_ 0 N43_ by first | rfl | with_reducible assumption | assumption | omega | exact fun _ => hrt_ | exact hx0_ | exact hx1_ | exact hg0_ | exact hg1_), (show 0 ≤ ze N43_ 81 43 by first | rfl | with_reducible assumption | assumption | omega | exact fun _ => hrt_ | exact hx0_ | exact hx1_ | exact hg0_ | exact hg1_), (show ze N43_ 81 43 ≤ 30 by first | rfl | with_reducible assumption | assumption | omega | exact fun _ => hrt_ | exact hx0_ | exact hx1_ | exact hg0_ | exact hg1_), (show ze Mz 81 4 ≤ ze N43_ 81 4 by first | rfl | with_reducible assumption | assumption | omega | exact fun _ => hrt_ | exact hx0_ | exact hx1_ | exact hg0_ | exact hg1_)⟩))) (by have m1_ := zmF_c n_ N43_; have m2_ := zmF_c n_ N27_; have m3_ := i45_.x; omega)
                      · skip
                        exact absurd hc_96 (by decide)
                  · skip
                    exfalso; (exact zo_260 hl88_0_i46_ ha89_0_hp0_N52_)
                · skip
                  have hr2_ := hl88_2_i46_
                  have hc2_ := hl88_3_i46_
                  have hh2_ := hl88_6_i46_
                  have hn4_ := hl88_7_i46_
                  refine zw_aload_n (pc := 88) (n := 0) (x := 81) rfl (zdal_p dlC_M_formula_95 (i := 22) rfl) ?_
                  refine zr_callV (hf_N43_.w hW) hf_N43_.x (pc := 89) [] [] l_M_183 (c_M_isGood l N43_ (hf_N43_.w hW) ) rfl rfl rfl (by decide) (Nat.le_of_ble_eq_true rfl) (zdal_p dlC_M_formula_95 (i := 23) rfl) ?_
                  rintro _ N54_ ⟨v55_, rfl, ⟨hv55_a, hv55_b⟩, hsN54_, hp0_N54_⟩
                  obtain rfl := hsN54_.eq.symm
                  replace hp0_N54_ : ((v55_ = 1 ∧ ze N43_ 81 7 = 0) ∨ (v55_ = 0 ∧ ze N43_ 81 7 ≠ 0)) := hp0_N54_
                  rcases hp0_N54_ with ⟨rfl, ha89_0_hp0_N54_⟩ | ⟨rfl, ha89_0_hp0_N54_⟩
                  · skip
                    show zW l m_M_formula (zn Mz + 0, zw Mz + 0) N43_ 92 [some (.ref 81), some (.int (Int32.ofInt 0))] [.int (Int32.ofInt 1)] _
                    refine zr_if_eq (pc := 92) (tgt := 27) ⟨(by decide), (by decide)⟩ (by decide) (zdal_p dlC_M_formula_96 (i := 0) rfl) (fun hc_92 => ?_) (fun hc_92 => ?_)
                    · skip
                      exact absurd hc_92 (by decide)
                    · skip
                      refine zw_iload_n (pc := 95) (n := 1) (x := Int32.ofInt 0) rfl (zdal_p dlC_M_formula_96 (i := 1) rfl) ?_
                      refine zr_if_ne (pc := 96) (tgt := 27) ⟨(by decide), (by decide)⟩ (by decide) (zdal_p dlC_M_formula_96 (i := 2) rfl) (fun hc_96 => ?_) (fun hc_96 => ?_)
                      · skip
                        exact absurd hc_96 (by decide)
                      · skip
                        refine zw_aload_n (pc := 99) (n := 0) (x := 81) rfl (zdal_p dlC_M_formula_96 (i := 3) rfl) ?_
                        refine zw_bipush (pc := 100) (v := Int32.ofInt 41) (by decide) (zdal_p dlC_M_formula_96 (i := 4) rfl) ?_
                        refine zr_callV (hf_N43_.w hW) hf_N43_.x (pc := 102) [.int (Int32.ofInt 41)] [] l_M_187 (c_M_isSignHereF l N43_ (hf_N43_.w hW) 41 (by decide) (by decide) b_ n_ i45_) rfl rfl rfl (by decide) (Nat.le_of_ble_eq_true rfl) (zdal_p dlC_M_formula_96 (i := 5) rfl) ?_
                        rintro _ N56_ ⟨v57_, rfl, ⟨hv57_a, hv57_b⟩, hsN56_, hp0_N56_⟩
                        obtain rfl := hsN56_.eq.symm
                        replace hp0_N56_ : ((v57_ = 1 ∧ ze N43_ 81 7 = 0 ∧ zisg b_ n_ (ze N43_ 81 4).toNat 41) ∨ (v57_ = 0 ∧ (ze N43_ 81 7 = 0 → ¬ zisg b_ n_ (ze N43_ 81 4).toNat 41))) := hp0_N56_
                        rcases hp0_N56_ with ⟨rfl, ha102_0_hp0_N56_, ha102_1_hp0_N56_⟩ | ⟨rfl, ha102_0_hp0_N56_⟩
                        · skip
                          have hC_ := ha102_1_hp0_N56_
                          show zW l m_M_formula (zn Mz + 0, zw Mz + 0) N43_ 105 [some (.ref 81), some (.int (Int32.ofInt 0))] [.int (Int32.ofInt 1)] _
                          refine zr_if_eq (pc := 105) (tgt := 27) ⟨(by decide), (by decide)⟩ (by decide) (zdal_p dlC_M_formula_96 (i := 6) rfl) (fun hc_105 => ?_) (fun hc_105 => ?_)
                          · skip
                            exact absurd hc_105 (by decide)
                          · skip
                            refine zw_aload_n (pc := 108) (n := 0) (x := 81) rfl (zdal_p dlC_M_formula_96 (i := 7) rfl) ?_
                            refine zr_callV (hf_N43_.w hW) hf_N43_.x (pc := 109) [] [] l_M_352 (c_M_isOpenF l N43_ (hf_N43_.w hW) F_ K_ hc2_) rfl rfl rfl (by decide) (Nat.le_of_ble_eq_true rfl) (zdal_p dlC_M_formula_96 (i := 8) rfl) ?_
                            rintro _ N58_ ⟨v59_, rfl, ⟨hv59_a, hv59_b⟩, hsN58_, hp0_N58_⟩
                            obtain rfl := hsN58_.eq.symm
                            replace hp0_N58_ : ((v59_ = 1 ∧ 0 ∈ zrS N43_) ∨ (v59_ = 0 ∧ ¬ 0 ∈ zrS N43_)) := hp0_N58_
                            rcases hp0_N58_ with ⟨rfl, ha109_0_hp0_N58_⟩ | ⟨rfl, ha109_0_hp0_N58_⟩
                            · skip
                              have hM0_ := ha109_0_hp0_N58_
                              show zW l m_M_formula (zn Mz + 0, zw Mz + 0) N43_ 112 [some (.ref 81), some (.int (Int32.ofInt 0))] [.int (Int32.ofInt 1)] _
                              refine zr_if_eq (pc := 112) (tgt := 27) ⟨(by decide), (by decide)⟩ (by decide) (zdal_p dlC_M_formula_96 (i := 9) rfl) (fun hc_112 => ?_) (fun hc_112 => ?_)
                              · skip
                                exact absurd hc_112 (by decide)
                              · skip
                                refine zw_aload_n (pc := 115) (n := 0) (x := 81) rfl (zdal_p dlC_M_formula_96 (i := 10) rfl) ?_
                                refine zw_iconst (pc := 116) (v := Int32.ofInt 2) (by decide) (zdal_p dlC_M_formula_96 (i := 11) rfl) ?_
                                refine zr_callV (hf_N43_.w hW) hf_N43_.x (pc := 117) [.int (Int32.ofInt 2)] [] l_M_337 (c_M_worksF l N43_ (hf_N43_.w hW) 2 (by decide) (by decide) F_ K_ hA_ c47_ hc2_ (show 2 ≤ 2 by first | with_reducible assumption | (decide) | assumption) (show 2 ≤ 4 by first | with_reducible assumption | (decide) | assumption)) rfl rfl rfl (by decide) (Nat.le_of_ble_eq_true rfl) (zdal_p dlC_M_formula_96 (i := 12) rfl) ?_
                                rintro _ N60_ ⟨rfl, hsN60_, ⟨hp0_N60_, hp1_N60_, hp2_N60_, hp3_N60_⟩⟩
                                have hf_N60_ : zFr [3, 4, 5, 6, 7, 8, 11, 38, 39, 41, 42, 43] [95, 96, 97, 100] Mz N60_ := hf_N43_.tr hsN60_ (by decide) (by decide)
                                have hb0_N60_ : zFr [3, 4, 5, 6, 7, 8, 11, 38, 39, 41, 42, 43] [95, 96, 97, 100] N21_ N60_ := hb0_N43_.tr hsN60_ (by decide) (by decide)
                                have hb1_N60_ : zFr [3, 4, 5, 6, 7, 8, 11, 38, 39, 41, 42, 43] [95, 96, 97, 100] N27_ N60_ := hs44_.tr hsN60_ (by decide) (by decide)
                                have e3_N60_ : ze N60_ 81 3 = ze N43_ 81 3 := hsN60_.e (by decide)
                                have e4_N60_ : ze N60_ 81 4 = ze N43_ 81 4 := hsN60_.e (by decide)
                                have e7_N60_ : ze N60_ 81 7 = ze N43_ 81 7 := hsN60_.e (by decide)
                                have r38_N60_ := ze_r N60_ 81 38
                                have r39_N60_ := ze_r N60_ 81 39
                                have r41_N60_ := ze_r N60_ 81 41
                                have e42_N60_ : ze N60_ 81 42 = ze N43_ 81 42 := hsN60_.e (by decide)
                                have e43_N60_ : ze N60_ 81 43 = ze N43_ 81 43 := hsN60_.e (by decide)
                                have c62_ : zRmk F_ K_ N60_ := zRmk.fr hsN60_ c47_ (by decide) (by decide)
                                have c63_ : zRb b_ n_ N60_ := zRb.fr hsN60_ c48_ (by decide) (by decide)
                                have c65_ : zRt b_ n_ N60_ := zRt.fr hsN60_ i45_ (by decide) (by decide)
                                show zW l m_M_formula (zn Mz + 0, zw Mz + 0) N60_ 120 [some (.ref 81), some (.int (Int32.ofInt 0))] [] _
                                have hw1_ := hp1_N60_
                                have hw2_ := hp2_N60_
                                have hw3_ := hp3_N60_ hh2_
                                have hcr_ := hp0_N60_
                                have hcr0_ := hcr_.1
                                have hcr2_ := hcr_.2.2.1
                                have hhz_ := zhd_0 (show 0 ∈ (zrS N60_, zrW F_ N60_, zrG N60_).1 by rw [hw1_]; exact (zrk_m (by decide) _ _).mpr hM0_) hw3_ (fun y_ h_ => hw2_ y_ h_)
                                refine zw_aload_n (pc := 120) (n := 0) (x := 81) rfl (zdal_p dlC_M_formula_96 (i := 13) rfl) ?_
                                refine zw_dup (pc := 121) rfl (zdal_p dlC_M_formula_96 (i := 14) rfl) ?_
                                refine zr_getI (hf_N60_.w hW) (pc := 122) f_M_305 rfl (zdal_p dlC_M_formula_96 (i := 15) rfl) ?_
                                refine zw_iconst (pc := 125) (v := Int32.ofInt 1) (by decide) (zdal_p dlC_M_formula_96 (i := 16) rfl) ?_
                                refine zr_isub (pc := 126) (zdal_p dlC_M_formula_96 (i := 17) rfl) ?_
                                refine zr_putI (hf_N60_.w hW) (pc := 127) f_M_305 rfl rfl ⟨by (exact zo_600 hcr0_), by (exact zo_601 r41_N60_.2)⟩ rfl rfl (zdal_p dlC_M_formula_96 (i := 18) rfl) (fun N66_ hsN66_ hvN66_ => ?_)
                                have hf_N66_ : zFr [3, 4, 5, 6, 7, 8, 11, 38, 39, 41, 42, 43] [95, 96, 97, 100] Mz N66_ := hf_N60_.tr hsN66_ (by decide) (by decide)
                                have hb0_N66_ : zFr [3, 4, 5, 6, 7, 8, 11, 38, 39, 41, 42, 43] [95, 96, 97, 100] N21_ N66_ := hb0_N60_.tr hsN66_ (by decide) (by decide)
                                have hb1_N66_ : zFr [3, 4, 5, 6, 7, 8, 11, 38, 39, 41, 42, 43] [95, 96, 97, 100] N27_ N66_ := hb1_N60_.tr hsN66_ (by decide) (by decide)
                                have e3_N66_ : ze N66_ 81 3 = ze N60_ 81 3 := hsN66_.e (by decide)
                                have e4_N66_ : ze N66_ 81 4 = ze N60_ 81 4 := hsN66_.e (by decide)
                                have e7_N66_ : ze N66_ 81 7 = ze N60_ 81 7 := hsN66_.e (by decide)
                                have e38_N66_ : ze N66_ 81 38 = ze N60_ 81 38 := hsN66_.e (by decide)
                                have e39_N66_ : ze N66_ 81 39 = ze N60_ 81 39 := hsN66_.e (by decide)
                                have r41_N66_ := ze_r N66_ 81 41
                                have e42_N66_ : ze N66_ 81 42 = ze N60_ 81 42 := hsN66_.e (by decide)
                                have e43_N66_ : ze N66_ 81 43 = ze N60_ 81 43 := hsN66_.e (by decide)
                                have c67_ : zRmk F_ K_ N66_ := zRmk.fr hsN66_ c62_ (by decide) (by decide)
                                have c68_ : zRb b_ n_ N66_ := zRb.fr hsN66_ c63_ (by decide) (by decide)
                                have c70_ : zRt b_ n_ N66_ := zRt.fr hsN66_ c65_ (by decide) (by decide)
                                refine zw_aload_n (pc := 130) (n := 0) (x := 81) rfl (zdal_p dlC_M_formula_96 (i := 19) rfl) ?_
                                refine zw_dup (pc := 131) rfl (zdal_p dlC_M_formula_96 (i := 20) rfl) ?_
                                refine zr_getI (hf_N66_.w hW) (pc := 132) f_M_296 rfl (zdal_p dlC_M_formula_96 (i := 21) rfl) ?_
                                refine zw_iconst (pc := 135) (v := Int32.ofInt 1) (by decide) (zdal_p dlC_M_formula_96 (i := 22) rfl) ?_
                                refine zr_isub (pc := 136) (zdal_p dlC_M_formula_96 (i := 23) rfl) ?_
                                refine zr_putI (hf_N66_.w hW) (pc := 137) f_M_296 rfl rfl ⟨by (exact zo_602 e42_N66_ hcr2_), by (exact zo_65 e42_N60_ e42_N66_ r42_N43_.2)⟩ rfl rfl (zdal_p dlC_M_formula_97 (i := 0) rfl) (fun N71_ hsN71_ hvN71_ => ?_)
                                have hf_N71_ : zFr [3, 4, 5, 6, 7, 8, 11, 38, 39, 41, 42, 43] [95, 96, 97, 100] Mz N71_ := hf_N66_.tr hsN71_ (by decide) (by decide)
                                have hb0_N71_ : zFr [3, 4, 5, 6, 7, 8, 11, 38, 39, 41, 42, 43] [95, 96, 97, 100] N21_ N71_ := hb0_N66_.tr hsN71_ (by decide) (by decide)
                                have hb1_N71_ : zFr [3, 4, 5, 6, 7, 8, 11, 38, 39, 41, 42, 43] [95, 96, 97, 100] N27_ N71_ := hb1_N66_.tr hsN71_ (by decide) (by decide)
                                have e3_N71_ : ze N71_ 81 3 = ze N66_ 81 3 := hsN71_.e (by decide)
                                have e4_N71_ : ze N71_ 81 4 = ze N66_ 81 4 := hsN71_.e (by decide)
                                have e7_N71_ : ze N71_ 81 7 = ze N66_ 81 7 := hsN71_.e (by decide)
                                have e38_N71_ : ze N71_ 81 38 = ze N66_ 81 38 := hsN71_.e (by decide)
                                have e39_N71_ : ze N71_ 81 39 = ze N66_ 81 39 := hsN71_.e (by decide)
                                have e41_N71_ : ze N71_ 81 41 = ze N66_ 81 41 := hsN71_.e (by decide)
                                have r42_N71_ := ze_r N71_ 81 42
                                have e43_N71_ : ze N71_ 81 43 = ze N66_ 81 43 := hsN71_.e (by decide)
                                have c72_ : zRmk F_ K_ N71_ := zRmk.fr hsN71_ c67_ (by decide) (by decide)
                                have c73_ : zRb b_ n_ N71_ := zRb.fr hsN71_ c68_ (by decide) (by decide)
                                have c75_ : zRt b_ n_ N71_ := zRt.fr hsN71_ c70_ (by decide) (by decide)
                                have hcd_ := zRI_cl (Mz := N60_) (Nz := N71_) hF27_ hcr_ hhz_ (by (exact zo_603 e41_N71_ hvN66_)) (fun i_ => (hsN71_.ie (by decide) (by decide) i_).trans (hsN66_.ie (by decide) (by decide) i_)) (by (exact zo_604 e42_N66_ hcr2_ hvN71_ r42_N71_.2)) (by (exact zo_53 e38_N66_ e38_N71_)) (by (exact zo_53 e39_N66_ e39_N71_)) (fun x_ => (hsN71_.jg (by decide) (by decide) x_).trans (hsN66_.jg (by decide) (by decide) x_))
                                have hcd1_ := hcd_.1
                                have hyt_ := c75_
                                have hyx_ := hyt_.x
                                refine zw_aload_n (pc := 140) (n := 0) (x := 81) rfl (zdal_p dlC_M_formula_97 (i := 1) rfl) ?_
                                refine zr_callV (hf_N71_.w hW) hf_N71_.x (pc := 141) [] [] l_M_193 (c_M_goOnF l N71_ (hf_N71_.w hW) b_ n_ c73_ (show 0 ≤ ze N71_ 81 3 by first | with_reducible assumption | (exact zo_57 hyx_.2.1) | assumption) (show ze N71_ 81 3 ≤ n_ by first | with_reducible assumption | (exact zo_605 hyx_.2.2) | assumption)) rfl rfl rfl (by decide) (Nat.le_of_ble_eq_true rfl) (zdal_p dlC_M_formula_97 (i := 2) rfl) ?_
                                rintro _ N76_ ⟨rfl, hsN76_, ⟨hp0_N76_, hp1_N76_⟩⟩
                                have hf_N76_ : zFr [3, 4, 5, 6, 7, 8, 11, 38, 39, 41, 42, 43] [95, 96, 97, 100] Mz N76_ := hf_N71_.tr hsN76_ (by decide) (by decide)
                                have hb0_N76_ : zFr [3, 4, 5, 6, 7, 8, 11, 38, 39, 41, 42, 43] [95, 96, 97, 100] N21_ N76_ := hb0_N71_.tr hsN76_ (by decide) (by decide)
                                have hb1_N76_ : zFr [3, 4, 5, 6, 7, 8, 11, 38, 39, 41, 42, 43] [95, 96, 97, 100] N27_ N76_ := hb1_N71_.tr hsN76_ (by decide) (by decide)
                                have r3_N76_ := ze_r N76_ 81 3
                                have r4_N76_ := ze_r N76_ 81 4
                                have e7_N76_ : ze N76_ 81 7 = ze N71_ 81 7 := hsN76_.e (by decide)
                                have e38_N76_ : ze N76_ 81 38 = ze N71_ 81 38 := hsN76_.e (by decide)
                                have e39_N76_ : ze N76_ 81 39 = ze N71_ 81 39 := hsN76_.e (by decide)
                                have e41_N76_ : ze N76_ 81 41 = ze N71_ 81 41 := hsN76_.e (by decide)
                                have e42_N76_ : ze N76_ 81 42 = ze N71_ 81 42 := hsN76_.e (by decide)
                                have e43_N76_ : ze N76_ 81 43 = ze N71_ 81 43 := hsN76_.e (by decide)
                                have qzrS_N76_ : zrS N76_ = zrS N71_ := zrS_q hsN76_ (by decide)
                                have qzrG_N76_ : zrG N76_ = zrG N71_ := zrG_q hsN76_ (by decide)
                                have qzrW_N76_ : zrW F_ N76_ = zrW F_ N71_ := zrW_q hsN76_ (by decide)
                                have c78_ : zRmk F_ K_ N76_ := zRmk.fr hsN76_ c72_ (by decide) (by decide)
                                have c79_ : zRb b_ n_ N76_ := zRb.fr hsN76_ c73_ (by decide) (by decide)
                                have c81_ : zRI F_ K_ 1 N76_ := zRI.fr hsN76_ hcd1_ (by decide) (by decide)
                                show zW l m_M_formula (zn Mz + 0, zw Mz + 0) N76_ 144 [some (.ref 81), some (.int (Int32.ofInt 0))] [] _
                                have hnn_ := hyt_.nx hp0_N76_
                                have hst1_ := hr2_.tr (zRea.st (zr2_c (Rz := N60_) (c := (0, 0)) (F := F_) (K := K_) (nm := nm_) hC_ hM0_ hw1_ (qzrS_N76_.trans hcd_.2.1) (qzrW_N76_.trans hcd_.2.2.1) (qzrG_N76_.trans hcd_.2.2.2) (by (exact zo_52 e43_N60_ e43_N66_ e43_N71_ e43_N76_)) (hnn_.2.trans (by rw [show ze N71_ 81 4 = ze N43_ 81 4 by (exact zo_606 e4_N60_ e4_N66_ e4_N71_ hyx_.1.1 r4_N43_.2)]))))
                                have hnp_ := hnn_.2.trans (show znx b_ n_ (ze N71_ 81 4).toNat = znx b_ n_ (ze N43_ 81 4).toNat by rw [show ze N71_ 81 4 = ze N43_ 81 4 by (exact zo_606 e4_N60_ e4_N66_ e4_N71_ hyx_.1.1 r4_N43_.2)])
                                have hgx_ := znx_ge (b := b_) (n := n_) (s := (ze N43_ 81 4).toNat)
                                have hgy_ := znx_g (b := b_) (n := n_) (s := (ze N43_ 81 4).toNat) (by have h_ := hC_.1; (exact zo_607 h_))
                                refine zw_aload_n (pc := 144) (n := 0) (x := 81) rfl (zdal_p dlC_M_formula_97 (i := 3) rfl) ?_
                                refine zr_callV (hf_N76_.w hW) hf_N76_.x (pc := 145) [] [] l_M_346 (c_M_closesF l N76_ (hf_N76_.w hW) F_ K_ hA_ b_ n_ nm_ c78_ c79_ hp1_N76_ c81_ (show ze N76_ 81 7 = 0 by first | with_reducible assumption | (exact zo_608 e7_N60_ e7_N66_ e7_N71_ e7_N76_ hl88_0_i46_) | assumption)) rfl rfl rfl (by decide) (Nat.le_of_ble_eq_true rfl) (zdal_p dlC_M_formula_97 (i := 4) rfl) ?_
                                rintro _ N82_ ⟨rfl, hsN82_, ⟨hp0_N82_, hp1_N82_, hp2_N82_⟩⟩
                                have hf_N82_ : zFr [3, 4, 5, 6, 7, 8, 11, 38, 39, 41, 42, 43] [95, 96, 97, 100] Mz N82_ := hf_N76_.tr hsN82_ (by decide) (by decide)
                                have hb0_N82_ : zFr [3, 4, 5, 6, 7, 8, 11, 38, 39, 41, 42, 43] [95, 96, 97, 100] N21_ N82_ := hb0_N76_.tr hsN82_ (by decide) (by decide)
                                have hb1_N82_ : zFr [3, 4, 5, 6, 7, 8, 11, 38, 39, 41, 42, 43] [95, 96, 97, 100] N27_ N82_ := hb1_N76_.tr hsN82_ (by decide) (by decide)
                                have r3_N82_ := ze_r N82_ 81 3
                                have r4_N82_ := ze_r N82_ 81 4
                                have r7_N82_ := ze_r N82_ 81 7
                                have e38_N82_ : ze N82_ 81 38 = ze N76_ 81 38 := hsN82_.e (by decide)
                                have r39_N82_ := ze_r N82_ 81 39
                                have r41_N82_ := ze_r N82_ 81 41
                                have r42_N82_ := ze_r N82_ 81 42
                                have e43_N82_ : ze N82_ 81 43 = ze N76_ 81 43 := hsN82_.e (by decide)
                                have c84_ : zRmk F_ K_ N82_ := zRmk.fr hsN82_ c78_ (by decide) (by decide)
                                have c85_ : zRb b_ n_ N82_ := zRb.fr hsN82_ c79_ (by decide) (by decide)
                                rcases hp2_N82_ with ⟨ha145_0_hp2_N82_, ha145_1_hp2_N82_⟩ | ⟨ha145_0_hp2_N82_, ha145_1_hp2_N82_, ha145_2_hp2_N82_, ha145_3_hp2_N82_, ha145_4_hp2_N82_⟩
                                · skip
                                  have hrt_ := hst1_.tr ha145_1_hp2_N82_
                                  show zW l m_M_formula (zn Mz + 0, zw Mz + 0) N82_ 148 [some (.ref 81), some (.int (Int32.ofInt 0))] [] _
                                  refine zw_aload_n (pc := 148) (n := 0) (x := 81) rfl (zdal_p dlC_M_formula_97 (i := 5) rfl) ?_
                                  refine zr_callV (hf_N82_.w hW) hf_N82_.x (pc := 149) [] [] l_M_183 (c_M_isGood l N82_ (hf_N82_.w hW) ) rfl rfl rfl (by decide) (Nat.le_of_ble_eq_true rfl) (zdal_p dlC_M_formula_97 (i := 6) rfl) ?_
                                  rintro _ N87_ ⟨v88_, rfl, ⟨hv88_a, hv88_b⟩, hsN87_, hp0_N87_⟩
                                  obtain rfl := hsN87_.eq.symm
                                  replace hp0_N87_ : ((v88_ = 1 ∧ ze N82_ 81 7 = 0) ∨ (v88_ = 0 ∧ ze N82_ 81 7 ≠ 0)) := hp0_N87_
                                  rcases hp0_N87_ with ⟨rfl, ha149_0_hp0_N87_⟩ | ⟨rfl, ha149_0_hp0_N87_⟩
                                  · skip
                                    exfalso; (exact zo_609 ha145_0_hp2_N82_ ha149_0_hp0_N87_)
                                  · skip
                                    show zW l m_M_formula (zn Mz + 0, zw Mz + 0) N82_ 152 [some (.ref 81), some (.int (Int32.ofInt 0))] [.int (Int32.ofInt 0)] _
                                    refine zr_if_eq (pc := 152) (tgt := 166) ⟨(by decide), (by decide)⟩ (by decide) (zdal_p dlC_M_formula_97 (i := 7) rfl) (fun hc_152 => ?_) (fun hc_152 => ?_)
                                    · skip
                                      refine zw_iconst (pc := 166) (v := Int32.ofInt 0) (by decide) (zdal_p dlC_M_formula_97 (i := 13) rfl) ?_
                                      refine zw_istore_n (pc := 167) (i := 1) (L2 := [some (.ref 81), some (.int (Int32.ofInt 0))]) rfl (by decide) rfl (zdal_p dlC_M_formula_97 (i := 14) rfl) ?_
                                      refine zw_goto (pc := 168) (tgt := 88) (by decide) (zdal_p dlC_M_formula_97 (i := 15) rfl) ?_
                                      exact ih_88 0 (by decide) (by decide) (by (exact hu42_z)) N82_ hb1_N82_ hp0_N82_ (show (1 ≤ ze N82_ 81 7 ∧ (ze Mz 81 7 = 0 → zRea (zfs b_ n_ F_ K_ nm_) (0, (ze Mz 81 4).toNat, [], [], 0, false) zFt)) ∨ ((0 : Int) = 1 ∧ ze N82_ 81 7 = 0 ∧ ze Mz 81 7 = 0 ∧ zRea (zfs b_ n_ F_ K_ nm_) (0, (ze Mz 81 4).toNat, [], [], 0, false) (zRst 0 F_ N82_) ∧ zRI F_ K_ 0 N82_ ∧ 0 ≤ ze N82_ 81 43 ∧ ze N82_ 81 43 ≤ 30 ∧ ze Mz 81 4 ≤ ze N82_ 81 4 ∧ ze N27_ 81 4 < ze N82_ 81 4) ∨ ((0 : Int) = 0 ∧ ze N82_ 81 7 = 0 ∧ ze Mz 81 7 = 0 ∧ zRea (zfs b_ n_ F_ K_ nm_) (0, (ze Mz 81 4).toNat, [], [], 0, false) (zRst 2 F_ N82_) ∧ zRI F_ K_ 1 N82_ ∧ 0 ≤ ze N82_ 81 43 ∧ ze N82_ 81 43 ≤ 30 ∧ (zrS N82_).head? ≠ some 1 ∧ ¬ (zisg b_ n_ (ze N82_ 81 4).toNat 42 ∨ zisg b_ n_ (ze N82_ 81 4).toNat 43 ∨ zisg b_ n_ (ze N82_ 81 4).toNat 45) ∧ ze Mz 81 4 ≤ ze N82_ 81 4 ∧ ze N27_ 81 4 < ze N82_ 81 4) from Or.inl (⟨(show 1 ≤ ze N82_ 81 7 by first | rfl | with_reducible assumption | assumption | omega | exact fun _ => hrt_ | exact hx0_ | exact hx1_ | exact hg0_ | exact hg1_), (show (ze Mz 81 7 = 0 → zRea (zfs b_ n_ F_ K_ nm_) (0, (ze Mz 81 4).toNat, [], [], 0, false) zFt) by first | rfl | with_reducible assumption | assumption | omega | exact fun _ => hrt_ | exact hx0_ | exact hx1_ | exact hg0_ | exact hg1_)⟩)) (by have m1_ := zmF_c n_ N82_; have m2_ := zmF_c n_ N43_; have m3_ := hp0_N82_.x; omega)
                                    · skip
                                      exact absurd hc_152 (by decide)
                                · skip
                                  have hz0_ := hst1_.tr ha145_1_hp2_N82_
                                  have hz1_ := ha145_2_hp2_N82_
                                  have hz2_ := ha145_3_hp2_N82_
                                  have hz3_ := ha145_4_hp2_N82_
                                  show zW l m_M_formula (zn Mz + 0, zw Mz + 0) N82_ 148 [some (.ref 81), some (.int (Int32.ofInt 0))] [] _
                                  refine zw_aload_n (pc := 148) (n := 0) (x := 81) rfl (zdal_p dlC_M_formula_97 (i := 5) rfl) ?_
                                  refine zr_callV (hf_N82_.w hW) hf_N82_.x (pc := 149) [] [] l_M_183 (c_M_isGood l N82_ (hf_N82_.w hW) ) rfl rfl rfl (by decide) (Nat.le_of_ble_eq_true rfl) (zdal_p dlC_M_formula_97 (i := 6) rfl) ?_
                                  rintro _ N89_ ⟨v90_, rfl, ⟨hv90_a, hv90_b⟩, hsN89_, hp0_N89_⟩
                                  obtain rfl := hsN89_.eq.symm
                                  replace hp0_N89_ : ((v90_ = 1 ∧ ze N82_ 81 7 = 0) ∨ (v90_ = 0 ∧ ze N82_ 81 7 ≠ 0)) := hp0_N89_
                                  rcases hp0_N89_ with ⟨rfl, ha149_0_hp0_N89_⟩ | ⟨rfl, ha149_0_hp0_N89_⟩
                                  · skip
                                    show zW l m_M_formula (zn Mz + 0, zw Mz + 0) N82_ 152 [some (.ref 81), some (.int (Int32.ofInt 0))] [.int (Int32.ofInt 1)] _
                                    refine zr_if_eq (pc := 152) (tgt := 166) ⟨(by decide), (by decide)⟩ (by decide) (zdal_p dlC_M_formula_97 (i := 7) rfl) (fun hc_152 => ?_) (fun hc_152 => ?_)
                                    · skip
                                      exact absurd hc_152 (by decide)
                                    · skip
                                      refine zw_aload_n (pc := 155) (n := 0) (x := 81) rfl (zdal_p dlC_M_formula_97 (i := 8) rfl) ?_
                                      refine zr_callV (hf_N82_.w hW) hf_N82_.x (pc := 156) [] [] l_M_349 (c_M_goesOnF l N82_ (hf_N82_.w hW) F_ K_ hA_ b_ n_ nm_ c84_ c85_ hp0_N82_ hz1_ (show (zrS N82_).head? ≠ some 1 by first | with_reducible assumption | assumption | omega) (show ze N82_ 81 7 = 0 by first | with_reducible assumption | assumption | omega)) rfl rfl rfl (by decide) (Nat.le_of_ble_eq_true rfl) (zdal_p dlC_M_formula_97 (i := 9) rfl) ?_
                                      rintro _ N91_ ⟨v92_, rfl, ⟨hv92_a, hv92_b⟩, hsN91_, ⟨hp0_N91_, hp1_N91_, hp2_N91_⟩⟩
                                      have hf_N91_ : zFr [3, 4, 5, 6, 7, 8, 11, 38, 39, 41, 42, 43] [95, 96, 97, 100] Mz N91_ := hf_N82_.tr hsN91_ (by decide) (by decide)
                                      have hb0_N91_ : zFr [3, 4, 5, 6, 7, 8, 11, 38, 39, 41, 42, 43] [95, 96, 97, 100] N21_ N91_ := hb0_N82_.tr hsN91_ (by decide) (by decide)
                                      have hb1_N91_ : zFr [3, 4, 5, 6, 7, 8, 11, 38, 39, 41, 42, 43] [95, 96, 97, 100] N27_ N91_ := hb1_N82_.tr hsN91_ (by decide) (by decide)
                                      have r3_N91_ := ze_r N91_ 81 3
                                      have r4_N91_ := ze_r N91_ 81 4
                                      have e7_N91_ : ze N91_ 81 7 = ze N82_ 81 7 := hsN91_.e (by decide)
                                      have r38_N91_ := ze_r N91_ 81 38
                                      have r39_N91_ := ze_r N91_ 81 39
                                      have r41_N91_ := ze_r N91_ 81 41
                                      have e42_N91_ : ze N91_ 81 42 = ze N82_ 81 42 := hsN91_.e (by decide)
                                      have e43_N91_ : ze N91_ 81 43 = ze N82_ 81 43 := hsN91_.e (by decide)
                                      rcases hp2_N91_ with ⟨rfl, ha156_0_hp2_N91_, ha156_1_hp2_N91_, ha156_2_hp2_N91_⟩ | ⟨rfl, ha156_0_hp2_N91_, ha156_1_hp2_N91_, ha156_2_hp2_N91_, ha156_3_hp2_N91_, ha156_4_hp2_N91_⟩
                                      · skip
                                        have hg0_ := hz0_.tr ha156_0_hp2_N91_
                                        have hg1_ := ha156_1_hp2_N91_
                                        have hg2_ := ha156_2_hp2_N91_
                                        show zW l m_M_formula (zn Mz + 0, zw Mz + 0) N91_ 159 [some (.ref 81), some (.int (Int32.ofInt 0))] [.int (Int32.ofInt 1)] _
                                        refine zr_if_eq (pc := 159) (tgt := 166) ⟨(by decide), (by decide)⟩ (by decide) (zdal_p dlC_M_formula_97 (i := 10) rfl) (fun hc_159 => ?_) (fun hc_159 => ?_)
                                        · skip
                                          exact absurd hc_159 (by decide)
                                        · skip
                                          refine zw_iconst (pc := 162) (v := Int32.ofInt 1) (by decide) (zdal_p dlC_M_formula_97 (i := 11) rfl) ?_
                                          refine zw_goto (pc := 163) (tgt := 167) (by decide) (zdal_p dlC_M_formula_97 (i := 12) rfl) ?_
                                          refine zw_istore_n (pc := 167) (i := 1) (L2 := [some (.ref 81), some (.int (Int32.ofInt 1))]) rfl (by decide) rfl (zdal_p dlC_M_formula_97 (i := 14) rfl) ?_
                                          refine zw_goto (pc := 168) (tgt := 88) (by decide) (zdal_p dlC_M_formula_97 (i := 15) rfl) ?_
                                          exact ih_88 1 (by decide) (by decide) (by (decide)) N91_ hb1_N91_ hp0_N91_ (show (1 ≤ ze N91_ 81 7 ∧ (ze Mz 81 7 = 0 → zRea (zfs b_ n_ F_ K_ nm_) (0, (ze Mz 81 4).toNat, [], [], 0, false) zFt)) ∨ ((1 : Int) = 1 ∧ ze N91_ 81 7 = 0 ∧ ze Mz 81 7 = 0 ∧ zRea (zfs b_ n_ F_ K_ nm_) (0, (ze Mz 81 4).toNat, [], [], 0, false) (zRst 0 F_ N91_) ∧ zRI F_ K_ 0 N91_ ∧ 0 ≤ ze N91_ 81 43 ∧ ze N91_ 81 43 ≤ 30 ∧ ze Mz 81 4 ≤ ze N91_ 81 4 ∧ ze N27_ 81 4 < ze N91_ 81 4) ∨ ((1 : Int) = 0 ∧ ze N91_ 81 7 = 0 ∧ ze Mz 81 7 = 0 ∧ zRea (zfs b_ n_ F_ K_ nm_) (0, (ze Mz 81 4).toNat, [], [], 0, false) (zRst 2 F_ N91_) ∧ zRI F_ K_ 1 N91_ ∧ 0 ≤ ze N91_ 81 43 ∧ ze N91_ 81 43 ≤ 30 ∧ (zrS N91_).head? ≠ some 1 ∧ ¬ (zisg b_ n_ (ze N91_ 81 4).toNat 42 ∨ zisg b_ n_ (ze N91_ 81 4).toNat 43 ∨ zisg b_ n_ (ze N91_ 81 4).toNat 45) ∧ ze Mz 81 4 ≤ ze N91_ 81 4 ∧ ze N27_ 81 4 < ze N91_ 81 4) from Or.inr (Or.inl (⟨(show (1 : Int) = 1 by first | rfl | with_reducible assumption | assumption | omega | exact fun _ => hrt_ | exact hx0_ | exact hx1_ | exact hg0_ | exact hg1_), (show ze N91_ 81 7 = 0 by first | rfl | with_reducible assumption | (exact zo_610 e7_N91_ ha145_0_hp2_N82_) | exact fun _ => hrt_ | exact hx0_ | exact hx1_ | exact hg0_ | exact hg1_ | assumption), (show ze Mz 81 7 = 0 by first | rfl | with_reducible assumption | assumption | omega | exact fun _ => hrt_ | exact hx0_ | exact hx1_ | exact hg0_ | exact hg1_), (show zRea (zfs b_ n_ F_ K_ nm_) (0, (ze Mz 81 4).toNat, [], [], 0, false) (zRst 0 F_ N91_) by first | rfl | with_reducible assumption | assumption | omega | exact fun _ => hrt_ | exact hx0_ | exact hx1_ | exact hg0_ | exact hg1_), (show zRI F_ K_ 0 N91_ by first | rfl | with_reducible assumption | assumption | omega | exact fun _ => hrt_ | exact hx0_ | exact hx1_ | exact hg0_ | exact hg1_), (show 0 ≤ ze N91_ 81 43 by first | rfl | with_reducible assumption | (exact zo_618 e43_N60_ e43_N66_ e43_N71_ e43_N76_ hl88_4_i46_ hp1_N82_ hp1_N91_) | exact fun _ => hrt_ | exact hx0_ | exact hx1_ | exact hg0_ | exact hg1_ | assumption), (show ze N91_ 81 43 ≤ 30 by first | rfl | with_reducible assumption | (exact zo_619 e43_N60_ e43_N66_ e43_N71_ e43_N76_ hl88_5_i46_ hp1_N82_ hp1_N91_) | exact fun _ => hrt_ | exact hx0_ | exact hx1_ | exact hg0_ | exact hg1_ | assumption), (show ze Mz 81 4 ≤ ze N91_ 81 4 by first | rfl | with_reducible assumption | (exact zo_613 ha145_4_hp2_N82_ ha156_2_hp2_N91_ hgy_ hl88_8_i46_ hnp_ hp0_N76_ r4_N76_.1 r_4.2) | exact fun _ => hrt_ | exact hx0_ | exact hx1_ | exact hg0_ | exact hg1_ | assumption), (show ze N27_ 81 4 < ze N91_ 81 4 by first | rfl | with_reducible assumption | (exact zo_614 ha145_4_hp2_N82_ ha156_2_hp2_N91_ hgy_ hl88_9_i46_ hnp_ hp0_N76_ r4_N27_.2 r4_N76_.1) | exact fun _ => hrt_ | exact hx0_ | exact hx1_ | exact hg0_ | exact hg1_ | assumption)⟩))) (by have m1_ := zmF_c n_ N91_; have m2_ := zmF_c n_ N43_; have m3_ := hp0_N91_.x; omega)
                                      · skip
                                        have hg0_ := hz0_.tr ha156_0_hp2_N91_
                                        have hg1_ := ha156_1_hp2_N91_
                                        have hg2_ := ha156_2_hp2_N91_
                                        have hg3_ := ha156_3_hp2_N91_
                                        have hg4_ := ha156_4_hp2_N91_
                                        show zW l m_M_formula (zn Mz + 0, zw Mz + 0) N91_ 159 [some (.ref 81), some (.int (Int32.ofInt 0))] [.int (Int32.ofInt 0)] _
                                        refine zr_if_eq (pc := 159) (tgt := 166) ⟨(by decide), (by decide)⟩ (by decide) (zdal_p dlC_M_formula_97 (i := 10) rfl) (fun hc_159 => ?_) (fun hc_159 => ?_)
                                        · skip
                                          refine zw_iconst (pc := 166) (v := Int32.ofInt 0) (by decide) (zdal_p dlC_M_formula_97 (i := 13) rfl) ?_
                                          refine zw_istore_n (pc := 167) (i := 1) (L2 := [some (.ref 81), some (.int (Int32.ofInt 0))]) rfl (by decide) rfl (zdal_p dlC_M_formula_97 (i := 14) rfl) ?_
                                          refine zw_goto (pc := 168) (tgt := 88) (by decide) (zdal_p dlC_M_formula_97 (i := 15) rfl) ?_
                                          exact ih_88 0 (by decide) (by decide) (by (exact hu42_z)) N91_ hb1_N91_ hp0_N91_ (show (1 ≤ ze N91_ 81 7 ∧ (ze Mz 81 7 = 0 → zRea (zfs b_ n_ F_ K_ nm_) (0, (ze Mz 81 4).toNat, [], [], 0, false) zFt)) ∨ ((0 : Int) = 1 ∧ ze N91_ 81 7 = 0 ∧ ze Mz 81 7 = 0 ∧ zRea (zfs b_ n_ F_ K_ nm_) (0, (ze Mz 81 4).toNat, [], [], 0, false) (zRst 0 F_ N91_) ∧ zRI F_ K_ 0 N91_ ∧ 0 ≤ ze N91_ 81 43 ∧ ze N91_ 81 43 ≤ 30 ∧ ze Mz 81 4 ≤ ze N91_ 81 4 ∧ ze N27_ 81 4 < ze N91_ 81 4) ∨ ((0 : Int) = 0 ∧ ze N91_ 81 7 = 0 ∧ ze Mz 81 7 = 0 ∧ zRea (zfs b_ n_ F_ K_ nm_) (0, (ze Mz 81 4).toNat, [], [], 0, false) (zRst 2 F_ N91_) ∧ zRI F_ K_ 1 N91_ ∧ 0 ≤ ze N91_ 81 43 ∧ ze N91_ 81 43 ≤ 30 ∧ (zrS N91_).head? ≠ some 1 ∧ ¬ (zisg b_ n_ (ze N91_ 81 4).toNat 42 ∨ zisg b_ n_ (ze N91_ 81 4).toNat 43 ∨ zisg b_ n_ (ze N91_ 81 4).toNat 45) ∧ ze Mz 81 4 ≤ ze N91_ 81 4 ∧ ze N27_ 81 4 < ze N91_ 81 4) from Or.inr (Or.inr (⟨(show (0 : Int) = 0 by first | rfl | with_reducible assumption | assumption | omega | exact fun _ => hrt_ | exact hx0_ | exact hx1_ | exact hg0_ | exact hg1_), (show ze N91_ 81 7 = 0 by first | rfl | with_reducible assumption | (exact zo_610 e7_N91_ ha145_0_hp2_N82_) | exact fun _ => hrt_ | exact hx0_ | exact hx1_ | exact hg0_ | exact hg1_ | assumption), (show ze Mz 81 7 = 0 by first | rfl | with_reducible assumption | assumption | omega | exact fun _ => hrt_ | exact hx0_ | exact hx1_ | exact hg0_ | exact hg1_), (show zRea (zfs b_ n_ F_ K_ nm_) (0, (ze Mz 81 4).toNat, [], [], 0, false) (zRst 2 F_ N91_) by first | rfl | with_reducible assumption | assumption | omega | exact fun _ => hrt_ | exact hx0_ | exact hx1_ | exact hg0_ | exact hg1_), (show zRI F_ K_ 1 N91_ by first | rfl | with_reducible assumption | assumption | omega | exact fun _ => hrt_ | exact hx0_ | exact hx1_ | exact hg0_ | exact hg1_), (show 0 ≤ ze N91_ 81 43 by first | rfl | with_reducible assumption | (exact zo_618 e43_N60_ e43_N66_ e43_N71_ e43_N76_ hl88_4_i46_ hp1_N82_ hp1_N91_) | exact fun _ => hrt_ | exact hx0_ | exact hx1_ | exact hg0_ | exact hg1_ | assumption), (show ze N91_ 81 43 ≤ 30 by first | rfl | with_reducible assumption | (exact zo_619 e43_N60_ e43_N66_ e43_N71_ e43_N76_ hl88_5_i46_ hp1_N82_ hp1_N91_) | exact fun _ => hrt_ | exact hx0_ | exact hx1_ | exact hg0_ | exact hg1_ | assumption), (show (zrS N91_).head? ≠ some 1 by first | rfl | with_reducible assumption | assumption | omega | exact fun _ => hrt_ | exact hx0_ | exact hx1_ | exact hg0_ | exact hg1_), (show ¬ (zisg b_ n_ (ze N91_ 81 4).toNat 42 ∨ zisg b_ n_ (ze N91_ 81 4).toNat 43 ∨ zisg b_ n_ (ze N91_ 81 4).toNat 45) by first | rfl | with_reducible assumption | assumption | omega | exact fun _ => hrt_ | exact hx0_ | exact hx1_ | exact hg0_ | exact hg1_), (show ze Mz 81 4 ≤ ze N91_ 81 4 by first | rfl | with_reducible assumption | (exact zo_615 ha145_4_hp2_N82_ ha156_4_hp2_N91_ hgy_ hl88_8_i46_ hnp_ hp0_N76_ r4_N76_.1 r_4.2) | exact fun _ => hrt_ | exact hx0_ | exact hx1_ | exact hg0_ | exact hg1_ | assumption), (show ze N27_ 81 4 < ze N91_ 81 4 by first | rfl | with_reducible assumption | (exact zo_616 ha145_4_hp2_N82_ ha156_4_hp2_N91_ hgy_ hl88_9_i46_ hnp_ hp0_N76_ r4_N27_.2 r4_N76_.1) | exact fun _ => hrt_ | exact hx0_ | exact hx1_ | exact hg0_ | exact hg1_ | assumption)⟩))) (by have m1_ := zmF_c n_ N91_; have m2_ := zmF_c n_ N43_; have m3_ := hp0_N91_.x; omega)
                                        · skip
                                          exact absurd hc_159 (by decide)
                                  · skip
                                    exfalso; (exact zo_260 ha145_0_hp2_N82_ ha149_0_hp0_N89_)
                            · skip
                              have hM0_ := ha109_0_hp0_N58_
                              have hn41_ : ¬ (zisg b_ n_ (ze N43_ 81 4).toNat 41 ∧ 0 ∈ zrS N43_) := fun q_ => hM0_ q_.2
                              show zW l m_M_formula (zn Mz + 0, zw Mz + 0) N43_ 112 [some (.ref 81), some (.int (Int32.ofInt 0))] [.int (Int32.ofInt 0)] _
                              refine zr_if_eq (pc := 112) (tgt := 27) ⟨(by decide), (by decide)⟩ (by decide) (zdal_p dlC_M_formula_96 (i := 9) rfl) (fun hc_112 => ?_) (fun hc_112 => ?_)
                              · skip
                                exact ih_27 0 (by decide) (by decide) (by (exact hu42_z)) N43_ hb0_N43_ i45_ (show (1 ≤ ze N43_ 81 7 ∧ (ze Mz 81 7 = 0 → zRea (zfs b_ n_ F_ K_ nm_) (0, (ze Mz 81 4).toNat, [], [], 0, false) zFt)) ∨ ((0 : Int) = 1 ∧ ze N43_ 81 7 = 0 ∧ ze Mz 81 7 = 0 ∧ zRea (zfs b_ n_ F_ K_ nm_) (0, (ze Mz 81 4).toNat, [], [], 0, false) (zRst 0 F_ N43_) ∧ zRI F_ K_ 0 N43_ ∧ 0 ≤ ze N43_ 81 43 ∧ ze N43_ 81 43 ≤ 30 ∧ ze Mz 81 4 ≤ ze N43_ 81 4) ∨ ((0 : Int) = 0 ∧ ze N43_ 81 7 = 0 ∧ ze Mz 81 7 = 0 ∧ zRea (zfs b_ n_ F_ K_ nm_) (0, (ze Mz 81 4).toNat, [], [], 0, false) (zRst 2 F_ N43_) ∧ zRI F_ K_ 1 N43_ ∧ 0 ≤ ze N43_ 81 43 ∧ ze N43_ 81 43 ≤ 30 ∧ (zrS N43_).head? ≠ some 1 ∧ ¬ (zisg b_ n_ (ze N43_ 81 4).toNat 42 ∨ zisg b_ n_ (ze N43_ 81 4).toNat 43 ∨ zisg b_ n_ (ze N43_ 81 4).toNat 45) ∧ ze Mz 81 4 ≤ ze N43_ 81 4 ∧ ¬ (zisg b_ n_ (ze N43_ 81 4).toNat 41 ∧ 0 ∈ zrS N43_)) from Or.inr (Or.inr (⟨(show (0 : Int) = 0 by first | rfl | with_reducible assumption | assumption | omega | exact fun _ => hrt_ | exact hx0_ | exact hx1_ | exact hg0_ | exact hg1_), (show ze N43_ 81 7 = 0 by first | rfl | with_reducible assumption | assumption | omega | exact fun _ => hrt_ | exact hx0_ | exact hx1_ | exact hg0_ | exact hg1_), (show ze Mz 81 7 = 0 by first | rfl | with_reducible assumption | assumption | omega | exact fun _ => hrt_ | exact hx0_ | exact hx1_ | exact hg0_ | exact hg1_), (show zRea (zfs b_ n_ F_ K_ nm_) (0, (ze Mz 81 4).toNat, [], [], 0, false) (zRst 2 F_ N43_) by first | rfl | with_reducible assumption | assumption | omega | exact fun _ => hrt_ | exact hx0_ | exact hx1_ | exact hg0_ | exact hg1_), (show zRI F_ K_ 1 N43_ by first | rfl | with_reducible assumption | assumption | omega | exact fun _ => hrt_ | exact hx0_ | exact hx1_ | exact hg0_ | exact hg1_), (show 0 ≤ ze N43_ 81 43 by first | rfl | with_reducible assumption | assumption | omega | exact fun _ => hrt_ | exact hx0_ | exact hx1_ | exact hg0_ | exact hg1_), (show ze N43_ 81 43 ≤ 30 by first | rfl | with_reducible assumption | assumption | omega | exact fun _ => hrt_ | exact hx0_ | exact hx1_ | exact hg0_ | exact hg1_), (show (zrS N43_).head? ≠ some 1 by first | rfl | with_reducible assumption | assumption | omega | exact fun _ => hrt_ | exact hx0_ | exact hx1_ | exact hg0_ | exact hg1_), (show ¬ (zisg b_ n_ (ze N43_ 81 4).toNat 42 ∨ zisg b_ n_ (ze N43_ 81 4).toNat 43 ∨ zisg b_ n_ (ze N43_ 81 4).toNat 45) by first | rfl | with_reducible assumption | assumption | omega | exact fun _ => hrt_ | exact hx0_ | exact hx1_ | exact hg0_ | exact hg1_), (show ze Mz 81 4 ≤ ze N43_ 81 4 by first | rfl | with_reducible assumption | assumption | omega | exact fun _ => hrt_ | exact hx0_ | exact hx1_ | exact hg0_ | exact hg1_), (show ¬ (zisg b_ n_ (ze N43_ 81 4).toNat 41 ∧ 0 ∈ zrS N43_) by first | rfl | with_reducible assumption | assumption | omega | exact fun _ => hrt_ | exact hx0_ | exact hx1_ | exact hg0_ | exact hg1_)⟩))) (by have m1_ := zmF_c n_ N43_; have m2_ := zmF_c n_ N27_; have m3_ := i45_.x; omega)
                              · skip
                                exact absurd hc_112 (by decide)
                        · skip
                          have hC_ := ha102_0_hp0_N56_ (by (exact hl88_0_i46_))
                          have hn41_ : ¬ (zisg b_ n_ (ze N43_ 81 4).toNat 41 ∧ 0 ∈ zrS N43_) := fun q_ => hC_ q_.1
                          show zW l m_M_formula (zn Mz + 0, zw Mz + 0) N43_ 105 [some (.ref 81), some (.int (Int32.ofInt 0))] [.int (Int32.ofInt 0)] _
                          refine zr_if_eq (pc := 105) (tgt := 27) ⟨(by decide), (by decide)⟩ (by decide) (zdal_p dlC_M_formula_96 (i := 6) rfl) (fun hc_105 => ?_) (fun hc_105 => ?_)
                          · skip
                            exact ih_27 0 (by decide) (by decide) (by (exact hu42_z)) N43_ hb0_N43_ i45_ (show (1 ≤ ze N43_ 81 7 ∧ (ze Mz 81 7 = 0 → zRea (zfs b_ n_ F_ K_ nm_) (0, (ze Mz 81 4).toNat, [], [], 0, false) zFt)) ∨ ((0 : Int) = 1 ∧ ze N43_ 81 7 = 0 ∧ ze Mz 81 7 = 0 ∧ zRea (zfs b_ n_ F_ K_ nm_) (0, (ze Mz 81 4).toNat, [], [], 0, false) (zRst 0 F_ N43_) ∧ zRI F_ K_ 0 N43_ ∧ 0 ≤ ze N43_ 81 43 ∧ ze N43_ 81 43 ≤ 30 ∧ ze Mz 81 4 ≤ ze N43_ 81 4) ∨ ((0 : Int) = 0 ∧ ze N43_ 81 7 = 0 ∧ ze Mz 81 7 = 0 ∧ zRea (zfs b_ n_ F_ K_ nm_) (0, (ze Mz 81 4).toNat, [], [], 0, false) (zRst 2 F_ N43_) ∧ zRI F_ K_ 1 N43_ ∧ 0 ≤ ze N43_ 81 43 ∧ ze N43_ 81 43 ≤ 30 ∧ (zrS N43_).head? ≠ some 1 ∧ ¬ (zisg b_ n_ (ze N43_ 81 4).toNat 42 ∨ zisg b_ n_ (ze N43_ 81 4).toNat 43 ∨ zisg b_ n_ (ze N43_ 81 4).toNat 45) ∧ ze Mz 81 4 ≤ ze N43_ 81 4 ∧ ¬ (zisg b_ n_ (ze N43_ 81 4).toNat 41 ∧ 0 ∈ zrS N43_)) from Or.inr (Or.inr (⟨(show (0 : Int) = 0 by first | rfl | with_reducible assumption | assumption | omega | exact fun _ => hrt_ | exact hx0_ | exact hx1_ | exact hg0_ | exact hg1_), (show ze N43_ 81 7 = 0 by first | rfl | with_reducible assumption | assumption | omega | exact fun _ => hrt_ | exact hx0_ | exact hx1_ | exact hg0_ | exact hg1_), (show ze Mz 81 7 = 0 by first | rfl | with_reducible assumption | assumption | omega | exact fun _ => hrt_ | exact hx0_ | exact hx1_ | exact hg0_ | exact hg1_), (show zRea (zfs b_ n_ F_ K_ nm_) (0, (ze Mz 81 4).toNat, [], [], 0, false) (zRst 2 F_ N43_) by first | rfl | with_reducible assumption | assumption | omega | exact fun _ => hrt_ | exact hx0_ | exact hx1_ | exact hg0_ | exact hg1_), (show zRI F_ K_ 1 N43_ by first | rfl | with_reducible assumption | assumption | omega | exact fun _ => hrt_ | exact hx0_ | exact hx1_ | exact hg0_ | exact hg1_), (show 0 ≤ ze N43_ 81 43 by first | rfl | with_reducible assumption | assumption | omega | exact fun _ => hrt_ | exact hx0_ | exact hx1_ | exact hg0_ | exact hg1_), (show ze N43_ 81 43 ≤ 30 by first | rfl | with_reducible assumption | assumption | omega | exact fun _ => hrt_ | exact hx0_ | exact hx1_ | exact hg0_ | exact hg1_), (show (zrS N43_).head? ≠ some 1 by first | rfl | with_reducible assumption | assumption | omega | exact fun _ => hrt_ | exact hx0_ | exact hx1_ | exact hg0_ | exact hg1_), (show ¬ (zisg b_ n_ (ze N43_ 81 4).toNat 42 ∨ zisg b_ n_ (ze N43_ 81 4).toNat 43 ∨ zisg b_ n_ (ze N43_ 81 4).toNat 45) by first | rfl | with_reducible assumption | assumption | omega | exact fun _ => hrt_ | exact hx0_ | exact hx1_ | exact hg0_ | exact hg1_), (show ze Mz 81 4 ≤ ze N43_ 81 4 by first | rfl | with_reducible assumption | assumption | omega | exact fun _ => hrt_ | exact hx0_ | exact hx1_ | exact hg0_ | exact hg1_), (show ¬ (zisg b_ n_ (ze N43_ 81 4).toNat 41 ∧ 0 ∈ zrS N43_) by first | rfl | with_reducible assumption | assumption | omega | exact fun _ => hrt_ | exact hx0_ | exact hx1_ | exact hg0_ | exact hg1_)⟩))) (by have m1_ := zmF_c n_ N43_; have m2_ := zmF_c n_ N27_; have m3_ := i45_.x; omega)
                          · skip
                            exact absurd hc_105 (by decide)
                  · skip
                    exfalso; (exact zo_260 hl88_0_i46_ ha89_0_hp0_N54_)
            refine zr_if_eq (pc := 35) (tgt := 171) ⟨(by decide), (by decide)⟩ (by decide) (zdal_p dlC_M_formula_94 (i := 21) rfl) (fun hc_35 => ?_) (fun hc_35 => ?_)
            · skip
              exact absurd hc_35 (by decide)
            · skip
              have lp_38 : ∀ (n : Nat) (u96_ : Int) (hu96_a : -2147483648 ≤ u96_) (hu96_b : u96_ < 2147483648) (hu96_z : u96_ = 0 ∨ u96_ = 1) (N97_ : zMem) (hs98_ : zFr [3, 4, 5, 6, 7, 8, 11, 38, 39, 41, 42, 43] [95, 100] N27_ N97_) (i99_ : zRt b_ n_ N97_) (i100_ : (1 ≤ ze N97_ 81 7 ∧ (ze Mz 81 7 = 0 → zRea (zfs b_ n_ F_ K_ nm_) (0, (ze Mz 81 4).toNat, [], [], 0, false) zFt)) ∨ (ze N97_ 81 7 = 0 ∧ ze Mz 81 7 = 0 ∧ zRea (zfs b_ n_ F_ K_ nm_) (0, (ze Mz 81 4).toNat, [], [], 0, false) (zRst 0 F_ N97_) ∧ zRI F_ K_ 0 N97_ ∧ 0 ≤ ze N97_ 81 43 ∧ ze N97_ 81 43 ≤ 30 ∧ ze Mz 81 4 ≤ ze N97_ 81 4 ∧ ze N27_ 81 4 ≤ ze N97_ 81 4)), zmF n_ N97_ < n → zW l m_M_formula (zn Mz + 0, zw Mz + 0) N97_ 38 [some (.ref 81), some (.int (Int32.ofInt u96_))] [] (zpV [3, 4, 5, 6, 7, 8, 11, 38, 39, 41, 42, 43] [95, 96, 97, 100] Mz (fun N => zRt b_ n_ N ∧ (((1 ≤ ze N 81 7 ∧ (ze Mz 81 7 = 0 → zRea (zfs b_ n_ F_ K_ nm_) (0, (ze Mz 81 4).toNat, [], [], 0, false) zFt)) ∨ (ze N 81 7 = 0 ∧ ze Mz 81 7 = 0 ∧ zRea (zfs b_ n_ F_ K_ nm_) (0, (ze Mz 81 4).toNat, [], [], 0, false) (zRst 3 F_ N) ∧ zRI F_ K_ 1 N ∧ zrS N = [] ∧ ze Mz 81 4 ≤ ze N 81 4))))) := by
                clear hu26_a hu26_b hu26_z hv41_a hv41_b
                intro n
                induction n with
                | zero =>
                  intro u96_ hu96_a hu96_b hu96_z N97_ hs98_ i99_ i100_ h0
                  exact absurd h0 (Nat.not_lt_zero _)
                | succ n ih_38 =>
                  intro u96_ hu96_a hu96_b hu96_z N97_ hs98_ i99_ i100_ hlt_38
                  have hf_N97_ : zFr [3, 4, 5, 6, 7, 8, 11, 38, 39, 41, 42, 43] [95, 96, 97, 100] Mz N97_ := hf_N27_.tr hs98_ (by decide) (by decide)
                  have hb0_N97_ : zFr [3, 4, 5, 6, 7, 8, 11, 38, 39, 41, 42, 43] [95, 96, 97, 100] N21_ N97_ := hs28_.tr hs98_ (by decide) (by decide)
                  have hb1_N97_ : zFr [3, 4, 5, 6, 7, 8, 11, 38, 39, 41, 42, 43] [95, 96, 97, 100] N27_ N97_ := zFr.rf.tr hs98_ (by decide) (by decide)
                  have r3_N97_ := ze_r N97_ 81 3
                  have r4_N97_ := ze_r N97_ 81 4
                  have r7_N97_ := ze_r N97_ 81 7
                  have r38_N97_ := ze_r N97_ 81 38
                  have r39_N97_ := ze_r N97_ 81 39
                  have r41_N97_ := ze_r N97_ 81 41
                  have r42_N97_ := ze_r N97_ 81 42
                  have r43_N97_ := ze_r N97_ 81 43
                  have c101_ : zRmk F_ K_ N97_ := zRmk.fr hs98_ c31_ (by decide) (by decide)
                  have c102_ : zRb b_ n_ N97_ := zRb.fr hs98_ c32_ (by decide) (by decide)
                  have c103_ : zRNm nm_ F_ K_ b_ n_ N97_ := zRNm.fr hs98_ c33_ (by decide) (by decide)
                  rcases i100_ with ⟨hl38_0_i100_, hl38_1_i100_⟩ | ⟨hl38_0_i100_, hl38_1_i100_, hl38_2_i100_, hl38_3_i100_, hl38_4_i100_, hl38_5_i100_, hl38_6_i100_, hl38_7_i100_⟩
                  · skip
                    refine zw_aload_n (pc := 38) (n := 0) (x := 81) rfl (zdal_p dlC_M_formula_94 (i := 22) rfl) ?_
                    refine zr_callV (hf_N97_.w hW) hf_N97_.x (pc := 39) [] [] l_M_183 (c_M_isGood l N97_ (hf_N97_.w hW) ) rfl rfl rfl (by decide) (Nat.le_of_ble_eq_true rfl) (zdal_p dlC_M_formula_94 (i := 23) rfl) ?_
                    rintro _ N104_ ⟨v105_, rfl, ⟨hv105_a, hv105_b⟩, hsN104_, hp0_N104_⟩
                    obtain rfl := hsN104_.eq.symm
                    replace hp0_N104_ : ((v105_ = 1 ∧ ze N97_ 81 7 = 0) ∨ (v105_ = 0 ∧ ze N97_ 81 7 ≠ 0)) := hp0_N104_
                    rcases hp0_N104_ with ⟨rfl, ha39_0_hp0_N104_⟩ | ⟨rfl, ha39_0_hp0_N104_⟩
                    · skip
                      exfalso; (exact zo_281 ha39_0_hp0_N104_ hl38_0_i100_)
                    · skip
                      show zW l m_M_formula (zn Mz + 0, zw Mz + 0) N97_ 42 [some (.ref 81), some (.int (Int32.ofInt u96_))] [.int (Int32.ofInt 0)] _
                      refine zr_if_eq (pc := 42) (tgt := 57) ⟨(by decide), (by decide)⟩ (by decide) (zdal_p dlC_M_formula_95 (i := 0) rfl) (fun hc_42 => ?_) (fun hc_42 => ?_)
                      · skip
                        refine zw_aload_n (pc := 57) (n := 0) (x := 81) rfl (zdal_p dlC_M_formula_95 (i := 7) rfl) ?_
                        refine zr_callV (hf_N97_.w hW) hf_N97_.x (pc := 58) [] [] l_M_183 (c_M_isGood l N97_ (hf_N97_.w hW) ) rfl rfl rfl (by decide) (Nat.le_of_ble_eq_true rfl) (zdal_p dlC_M_formula_95 (i := 8) rfl) ?_
                        rintro _ N106_ ⟨v107_, rfl, ⟨hv107_a, hv107_b⟩, hsN106_, hp0_N106_⟩
                        obtain rfl := hsN106_.eq.symm
                        replace hp0_N106_ : ((v107_ = 1 ∧ ze N97_ 81 7 = 0) ∨ (v107_ = 0 ∧ ze N97_ 81 7 ≠ 0)) := hp0_N106_
                        rcases hp0_N106_ with ⟨rfl, ha58_0_hp0_N106_⟩ | ⟨rfl, ha58_0_hp0_N106_⟩
                        · skip
                          exfalso; (exact zo_281 ha58_0_hp0_N106_ hl38_0_i100_)
                        · skip
                          show zW l m_M_formula (zn Mz + 0, zw Mz + 0) N97_ 61 [some (.ref 81), some (.int (Int32.ofInt u96_))] [.int (Int32.ofInt 0)] _
                          refine zr_if_eq (pc := 61) (tgt := 68) ⟨(by decide), (by decide)⟩ (by decide) (zdal_p dlC_M_formula_95 (i := 9) rfl) (fun hc_61 => ?_) (fun hc_61 => ?_)
                          · skip
                            refine zw_aload_n (pc := 68) (n := 0) (x := 81) rfl (zdal_p dlC_M_formula_95 (i := 12) rfl) ?_
                            refine zr_callV (hf_N97_.w hW) hf_N97_.x (pc := 69) [] [] l_M_183 (c_M_isGood l N97_ (hf_N97_.w hW) ) rfl rfl rfl (by decide) (Nat.le_of_ble_eq_true rfl) (zdal_p dlC_M_formula_95 (i := 13) rfl) ?_
                            rintro _ N108_ ⟨v109_, rfl, ⟨hv109_a, hv109_b⟩, hsN108_, hp0_N108_⟩
                            obtain rfl := hsN108_.eq.symm
                            replace hp0_N108_ : ((v109_ = 1 ∧ ze N97_ 81 7 = 0) ∨ (v109_ = 0 ∧ ze N97_ 81 7 ≠ 0)) := hp0_N108_
                            rcases hp0_N108_ with ⟨rfl, ha69_0_hp0_N108_⟩ | ⟨rfl, ha69_0_hp0_N108_⟩
                            · skip
                              exfalso; (exact zo_281 ha69_0_hp0_N108_ hl38_0_i100_)
                            · skip
                              show zW l m_M_formula (zn Mz + 0, zw Mz + 0) N97_ 72 [some (.ref 81), some (.int (Int32.ofInt u96_))] [.int (Int32.ofInt 0)] _
                              refine zr_if_eq (pc := 72) (tgt := 86) ⟨(by decide), (by decide)⟩ (by decide) (zdal_p dlC_M_formula_95 (i := 14) rfl) (fun hc_72 => ?_) (fun hc_72 => ?_)
                              · skip
                                refine zw_iconst (pc := 86) (v := Int32.ofInt 0) (by decide) (zdal_p dlC_M_formula_95 (i := 20) rfl) ?_
                                refine zw_istore_n (pc := 87) (i := 1) (L2 := [some (.ref 81), some (.int (Int32.ofInt 0))]) rfl (by decide) rfl d_M_formula_87 ?_
                                exact lp_88 _ 0 (by decide) (by decide) (by (decide)) N97_ hb1_N97_ i99_ (show (1 ≤ ze N97_ 81 7 ∧ (ze Mz 81 7 = 0 → zRea (zfs b_ n_ F_ K_ nm_) (0, (ze Mz 81 4).toNat, [], [], 0, false) zFt)) ∨ ((0 : Int) = 1 ∧ ze N97_ 81 7 = 0 ∧ ze Mz 81 7 = 0 ∧ zRea (zfs b_ n_ F_ K_ nm_) (0, (ze Mz 81 4).toNat, [], [], 0, false) (zRst 0 F_ N97_) ∧ zRI F_ K_ 0 N97_ ∧ 0 ≤ ze N97_ 81 43 ∧ ze N97_ 81 43 ≤ 30 ∧ ze Mz 81 4 ≤ ze N97_ 81 4 ∧ ze N27_ 81 4 < ze N97_ 81 4) ∨ ((0 : Int) = 0 ∧ ze N97_ 81 7 = 0 ∧ ze Mz 81 7 = 0 ∧ zRea (zfs b_ n_ F_ K_ nm_) (0, (ze Mz 81 4).toNat, [], [], 0, false) (zRst 2 F_ N97_) ∧ zRI F_ K_ 1 N97_ ∧ 0 ≤ ze N97_ 81 43 ∧ ze N97_ 81 43 ≤ 30 ∧ (zrS N97_).head? ≠ some 1 ∧ ¬ (zisg b_ n_ (ze N97_ 81 4).toNat 42 ∨ zisg b_ n_ (ze N97_ 81 4).toNat 43 ∨ zisg b_ n_ (ze N97_ 81 4).toNat 45) ∧ ze Mz 81 4 ≤ ze N97_ 81 4 ∧ ze N27_ 81 4 < ze N97_ 81 4) from Or.inl (⟨(show 1 ≤ ze N97_ 81 7 by first | rfl | with_reducible assumption | assumption | omega | exact fun _ => hrt_ | exact hg0_ | exact hg1_), (show (ze Mz 81 7 = 0 → zRea (zfs b_ n_ F_ K_ nm_) (0, (ze Mz 81 4).toNat, [], [], 0, false) zFt) by first | rfl | with_reducible assumption | assumption | omega | exact fun _ => hrt_ | exact hg0_ | exact hg1_)⟩)) (Nat.lt_succ_self _)
                              · skip
                                exact absurd hc_72 (by decide)
                          · skip
                            exact absurd hc_61 (by decide)
                      · skip
                        exact absurd hc_42 (by decide)
                  · skip
                    have hr0_ := hl38_2_i100_
                    have hc0_ := hl38_3_i100_
                    refine zw_aload_n (pc := 38) (n := 0) (x := 81) rfl (zdal_p dlC_M_formula_94 (i := 22) rfl) ?_
                    refine zr_callV (hf_N97_.w hW) hf_N97_.x (pc := 39) [] [] l_M_183 (c_M_isGood l N97_ (hf_N97_.w hW) ) rfl rfl rfl (by decide) (Nat.le_of_ble_eq_true rfl) (zdal_p dlC_M_formula_94 (i := 23) rfl) ?_
                    rintro _ N110_ ⟨v111_, rfl, ⟨hv111_a, hv111_b⟩, hsN110_, hp0_N110_⟩
                    obtain rfl := hsN110_.eq.symm
                    replace hp0_N110_ : ((v111_ = 1 ∧ ze N97_ 81 7 = 0) ∨ (v111_ = 0 ∧ ze N97_ 81 7 ≠ 0)) := hp0_N110_
                    rcases hp0_N110_ with ⟨rfl, ha39_0_hp0_N110_⟩ | ⟨rfl, ha39_0_hp0_N110_⟩
                    · skip
                      show zW l m_M_formula (zn Mz + 0, zw Mz + 0) N97_ 42 [some (.ref 81), some (.int (Int32.ofInt u96_))] [.int (Int32.ofInt 1)] _
                      refine zr_if_eq (pc := 42) (tgt := 57) ⟨(by decide), (by decide)⟩ (by decide) (zdal_p dlC_M_formula_95 (i := 0) rfl) (fun hc_42 => ?_) (fun hc_42 => ?_)
                      · skip
                        exact absurd hc_42 (by decide)
                      · skip
                        refine zw_aload_n (pc := 45) (n := 0) (x := 81) rfl (zdal_p dlC_M_formula_95 (i := 1) rfl) ?_
                        refine zr_callV (hf_N97_.w hW) hf_N97_.x (pc := 46) [] [] l_M_343 (c_M_operandF l N97_ (hf_N97_.w hW) F_ K_ hA_ b_ n_ nm_ c101_ c102_ i99_ c103_ hc0_ (show ze N97_ 81 7 = 0 by first | with_reducible assumption | assumption | omega) (show 0 ≤ ze N97_ 81 43 by first | with_reducible assumption | assumption | omega) (show ze N97_ 81 43 ≤ 30 by first | with_reducible assumption | assumption | omega)) rfl rfl rfl (by decide) (Nat.le_of_ble_eq_true rfl) (zdal_p dlC_M_formula_95 (i := 2) rfl) ?_
                        rintro _ N112_ ⟨v113_, rfl, ⟨hv113_a, hv113_b⟩, hsN112_, ⟨hp0_N112_, hp1_N112_⟩⟩
                        have hf_N112_ : zFr [3, 4, 5, 6, 7, 8, 11, 38, 39, 41, 42, 43] [95, 96, 97, 100] Mz N112_ := hf_N97_.tr hsN112_ (by decide) (by decide)
                        have hb0_N112_ : zFr [3, 4, 5, 6, 7, 8, 11, 38, 39, 41, 42, 43] [95, 96, 97, 100] N21_ N112_ := hb0_N97_.tr hsN112_ (by decide) (by decide)
                        have hb1_N112_ : zFr [3, 4, 5, 6, 7, 8, 11, 38, 39, 41, 42, 43] [95, 96, 97, 100] N27_ N112_ := hb1_N97_.tr hsN112_ (by decide) (by decide)
                        have hb2_N112_ : zFr [3, 4, 5, 6, 7, 8, 11, 38, 39, 41, 42, 43] [95, 100] N27_ N112_ := hs98_.tr hsN112_ (by decide) (by decide)
                        have r3_N112_ := ze_r N112_ 81 3
                        have r4_N112_ := ze_r N112_ 81 4
                        have r7_N112_ := ze_r N112_ 81 7
                        have r38_N112_ := ze_r N112_ 81 38
                        have r39_N112_ := ze_r N112_ 81 39
                        have r41_N112_ := ze_r N112_ 81 41
                        have r42_N112_ := ze_r N112_ 81 42
                        have r43_N112_ := ze_r N112_ 81 43
                        have c114_ : zRmk F_ K_ N112_ := zRmk.fr hsN112_ c101_ (by decide) (by decide)
                        have c115_ : zRb b_ n_ N112_ := zRb.fr hsN112_ c102_ (by decide) (by decide)
                        rcases hp1_N112_ with ⟨rfl, ha46_0_hp1_N112_, ha46_1_hp1_N112_⟩ | ⟨rfl, ha46_0_hp1_N112_, ha46_1_hp1_N112_, ha46_2_hp1_N112_, ha46_3_hp1_N112_, ha46_4_hp1_N112_, ha46_5_hp1_N112_⟩ | ⟨rfl, ha46_0_hp1_N112_, ha46_1_hp1_N112_⟩ | ⟨rfl, ha46_0_hp1_N112_, ha46_1_hp1_N112_, ha46_2_hp1_N112_, ha46_3_hp1_N112_, ha46_4_hp1_N112_, ha46_5_hp1_N112_⟩
                        · skip
                          have hrt_ := hr0_.tr ha46_1_hp1_N112_
                          show zW l m_M_formula (zn Mz + 0, zw Mz + 0) N112_ 49 [some (.ref 81), some (.int (Int32.ofInt u96_))] [.int (Int32.ofInt 0)] _
                          refine zr_if_ne (pc := 49) (tgt := 57) ⟨(by decide), (by decide)⟩ (by decide) (zdal_p dlC_M_formula_95 (i := 3) rfl) (fun hc_49 => ?_) (fun hc_49 => ?_)
                          · skip
                            exact absurd hc_49 (by decide)
                          · skip
                            refine zw_iconst (pc := 52) (v := Int32.ofInt 1) (by decide) (zdal_p dlC_M_formula_95 (i := 4) rfl) ?_
                            refine zw_istore_n (pc := 53) (i := 1) (L2 := [some (.ref 81), some (.int (Int32.ofInt 1))]) rfl (by decide) rfl (zdal_p dlC_M_formula_95 (i := 5) rfl) ?_
                            refine zw_goto (pc := 54) (tgt := 38) (by decide) (zdal_p dlC_M_formula_95 (i := 6) rfl) ?_
                            exact ih_38 1 (by decide) (by decide) (by (decide)) N112_ hb2_N112_ hp0_N112_ (show (1 ≤ ze N112_ 81 7 ∧ (ze Mz 81 7 = 0 → zRea (zfs b_ n_ F_ K_ nm_) (0, (ze Mz 81 4).toNat, [], [], 0, false) zFt)) ∨ (ze N112_ 81 7 = 0 ∧ ze Mz 81 7 = 0 ∧ zRea (zfs b_ n_ F_ K_ nm_) (0, (ze Mz 81 4).toNat, [], [], 0, false) (zRst 0 F_ N112_) ∧ zRI F_ K_ 0 N112_ ∧ 0 ≤ ze N112_ 81 43 ∧ ze N112_ 81 43 ≤ 30 ∧ ze Mz 81 4 ≤ ze N112_ 81 4 ∧ ze N27_ 81 4 ≤ ze N112_ 81 4) from Or.inl (⟨(show 1 ≤ ze N112_ 81 7 by first | rfl | with_reducible assumption | assumption | omega | exact fun _ => hrt_ | exact hx0_ | exact hx1_ | exact hg0_ | exact hg1_), (show (ze Mz 81 7 = 0 → zRea (zfs b_ n_ F_ K_ nm_) (0, (ze Mz 81 4).toNat, [], [], 0, false) zFt) by first | rfl | with_reducible assumption | assumption | omega | exact fun _ => hrt_ | exact hx0_ | exact hx1_ | exact hg0_ | exact hg1_)⟩)) (by have m1_ := zmF_c n_ N112_; have m2_ := zmF_c n_ N97_; have m3_ := hp0_N112_.x; omega)
                        · skip
                          have hx0_ := hr0_.tr ha46_1_hp1_N112_
                          have hx1_ := ha46_2_hp1_N112_
                          have hx2_ := ha46_3_hp1_N112_
                          show zW l m_M_formula (zn Mz + 0, zw Mz + 0) N112_ 49 [some (.ref 81), some (.int (Int32.ofInt u96_))] [.int (Int32.ofInt 0)] _
                          refine zr_if_ne (pc := 49) (tgt := 57) ⟨(by decide), (by decide)⟩ (by decide) (zdal_p dlC_M_formula_95 (i := 3) rfl) (fun hc_49 => ?_) (fun hc_49 => ?_)
                          · skip
                            exact absurd hc_49 (by decide)
                          · skip
                            refine zw_iconst (pc := 52) (v := Int32.ofInt 1) (by decide) (zdal_p dlC_M_formula_95 (i := 4) rfl) ?_
                            refine zw_istore_n (pc := 53) (i := 1) (L2 := [some (.ref 81), some (.int (Int32.ofInt 1))]) rfl (by decide) rfl (zdal_p dlC_M_formula_95 (i := 5) rfl) ?_
                            refine zw_goto (pc := 54) (tgt := 38) (by decide) (zdal_p dlC_M_formula_95 (i := 6) rfl) ?_
                            exact ih_38 1 (by decide) (by decide) (by (decide)) N112_ hb2_N112_ hp0_N112_ (show (1 ≤ ze N112_ 81 7 ∧ (ze Mz 81 7 = 0 → zRea (zfs b_ n_ F_ K_ nm_) (0, (ze Mz 81 4).toNat, [], [], 0, false) zFt)) ∨ (ze N112_ 81 7 = 0 ∧ ze Mz 81 7 = 0 ∧ zRea (zfs b_ n_ F_ K_ nm_) (0, (ze Mz 81 4).toNat, [], [], 0, false) (zRst 0 F_ N112_) ∧ zRI F_ K_ 0 N112_ ∧ 0 ≤ ze N112_ 81 43 ∧ ze N112_ 81 43 ≤ 30 ∧ ze Mz 81 4 ≤ ze N112_ 81 4 ∧ ze N27_ 81 4 ≤ ze N112_ 81 4) from Or.inr (⟨(show ze N112_ 81 7 = 0 by first | rfl | with_reducible assumption | assumption | omega | exact fun _ => hrt_ | exact hx0_ | exact hx1_ | exact hg0_ | exact hg1_), (show ze Mz 81 7 = 0 by first | rfl | with_reducible assumption | assumption | omega | exact fun _ => hrt_ | exact hx0_ | exact hx1_ | exact hg0_ | exact hg1_), (show zRea (zfs b_ n_ F_ K_ nm_) (0, (ze Mz 81 4).toNat, [], [], 0, false) (zRst 0 F_ N112_) by first | rfl | with_reducible assumption | assumption | omega | exact fun _ => hrt_ | exact hx0_ | exact hx1_ | exact hg0_ | exact hg1_), (show zRI F_ K_ 0 N112_ by first | rfl | with_reducible assumption | assumption | omega | exact fun _ => hrt_ | exact hx0_ | exact hx1_ | exact hg0_ | exact hg1_), (show 0 ≤ ze N112_ 81 43 by first | rfl | with_reducible assumption | assumption | omega | exact fun _ => hrt_ | exact hx0_ | exact hx1_ | exact hg0_ | exact hg1_), (show ze N112_ 81 43 ≤ 30 by first | rfl | with_reducible assumption | assumption | omega | exact fun _ => hrt_ | exact hx0_ | exact hx1_ | exact hg0_ | exact hg1_), (show ze Mz 81 4 ≤ ze N112_ 81 4 by first | rfl | with_reducible assumption | (exact zo_617 ha46_3_hp1_N112_ hl38_6_i100_ r4_N112_.1 r_4.2) | exact fun _ => hrt_ | exact hx0_ | exact hx1_ | exact hg0_ | exact hg1_ | assumption), (show ze N27_ 81 4 ≤ ze N112_ 81 4 by first | rfl | with_reducible assumption | (exact zo_617 ha46_3_hp1_N112_ hl38_7_i100_ r4_N112_.1 r4_N27_.2) | exact fun _ => hrt_ | exact hx0_ | exact hx1_ | exact hg0_ | exact hg1_ | assumption)⟩)) (by have m1_ := zmF_c n_ N112_; have m2_ := zmF_c n_ N97_; have m3_ := hp0_N112_.x; omega)
                        · skip
                          have hrt_ := hr0_.tr ha46_1_hp1_N112_
                          show zW l m_M_formula (zn Mz + 0, zw Mz + 0) N112_ 49 [some (.ref 81), some (.int (Int32.ofInt u96_))] [.int (Int32.ofInt 1)] _
                          refine zr_if_ne (pc := 49) (tgt := 57) ⟨(by decide), (by decide)⟩ (by decide) (zdal_p dlC_M_formula_95 (i := 3) rfl) (fun hc_49 => ?_) (fun hc_49 => ?_)
                          · skip
                            refine zw_aload_n (pc := 57) (n := 0) (x := 81) rfl (zdal_p dlC_M_formula_95 (i := 7) rfl) ?_
                            refine zr_callV (hf_N112_.w hW) hf_N112_.x (pc := 58) [] [] l_M_183 (c_M_isGood l N112_ (hf_N112_.w hW) ) rfl rfl rfl (by decide) (Nat.le_of_ble_eq_true rfl) (zdal_p dlC_M_formula_95 (i := 8) rfl) ?_
                            rintro _ N117_ ⟨v118_, rfl, ⟨hv118_a, hv118_b⟩, hsN117_, hp0_N117_⟩
                            obtain rfl := hsN117_.eq.symm
                            replace hp0_N117_ : ((v118_ = 1 ∧ ze N112_ 81 7 = 0) ∨ (v118_ = 0 ∧ ze N112_ 81 7 ≠ 0)) := hp0_N117_
                            rcases hp0_N117_ with ⟨rfl, ha58_0_hp0_N117_⟩ | ⟨rfl, ha58_0_hp0_N117_⟩
                            · skip
                              exfalso; (exact zo_609 ha46_0_hp1_N112_ ha58_0_hp0_N117_)
                            · skip
                              show zW l m_M_formula (zn Mz + 0, zw Mz + 0) N112_ 61 [some (.ref 81), some (.int (Int32.ofInt u96_))] [.int (Int32.ofInt 0)] _
                              refine zr_if_eq (pc := 61) (tgt := 68) ⟨(by decide), (by decide)⟩ (by decide) (zdal_p dlC_M_formula_95 (i := 9) rfl) (fun hc_61 => ?_) (fun hc_61 => ?_)
                              · skip
                                refine zw_aload_n (pc := 68) (n := 0) (x := 81) rfl (zdal_p dlC_M_formula_95 (i := 12) rfl) ?_
                                refine zr_callV (hf_N112_.w hW) hf_N112_.x (pc := 69) [] [] l_M_183 (c_M_isGood l N112_ (hf_N112_.w hW) ) rfl rfl rfl (by decide) (Nat.le_of_ble_eq_true rfl) (zdal_p dlC_M_formula_95 (i := 13) rfl) ?_
                                rintro _ N119_ ⟨v120_, rfl, ⟨hv120_a, hv120_b⟩, hsN119_, hp0_N119_⟩
                                obtain rfl := hsN119_.eq.symm
                                replace hp0_N119_ : ((v120_ = 1 ∧ ze N112_ 81 7 = 0) ∨ (v120_ = 0 ∧ ze N112_ 81 7 ≠ 0)) := hp0_N119_
                                rcases hp0_N119_ with ⟨rfl, ha69_0_hp0_N119_⟩ | ⟨rfl, ha69_0_hp0_N119_⟩
                                · skip
                                  exfalso; (exact zo_609 ha46_0_hp1_N112_ ha69_0_hp0_N119_)
                                · skip
                                  show zW l m_M_formula (zn Mz + 0, zw Mz + 0) N112_ 72 [some (.ref 81), some (.int (Int32.ofInt u96_))] [.int (Int32.ofInt 0)] _
                                  refine zr_if_eq (pc := 72) (tgt := 86) ⟨(by decide), (by decide)⟩ (by decide) (zdal_p dlC_M_formula_95 (i := 14) rfl) (fun hc_72 => ?_) (fun hc_72 => ?_)
                                  · skip
                                    refine zw_iconst (pc := 86) (v := Int32.ofInt 0) (by decide) (zdal_p dlC_M_formula_95 (i := 20) rfl) ?_
                                    refine zw_istore_n (pc := 87) (i := 1) (L2 := [some (.ref 81), some (.int (Int32.ofInt 0))]) rfl (by decide) rfl d_M_formula_87 ?_
                                    exact lp_88 _ 0 (by decide) (by decide) (by (decide)) N112_ hb1_N112_ hp0_N112_ (show (1 ≤ ze N112_ 81 7 ∧ (ze Mz 81 7 = 0 → zRea (zfs b_ n_ F_ K_ nm_) (0, (ze Mz 81 4).toNat, [], [], 0, false) zFt)) ∨ ((0 : Int) = 1 ∧ ze N112_ 81 7 = 0 ∧ ze Mz 81 7 = 0 ∧ zRea (zfs b_ n_ F_ K_ nm_) (0, (ze Mz 81 4).toNat, [], [], 0, false) (zRst 0 F_ N112_) ∧ zRI F_ K_ 0 N112_ ∧ 0 ≤ ze N112_ 81 43 ∧ ze N112_ 81 43 ≤ 30 ∧ ze Mz 81 4 ≤ ze N112_ 81 4 ∧ ze N27_ 81 4 < ze N112_ 81 4) ∨ ((0 : Int) = 0 ∧ ze N112_ 81 7 = 0 ∧ ze Mz 81 7 = 0 ∧ zRea (zfs b_ n_ F_ K_ nm_) (0, (ze Mz 81 4).toNat, [], [], 0, false) (zRst 2 F_ N112_) ∧ zRI F_ K_ 1 N112_ ∧ 0 ≤ ze N112_ 81 43 ∧ ze N112_ 81 43 ≤ 30 ∧ (zrS N112_).head? ≠ some 1 ∧ ¬ (zisg b_ n_ (ze N112_ 81 4).toNat 42 ∨ zisg b_ n_ (ze N112_ 81 4).toNat 43 ∨ zisg b_ n_ (ze N112_ 81 4).toNat 45) ∧ ze Mz 81 4 ≤ ze N112_ 81 4 ∧ ze N27_ 81 4 < ze N112_ 81 4) from Or.inl (⟨(show 1 ≤ ze N112_ 81 7 by first | rfl | with_reducible assumption | assumption | omega | exact fun _ => hrt_ | exact hg0_ | exact hg1_), (show (ze Mz 81 7 = 0 → zRea (zfs b_ n_ F_ K_ nm_) (0, (ze Mz 81 4).toNat, [], [], 0, false) zFt) by first | rfl | with_reducible assumption | assumption | omega | exact fun _ => hrt_ | exact hg0_ | exact hg1_)⟩)) (Nat.lt_succ_self _)
                                  · skip
                                    exact absurd hc_72 (by decide)
                              · skip
                                exact absurd hc_61 (by decide)
                          · skip
                            exact absurd hc_49 (by decide)
                        · skip
                          have hy0_ := hr0_.tr ha46_1_hp1_N112_
                          have hy1_ := ha46_2_hp1_N112_
                          have hy2_ := ha46_3_hp1_N112_
                          show zW l m_M_formula (zn Mz + 0, zw Mz + 0) N112_ 49 [some (.ref 81), some (.int (Int32.ofInt u96_))] [.int (Int32.ofInt 1)] _
                          refine zr_if_ne (pc := 49) (tgt := 57) ⟨(by decide), (by decide)⟩ (by decide) (zdal_p dlC_M_formula_95 (i := 3) rfl) (fun hc_49 => ?_) (fun hc_49 => ?_)
                          · skip
                            refine zw_aload_n (pc := 57) (n := 0) (x := 81) rfl (zdal_p dlC_M_formula_95 (i := 7) rfl) ?_
                            refine zr_callV (hf_N112_.w hW) hf_N112_.x (pc := 58) [] [] l_M_183 (c_M_isGood l N112_ (hf_N112_.w hW) ) rfl rfl rfl (by decide) (Nat.le_of_ble_eq_true rfl) (zdal_p dlC_M_formula_95 (i := 8) rfl) ?_
                            rintro _ N121_ ⟨v122_, rfl, ⟨hv122_a, hv122_b⟩, hsN121_, hp0_N121_⟩
                            obtain rfl := hsN121_.eq.symm
                            replace hp0_N121_ : ((v122_ = 1 ∧ ze N112_ 81 7 = 0) ∨ (v122_ = 0 ∧ ze N112_ 81 7 ≠ 0)) := hp0_N121_
                            rcases hp0_N121_ with ⟨rfl, ha58_0_hp0_N121_⟩ | ⟨rfl, ha58_0_hp0_N121_⟩
                            · skip
                              show zW l m_M_formula (zn Mz + 0, zw Mz + 0) N112_ 61 [some (.ref 81), some (.int (Int32.ofInt u96_))] [.int (Int32.ofInt 1)] _
                              refine zr_if_eq (pc := 61) (tgt := 68) ⟨(by decide), (by decide)⟩ (by decide) (zdal_p dlC_M_formula_95 (i := 9) rfl) (fun hc_61 => ?_) (fun hc_61 => ?_)
                              · skip
                                exact absurd hc_61 (by decide)
                              · skip
                                refine zw_aload_n (pc := 64) (n := 0) (x := 81) rfl (zdal_p dlC_M_formula_95 (i := 10) rfl) ?_
                                refine zr_callV (hf_N112_.w hW) hf_N112_.x (pc := 65) [] [] l_M_346 (c_M_closesF l N112_ (hf_N112_.w hW) F_ K_ hA_ b_ n_ nm_ c114_ c115_ hp0_N112_ hy1_ (show ze N112_ 81 7 = 0 by first | with_reducible assumption | assumption | omega)) rfl rfl rfl (by decide) (Nat.le_of_ble_eq_true rfl) (zdal_p dlC_M_formula_95 (i := 11) rfl) ?_
                                rintro _ N123_ ⟨rfl, hsN123_, ⟨hp0_N123_, hp1_N123_, hp2_N123_⟩⟩
                                have hf_N123_ : zFr [3, 4, 5, 6, 7, 8, 11, 38, 39, 41, 42, 43] [95, 96, 97, 100] Mz N123_ := hf_N112_.tr hsN123_ (by decide) (by decide)
                                have hb0_N123_ : zFr [3, 4, 5, 6, 7, 8, 11, 38, 39, 41, 42, 43] [95, 96, 97, 100] N21_ N123_ := hb0_N112_.tr hsN123_ (by decide) (by decide)
                                have hb1_N123_ : zFr [3, 4, 5, 6, 7, 8, 11, 38, 39, 41, 42, 43] [95, 96, 97, 100] N27_ N123_ := hb1_N112_.tr hsN123_ (by decide) (by decide)
                                have r3_N123_ := ze_r N123_ 81 3
                                have r4_N123_ := ze_r N123_ 81 4
                                have r7_N123_ := ze_r N123_ 81 7
                                have e38_N123_ : ze N123_ 81 38 = ze N112_ 81 38 := hsN123_.e (by decide)
                                have r39_N123_ := ze_r N123_ 81 39
                                have r41_N123_ := ze_r N123_ 81 41
                                have r42_N123_ := ze_r N123_ 81 42
                                have e43_N123_ : ze N123_ 81 43 = ze N112_ 81 43 := hsN123_.e (by decide)
                                have c125_ : zRmk F_ K_ N123_ := zRmk.fr hsN123_ c114_ (by decide) (by decide)
                                have c126_ : zRb b_ n_ N123_ := zRb.fr hsN123_ c115_ (by decide) (by decide)
                                rcases hp2_N123_ with ⟨ha65_0_hp2_N123_, ha65_1_hp2_N123_⟩ | ⟨ha65_0_hp2_N123_, ha65_1_hp2_N123_, ha65_2_hp2_N123_, ha65_3_hp2_N123_, ha65_4_hp2_N123_⟩
                                · skip
                                  have hrt_ := hy0_.tr ha65_1_hp2_N123_
                                  show zW l m_M_formula (zn Mz + 0, zw Mz + 0) N123_ 68 [some (.ref 81), some (.int (Int32.ofInt u96_))] [] _
                                  refine zw_aload_n (pc := 68) (n := 0) (x := 81) rfl (zdal_p dlC_M_formula_95 (i := 12) rfl) ?_
                                  refine zr_callV (hf_N123_.w hW) hf_N123_.x (pc := 69) [] [] l_M_183 (c_M_isGood l N123_ (hf_N123_.w hW) ) rfl rfl rfl (by decide) (Nat.le_of_ble_eq_true rfl) (zdal_p dlC_M_formula_95 (i := 13) rfl) ?_
                                  rintro _ N128_ ⟨v129_, rfl, ⟨hv129_a, hv129_b⟩, hsN128_, hp0_N128_⟩
                                  obtain rfl := hsN128_.eq.symm
                                  replace hp0_N128_ : ((v129_ = 1 ∧ ze N123_ 81 7 = 0) ∨ (v129_ = 0 ∧ ze N123_ 81 7 ≠ 0)) := hp0_N128_
                                  rcases hp0_N128_ with ⟨rfl, ha69_0_hp0_N128_⟩ | ⟨rfl, ha69_0_hp0_N128_⟩
                                  · skip
                                    exfalso; (exact zo_609 ha65_0_hp2_N123_ ha69_0_hp0_N128_)
                                  · skip
                                    show zW l m_M_formula (zn Mz + 0, zw Mz + 0) N123_ 72 [some (.ref 81), some (.int (Int32.ofInt u96_))] [.int (Int32.ofInt 0)] _
                                    refine zr_if_eq (pc := 72) (tgt := 86) ⟨(by decide), (by decide)⟩ (by decide) (zdal_p dlC_M_formula_95 (i := 14) rfl) (fun hc_72 => ?_) (fun hc_72 => ?_)
                                    · skip
                                      refine zw_iconst (pc := 86) (v := Int32.ofInt 0) (by decide) (zdal_p dlC_M_formula_95 (i := 20) rfl) ?_
                                      refine zw_istore_n (pc := 87) (i := 1) (L2 := [some (.ref 81), some (.int (Int32.ofInt 0))]) rfl (by decide) rfl d_M_formula_87 ?_
                                      exact lp_88 _ 0 (by decide) (by decide) (by (decide)) N123_ hb1_N123_ hp0_N123_ (show (1 ≤ ze N123_ 81 7 ∧ (ze Mz 81 7 = 0 → zRea (zfs b_ n_ F_ K_ nm_) (0, (ze Mz 81 4).toNat, [], [], 0, false) zFt)) ∨ ((0 : Int) = 1 ∧ ze N123_ 81 7 = 0 ∧ ze Mz 81 7 = 0 ∧ zRea (zfs b_ n_ F_ K_ nm_) (0, (ze Mz 81 4).toNat, [], [], 0, false) (zRst 0 F_ N123_) ∧ zRI F_ K_ 0 N123_ ∧ 0 ≤ ze N123_ 81 43 ∧ ze N123_ 81 43 ≤ 30 ∧ ze Mz 81 4 ≤ ze N123_ 81 4 ∧ ze N27_ 81 4 < ze N123_ 81 4) ∨ ((0 : Int) = 0 ∧ ze N123_ 81 7 = 0 ∧ ze Mz 81 7 = 0 ∧ zRea (zfs b_ n_ F_ K_ nm_) (0, (ze Mz 81 4).toNat, [], [], 0, false) (zRst 2 F_ N123_) ∧ zRI F_ K_ 1 N123_ ∧ 0 ≤ ze N123_ 81 43 ∧ ze N123_ 81 43 ≤ 30 ∧ (zrS N123_).head? ≠ some 1 ∧ ¬ (zisg b_ n_ (ze N123_ 81 4).toNat 42 ∨ zisg b_ n_ (ze N123_ 81 4).toNat 43 ∨ zisg b_ n_ (ze N123_ 81 4).toNat 45) ∧ ze Mz 81 4 ≤ ze N123_ 81 4 ∧ ze N27_ 81 4 < ze N123_ 81 4) from Or.inl (⟨(show 1 ≤ ze N123_ 81 7 by first | rfl | with_reducible assumption | assumption | omega | exact fun _ => hrt_ | exact hg0_ | exact hg1_), (show (ze Mz 81 7 = 0 → zRea (zfs b_ n_ F_ K_ nm_) (0, (ze Mz 81 4).toNat, [], [], 0, false) zFt) by first | rfl | with_reducible assumption | assumption | omega | exact fun _ => hrt_ | exact hg0_ | exact hg1_)⟩)) (Nat.lt_succ_self _)
                                    · skip
                                      exact absurd hc_72 (by decide)
                                · skip
                                  have hz0_ := hy0_.tr ha65_1_hp2_N123_
                                  have hz1_ := ha65_2_hp2_N123_
                                  have hz2_ := ha65_3_hp2_N123_
                                  have hz3_ := ha65_4_hp2_N123_
                                  show zW l m_M_formula (zn Mz + 0, zw Mz + 0) N123_ 68 [some (.ref 81), some (.int (Int32.ofInt u96_))] [] _
                                  refine zw_aload_n (pc := 68) (n := 0) (x := 81) rfl (zdal_p dlC_M_formula_95 (i := 12) rfl) ?_
                                  refine zr_callV (hf_N123_.w hW) hf_N123_.x (pc := 69) [] [] l_M_183 (c_M_isGood l N123_ (hf_N123_.w hW) ) rfl rfl rfl (by decide) (Nat.le_of_ble_eq_true rfl) (zdal_p dlC_M_formula_95 (i := 13) rfl) ?_
                                  rintro _ N130_ ⟨v131_, rfl, ⟨hv131_a, hv131_b⟩, hsN130_, hp0_N130_⟩
                                  obtain rfl := hsN130_.eq.symm
                                  replace hp0_N130_ : ((v131_ = 1 ∧ ze N123_ 81 7 = 0) ∨ (v131_ = 0 ∧ ze N123_ 81 7 ≠ 0)) := hp0_N130_
                                  rcases hp0_N130_ with ⟨rfl, ha69_0_hp0_N130_⟩ | ⟨rfl, ha69_0_hp0_N130_⟩
                                  · skip
                                    show zW l m_M_formula (zn Mz + 0, zw Mz + 0) N123_ 72 [some (.ref 81), some (.int (Int32.ofInt u96_))] [.int (Int32.ofInt 1)] _
                                    refine zr_if_eq (pc := 72) (tgt := 86) ⟨(by decide), (by decide)⟩ (by decide) (zdal_p dlC_M_formula_95 (i := 14) rfl) (fun hc_72 => ?_) (fun hc_72 => ?_)
                                    · skip
                                      exact absurd hc_72 (by decide)
                                    · skip
                                      refine zw_aload_n (pc := 75) (n := 0) (x := 81) rfl (zdal_p dlC_M_formula_95 (i := 15) rfl) ?_
                                      refine zr_callV (hf_N123_.w hW) hf_N123_.x (pc := 76) [] [] l_M_349 (c_M_goesOnF l N123_ (hf_N123_.w hW) F_ K_ hA_ b_ n_ nm_ c125_ c126_ hp0_N123_ hz1_ (show (zrS N123_).head? ≠ some 1 by first | with_reducible assumption | assumption | omega) (show ze N123_ 81 7 = 0 by first | with_reducible assumption | assumption | omega)) rfl rfl rfl (by decide) (Nat.le_of_ble_eq_true rfl) (zdal_p dlC_M_formula_95 (i := 16) rfl) ?_
                                      rintro _ N132_ ⟨v133_, rfl, ⟨hv133_a, hv133_b⟩, hsN132_, ⟨hp0_N132_, hp1_N132_, hp2_N132_⟩⟩
                                      have hf_N132_ : zFr [3, 4, 5, 6, 7, 8, 11, 38, 39, 41, 42, 43] [95, 96, 97, 100] Mz N132_ := hf_N123_.tr hsN132_ (by decide) (by decide)
                                      have hb0_N132_ : zFr [3, 4, 5, 6, 7, 8, 11, 38, 39, 41, 42, 43] [95, 96, 97, 100] N21_ N132_ := hb0_N123_.tr hsN132_ (by decide) (by decide)
                                      have hb1_N132_ : zFr [3, 4, 5, 6, 7, 8, 11, 38, 39, 41, 42, 43] [95, 96, 97, 100] N27_ N132_ := hb1_N123_.tr hsN132_ (by decide) (by decide)
                                      have r3_N132_ := ze_r N132_ 81 3
                                      have r4_N132_ := ze_r N132_ 81 4
                                      have e7_N132_ : ze N132_ 81 7 = ze N123_ 81 7 := hsN132_.e (by decide)
                                      have r38_N132_ := ze_r N132_ 81 38
                                      have r39_N132_ := ze_r N132_ 81 39
                                      have r41_N132_ := ze_r N132_ 81 41
                                      have e42_N132_ : ze N132_ 81 42 = ze N123_ 81 42 := hsN132_.e (by decide)
                                      have e43_N132_ : ze N132_ 81 43 = ze N123_ 81 43 := hsN132_.e (by decide)
                                      rcases hp2_N132_ with ⟨rfl, ha76_0_hp2_N132_, ha76_1_hp2_N132_, ha76_2_hp2_N132_⟩ | ⟨rfl, ha76_0_hp2_N132_, ha76_1_hp2_N132_, ha76_2_hp2_N132_, ha76_3_hp2_N132_, ha76_4_hp2_N132_⟩
                                      · skip
                                        have hg0_ := hz0_.tr ha76_0_hp2_N132_
                                        have hg1_ := ha76_1_hp2_N132_
                                        have hg2_ := ha76_2_hp2_N132_
                                        show zW l m_M_formula (zn Mz + 0, zw Mz + 0) N132_ 79 [some (.ref 81), some (.int (Int32.ofInt u96_))] [.int (Int32.ofInt 1)] _
                                        refine zr_if_eq (pc := 79) (tgt := 86) ⟨(by decide), (by decide)⟩ (by decide) (zdal_p dlC_M_formula_95 (i := 17) rfl) (fun hc_79 => ?_) (fun hc_79 => ?_)
                                        · skip
                                          exact absurd hc_79 (by decide)
                                        · skip
                                          refine zw_iconst (pc := 82) (v := Int32.ofInt 1) (by decide) (zdal_p dlC_M_formula_95 (i := 18) rfl) ?_
                                          refine zw_goto (pc := 83) (tgt := 87) (by decide) (zdal_p dlC_M_formula_95 (i := 19) rfl) ?_
                                          refine zw_istore_n (pc := 87) (i := 1) (L2 := [some (.ref 81), some (.int (Int32.ofInt 1))]) rfl (by decide) rfl d_M_formula_87 ?_
                                          exact lp_88 _ 1 (by decide) (by decide) (by (decide)) N132_ hb1_N132_ hp0_N132_ (show (1 ≤ ze N132_ 81 7 ∧ (ze Mz 81 7 = 0 → zRea (zfs b_ n_ F_ K_ nm_) (0, (ze Mz 81 4).toNat, [], [], 0, false) zFt)) ∨ ((1 : Int) = 1 ∧ ze N132_ 81 7 = 0 ∧ ze Mz 81 7 = 0 ∧ zRea (zfs b_ n_ F_ K_ nm_) (0, (ze Mz 81 4).toNat, [], [], 0, false) (zRst 0 F_ N132_) ∧ zRI F_ K_ 0 N132_ ∧ 0 ≤ ze N132_ 81 43 ∧ ze N132_ 81 43 ≤ 30 ∧ ze Mz 81 4 ≤ ze N132_ 81 4 ∧ ze N27_ 81 4 < ze N132_ 81 4) ∨ ((1 : Int) = 0 ∧ ze N132_ 81 7 = 0 ∧ ze Mz 81 7 = 0 ∧ zRea (zfs b_ n_ F_ K_ nm_) (0, (ze Mz 81 4).toNat, [], [], 0, false) (zRst 2 F_ N132_) ∧ zRI F_ K_ 1 N132_ ∧ 0 ≤ ze N132_ 81 43 ∧ ze N132_ 81 43 ≤ 30 ∧ (zrS N132_).head? ≠ some 1 ∧ ¬ (zisg b_ n_ (ze N132_ 81 4).toNat 42 ∨ zisg b_ n_ (ze N132_ 81 4).toNat 43 ∨ zisg b_ n_ (ze N132_ 81 4).toNat 45) ∧ ze Mz 81 4 ≤ ze N132_ 81 4 ∧ ze N27_ 81 4 < ze N132_ 81 4) from Or.inr (Or.inl (⟨(show (1 : Int) = 1 by first | rfl | with_reducible assumption | assumption | omega | exact fun _ => hrt_ | exact hg0_ | exact hg1_), (show ze N132_ 81 7 = 0 by first | rfl | with_reducible assumption | (exact zo_610 e7_N132_ ha65_0_hp2_N123_) | exact fun _ => hrt_ | exact hg0_ | exact hg1_ | assumption), (show ze Mz 81 7 = 0 by first | rfl | with_reducible assumption | assumption | omega | exact fun _ => hrt_ | exact hg0_ | exact hg1_), (show zRea (zfs b_ n_ F_ K_ nm_) (0, (ze Mz 81 4).toNat, [], [], 0, false) (zRst 0 F_ N132_) by first | rfl | with_reducible assumption | assumption | omega | exact fun _ => hrt_ | exact hg0_ | exact hg1_), (show zRI F_ K_ 0 N132_ by first | rfl | with_reducible assumption | assumption | omega | exact fun _ => hrt_ | exact hg0_ | exact hg1_), (show 0 ≤ ze N132_ 81 43 by first | rfl | with_reducible assumption | (exact zo_622 ha46_4_hp1_N112_ hp1_N123_ hp1_N132_) | exact fun _ => hrt_ | exact hg0_ | exact hg1_ | assumption), (show ze N132_ 81 43 ≤ 30 by first | rfl | with_reducible assumption | (exact zo_623 ha46_5_hp1_N112_ hp1_N123_ hp1_N132_) | exact fun _ => hrt_ | exact hg0_ | exact hg1_ | assumption), (show ze Mz 81 4 ≤ ze N132_ 81 4 by first | rfl | with_reducible assumption | (exact zo_624 ha46_3_hp1_N112_ ha65_4_hp2_N123_ ha76_2_hp2_N132_ hl38_6_i100_ r4_N132_.1 r_4.2) | exact fun _ => hrt_ | exact hg0_ | exact hg1_ | assumption), (show ze N27_ 81 4 < ze N132_ 81 4 by first | rfl | with_reducible assumption | (exact zo_625 ha46_3_hp1_N112_ ha65_4_hp2_N123_ ha76_2_hp2_N132_ hl38_7_i100_ r4_N132_.1 r4_N27_.2) | exact fun _ => hrt_ | exact hg0_ | exact hg1_ | assumption)⟩))) (Nat.lt_succ_self _)
                                      · skip
                                        have hg0_ := hz0_.tr ha76_0_hp2_N132_
                                        have hg1_ := ha76_1_hp2_N132_
                                        have hg2_ := ha76_2_hp2_N132_
                                        have hg3_ := ha76_3_hp2_N132_
                                        have hg4_ := ha76_4_hp2_N132_
                                        show zW l m_M_formula (zn Mz + 0, zw Mz + 0) N132_ 79 [some (.ref 81), some (.int (Int32.ofInt u96_))] [.int (Int32.ofInt 0)] _
                                        refine zr_if_eq (pc := 79) (tgt := 86) ⟨(by decide), (by decide)⟩ (by decide) (zdal_p dlC_M_formula_95 (i := 17) rfl) (fun hc_79 => ?_) (fun hc_79 => ?_)
                                        · skip
                                          refine zw_iconst (pc := 86) (v := Int32.ofInt 0) (by decide) (zdal_p dlC_M_formula_95 (i := 20) rfl) ?_
                                          refine zw_istore_n (pc := 87) (i := 1) (L2 := [some (.ref 81), some (.int (Int32.ofInt 0))]) rfl (by decide) rfl d_M_formula_87 ?_
                                          exact lp_88 _ 0 (by decide) (by decide) (by (decide)) N132_ hb1_N132_ hp0_N132_ (show (1 ≤ ze N132_ 81 7 ∧ (ze Mz 81 7 = 0 → zRea (zfs b_ n_ F_ K_ nm_) (0, (ze Mz 81 4).toNat, [], [], 0, false) zFt)) ∨ ((0 : Int) = 1 ∧ ze N132_ 81 7 = 0 ∧ ze Mz 81 7 = 0 ∧ zRea (zfs b_ n_ F_ K_ nm_) (0, (ze Mz 81 4).toNat, [], [], 0, false) (zRst 0 F_ N132_) ∧ zRI F_ K_ 0 N132_ ∧ 0 ≤ ze N132_ 81 43 ∧ ze N132_ 81 43 ≤ 30 ∧ ze Mz 81 4 ≤ ze N132_ 81 4 ∧ ze N27_ 81 4 < ze N132_ 81 4) ∨ ((0 : Int) = 0 ∧ ze N132_ 81 7 = 0 ∧ ze Mz 81 7 = 0 ∧ zRea (zfs b_ n_ F_ K_ nm_) (0, (ze Mz 81 4).toNat, [], [], 0, false) (zRst 2 F_ N132_) ∧ zRI F_ K_ 1 N132_ ∧ 0 ≤ ze N132_ 81 43 ∧ ze N132_ 81 43 ≤ 30 ∧ (zrS N132_).head? ≠ some 1 ∧ ¬ (zisg b_ n_ (ze N132_ 81 4).toNat 42 ∨ zisg b_ n_ (ze N132_ 81 4).toNat 43 ∨ zisg b_ n_ (ze N132_ 81 4).toNat 45) ∧ ze Mz 81 4 ≤ ze N132_ 81 4 ∧ ze N27_ 81 4 < ze N132_ 81 4) from Or.inr (Or.inr (⟨(show (0 : Int) = 0 by first | rfl | with_reducible assumption | assumption | omega | exact fun _ => hrt_ | exact hg0_ | exact hg1_), (show ze N132_ 81 7 = 0 by first | rfl | with_reducible assumption | (exact zo_610 e7_N132_ ha65_0_hp2_N123_) | exact fun _ => hrt_ | exact hg0_ | exact hg1_ | assumption), (show ze Mz 81 7 = 0 by first | rfl | with_reducible assumption | assumption | omega | exact fun _ => hrt_ | exact hg0_ | exact hg1_), (show zRea (zfs b_ n_ F_ K_ nm_) (0, (ze Mz 81 4).toNat, [], [], 0, false) (zRst 2 F_ N132_) by first | rfl | with_reducible assumption | assumption | omega | exact fun _ => hrt_ | exact hg0_ | exact hg1_), (show zRI F_ K_ 1 N132_ by first | rfl | with_reducible assumption | assumption | omega | exact fun _ => hrt_ | exact hg0_ | exact hg1_), (show 0 ≤ ze N132_ 81 43 by first | rfl | with_reducible assumption | (exact zo_622 ha46_4_hp1_N112_ hp1_N123_ hp1_N132_) | exact fun _ => hrt_ | exact hg0_ | exact hg1_ | assumption), (show ze N132_ 81 43 ≤ 30 by first | rfl | with_reducible assumption | (exact zo_623 ha46_5_hp1_N112_ hp1_N123_ hp1_N132_) | exact fun _ => hrt_ | exact hg0_ | exact hg1_ | assumption), (show (zrS N132_).head? ≠ some 1 by first | rfl | with_reducible assumption | assumption | omega | exact fun _ => hrt_ | exact hg0_ | exact hg1_), (show ¬ (zisg b_ n_ (ze N132_ 81 4).toNat 42 ∨ zisg b_ n_ (ze N132_ 81 4).toNat 43 ∨ zisg b_ n_ (ze N132_ 81 4).toNat 45) by first | rfl | with_reducible assumption | assumption | omega | exact fun _ => hrt_ | exact hg0_ | exact hg1_), (show ze Mz 81 4 ≤ ze N132_ 81 4 by first | rfl | with_reducible assumption | (exact zo_626 ha46_3_hp1_N112_ ha65_4_hp2_N123_ ha76_4_hp2_N132_ hl38_6_i100_ r4_N132_.1 r_4.2) | exact fun _ => hrt_ | exact hg0_ | exact hg1_ | assumption), (show ze N27_ 81 4 < ze N132_ 81 4 by first | rfl | with_reducible assumption | (exact zo_627 ha46_3_hp1_N112_ ha65_4_hp2_N123_ ha76_4_hp2_N132_ hl38_7_i100_) | exact fun _ => hrt_ | exact hg0_ | exact hg1_ | assumption)⟩))) (Nat.lt_succ_self _)
                                        · skip
                                          exact absurd hc_79 (by decide)
                                  · skip
                                    exfalso; (exact zo_260 ha65_0_hp2_N123_ ha69_0_hp0_N130_)
                            · skip
                              exfalso; (exact zo_260 ha46_0_hp1_N112_ ha58_0_hp0_N121_)
                          · skip
                            exact absurd hc_49 (by decide)
                    · skip
                      exfalso; (exact zo_260 hl38_0_i100_ ha39_0_hp0_N110_)
              exact lp_38 _ 1 (by decide) (by decide) (by (exact hu26_z)) N27_ zFr.rf i29_ (show (1 ≤ ze N27_ 81 7 ∧ (ze Mz 81 7 = 0 → zRea (zfs b_ n_ F_ K_ nm_) (0, (ze Mz 81 4).toNat, [], [], 0, false) zFt)) ∨ (ze N27_ 81 7 = 0 ∧ ze Mz 81 7 = 0 ∧ zRea (zfs b_ n_ F_ K_ nm_) (0, (ze Mz 81 4).toNat, [], [], 0, false) (zRst 0 F_ N27_) ∧ zRI F_ K_ 0 N27_ ∧ 0 ≤ ze N27_ 81 43 ∧ ze N27_ 81 43 ≤ 30 ∧ ze Mz 81 4 ≤ ze N27_ 81 4 ∧ ze N27_ 81 4 ≤ ze N27_ 81 4) from Or.inr (⟨(show ze N27_ 81 7 = 0 by first | rfl | with_reducible assumption | assumption | omega | exact fun _ => hrt_ | exact hg0_ | exact hg1_), (show ze Mz 81 7 = 0 by first | rfl | with_reducible assumption | assumption | omega | exact fun _ => hrt_ | exact hg0_ | exact hg1_), (show zRea (zfs b_ n_ F_ K_ nm_) (0, (ze Mz 81 4).toNat, [], [], 0, false) (zRst 0 F_ N27_) by first | rfl | with_reducible assumption | assumption | omega | exact fun _ => hrt_ | exact hg0_ | exact hg1_), (show zRI F_ K_ 0 N27_ by first | rfl | with_reducible assumption | assumption | omega | exact fun _ => hrt_ | exact hg0_ | exact hg1_), (show 0 ≤ ze N27_ 81 43 by first | rfl | with_reducible assumption | assumption | omega | exact fun _ => hrt_ | exact hg0_ | exact hg1_), (show ze N27_ 81 43 ≤ 30 by first | rfl | with_reducible assumption | assumption | omega | exact fun _ => hrt_ | exact hg0_ | exact hg1_), (show ze Mz 81 4 ≤ ze N27_ 81 4 by first | rfl | with_reducible assumption | assumption | omega | exact fun _ => hrt_ | exact hg0_ | exact hg1_), (show ze N27_ 81 4 ≤ ze N27_ 81 4 by first | rfl | with_reducible assumption | (exact zo_628) | exact fun _ => hrt_ | exact hg0_ | exact hg1_ | assumption)⟩)) (Nat.lt_succ_self _)
        · skip
          exfalso; (exact zo_260 hl27_0_i30_ ha28_0_hp0_N40_)
      · skip
        have hr2_ := hl27_2_i30_
        have hc2_ := hl27_3_i30_
        have hh2_ := hl27_6_i30_
        have hn4_ := hl27_7_i30_
        have hn1_ := hl27_9_i30_
        refine zw_aload_n (pc := 27) (n := 0) (x := 81) rfl (zdal_p dlC_M_formula_94 (i := 17) rfl) ?_
        refine zr_callV (hf_N27_.w hW) hf_N27_.x (pc := 28) [] [] l_M_183 (c_M_isGood l N27_ (hf_N27_.w hW) ) rfl rfl rfl (by decide) (Nat.le_of_ble_eq_true rfl) (zdal_p dlC_M_formula_94 (i := 18) rfl) ?_
        rintro _ N137_ ⟨v138_, rfl, ⟨hv138_a, hv138_b⟩, hsN137_, hp0_N137_⟩
        obtain rfl := hsN137_.eq.symm
        replace hp0_N137_ : ((v138_ = 1 ∧ ze N27_ 81 7 = 0) ∨ (v138_ = 0 ∧ ze N27_ 81 7 ≠ 0)) := hp0_N137_
        rcases hp0_N137_ with ⟨rfl, ha28_0_hp0_N137_⟩ | ⟨rfl, ha28_0_hp0_N137_⟩
        · skip
          show zW l m_M_formula (zn Mz + 0, zw Mz + 0) N27_ 31 [some (.ref 81), some (.int (Int32.ofInt 0))] [.int (Int32.ofInt 1)] _
          refine zr_if_eq (pc := 31) (tgt := 171) ⟨(by decide), (by decide)⟩ (by decide) (zdal_p dlC_M_formula_94 (i := 19) rfl) (fun hc_31 => ?_) (fun hc_31 => ?_)
          · skip
            exact absurd hc_31 (by decide)
          · skip
            refine zw_iload_n (pc := 34) (n := 1) (x := Int32.ofInt 0) rfl (zdal_p dlC_M_formula_94 (i := 20) rfl) ?_
            refine zr_if_eq (pc := 35) (tgt := 171) ⟨(by decide), (by decide)⟩ (by decide) (zdal_p dlC_M_formula_94 (i := 21) rfl) (fun hc_35 => ?_) (fun hc_35 => ?_)
            · skip
              refine zw_aload_n (pc := 171) (n := 0) (x := 81) rfl (zdal_p dlC_M_formula_97 (i := 16) rfl) ?_
              refine zr_callV (hf_N27_.w hW) hf_N27_.x (pc := 172) [] [] l_M_183 (c_M_isGood l N27_ (hf_N27_.w hW) ) rfl rfl rfl (by decide) (Nat.le_of_ble_eq_true rfl) (zdal_p dlC_M_formula_97 (i := 17) rfl) ?_
              rintro _ N139_ ⟨v140_, rfl, ⟨hv140_a, hv140_b⟩, hsN139_, hp0_N139_⟩
              obtain rfl := hsN139_.eq.symm
              replace hp0_N139_ : ((v140_ = 1 ∧ ze N27_ 81 7 = 0) ∨ (v140_ = 0 ∧ ze N27_ 81 7 ≠ 0)) := hp0_N139_
              rcases hp0_N139_ with ⟨rfl, ha172_0_hp0_N139_⟩ | ⟨rfl, ha172_0_hp0_N139_⟩
              · skip
                show zW l m_M_formula (zn Mz + 0, zw Mz + 0) N27_ 175 [some (.ref 81), some (.int (Int32.ofInt 0))] [.int (Int32.ofInt 1)] _
                refine zr_if_eq (pc := 175) (tgt := 190) ⟨(by decide), (by decide)⟩ (by decide) (zdal_p dlC_M_formula_97 (i := 18) rfl) (fun hc_175 => ?_) (fun hc_175 => ?_)
                · skip
                  exact absurd hc_175 (by decide)
                · skip
                  refine zw_aload_n (pc := 178) (n := 0) (x := 81) rfl (zdal_p dlC_M_formula_97 (i := 19) rfl) ?_
                  refine zr_callV (hf_N27_.w hW) hf_N27_.x (pc := 179) [] [] l_M_352 (c_M_isOpenF l N27_ (hf_N27_.w hW) F_ K_ hc2_) rfl rfl rfl (by decide) (Nat.le_of_ble_eq_true rfl) (zdal_p dlC_M_formula_97 (i := 20) rfl) ?_
                  rintro _ N141_ ⟨v142_, rfl, ⟨hv142_a, hv142_b⟩, hsN141_, hp0_N141_⟩
                  obtain rfl := hsN141_.eq.symm
                  replace hp0_N141_ : ((v142_ = 1 ∧ 0 ∈ zrS N27_) ∨ (v142_ = 0 ∧ ¬ 0 ∈ zrS N27_)) := hp0_N141_
                  rcases hp0_N141_ with ⟨rfl, ha179_0_hp0_N141_⟩ | ⟨rfl, ha179_0_hp0_N141_⟩
                  · skip
                    have hrt_ := hr2_.tr (zRea.st (zr2_f (F := F_) (K := K_) (nm := nm_) hn4_ hn1_ ha179_0_hp0_N141_))
                    show zW l m_M_formula (zn Mz + 0, zw Mz + 0) N27_ 182 [some (.ref 81), some (.int (Int32.ofInt 0))] [.int (Int32.ofInt 1)] _
                    refine zr_if_eq (pc := 182) (tgt := 190) ⟨(by decide), (by decide)⟩ (by decide) (zdal_p dlC_M_formula_97 (i := 21) rfl) (fun hc_182 => ?_) (fun hc_182 => ?_)
                    · skip
                      exact absurd hc_182 (by decide)
                    · skip
                      refine zw_aload_n (pc := 185) (n := 0) (x := 81) rfl (zdal_p dlC_M_formula_97 (i := 22) rfl) ?_
                      refine zw_iconst (pc := 186) (v := Int32.ofInt 2) (by decide) (zdal_p dlC_M_formula_97 (i := 23) rfl) ?_
                      refine zr_callV (hf_N27_.w hW) hf_N27_.x (pc := 187) [.int (Int32.ofInt 2)] [] l_M_190 (c_M_wrongF l N27_ (hf_N27_.w hW) 2 (by decide) (by decide) (show 1 ≤ 2 by first | with_reducible assumption | (decide) | assumption)) rfl rfl rfl (by decide) (Nat.le_of_ble_eq_true rfl) (zdal_p dlC_M_formula_98 (i := 0) rfl) ?_
                      rintro _ N143_ ⟨rfl, hsN143_, hp0_N143_⟩
                      replace hp0_N143_ : 1 ≤ ze N143_ 81 7 := hp0_N143_
                      have hf_N143_ : zFr [3, 4, 5, 6, 7, 8, 11, 38, 39, 41, 42, 43] [95, 96, 97, 100] Mz N143_ := hf_N27_.tr hsN143_ (by decide) (by decide)
                      have e3_N143_ : ze N143_ 81 3 = ze N27_ 81 3 := hsN143_.e (by decide)
                      have e4_N143_ : ze N143_ 81 4 = ze N27_ 81 4 := hsN143_.e (by decide)
                      have r7_N143_ := ze_r N143_ 81 7
                      have e38_N143_ : ze N143_ 81 38 = ze N27_ 81 38 := hsN143_.e (by decide)
                      have e39_N143_ : ze N143_ 81 39 = ze N27_ 81 39 := hsN143_.e (by decide)
                      have e41_N143_ : ze N143_ 81 41 = ze N27_ 81 41 := hsN143_.e (by decide)
                      have e42_N143_ : ze N143_ 81 42 = ze N27_ 81 42 := hsN143_.e (by decide)
                      have e43_N143_ : ze N143_ 81 43 = ze N27_ 81 43 := hsN143_.e (by decide)
                      have c148_ : zRt b_ n_ N143_ := zRt.fr hsN143_ i29_ (by decide) (by decide)
                      have c149_ : zRI F_ K_ 1 N143_ := zRI.fr hsN143_ hc2_ (by decide) (by decide)
                      show zW l m_M_formula (zn Mz + 0, zw Mz + 0) N143_ 190 [some (.ref 81), some (.int (Int32.ofInt 0))] [] _
                      refine zw_aload_n (pc := 190) (n := 0) (x := 81) rfl (zdal_p dlC_M_formula_98 (i := 1) rfl) ?_
                      refine zr_callV (hf_N143_.w hW) hf_N143_.x (pc := 191) [] [] l_M_183 (c_M_isGood l N143_ (hf_N143_.w hW) ) rfl rfl rfl (by decide) (Nat.le_of_ble_eq_true rfl) (zdal_p dlC_M_formula_98 (i := 2) rfl) ?_
                      rintro _ N150_ ⟨v151_, rfl, ⟨hv151_a, hv151_b⟩, hsN150_, hp0_N150_⟩
                      obtain rfl := hsN150_.eq.symm
                      replace hp0_N150_ : ((v151_ = 1 ∧ ze N143_ 81 7 = 0) ∨ (v151_ = 0 ∧ ze N143_ 81 7 ≠ 0)) := hp0_N150_
                      rcases hp0_N150_ with ⟨rfl, ha191_0_hp0_N150_⟩ | ⟨rfl, ha191_0_hp0_N150_⟩
                      · skip
                        exfalso; (exact zo_281 ha191_0_hp0_N150_ hp0_N143_)
                      · skip
                        show zW l m_M_formula (zn Mz + 0, zw Mz + 0) N143_ 194 [some (.ref 81), some (.int (Int32.ofInt 0))] [.int (Int32.ofInt 0)] _
                        refine zr_if_eq (pc := 194) (tgt := 202) ⟨(by decide), (by decide)⟩ (by decide) (zdal_p dlC_M_formula_98 (i := 3) rfl) (fun hc_194 => ?_) (fun hc_194 => ?_)
                        · skip
                          exact zr_vret (pc := 202) rfl hf_N143_ ⟨c148_, (show ((1 ≤ ze N143_ 81 7 ∧ (ze Mz 81 7 = 0 → zRea (zfs b_ n_ F_ K_ nm_) (0, (ze Mz 81 4).toNat, [], [], 0, false) zFt)) ∨ (ze N143_ 81 7 = 0 ∧ ze Mz 81 7 = 0 ∧ zRea (zfs b_ n_ F_ K_ nm_) (0, (ze Mz 81 4).toNat, [], [], 0, false) (zRst 3 F_ N143_) ∧ zRI F_ K_ 1 N143_ ∧ zrS N143_ = [] ∧ ze Mz 81 4 ≤ ze N143_ 81 4)) from Or.inl (⟨(show 1 ≤ ze N143_ 81 7 by first | with_reducible assumption | assumption | omega | exact fun _ => hrt_), (show (ze Mz 81 7 = 0 → zRea (zfs b_ n_ F_ K_ nm_) (0, (ze Mz 81 4).toNat, [], [], 0, false) zFt) by first | with_reducible assumption | assumption | omega | exact fun _ => hrt_)⟩))⟩ (zdal_p dlC_M_formula_98 (i := 7) rfl)
                        · skip
                          exact absurd hc_194 (by decide)
                  · skip
                    have hnb_ := ha179_0_hp0_N141_
                    show zW l m_M_formula (zn Mz + 0, zw Mz + 0) N27_ 182 [some (.ref 81), some (.int (Int32.ofInt 0))] [.int (Int32.ofInt 0)] _
                    refine zr_if_eq (pc := 182) (tgt := 190) ⟨(by decide), (by decide)⟩ (by decide) (zdal_p dlC_M_formula_97 (i := 21) rfl) (fun hc_182 => ?_) (fun hc_182 => ?_)
                    · skip
                      refine zw_aload_n (pc := 190) (n := 0) (x := 81) rfl (zdal_p dlC_M_formula_98 (i := 1) rfl) ?_
                      refine zr_callV (hf_N27_.w hW) hf_N27_.x (pc := 191) [] [] l_M_183 (c_M_isGood l N27_ (hf_N27_.w hW) ) rfl rfl rfl (by decide) (Nat.le_of_ble_eq_true rfl) (zdal_p dlC_M_formula_98 (i := 2) rfl) ?_
                      rintro _ N152_ ⟨v153_, rfl, ⟨hv153_a, hv153_b⟩, hsN152_, hp0_N152_⟩
                      obtain rfl := hsN152_.eq.symm
                      replace hp0_N152_ : ((v153_ = 1 ∧ ze N27_ 81 7 = 0) ∨ (v153_ = 0 ∧ ze N27_ 81 7 ≠ 0)) := hp0_N152_
                      rcases hp0_N152_ with ⟨rfl, ha191_0_hp0_N152_⟩ | ⟨rfl, ha191_0_hp0_N152_⟩
                      · skip
                        show zW l m_M_formula (zn Mz + 0, zw Mz + 0) N27_ 194 [some (.ref 81), some (.int (Int32.ofInt 0))] [.int (Int32.ofInt 1)] _
                        refine zr_if_eq (pc := 194) (tgt := 202) ⟨(by decide), (by decide)⟩ (by decide) (zdal_p dlC_M_formula_98 (i := 3) rfl) (fun hc_194 => ?_) (fun hc_194 => ?_)
                        · skip
                          exact absurd hc_194 (by decide)
                        · skip
                          refine zw_aload_n (pc := 197) (n := 0) (x := 81) rfl (zdal_p dlC_M_formula_98 (i := 4) rfl) ?_
                          refine zw_iconst (pc := 198) (v := Int32.ofInt 2) (by decide) (zdal_p dlC_M_formula_98 (i := 5) rfl) ?_
                          refine zr_callV (hf_N27_.w hW) hf_N27_.x (pc := 199) [.int (Int32.ofInt 2)] [] l_M_337 (c_M_worksF l N27_ (hf_N27_.w hW) 2 (by decide) (by decide) F_ K_ hA_ c31_ hc2_ (show 2 ≤ 2 by first | with_reducible assumption | (decide) | assumption) (show 2 ≤ 4 by first | with_reducible assumption | (decide) | assumption)) rfl rfl rfl (by decide) (Nat.le_of_ble_eq_true rfl) (zdal_p dlC_M_formula_98 (i := 6) rfl) ?_
                          rintro _ N154_ ⟨rfl, hsN154_, ⟨hp0_N154_, hp1_N154_, hp2_N154_, hp3_N154_⟩⟩
                          have hf_N154_ : zFr [3, 4, 5, 6, 7, 8, 11, 38, 39, 41, 42, 43] [95, 96, 97, 100] Mz N154_ := hf_N27_.tr hsN154_ (by decide) (by decide)
                          have e3_N154_ : ze N154_ 81 3 = ze N27_ 81 3 := hsN154_.e (by decide)
                          have e4_N154_ : ze N154_ 81 4 = ze N27_ 81 4 := hsN154_.e (by decide)
                          have e7_N154_ : ze N154_ 81 7 = ze N27_ 81 7 := hsN154_.e (by decide)
                          have r38_N154_ := ze_r N154_ 81 38
                          have r39_N154_ := ze_r N154_ 81 39
                          have r41_N154_ := ze_r N154_ 81 41
                          have e42_N154_ : ze N154_ 81 42 = ze N27_ 81 42 := hsN154_.e (by decide)
                          have e43_N154_ : ze N154_ 81 43 = ze N27_ 81 43 := hsN154_.e (by decide)
                          have c159_ : zRt b_ n_ N154_ := zRt.fr hsN154_ i29_ (by decide) (by decide)
                          show zW l m_M_formula (zn Mz + 0, zw Mz + 0) N154_ 202 [some (.ref 81), some (.int (Int32.ofInt 0))] [] _
                          have hw1_ := hp1_N154_
                          have hw2_ := hp2_N154_
                          have hw3_ := hp3_N154_ hh2_
                          have hcr_ := hp0_N154_
                          have hcr0_ := hcr_.1
                          have hcr2_ := hcr_.2.2.1
                          have hst3_ := hr2_.tr (zRea.st (zr2_e (F := F_) (K := K_) (nm := nm_) hn4_ hnb_ hw1_ (by (exact e43_N154_)) (by (exact e4_N154_))))
                          have hnl_ : zrS N154_ = [] := zhd_n (fun q_ => hnb_ ((zrk_m (by decide) _ _).mp (show 0 ∈ (zrk F_ K_ 2 _ _).1 from hw1_ ▸ (show 0 ∈ (zrS N154_, zrW F_ N154_, zrG N154_).1 from q_)))) hw3_ (fun y_ h_ => hw2_ y_ h_)
                          exact zr_vret (pc := 202) rfl hf_N154_ ⟨c159_, (show ((1 ≤ ze N154_ 81 7 ∧ (ze Mz 81 7 = 0 → zRea (zfs b_ n_ F_ K_ nm_) (0, (ze Mz 81 4).toNat, [], [], 0, false) zFt)) ∨ (ze N154_ 81 7 = 0 ∧ ze Mz 81 7 = 0 ∧ zRea (zfs b_ n_ F_ K_ nm_) (0, (ze Mz 81 4).toNat, [], [], 0, false) (zRst 3 F_ N154_) ∧ zRI F_ K_ 1 N154_ ∧ zrS N154_ = [] ∧ ze Mz 81 4 ≤ ze N154_ 81 4)) from Or.inr (⟨(show ze N154_ 81 7 = 0 by first | with_reducible assumption | (exact zo_610 e7_N154_ hl27_0_i30_) | exact hst3_ | exact hcr_ | exact hnl_ | assumption), (show ze Mz 81 7 = 0 by first | with_reducible assumption | assumption | omega | exact hst3_ | exact hcr_ | exact hnl_), (show zRea (zfs b_ n_ F_ K_ nm_) (0, (ze Mz 81 4).toNat, [], [], 0, false) (zRst 3 F_ N154_) by first | with_reducible assumption | assumption | omega | exact hst3_ | exact hcr_ | exact hnl_), (show zRI F_ K_ 1 N154_ by first | with_reducible assumption | assumption | omega | exact hst3_ | exact hcr_ | exact hnl_), (show zrS N154_ = [] by first | with_reducible assumption | assumption | omega | exact hst3_ | exact hcr_ | exact hnl_), (show ze Mz 81 4 ≤ ze N154_ 81 4 by first | with_reducible assumption | (exact zo_629 e4_N154_ hl27_8_i30_) | exact hst3_ | exact hcr_ | exact hnl_ | assumption)⟩))⟩ (zdal_p dlC_M_formula_98 (i := 7) rfl)
                      · skip
                        exfalso; (exact zo_260 hl27_0_i30_ ha191_0_hp0_N152_)
                    · skip
                      exact absurd hc_182 (by decide)
              · skip
                exfalso; (exact zo_260 hl27_0_i30_ ha172_0_hp0_N139_)
            · skip
              exact absurd hc_35 (by decide)
        · skip
          exfalso; (exact zo_260 hl27_0_i30_ ha28_0_hp0_N137_)
  exact lp_27 _ 1 (by decide) (by decide) (by (decide)) N21_ zFr.rf c24_ (show (1 ≤ ze N21_ 81 7 ∧ (ze Mz 81 7 = 0 → zRea (zfs b_ n_ F_ K_ nm_) (0, (ze Mz 81 4).toNat, [], [], 0, false) zFt)) ∨ ((1 : Int) = 1 ∧ ze N21_ 81 7 = 0 ∧ ze Mz 81 7 = 0 ∧ zRea (zfs b_ n_ F_ K_ nm_) (0, (ze Mz 81 4).toNat, [], [], 0, false) (zRst 0 F_ N21_) ∧ zRI F_ K_ 0 N21_ ∧ 0 ≤ ze N21_ 81 43 ∧ ze N21_ 81 43 ≤ 30 ∧ ze Mz 81 4 ≤ ze N21_ 81 4) ∨ ((1 : Int) = 0 ∧ ze N21_ 81 7 = 0 ∧ ze Mz 81 7 = 0 ∧ zRea (zfs b_ n_ F_ K_ nm_) (0, (ze Mz 81 4).toNat, [], [], 0, false) (zRst 2 F_ N21_) ∧ zRI F_ K_ 1 N21_ ∧ 0 ≤ ze N21_ 81 43 ∧ ze N21_ 81 43 ≤ 30 ∧ (zrS N21_).head? ≠ some 1 ∧ ¬ (zisg b_ n_ (ze N21_ 81 4).toNat 42 ∨ zisg b_ n_ (ze N21_ 81 4).toNat 43 ∨ zisg b_ n_ (ze N21_ 81 4).toNat 45) ∧ ze Mz 81 4 ≤ ze N21_ 81 4 ∧ ¬ (zisg b_ n_ (ze N21_ 81 4).toNat 41 ∧ 0 ∈ zrS N21_)) by by_cases g_ : ze Mz 81 7 = 0; exact Or.inr (Or.inl ⟨rfl, by (exact zo_630 e7_N11_ e7_N16_ e7_N1_ e7_N21_ e7_N6_ g_ p4_), g_, hst0_, hi1_, by (exact zo_631 e43_N21_ hvN16_), by (exact zo_632 e43_N21_ hvN16_), by (exact zo_633 e4_N11_ e4_N16_ e4_N1_ e4_N21_ e4_N6_)⟩); exact Or.inl ⟨by (exact zo_634 e7_N11_ e7_N16_ e7_N1_ e7_N21_ e7_N6_ p4_ g_), fun q_ => absurd q_ g_⟩) (Nat.lt_succ_self _)
def zr101 (M : zMem) : Nat → Int := fun k => zg M 101 k
theorem zr101_f {S C : List Nat} {M N : zMem} (h : zFr S C M N) (hc : 101 ∉ C) : zr101 N = zr101 M := funext fun k => h.jg (by decide) hc k
def zr102 (M : zMem) : Nat → Int := fun k => zg M 102 k
theorem zr102_f {S C : List Nat} {M N : zMem} (h : zFr S C M N) (hc : 102 ∉ C) : zr102 N = zr102 M := funext fun k => h.jg (by decide) hc k
section ZRL
variable {F n : Nat} {K : Nat → Nat → Int} {b : Nat → Int} {nm : List (Int × (Nat → Int))} {M N : zMem}
theorem zRNm.u {q : Nat} {v : Nat → Int} (h : zRNm nm F K b n M) (h14 : ze N 81 14 = ze M 81 14 + 1) (h7 : ze M 81 14 ≤ 7) (hq : zkd b n q = 1) (hw : zg N 101 (ze M 81 14).toNat = zke8 b n q) (ho : ∀ k : Nat, (k : Int) < ze M 81 14 → zg N 101 k = zg M 101 k) (hv : zrw F N 102 (64 * ze M 81 14) = v) (hvo : ∀ k : Nat, (k : Int) < ze M 81 14 → zrw F N 102 (64 * (k : Int)) = zrw F M 102 (64 * (k : Int))) (hf : zfit F K v) : zRNm (nm ++ [(zkey b n q, v)]) F K b n N := by
  obtain ⟨a1, gk, a2, a3⟩ := h
  refine ⟨by (exact zo_1297 a1.1 h14 h7), fun k => if (k : Int) = ze M 81 14 then zkey b n q else gk k, ?_, fun k hk => ?_⟩
  · have e1 : (ze N 81 14).toNat = (ze M 81 14).toNat + 1 := by (exact zo_1298 a1.1 h14 h7)
    have e2 : zup (fun k : Nat => (gk k, zrw F M 102 (64 * (k : Int)))) (ze M 81 14).toNat 0 = zup (fun k : Nat => ((if (k : Int) = ze M 81 14 then zkey b n q else gk k), zrw F N 102 (64 * (k : Int)))) (ze M 81 14).toNat 0 := zup_c _ _ (fun j _ hj => by
      show (gk j, zrw F M 102 (64 * (j : Int))) = ((if (j : Int) = ze M 81 14 then zkey b n q else gk j), zrw F N 102 (64 * (j : Int)))
      rw [if_neg (by (exact zo_1299 a1.1 hj)), hvo j (by (exact zo_1300 a1.1 hj))])
    show nm ++ [(zkey b n q, v)] = zup (fun k : Nat => ((if (k : Int) = ze M 81 14 then zkey b n q else gk k), zrw F N 102 (64 * (k : Int)))) (ze N 81 14).toNat 0
    rw [e1, zup_s, a2, e2]
    have e3 : ((0 + (ze M 81 14).toNat : Nat) : Int) = ze M 81 14 := by (exact zo_1301 a1.1)
    show _ ++ [(zkey b n q, v)] = _ ++ [((if ((0 + (ze M 81 14).toNat : Nat) : Int) = ze M 81 14 then zkey b n q else gk (0 + (ze M 81 14).toNat)), zrw F N 102 (64 * ((0 + (ze M 81 14).toNat : Nat) : Int)))]
    rw [if_pos e3, e3, hv]
  · by_cases g : (k : Int) = ze M 81 14
    · refine ⟨?_, ?_⟩
      · show zWrd (zg N 101 k) (if (k : Int) = ze M 81 14 then zkey b n q else gk k)
        rw [if_pos g, show k = (ze M 81 14).toNat by (exact zo_1302 a1.1 g h7), hw]
        exact zWrd.k hq
      · rw [g, hv]
        exact hf
    · obtain ⟨p1, p4⟩ := a3 k (by (exact zo_1303 h14 hk g))
      refine ⟨?_, ?_⟩
      · show zWrd (zg N 101 k) (if (k : Int) = ze M 81 14 then zkey b n q else gk k)
        rw [if_neg g, ho k (by (exact zo_1303 h14 hk g))]
        exact p1
      · rw [hvo k (by (exact zo_1303 h14 hk g))]
        exact p4
theorem zRst_g (h : ze N 81 39 ≠ 0) : zRst 3 F N = (3, (ze N 81 4).toNat, zrS N, zrW F N, (ze N 81 43).toNat, true) := by
  unfold zRst
  rw [zrG_1 h]
theorem zRst_3 (hI : zRI F K 1 N) (hS : zrS N = []) (h0 : ze N 81 39 = 0) : zRst 3 F N = (3, (ze N 81 4).toNat, [], [zrw F N 95 0], (ze N 81 43).toNat, false) ∧ zfit F K (zrw F N 95 0) := by
  have h4 := hI.2.2.2.1
  rw [hS] at h4
  have hz0 : zbn ([] : List Nat) = 0 := rfl
  have h38 : ze N 81 38 = 1 := by (exact zo_1304 h4 hz0)
  have e0 : (64 : Int) * (ze N 81 38 - 1) = 0 := by (exact zo_1305 h38)
  have hf := hI.ft h0 0 (by (decide)) (by (exact zo_1306 e0))
  rw [Int.mul_zero] at hf
  refine ⟨?_, hf⟩
  unfold zRst
  rw [zrG_0 h0, zrW_c h0 (by (exact zo_1307 e0)), hS, e0, show (ze N 81 38 - 1).toNat = 0 by (exact zo_1308 e0)]
  rfl
theorem zfs_d {x : Nat × List Nat × List (Nat → Int) × Nat × Bool} : zfs b n F K nm (3, x) = (3, x) := rfl
def zMrI (b : Nat → Int) (n P p : Nat) (m : Int) (N : zMem) (k met : Int) : Prop := ∃ l : List Nat, zrm b n P P p [] = zrm b n P (P - k.toNat) (ze N 81 4).toNat l ∧ zmV P l ∧ (l.length : Int) = k ∧ zmt met l ∧ ∀ i : Nat, (i : Int) < k → ze N 83 (6 * m.toNat + i) = ((l.getD i 0 : Nat) : Int)
theorem zMrI_0 {P p : Nat} {m : Int} (hp : (ze N 81 4).toNat = p) : zMrI b n P p m N 0 0 := ⟨[], by rw [hp]; rfl, zmV_0 P, rfl, zmt_0, fun i h => absurd h (by (exact zo_131))⟩
theorem zMrI_f {P p : Nat} {m k met : Int} (h : zMrI b n P p m N k met) (k0 : 0 ≤ k) (kP : k < P) (hn : ¬ (zkd b n (ze N 81 4).toNat = 2 ∧ znu b n (ze N 81 4).toNat < P ∧ ¬ zbt met (znu b n (ze N 81 4).toNat))) (h6 : P ≤ 6) : zrm b n P P p [] = none := by
  obtain ⟨l, a1, a2, a3, a4, a5⟩ := h
  rw [a1, show P - k.toNat = (P - k.toNat - 1) + 1 by omega]
  refine zrm_f (fun q => hn ⟨q.1, q.2.1, fun z => q.2.2 ?_⟩)
  have hb := znu_b q.1
  have h2 := q.2.1
  have h3 := a4.2 (znu b n (ze N 81 4).toNat).toNat (by (exact zo_1309 h6 hb.1 hb.2 q.2.1))
  rw [Int.toNat_of_nonneg hb.1] at h3
  exact h3.mp z
theorem zMrI_s {P p : Nat} {m k met v : Int} {N2 : zMem} (h : zMrI b n P p m M k met) (k0 : 0 ≤ k) (kP : k < P) (h6 : P ≤ 6) (m0 : 0 ≤ m) (hk : zkd b n (ze M 81 4).toNat = 2) (hv : v = znu b n (ze M 81 4).toNat) (v0 : 0 ≤ v) (vP : v < P) (hn : ¬ zbt met v) (hN : N = zsI M 83 (6 * m + k).toNat (Int32.ofInt v)) (h83 : ∀ j : Nat, ze N2 83 j = ze N 83 j) (hp : (ze N2 81 4).toNat = znx b n (ze M 81 4).toNat) : zMrI b n P p m N2 (k + 1) (zor met (zshl 1 v)) := by
  obtain ⟨l, a1, a2, a3, a4, a5⟩ := h
  have hnl : v.toNat ∉ l := fun q => hn (by
    have h3 := (a4.2 v.toNat (by (exact zo_1310 h6 v0 vP))).mpr q
    rwa [Int.toNat_of_nonneg v0] at h3)
  refine ⟨l ++ [v.toNat], ?_, a2.s (by (exact zo_1085 v0 vP)) hnl, by rw [List.length_append, List.length_singleton]; (exact zo_1311 a3), a4.s v0 (by (exact zo_1312 h6 vP)), fun i hi => ?_⟩
  · rw [a1, show P - k.toNat = (P - (k + 1).toNat) + 1 by omega, zrm_t ⟨hk, by omega, by rw [← hv]; exact hnl⟩, hp, ← hv]
  · rw [h83]
    by_cases g : (i : Int) = k
    · rw [show 6 * m.toNat + i = (6 * m + k).toNat by (exact zo_1313 g hi k0 m0), zs_get hN ⟨by (exact zo_168 v0), by (exact zo_1314 h6 vP)⟩, show i = l.length by (exact zo_1315 a3 g hi), zap_2]
      (exact zo_989 v0)
    · rw [zs_oth hN (by (exact zo_1316 k0 m0 g)), zap_1 (by (exact zo_1317 a3 hi g))]
      exact a5 i (by (exact zo_130 hi g))
theorem zMrI.fr {S C : List Nat} {P p : Nat} {m k met : Int} (hf : zFr S C M N) (h : zMrI b n P p m M k met) (hs : 4 ∉ S) (hc : 83 ∉ C) : zMrI b n P p m N k met := by
  obtain ⟨l, a1, a2, a3, a4, a5⟩ := h
  exact ⟨l, by rw [hf.e hs]; exact a1, a2, a3, a4, fun i hi => by rw [hf.ie (by decide) hc]; exact a5 i hi⟩
theorem zMrI_e {P p : Nat} {m k met : Int} (h : zMrI b n P p m N k met) (hk : k = P) : ∃ l : List Nat, zrm b n P P p [] = some ((ze N 81 4).toNat, l) ∧ zmV P l ∧ l.length = P ∧ ∀ i : Nat, i < P → ze N 83 (6 * m.toNat + i) = ((l.getD i 0 : Nat) : Int) := by
  obtain ⟨l, a1, a2, a3, a4, a5⟩ := h
  refine ⟨l, ?_, a2, by (exact zo_1318 a3 hk), fun i hi => a5 i (by (exact zo_1319 hi hk))⟩
  rw [a1, show P - k.toNat = 0 by omega]
  rfl
theorem zMvs_u {l : List Nat} {P : Nat} (hP : ze M 81 12 = P) (h6 : P ≤ 6) (h0 : 0 ≤ ze M 81 13) (h12 : ze N 81 12 = ze M 81 12) (h13 : ze N 81 13 = ze M 81 13 + 1) (hk : zKp M N (6 * ze M 81 13)) (hl : ∀ i : Nat, i < P → ze N 83 (6 * (ze M 81 13).toNat + i) = ((l.getD i 0 : Nat) : Int)) : zMvs N = zMvs M ++ [zmc P l] := by
  unfold zMvs
  rw [h12, h13, show (ze M 81 13 + 1).toNat = (ze M 81 13).toNat + 1 by (exact zo_1084 h0), List.range_succ, List.map_append]
  refine congr (congrArg HAppend.hAppend ?_) ?_
  · refine List.map_congr_left (fun k hk2 => ?_)
    have hk3 := List.mem_range.mp hk2
    exact zrc_c2 (fun p hp hp6 => hk _ (by (exact zo_1320 h0 hk3 hp6)))
  · show [zrc N 83 (ze M 81 13).toNat (ze M 81 12)] = [zmc P l]
    refine congrArg (fun x => [x]) ?_
    rw [zrc_m]
    unfold zmc
    refine gmkc_c (fun p hp => ?_)
    show zrd N 83 (ze M 81 13).toNat (ze M 81 12) p = (if p < P then l.getD p 0 else p)
    unfold zrd
    by_cases g : p < P
    · rw [if_pos (by (exact zo_1321 g hP hp)), if_pos g, hl p g, Int.toNat_natCast]
    · rw [if_neg (by (exact zo_1322 g h6 hP)), if_neg g]
theorem zMvs_l (M : zMem) : (zMvs M).length = (ze M 81 13).toNat := by
  unfold zMvs
  rw [List.length_map, List.length_range]
end ZRL
set_option maxHeartbeats 40000000 in
theorem c_M_letLineF (l : Launch) (Mz : zMem) (hW : zMt Mz) (F_ : Nat) (K_ : Nat → Nat → Int) (hA_ : zTA F_ K_) (b_ : Nat → Int) (n_ : Nat) (nm_ : List (Int × (Nat → Int))) (p0_ : zRmk F_ K_ Mz) (p1_ : zRb b_ n_ Mz) (p2_ : zRt b_ n_ Mz) (p3_ : zRNm nm_ F_ K_ b_ n_ Mz) (p4_ : ze Mz 81 7 = 0) (p5_ : zkd b_ n_ (ze Mz 81 4).toNat = 1) (p6_ : zkey b_ n_ (ze Mz 81 4).toNat = zkw 2) : zC l m_M_letLine 0 0 [.ref 81] Mz (zpV [3, 4, 5, 6, 7, 8, 11, 14, 38, 39, 41, 42, 43] [95, 96, 97, 100, 101, 102] Mz (fun N => zRt b_ n_ N ∧ 0 ≤ ze N 81 14 ∧ ze N 81 14 ≤ 8 ∧ (((1 ≤ ze N 81 7 ∧ zls b_ n_ F_ K_ (0, (ze Mz 81 4).toNat, nm_) = zLf) ∨ (ze N 81 7 = 0 ∧ (∃ nm2 : List (Int × (Nat → Int)), zls b_ n_ F_ K_ (0, (ze Mz 81 4).toNat, nm_) = (0, (ze N 81 4).toNat, nm2) ∧ zRNm nm2 F_ K_ b_ n_ N) ∧ ze Mz 81 4 < ze N 81 4))))) := by
  refine zC_of (L0 := [some (.ref 81), none, none, none, none]) md_M_letLine (Nat.le_of_ble_eq_true rfl) rfl ?_ zQ0
  have hf : zFr [3, 4, 5, 6, 7, 8, 11, 14, 38, 39, 41, 42, 43] [95, 96, 97, 100, 101, 102] Mz Mz := zFr.rf
  have r_3 := ze_r Mz 81 3
  have r_4 := ze_r Mz 81 4
  have r_7 := ze_r Mz 81 7
  have r_14 := ze_r Mz 81 14
  have r_26 := ze_r Mz 81 26
  have r_39 := ze_r Mz 81 39
  obtain ⟨⟨hF1_, hF27_⟩, hAr_⟩ := id hA_
  obtain ⟨hFc_, hKt_⟩ := id p0_
  have hl0_ := And.intro p5_ p6_
  have hlen_ := p3_.len
  obtain ⟨hw0_, hw8_⟩ := id p3_.1
  refine zw_aload_n (pc := 0) (n := 0) (x := 81) rfl (zdal_p dlC_M_letLine_86 (i := 0) rfl) ?_
  refine zr_getI (hf.w hW) (pc := 1) f_M_145 rfl (zdal_p dlC_M_letLine_86 (i := 1) rfl) ?_
  refine zw_istore_n (pc := 4) (i := 1) (L2 := [some (.ref 81), some (.int (Int32.ofInt (ze Mz 81 4))), none, none, none]) rfl (by decide) rfl (zdal_p dlC_M_letLine_86 (i := 2) rfl) ?_
  refine zw_aload_n (pc := 5) (n := 0) (x := 81) rfl (zdal_p dlC_M_letLine_86 (i := 3) rfl) ?_
  refine zr_getI (hf.w hW) (pc := 6) f_M_299 rfl (zdal_p dlC_M_letLine_86 (i := 4) rfl) ?_
  refine zw_bipush (pc := 9) (v := Int32.ofInt 8) (by decide) (zdal_p dlC_M_letLine_86 (i := 5) rfl) ?_
  refine zr_icmp_ne (pc := 11) (tgt := 19) ⟨(ze_r Mz 81 14).1, (ze_r Mz 81 14).2⟩ ⟨(by decide), (by decide)⟩ (by decide) (zdal_p dlC_M_letLine_86 (i := 6) rfl) (fun hc_11 => ?_) (fun hc_11 => ?_)
  · skip
    refine zw_aload_n (pc := 19) (n := 0) (x := 81) rfl (zdal_p dlC_M_letLine_86 (i := 10) rfl) ?_
    refine zr_callV (hf.w hW) hf.x (pc := 20) [] [] l_M_183 (c_M_isGood l Mz (hf.w hW) ) rfl rfl rfl (by decide) (Nat.le_of_ble_eq_true rfl) (zdal_p dlC_M_letLine_86 (i := 11) rfl) ?_
    rintro _ N1_ ⟨v2_, rfl, ⟨hv2_a, hv2_b⟩, hsN1_, hp0_N1_⟩
    obtain rfl := hsN1_.eq.symm
    replace hp0_N1_ : ((v2_ = 1 ∧ ze Mz 81 7 = 0) ∨ (v2_ = 0 ∧ ze Mz 81 7 ≠ 0)) := hp0_N1_
    rcases hp0_N1_ with ⟨rfl, ha20_0_hp0_N1_⟩ | ⟨rfl, ha20_0_hp0_N1_⟩
    · skip
      show zW l m_M_letLine (zn Mz + 0, zw Mz + 0) Mz 23 [some (.ref 81), some (.int (Int32.ofInt (ze Mz 81 4))), none, none, none] [.int (Int32.ofInt 1)] _
      refine zr_if_eq (pc := 23) (tgt := 30) ⟨(by decide), (by decide)⟩ (by decide) (zdal_p dlC_M_letLine_86 (i := 12) rfl) (fun hc_23 => ?_) (fun hc_23 => ?_)
      · skip
        exact absurd hc_23 (by decide)
      · skip
        have hyt_ := p2_
        have hyx_ := hyt_.x
        refine zw_aload_n (pc := 26) (n := 0) (x := 81) rfl (zdal_p dlC_M_letLine_86 (i := 13) rfl) ?_
        refine zr_callV (hf.w hW) hf.x (pc := 27) [] [] l_M_193 (c_M_goOnF l Mz (hf.w hW) b_ n_ p1_ (show 0 ≤ ze Mz 81 3 by first | with_reducible assumption | (exact zo_57 hyx_.2.1) | assumption) (show ze Mz 81 3 ≤ n_ by first | with_reducible assumption | (exact zo_277 hyx_.2.2 r_3.2) | assumption)) rfl rfl rfl (by decide) (Nat.le_of_ble_eq_true rfl) (zdal_p dlC_M_letLine_86 (i := 14) rfl) ?_
        rintro _ N3_ ⟨rfl, hsN3_, ⟨hp0_N3_, hp1_N3_⟩⟩
        have hf_N3_ : zFr [3, 4, 5, 6, 7, 8, 11, 14, 38, 39, 41, 42, 43] [95, 96, 97, 100, 101, 102] Mz N3_ := hf.tr hsN3_ (by decide) (by decide)
        have r3_N3_ := ze_r N3_ 81 3
        have r4_N3_ := ze_r N3_ 81 4
        have e7_N3_ : ze N3_ 81 7 = ze Mz 81 7 := hsN3_.e (by decide)
        have e14_N3_ : ze N3_ 81 14 = ze Mz 81 14 := hsN3_.e (by decide)
        have e26_N3_ : ze N3_ 81 26 = ze Mz 81 26 := hsN3_.e (by decide)
        have e39_N3_ : ze N3_ 81 39 = ze Mz 81 39 := hsN3_.e (by decide)
        have qzr101_N3_ : zr101 N3_ = zr101 Mz := zr101_f hsN3_ (by decide)
        have qzr102_N3_ : zr102 N3_ = zr102 Mz := zr102_f hsN3_ (by decide)
        have c5_ : zRmk F_ K_ N3_ := zRmk.fr hsN3_ p0_ (by decide) (by decide)
        have c6_ : zRb b_ n_ N3_ := zRb.fr hsN3_ p1_ (by decide) (by decide)
        have c7_ : zRNm nm_ F_ K_ b_ n_ N3_ := zRNm.fr hsN3_ p3_ (by decide) (by decide)
        show zW l m_M_letLine (zn Mz + 0, zw Mz + 0) N3_ 30 [some (.ref 81), some (.int (Int32.ofInt (ze Mz 81 4))), none, none, none] [] _
        have hnn_ := hyt_.nx hp0_N3_
        have hx1_ := hnn_.2
        have hg1_ := znx_g (b := b_) (n := n_) (s := (ze Mz 81 4).toNat) (by omega)
        refine zw_aload_n (pc := 30) (n := 0) (x := 81) rfl (zdal_p dlC_M_letLine_86 (i := 15) rfl) ?_
        refine zr_callV (hf_N3_.w hW) hf_N3_.x (pc := 31) [] [] l_M_183 (c_M_isGood l N3_ (hf_N3_.w hW) ) rfl rfl rfl (by decide) (Nat.le_of_ble_eq_true rfl) (zdal_p dlC_M_letLine_86 (i := 16) rfl) ?_
        rintro _ N8_ ⟨v9_, rfl, ⟨hv9_a, hv9_b⟩, hsN8_, hp0_N8_⟩
        obtain rfl := hsN8_.eq.symm
        replace hp0_N8_ : ((v9_ = 1 ∧ ze N3_ 81 7 = 0) ∨ (v9_ = 0 ∧ ze N3_ 81 7 ≠ 0)) := hp0_N8_
        rcases hp0_N8_ with ⟨rfl, ha31_0_hp0_N8_⟩ | ⟨rfl, ha31_0_hp0_N8_⟩
        · skip
          show zW l m_M_letLine (zn Mz + 0, zw Mz + 0) N3_ 34 [some (.ref 81), some (.int (Int32.ofInt (ze Mz 81 4))), none, none, none] [.int (Int32.ofInt 1)] _
          refine zr_if_eq (pc := 34) (tgt := 49) ⟨(by decide), (by decide)⟩ (by decide) (zdal_p dlC_M_letLine_86 (i := 17) rfl) (fun hc_34 => ?_) (fun hc_34 => ?_)
          · skip
            exact absurd hc_34 (by decide)
          · skip
            refine zw_aload_n (pc := 37) (n := 0) (x := 81) rfl (zdal_p dlC_M_letLine_86 (i := 18) rfl) ?_
            refine zr_callV (hf_N3_.w hW) hf_N3_.x (pc := 38) [] [] l_M_316 (c_M_isNameF l N3_ (hf_N3_.w hW) b_ n_ hp1_N3_) rfl rfl rfl (by decide) (Nat.le_of_ble_eq_true rfl) (zdal_p dlC_M_letLine_86 (i := 19) rfl) ?_
            rintro _ N10_ ⟨v11_, rfl, ⟨hv11_a, hv11_b⟩, hsN10_, hp0_N10_⟩
            obtain rfl := hsN10_.eq.symm
            replace hp0_N10_ : ((v11_ = 1 ∧ zisn b_ n_ (ze N3_ 81 4).toNat) ∨ (v11_ = 0 ∧ ¬ zisn b_ n_ (ze N3_ 81 4).toNat)) := hp0_N10_
            rcases hp0_N10_ with ⟨rfl, ha38_0_hp0_N10_⟩ | ⟨rfl, ha38_0_hp0_N10_⟩
            · skip
              have hna_ := ha38_0_hp0_N10_
              rw [hx1_] at hna_
              show zW l m_M_letLine (zn Mz + 0, zw Mz + 0) N3_ 41 [some (.ref 81), some (.int (Int32.ofInt (ze Mz 81 4))), none, none, none] [.int (Int32.ofInt 1)] _
              refine zr_if_ne (pc := 41) (tgt := 49) ⟨(by decide), (by decide)⟩ (by decide) (zdal_p dlC_M_letLine_86 (i := 20) rfl) (fun hc_41 => ?_) (fun hc_41 => ?_)
              · skip
                refine zw_aload_n (pc := 49) (n := 0) (x := 81) rfl (zdal_p dlC_M_letLine_87 (i := 0) rfl) ?_
                refine zr_callV (hf_N3_.w hW) hf_N3_.x (pc := 50) [] [] l_M_183 (c_M_isGood l N3_ (hf_N3_.w hW) ) rfl rfl rfl (by decide) (Nat.le_of_ble_eq_true rfl) (zdal_p dlC_M_letLine_87 (i := 1) rfl) ?_
                rintro _ N12_ ⟨v13_, rfl, ⟨hv13_a, hv13_b⟩, hsN12_, hp0_N12_⟩
                obtain rfl := hsN12_.eq.symm
                replace hp0_N12_ : ((v13_ = 1 ∧ ze N3_ 81 7 = 0) ∨ (v13_ = 0 ∧ ze N3_ 81 7 ≠ 0)) := hp0_N12_
                rcases hp0_N12_ with ⟨rfl, ha50_0_hp0_N12_⟩ | ⟨rfl, ha50_0_hp0_N12_⟩
                · skip
                  show zW l m_M_letLine (zn Mz + 0, zw Mz + 0) N3_ 53 [some (.ref 81), some (.int (Int32.ofInt (ze Mz 81 4))), none, none, none] [.int (Int32.ofInt 1)] _
                  refine zr_if_eq (pc := 53) (tgt := 69) ⟨(by decide), (by decide)⟩ (by decide) (zdal_p dlC_M_letLine_87 (i := 2) rfl) (fun hc_53 => ?_) (fun hc_53 => ?_)
                  · skip
                    exact absurd hc_53 (by decide)
                  · skip
                    refine zw_aload_n (pc := 56) (n := 0) (x := 81) rfl (zdal_p dlC_M_letLine_87 (i := 3) rfl) ?_
                    refine zr_callV (hf_N3_.w hW) hf_N3_.x (pc := 57) [] [] l_M_319 (c_M_nameAtF l N3_ (hf_N3_.w hW) F_ K_ b_ n_ nm_ c7_ hp1_N3_ (show zkd b_ n_ (ze N3_ 81 4).toNat = 1 by rw [hx1_]; exact hna_.1)) rfl rfl rfl (by decide) (Nat.le_of_ble_eq_true rfl) (zdal_p dlC_M_letLine_87 (i := 4) rfl) ?_
                    rintro _ N14_ ⟨v15_, rfl, ⟨hv15_a, hv15_b⟩, hsN14_, hp0_N14_⟩
                    obtain rfl := hsN14_.eq.symm
                    replace hp0_N14_ : ((v15_ = -1 ∧ zfd nm_ (zkey b_ n_ (ze N3_ 81 4).toNat) = none) ∨ (0 ≤ v15_ ∧ v15_ ≤ 7 ∧ v15_ < ze N3_ 81 14 ∧ zfd nm_ (zkey b_ n_ (ze N3_ 81 4).toNat) = some (zrw F_ N3_ 102 (64 * v15_)) ∧ zfit F_ K_ (zrw F_ N3_ 102 (64 * v15_)))) := hp0_N14_
                    rcases hp0_N14_ with ⟨rfl, ha57_0_hp0_N14_⟩ | ⟨ha57_0_hp0_N14_, ha57_1_hp0_N14_, ha57_2_hp0_N14_, ha57_3_hp0_N14_, ha57_4_hp0_N14_⟩
                    · skip
                      have hfn_ := ha57_0_hp0_N14_
                      rw [hx1_] at hfn_
                      show zW l m_M_letLine (zn Mz + 0, zw Mz + 0) N3_ 60 [some (.ref 81), some (.int (Int32.ofInt (ze Mz 81 4))), none, none, none] [.int (Int32.ofInt ((-1)))] _
                      refine zw_iconst (pc := 60) (v := Int32.ofInt (-1)) (by decide) (zdal_p dlC_M_letLine_87 (i := 5) rfl) ?_
                      refine zr_icmp_eq (pc := 61) (tgt := 69) ⟨(by decide), (by decide)⟩ ⟨(by decide), (by decide)⟩ (by decide) (zdal_p dlC_M_letLine_87 (i := 6) rfl) (fun hc_61 => ?_) (fun hc_61 => ?_)
                      · skip
                        refine zw_aload_n (pc := 69) (n := 0) (x := 81) rfl (zdal_p dlC_M_letLine_87 (i := 10) rfl) ?_
                        refine zr_getI (hf_N3_.w hW) (pc := 70) f_M_172 rfl (zdal_p dlC_M_letLine_87 (i := 11) rfl) ?_
                        refine zr_if_le (pc := 73) (tgt := 77) ⟨(ze_r N3_ 81 7).1, (ze_r N3_ 81 7).2⟩ (by decide) (zdal_p dlC_M_letLine_87 (i := 12) rfl) (fun hc_73 => ?_) (fun hc_73 => ?_)
                        · skip
                          refine zw_aload_n (pc := 77) (n := 0) (x := 81) rfl (zdal_p dlC_M_letLine_87 (i := 14) rfl) ?_
                          refine zr_getJ (hf_N3_.w hW) (pc := 78) f_M_148 rfl (zdal_p dlC_M_letLine_87 (i := 15) rfl) ?_
                          have hr16_ := zg_r N3_ 81 11
                          refine zw_lstore_n (pc := 81) (i := 2) (L2 := [some (.ref 81), some (.int (Int32.ofInt (ze Mz 81 4))), some (.long (Int64.ofInt (zg N3_ 81 11))), none, none]) rfl (by decide) rfl (zdal_p dlC_M_letLine_87 (i := 16) rfl) ?_
                          have hyt1_ := hp1_N3_
                          have hwd_ : zg N3_ 81 11 = zke8 b_ n_ (znx b_ n_ (ze Mz 81 4).toNat) := by rw [← hx1_]; exact hyt1_.2.2.2.1 (by rw [hx1_]; exact hna_.1)
                          have hyt_ := hp1_N3_
                          have hyx_ := hyt_.x
                          refine zw_aload_n (pc := 82) (n := 0) (x := 81) rfl (zdal_p dlC_M_letLine_87 (i := 17) rfl) ?_
                          refine zr_callV (hf_N3_.w hW) hf_N3_.x (pc := 83) [] [] l_M_193 (c_M_goOnF l N3_ (hf_N3_.w hW) b_ n_ c6_ (show 0 ≤ ze N3_ 81 3 by first | with_reducible assumption | (exact zo_57 hyx_.2.1) | assumption) (show ze N3_ 81 3 ≤ n_ by first | with_reducible assumption | (exact zo_277 hyx_.2.2 r3_N3_.2) | assumption)) rfl rfl rfl (by decide) (Nat.le_of_ble_eq_true rfl) (zdal_p dlC_M_letLine_87 (i := 18) rfl) ?_
                          rintro _ N17_ ⟨rfl, hsN17_, ⟨hp0_N17_, hp1_N17_⟩⟩
                          have hf_N17_ : zFr [3, 4, 5, 6, 7, 8, 11, 14, 38, 39, 41, 42, 43] [95, 96, 97, 100, 101, 102] Mz N17_ := hf_N3_.tr hsN17_ (by decide) (by decide)
                          have r3_N17_ := ze_r N17_ 81 3
                          have r4_N17_ := ze_r N17_ 81 4
                          have e7_N17_ : ze N17_ 81 7 = ze N3_ 81 7 := hsN17_.e (by decide)
                          have e14_N17_ : ze N17_ 81 14 = ze N3_ 81 14 := hsN17_.e (by decide)
                          have e26_N17_ : ze N17_ 81 26 = ze N3_ 81 26 := hsN17_.e (by decide)
                          have e39_N17_ : ze N17_ 81 39 = ze N3_ 81 39 := hsN17_.e (by decide)
                          have qzr101_N17_ : zr101 N17_ = zr101 N3_ := zr101_f hsN17_ (by decide)
                          have qzr102_N17_ : zr102 N17_ = zr102 N3_ := zr102_f hsN17_ (by decide)
                          have c19_ : zRmk F_ K_ N17_ := zRmk.fr hsN17_ c5_ (by decide) (by decide)
                          have c20_ : zRb b_ n_ N17_ := zRb.fr hsN17_ c6_ (by decide) (by decide)
                          have c21_ : zRNm nm_ F_ K_ b_ n_ N17_ := zRNm.fr hsN17_ c7_ (by decide) (by decide)
                          show zW l m_M_letLine (zn Mz + 0, zw Mz + 0) N17_ 86 [some (.ref 81), some (.int (Int32.ofInt (ze Mz 81 4))), some (.long (Int64.ofInt (zg N3_ 81 11))), none, none] [] _
                          have hnn_ := hyt_.nx hp0_N17_
                          have hx2_ : (ze N17_ 81 4).toNat = znx b_ n_ (znx b_ n_ (ze Mz 81 4).toNat) := hnn_.2.trans (by rw [hx1_])
                          have hg2_ := znx_ge (b := b_) (n := n_) (s := (znx b_ n_ (ze Mz 81 4).toNat))
                          refine zw_aload_n (pc := 86) (n := 0) (x := 81) rfl (zdal_p dlC_M_letLine_87 (i := 19) rfl) ?_
                          refine zw_bipush (pc := 87) (v := Int32.ofInt 61) (by decide) (zdal_p dlC_M_letLine_87 (i := 20) rfl) ?_
                          refine zr_callV (hf_N17_.w hW) hf_N17_.x (pc := 89) [.int (Int32.ofInt 61)] [] l_M_355 (c_M_mustF l N17_ (hf_N17_.w hW) 61 (by decide) (by decide) b_ n_ c20_ hp1_N17_ (show 0 ≤ ze N17_ 81 7 by first | with_reducible assumption | (exact zo_631 e7_N17_ ha31_0_hp0_N8_) | assumption)) rfl rfl rfl (by decide) (Nat.le_of_ble_eq_true rfl) (zdal_p dlC_M_letLine_87 (i := 21) rfl) ?_
                          rintro _ N22_ ⟨rfl, hsN22_, ⟨hp0_N22_, hp1_N22_⟩⟩
                          have hf_N22_ : zFr [3, 4, 5, 6, 7, 8, 11, 14, 38, 39, 41, 42, 43] [95, 96, 97, 100, 101, 102] Mz N22_ := hf_N17_.tr hsN22_ (by decide) (by decide)
                          have r3_N22_ := ze_r N22_ 81 3
                          have r4_N22_ := ze_r N22_ 81 4
                          have r7_N22_ := ze_r N22_ 81 7
                          have e14_N22_ : ze N22_ 81 14 = ze N17_ 81 14 := hsN22_.e (by decide)
                          have e26_N22_ : ze N22_ 81 26 = ze N17_ 81 26 := hsN22_.e (by decide)
                          have e39_N22_ : ze N22_ 81 39 = ze N17_ 81 39 := hsN22_.e (by decide)
                          have qzr101_N22_ : zr101 N22_ = zr101 N17_ := zr101_f hsN22_ (by decide)
                          have qzr102_N22_ : zr102 N22_ = zr102 N17_ := zr102_f hsN22_ (by decide)
                          have c24_ : zRmk F_ K_ N22_ := zRmk.fr hsN22_ c19_ (by decide) (by decide)
                          have c25_ : zRb b_ n_ N22_ := zRb.fr hsN22_ c20_ (by decide) (by decide)
                          have c26_ : zRNm nm_ F_ K_ b_ n_ N22_ := zRNm.fr hsN22_ c21_ (by decide) (by decide)
                          rcases hp1_N22_ with ⟨ha89_0_hp1_N22_, ha89_1_hp1_N22_⟩ | ⟨ha89_0_hp1_N22_, ha89_1_hp1_N22_, ha89_2_hp1_N22_, ha89_3_hp1_N22_⟩
                          · skip
                            have hrt_ : zls b_ n_ F_ K_ (0, (ze Mz 81 4).toNat, nm_) = zLf := zls_f hl0_ (fun q_ => ha89_1_hp1_N22_ (by (exact zo_610 e7_N17_ ha31_0_hp0_N8_)) (by rw [hx2_]; exact q_.2.2.2))
                            show zW l m_M_letLine (zn Mz + 0, zw Mz + 0) N22_ 92 [some (.ref 81), some (.int (Int32.ofInt (ze Mz 81 4))), some (.long (Int64.ofInt (zg N3_ 81 11))), none, none] [] _
                            refine zw_aload_n (pc := 92) (n := 0) (x := 81) rfl (zdal_p dlC_M_letLine_87 (i := 22) rfl) ?_
                            refine zr_callV (hf_N22_.w hW) hf_N22_.x (pc := 93) [] [] l_M_358 (c_M_formulaF l N22_ (hf_N22_.w hW) F_ K_ hA_ b_ n_ nm_ c24_ c25_ hp0_N22_ c26_ (show 0 ≤ ze N22_ 81 7 by first | with_reducible assumption | (exact zo_564 ha89_0_hp1_N22_) | assumption)) rfl rfl rfl (by decide) (Nat.le_of_ble_eq_true rfl) (zdal_p dlC_M_letLine_87 (i := 23) rfl) ?_
                            rintro _ N27_ ⟨rfl, hsN27_, ⟨hp0_N27_, hp1_N27_⟩⟩
                            have hf_N27_ : zFr [3, 4, 5, 6, 7, 8, 11, 14, 38, 39, 41, 42, 43] [95, 96, 97, 100, 101, 102] Mz N27_ := hf_N22_.tr hsN27_ (by decide) (by decide)
                            have r3_N27_ := ze_r N27_ 81 3
                            have r4_N27_ := ze_r N27_ 81 4
                            have r7_N27_ := ze_r N27_ 81 7
                            have e14_N27_ : ze N27_ 81 14 = ze N22_ 81 14 := hsN27_.e (by decide)
                            have e26_N27_ : ze N27_ 81 26 = ze N22_ 81 26 := hsN27_.e (by decide)
                            have r39_N27_ := ze_r N27_ 81 39
                            have c30_ : zRb b_ n_ N27_ := zRb.fr hsN27_ c25_ (by decide) (by decide)
                            rcases hp1_N27_ with ⟨ha93_0_hp1_N27_, ha93_1_hp1_N27_⟩ | ⟨ha93_0_hp1_N27_, ha93_1_hp1_N27_, ha93_2_hp1_N27_, ha93_3_hp1_N27_, ha93_4_hp1_N27_, ha93_5_hp1_N27_⟩
                            · skip
                              have hrt2_ : zls b_ n_ F_ K_ (0, (ze Mz 81 4).toNat, nm_) = zLf := by first | exact hrt_ | exact (zls_g hl0_ hl2_ (by rw [← hx3_]; exact ha93_1_hp1_N27_ (by omega)) zfs_F).trans zle_f
                              show zW l m_M_letLine (zn Mz + 0, zw Mz + 0) N27_ 96 [some (.ref 81), some (.int (Int32.ofInt (ze Mz 81 4))), some (.long (Int64.ofInt (zg N3_ 81 11))), none, none] [] _
                              refine zw_aload_n (pc := 96) (n := 0) (x := 81) rfl (zdal_p dlC_M_letLine_88 (i := 0) rfl) ?_
                              refine zw_bipush (pc := 97) (v := Int32.ofInt 59) (by decide) (zdal_p dlC_M_letLine_88 (i := 1) rfl) ?_
                              refine zr_callV (hf_N27_.w hW) hf_N27_.x (pc := 99) [.int (Int32.ofInt 59)] [] l_M_355 (c_M_mustF l N27_ (hf_N27_.w hW) 59 (by decide) (by decide) b_ n_ c30_ hp0_N27_ (show 0 ≤ ze N27_ 81 7 by first | with_reducible assumption | (exact zo_564 ha93_0_hp1_N27_) | assumption)) rfl rfl rfl (by decide) (Nat.le_of_ble_eq_true rfl) (zdal_p dlC_M_letLine_88 (i := 2) rfl) ?_
                              rintro _ N32_ ⟨rfl, hsN32_, ⟨hp0_N32_, hp1_N32_⟩⟩
                              have hf_N32_ : zFr [3, 4, 5, 6, 7, 8, 11, 14, 38, 39, 41, 42, 43] [95, 96, 97, 100, 101, 102] Mz N32_ := hf_N27_.tr hsN32_ (by decide) (by decide)
                              have r3_N32_ := ze_r N32_ 81 3
                              have r4_N32_ := ze_r N32_ 81 4
                              have r7_N32_ := ze_r N32_ 81 7
                              have e14_N32_ : ze N32_ 81 14 = ze N27_ 81 14 := hsN32_.e (by decide)
                              have e26_N32_ : ze N32_ 81 26 = ze N27_ 81 26 := hsN32_.e (by decide)
                              have e39_N32_ : ze N32_ 81 39 = ze N27_ 81 39 := hsN32_.e (by decide)
                              rcases hp1_N32_ with ⟨ha99_0_hp1_N32_, ha99_1_hp1_N32_⟩ | ⟨ha99_0_hp1_N32_, ha99_1_hp1_N32_, ha99_2_hp1_N32_, ha99_3_hp1_N32_⟩
                              · skip
                                have hrt3_ : zls b_ n_ F_ K_ (0, (ze Mz 81 4).toNat, nm_) = zLf := by first | exact hrt_ | exact hrt2_ | (rw [hzl_]; unfold zRst; exact zle_n (fun q_ => ha99_1_hp1_N32_ (by omega) q_))
                                show zW l m_M_letLine (zn Mz + 0, zw Mz + 0) N32_ 102 [some (.ref 81), some (.int (Int32.ofInt (ze Mz 81 4))), some (.long (Int64.ofInt (zg N3_ 81 11))), none, none] [] _
                                refine zw_aload_n (pc := 102) (n := 0) (x := 81) rfl (zdal_p dlC_M_letLine_88 (i := 3) rfl) ?_
                                refine zr_callV (hf_N32_.w hW) hf_N32_.x (pc := 103) [] [] l_M_183 (c_M_isGood l N32_ (hf_N32_.w hW) ) rfl rfl rfl (by decide) (Nat.le_of_ble_eq_true rfl) (zdal_p dlC_M_letLine_88 (i := 4) rfl) ?_
                                rintro _ N37_ ⟨v38_, rfl, ⟨hv38_a, hv38_b⟩, hsN37_, hp0_N37_⟩
                                obtain rfl := hsN37_.eq.symm
                                replace hp0_N37_ : ((v38_ = 1 ∧ ze N32_ 81 7 = 0) ∨ (v38_ = 0 ∧ ze N32_ 81 7 ≠ 0)) := hp0_N37_
                                rcases hp0_N37_ with ⟨rfl, ha103_0_hp0_N37_⟩ | ⟨rfl, ha103_0_hp0_N37_⟩
                                · skip
                                  exfalso; (exact zo_281 ha103_0_hp0_N37_ ha99_0_hp1_N32_)
                                · skip
                                  show zW l m_M_letLine (zn Mz + 0, zw Mz + 0) N32_ 106 [some (.ref 81), some (.int (Int32.ofInt (ze Mz 81 4))), some (.long (Int64.ofInt (zg N3_ 81 11))), none, none] [.int (Int32.ofInt 0)] _
                                  refine zr_if_eq (pc := 106) (tgt := 123) ⟨(by decide), (by decide)⟩ (by decide) (zdal_p dlC_M_letLine_88 (i := 5) rfl) (fun hc_106 => ?_) (fun hc_106 => ?_)
                                  · skip
                                    refine zw_aload_n (pc := 123) (n := 0) (x := 81) rfl d_M_letLine_123 ?_
                                    refine zr_getI (hf_N32_.w hW) (pc := 124) f_M_172 rfl d_M_letLine_124 ?_
                                    refine zr_if_le (pc := 127) (tgt := 131) ⟨(ze_r N32_ 81 7).1, (ze_r N32_ 81 7).2⟩ (by decide) d_M_letLine_127 (fun hc_127 => ?_) (fun hc_127 => ?_)
                                    · skip
                                      exfalso; (exact zo_61 ha99_0_hp1_N32_ hc_127)
                                    · skip
                                      exact zr_vret (pc := 130) rfl hf_N32_ ⟨hp0_N32_, (show 0 ≤ ze N32_ 81 14 by first | with_reducible assumption | (exact zo_1323 e14_N17_ e14_N22_ e14_N27_ e14_N32_ e14_N3_ hw0_) | assumption), (show ze N32_ 81 14 ≤ 8 by first | with_reducible assumption | (exact zo_1324 e14_N17_ e14_N22_ e14_N27_ e14_N32_ e14_N3_ hw8_) | assumption), (show ((1 ≤ ze N32_ 81 7 ∧ zls b_ n_ F_ K_ (0, (ze Mz 81 4).toNat, nm_) = zLf) ∨ (ze N32_ 81 7 = 0 ∧ (∃ nm2 : List (Int × (Nat → Int)), zls b_ n_ F_ K_ (0, (ze Mz 81 4).toNat, nm_) = (0, (ze N32_ 81 4).toNat, nm2) ∧ zRNm nm2 F_ K_ b_ n_ N32_) ∧ ze Mz 81 4 < ze N32_ 81 4)) from Or.inl (⟨(show 1 ≤ ze N32_ 81 7 by first | (exact ha99_0_hp1_N32_) | exact hrt_ | exact hrt2_ | exact hrt3_), (show zls b_ n_ F_ K_ (0, (ze Mz 81 4).toNat, nm_) = zLf by first | (exact hrt_) | exact hrt_ | exact hrt2_ | exact hrt3_)⟩))⟩ (zdal_p dlC_M_letLine_88 (i := 16) rfl)
                                  · skip
                                    exact absurd hc_106 (by decide)
                              · skip
                                exfalso; (exact zo_609 ha93_0_hp1_N27_ ha99_1_hp1_N32_)
                            · skip
                              exfalso; (exact zo_609 ha89_0_hp1_N22_ ha93_1_hp1_N27_)
                          · skip
                            have hsg_ := ha89_2_hp1_N22_
                            have hx3_ := ha89_3_hp1_N22_
                            rw [hx2_] at hsg_ hx3_
                            have hl2_ : nm_.length < 8 ∧ zisn b_ n_ (znx b_ n_ (ze Mz 81 4).toNat) ∧ zfd nm_ (zkey b_ n_ (znx b_ n_ (ze Mz 81 4).toNat)) = none ∧ zisg b_ n_ (znx b_ n_ (znx b_ n_ (ze Mz 81 4).toNat)) 61 := ⟨by (exact zo_1325 hlen_ hw8_ hc_11), hna_, hfn_, hsg_⟩
                            have hg3_ := znx_ge (b := b_) (n := n_) (s := znx b_ n_ (znx b_ n_ (ze Mz 81 4).toNat))
                            show zW l m_M_letLine (zn Mz + 0, zw Mz + 0) N22_ 92 [some (.ref 81), some (.int (Int32.ofInt (ze Mz 81 4))), some (.long (Int64.ofInt (zg N3_ 81 11))), none, none] [] _
                            refine zw_aload_n (pc := 92) (n := 0) (x := 81) rfl (zdal_p dlC_M_letLine_87 (i := 22) rfl) ?_
                            refine zr_callV (hf_N22_.w hW) hf_N22_.x (pc := 93) [] [] l_M_358 (c_M_formulaF l N22_ (hf_N22_.w hW) F_ K_ hA_ b_ n_ nm_ c24_ c25_ hp0_N22_ c26_ (show 0 ≤ ze N22_ 81 7 by first | with_reducible assumption | (exact zo_718 ha89_0_hp1_N22_) | assumption)) rfl rfl rfl (by decide) (Nat.le_of_ble_eq_true rfl) (zdal_p dlC_M_letLine_87 (i := 23) rfl) ?_
                            rintro _ N39_ ⟨rfl, hsN39_, ⟨hp0_N39_, hp1_N39_⟩⟩
                            have hf_N39_ : zFr [3, 4, 5, 6, 7, 8, 11, 14, 38, 39, 41, 42, 43] [95, 96, 97, 100, 101, 102] Mz N39_ := hf_N22_.tr hsN39_ (by decide) (by decide)
                            have r3_N39_ := ze_r N39_ 81 3
                            have r4_N39_ := ze_r N39_ 81 4
                            have r7_N39_ := ze_r N39_ 81 7
                            have e14_N39_ : ze N39_ 81 14 = ze N22_ 81 14 := hsN39_.e (by decide)
                            have e26_N39_ : ze N39_ 81 26 = ze N22_ 81 26 := hsN39_.e (by decide)
                            have r39_N39_ := ze_r N39_ 81 39
                            have qzr101_N39_ : zr101 N39_ = zr101 N22_ := zr101_f hsN39_ (by decide)
                            have qzr102_N39_ : zr102 N39_ = zr102 N22_ := zr102_f hsN39_ (by decide)
                            have c42_ : zRb b_ n_ N39_ := zRb.fr hsN39_ c25_ (by decide) (by decide)
                            rcases hp1_N39_ with ⟨ha93_0_hp1_N39_, ha93_1_hp1_N39_⟩ | ⟨ha93_0_hp1_N39_, ha93_1_hp1_N39_, ha93_2_hp1_N39_, ha93_3_hp1_N39_, ha93_4_hp1_N39_, ha93_5_hp1_N39_⟩
                            · skip
                              have hrt2_ : zls b_ n_ F_ K_ (0, (ze Mz 81 4).toNat, nm_) = zLf := by first | exact hrt_ | exact (zls_g hl0_ hl2_ (by rw [← hx3_]; exact ha93_1_hp1_N39_ (by omega)) zfs_F).trans zle_f
                              show zW l m_M_letLine (zn Mz + 0, zw Mz + 0) N39_ 96 [some (.ref 81), some (.int (Int32.ofInt (ze Mz 81 4))), some (.long (Int64.ofInt (zg N3_ 81 11))), none, none] [] _
                              refine zw_aload_n (pc := 96) (n := 0) (x := 81) rfl (zdal_p dlC_M_letLine_88 (i := 0) rfl) ?_
                              refine zw_bipush (pc := 97) (v := Int32.ofInt 59) (by decide) (zdal_p dlC_M_letLine_88 (i := 1) rfl) ?_
                              refine zr_callV (hf_N39_.w hW) hf_N39_.x (pc := 99) [.int (Int32.ofInt 59)] [] l_M_355 (c_M_mustF l N39_ (hf_N39_.w hW) 59 (by decide) (by decide) b_ n_ c42_ hp0_N39_ (show 0 ≤ ze N39_ 81 7 by first | with_reducible assumption | (exact zo_564 ha93_0_hp1_N39_) | assumption)) rfl rfl rfl (by decide) (Nat.le_of_ble_eq_true rfl) (zdal_p dlC_M_letLine_88 (i := 2) rfl) ?_
                              rintro _ N44_ ⟨rfl, hsN44_, ⟨hp0_N44_, hp1_N44_⟩⟩
                              have hf_N44_ : zFr [3, 4, 5, 6, 7, 8, 11, 14, 38, 39, 41, 42, 43] [95, 96, 97, 100, 101, 102] Mz N44_ := hf_N39_.tr hsN44_ (by decide) (by decide)
                              have r3_N44_ := ze_r N44_ 81 3
                              have r4_N44_ := ze_r N44_ 81 4
                              have r7_N44_ := ze_r N44_ 81 7
                              have e14_N44_ : ze N44_ 81 14 = ze N39_ 81 14 := hsN44_.e (by decide)
                              have e26_N44_ : ze N44_ 81 26 = ze N39_ 81 26 := hsN44_.e (by decide)
                              have e39_N44_ : ze N44_ 81 39 = ze N39_ 81 39 := hsN44_.e (by decide)
                              rcases hp1_N44_ with ⟨ha99_0_hp1_N44_, ha99_1_hp1_N44_⟩ | ⟨ha99_0_hp1_N44_, ha99_1_hp1_N44_, ha99_2_hp1_N44_, ha99_3_hp1_N44_⟩
                              · skip
                                have hrt3_ : zls b_ n_ F_ K_ (0, (ze Mz 81 4).toNat, nm_) = zLf := by first | exact hrt_ | exact hrt2_ | (rw [hzl_]; unfold zRst; exact zle_n (fun q_ => ha99_1_hp1_N44_ (by omega) q_))
                                show zW l m_M_letLine (zn Mz + 0, zw Mz + 0) N44_ 102 [some (.ref 81), some (.int (Int32.ofInt (ze Mz 81 4))), some (.long (Int64.ofInt (zg N3_ 81 11))), none, none] [] _
                                refine zw_aload_n (pc := 102) (n := 0) (x := 81) rfl (zdal_p dlC_M_letLine_88 (i := 3) rfl) ?_
                                refine zr_callV (hf_N44_.w hW) hf_N44_.x (pc := 103) [] [] l_M_183 (c_M_isGood l N44_ (hf_N44_.w hW) ) rfl rfl rfl (by decide) (Nat.le_of_ble_eq_true rfl) (zdal_p dlC_M_letLine_88 (i := 4) rfl) ?_
                                rintro _ N49_ ⟨v50_, rfl, ⟨hv50_a, hv50_b⟩, hsN49_, hp0_N49_⟩
                                obtain rfl := hsN49_.eq.symm
                                replace hp0_N49_ : ((v50_ = 1 ∧ ze N44_ 81 7 = 0) ∨ (v50_ = 0 ∧ ze N44_ 81 7 ≠ 0)) := hp0_N49_
                                rcases hp0_N49_ with ⟨rfl, ha103_0_hp0_N49_⟩ | ⟨rfl, ha103_0_hp0_N49_⟩
                                · skip
                                  exfalso; (exact zo_281 ha103_0_hp0_N49_ ha99_0_hp1_N44_)
                                · skip
                                  show zW l m_M_letLine (zn Mz + 0, zw Mz + 0) N44_ 106 [some (.ref 81), some (.int (Int32.ofInt (ze Mz 81 4))), some (.long (Int64.ofInt (zg N3_ 81 11))), none, none] [.int (Int32.ofInt 0)] _
                                  refine zr_if_eq (pc := 106) (tgt := 123) ⟨(by decide), (by decide)⟩ (by decide) (zdal_p dlC_M_letLine_88 (i := 5) rfl) (fun hc_106 => ?_) (fun hc_106 => ?_)
                                  · skip
                                    refine zw_aload_n (pc := 123) (n := 0) (x := 81) rfl d_M_letLine_123 ?_
                                    refine zr_getI (hf_N44_.w hW) (pc := 124) f_M_172 rfl d_M_letLine_124 ?_
                                    refine zr_if_le (pc := 127) (tgt := 131) ⟨(ze_r N44_ 81 7).1, (ze_r N44_ 81 7).2⟩ (by decide) d_M_letLine_127 (fun hc_127 => ?_) (fun hc_127 => ?_)
                                    · skip
                                      exfalso; (exact zo_61 ha99_0_hp1_N44_ hc_127)
                                    · skip
                                      exact zr_vret (pc := 130) rfl hf_N44_ ⟨hp0_N44_, (show 0 ≤ ze N44_ 81 14 by first | with_reducible assumption | (exact zo_1326 e14_N17_ e14_N22_ e14_N39_ e14_N3_ e14_N44_ hw0_) | assumption), (show ze N44_ 81 14 ≤ 8 by first | with_reducible assumption | (exact zo_1327 e14_N17_ e14_N22_ e14_N39_ e14_N3_ e14_N44_ hw8_) | assumption), (show ((1 ≤ ze N44_ 81 7 ∧ zls b_ n_ F_ K_ (0, (ze Mz 81 4).toNat, nm_) = zLf) ∨ (ze N44_ 81 7 = 0 ∧ (∃ nm2 : List (Int × (Nat → Int)), zls b_ n_ F_ K_ (0, (ze Mz 81 4).toNat, nm_) = (0, (ze N44_ 81 4).toNat, nm2) ∧ zRNm nm2 F_ K_ b_ n_ N44_) ∧ ze Mz 81 4 < ze N44_ 81 4)) from Or.inl (⟨(show 1 ≤ ze N44_ 81 7 by first | (exact ha99_0_hp1_N44_) | exact hrt_ | exact hrt2_ | exact hrt3_), (show zls b_ n_ F_ K_ (0, (ze Mz 81 4).toNat, nm_) = zLf by first | (exact hrt2_) | exact hrt_ | exact hrt2_ | exact hrt3_)⟩))⟩ (zdal_p dlC_M_letLine_88 (i := 16) rfl)
                                  · skip
                                    exact absurd hc_106 (by decide)
                              · skip
                                exfalso; (exact zo_609 ha93_0_hp1_N39_ ha99_1_hp1_N44_)
                            · skip
                              have hre_ := ha93_2_hp1_N39_
                              have hri_ := ha93_3_hp1_N39_
                              have hsn_ := ha93_4_hp1_N39_
                              have hps4_ := ha93_5_hp1_N39_
                              rw [hx3_] at hre_
                              have hzl_ : zls b_ n_ F_ K_ (0, (ze Mz 81 4).toNat, nm_) = zle b_ n_ (zkey b_ n_ (znx b_ n_ (ze Mz 81 4).toNat)) nm_ (zRst 3 F_ N39_) := zls_g hl0_ hl2_ hre_ (by unfold zRst; exact zfs_d)
                              show zW l m_M_letLine (zn Mz + 0, zw Mz + 0) N39_ 96 [some (.ref 81), some (.int (Int32.ofInt (ze Mz 81 4))), some (.long (Int64.ofInt (zg N3_ 81 11))), none, none] [] _
                              refine zw_aload_n (pc := 96) (n := 0) (x := 81) rfl (zdal_p dlC_M_letLine_88 (i := 0) rfl) ?_
                              refine zw_bipush (pc := 97) (v := Int32.ofInt 59) (by decide) (zdal_p dlC_M_letLine_88 (i := 1) rfl) ?_
                              refine zr_callV (hf_N39_.w hW) hf_N39_.x (pc := 99) [.int (Int32.ofInt 59)] [] l_M_355 (c_M_mustF l N39_ (hf_N39_.w hW) 59 (by decide) (by decide) b_ n_ c42_ hp0_N39_ (show 0 ≤ ze N39_ 81 7 by first | with_reducible assumption | assumption | omega)) rfl rfl rfl (by decide) (Nat.le_of_ble_eq_true rfl) (zdal_p dlC_M_letLine_88 (i := 2) rfl) ?_
                              rintro _ N51_ ⟨rfl, hsN51_, ⟨hp0_N51_, hp1_N51_⟩⟩
                              have hf_N51_ : zFr [3, 4, 5, 6, 7, 8, 11, 14, 38, 39, 41, 42, 43] [95, 96, 97, 100, 101, 102] Mz N51_ := hf_N39_.tr hsN51_ (by decide) (by decide)
                              have r3_N51_ := ze_r N51_ 81 3
                              have r4_N51_ := ze_r N51_ 81 4
                              have r7_N51_ := ze_r N51_ 81 7
                              have e14_N51_ : ze N51_ 81 14 = ze N39_ 81 14 := hsN51_.e (by decide)
                              have e26_N51_ : ze N51_ 81 26 = ze N39_ 81 26 := hsN51_.e (by decide)
                              have e39_N51_ : ze N51_ 81 39 = ze N39_ 81 39 := hsN51_.e (by decide)
                              have qzr95_N51_ : zr95 N51_ = zr95 N39_ := zr95_f hsN51_ (by decide)
                              have qzr101_N51_ : zr101 N51_ = zr101 N39_ := zr101_f hsN51_ (by decide)
                              have qzr102_N51_ : zr102 N51_ = zr102 N39_ := zr102_f hsN51_ (by decide)
                              rcases hp1_N51_ with ⟨ha99_0_hp1_N51_, ha99_1_hp1_N51_⟩ | ⟨ha99_0_hp1_N51_, ha99_1_hp1_N51_, ha99_2_hp1_N51_, ha99_3_hp1_N51_⟩
                              · skip
                                have hrt3_ : zls b_ n_ F_ K_ (0, (ze Mz 81 4).toNat, nm_) = zLf := by first | exact hrt_ | exact hrt2_ | (rw [hzl_]; unfold zRst; exact zle_n (fun q_ => ha99_1_hp1_N51_ (by omega) q_))
                                show zW l m_M_letLine (zn Mz + 0, zw Mz + 0) N51_ 102 [some (.ref 81), some (.int (Int32.ofInt (ze Mz 81 4))), some (.long (Int64.ofInt (zg N3_ 81 11))), none, none] [] _
                                refine zw_aload_n (pc := 102) (n := 0) (x := 81) rfl (zdal_p dlC_M_letLine_88 (i := 3) rfl) ?_
                                refine zr_callV (hf_N51_.w hW) hf_N51_.x (pc := 103) [] [] l_M_183 (c_M_isGood l N51_ (hf_N51_.w hW) ) rfl rfl rfl (by decide) (Nat.le_of_ble_eq_true rfl) (zdal_p dlC_M_letLine_88 (i := 4) rfl) ?_
                                rintro _ N56_ ⟨v57_, rfl, ⟨hv57_a, hv57_b⟩, hsN56_, hp0_N56_⟩
                                obtain rfl := hsN56_.eq.symm
                                replace hp0_N56_ : ((v57_ = 1 ∧ ze N51_ 81 7 = 0) ∨ (v57_ = 0 ∧ ze N51_ 81 7 ≠ 0)) := hp0_N56_
                                rcases hp0_N56_ with ⟨rfl, ha103_0_hp0_N56_⟩ | ⟨rfl, ha103_0_hp0_N56_⟩
                                · skip
                                  exfalso; omega
                                · skip
                                  show zW l m_M_letLine (zn Mz + 0, zw Mz + 0) N51_ 106 [some (.ref 81), some (.int (Int32.ofInt (ze Mz 81 4))), some (.long (Int64.ofInt (zg N3_ 81 11))), none, none] [.int (Int32.ofInt 0)] _
                                  refine zr_if_eq (pc := 106) (tgt := 123) ⟨(by decide), (by decide)⟩ (by decide) (zdal_p dlC_M_letLine_88 (i := 5) rfl) (fun hc_106 => ?_) (fun hc_106 => ?_)
                                  · skip
                                    refine zw_aload_n (pc := 123) (n := 0) (x := 81) rfl d_M_letLine_123 ?_
                                    refine zr_getI (hf_N51_.w hW) (pc := 124) f_M_172 rfl d_M_letLine_124 ?_
                                    refine zr_if_le (pc := 127) (tgt := 131) ⟨(ze_r N51_ 81 7).1, (ze_r N51_ 81 7).2⟩ (by decide) d_M_letLine_127 (fun hc_127 => ?_) (fun hc_127 => ?_)
                                    · skip
                                      exfalso; omega
                                    · skip
                                      exact zr_vret (pc := 130) rfl hf_N51_ ⟨hp0_N51_, (show 0 ≤ ze N51_ 81 14 by first | with_reducible assumption | assumption | omega), (show ze N51_ 81 14 ≤ 8 by first | with_reducible assumption | assumption | omega), (show ((1 ≤ ze N51_ 81 7 ∧ zls b_ n_ F_ K_ (0, (ze Mz 81 4).toNat, nm_) = zLf) ∨ (ze N51_ 81 7 = 0 ∧ (∃ nm2 : List (Int × (Nat → Int)), zls b_ n_ F_ K_ (0, (ze Mz 81 4).toNat, nm_) = (0, (ze N51_ 81 4).toNat, nm2) ∧ zRNm nm2 F_ K_ b_ n_ N51_) ∧ ze Mz 81 4 < ze N51_ 81 4)) from Or.inl (⟨(show 1 ≤ ze N51_ 81 7 by first | omega | exact hrt_ | exact hrt2_ | exact hrt3_), (show zls b_ n_ F_ K_ (0, (ze Mz 81 4).toNat, nm_) = zLf by first | omega | exact hrt_ | exact hrt2_ | exact hrt3_)⟩))⟩ (zdal_p dlC_M_letLine_88 (i := 16) rfl)
                                  · skip
                                    exact absurd hc_106 (by decide)
                              · skip
                                have hsg2_ := ha99_2_hp1_N51_
                                have hx4_ := ha99_3_hp1_N51_
                                have hg4_ := znx_ge (b := b_) (n := n_) (s := (ze N39_ 81 4).toNat)
                                show zW l m_M_letLine (zn Mz + 0, zw Mz + 0) N51_ 102 [some (.ref 81), some (.int (Int32.ofInt (ze Mz 81 4))), some (.long (Int64.ofInt (zg N3_ 81 11))), none, none] [] _
                                refine zw_aload_n (pc := 102) (n := 0) (x := 81) rfl (zdal_p dlC_M_letLine_88 (i := 3) rfl) ?_
                                refine zr_callV (hf_N51_.w hW) hf_N51_.x (pc := 103) [] [] l_M_183 (c_M_isGood l N51_ (hf_N51_.w hW) ) rfl rfl rfl (by decide) (Nat.le_of_ble_eq_true rfl) (zdal_p dlC_M_letLine_88 (i := 4) rfl) ?_
                                rintro _ N58_ ⟨v59_, rfl, ⟨hv59_a, hv59_b⟩, hsN58_, hp0_N58_⟩
                                obtain rfl := hsN58_.eq.symm
                                replace hp0_N58_ : ((v59_ = 1 ∧ ze N51_ 81 7 = 0) ∨ (v59_ = 0 ∧ ze N51_ 81 7 ≠ 0)) := hp0_N58_
                                rcases hp0_N58_ with ⟨rfl, ha103_0_hp0_N58_⟩ | ⟨rfl, ha103_0_hp0_N58_⟩
                                · skip
                                  show zW l m_M_letLine (zn Mz + 0, zw Mz + 0) N51_ 106 [some (.ref 81), some (.int (Int32.ofInt (ze Mz 81 4))), some (.long (Int64.ofInt (zg N3_ 81 11))), none, none] [.int (Int32.ofInt 1)] _
                                  refine zr_if_eq (pc := 106) (tgt := 123) ⟨(by decide), (by decide)⟩ (by decide) (zdal_p dlC_M_letLine_88 (i := 5) rfl) (fun hc_106 => ?_) (fun hc_106 => ?_)
                                  · skip
                                    exact absurd hc_106 (by decide)
                                  · skip
                                    refine zw_aload_n (pc := 109) (n := 0) (x := 81) rfl (zdal_p dlC_M_letLine_88 (i := 6) rfl) ?_
                                    refine zr_getI (hf_N51_.w hW) (pc := 110) f_M_275 rfl (zdal_p dlC_M_letLine_88 (i := 7) rfl) ?_
                                    refine zr_if_eq (pc := 113) (tgt := 123) ⟨(ze_r N51_ 81 39).1, (ze_r N51_ 81 39).2⟩ (by decide) (zdal_p dlC_M_letLine_88 (i := 8) rfl) (fun hc_113 => ?_) (fun hc_113 => ?_)
                                    · skip
                                      refine zw_aload_n (pc := 123) (n := 0) (x := 81) rfl d_M_letLine_123 ?_
                                      refine zr_getI (hf_N51_.w hW) (pc := 124) f_M_172 rfl d_M_letLine_124 ?_
                                      refine zr_if_le (pc := 127) (tgt := 131) ⟨(ze_r N51_ 81 7).1, (ze_r N51_ 81 7).2⟩ (by decide) d_M_letLine_127 (fun hc_127 => ?_) (fun hc_127 => ?_)
                                      · skip
                                        obtain ⟨hz3_, hfit_⟩ := zRst_3 (N := N39_) hri_ hsn_ (by omega)
                                        obtain ⟨vv_, hvv_⟩ : ∃ v : Nat → Int, v = zrw F_ N39_ 95 0 := ⟨_, rfl⟩
                                        rw [← hvv_] at hz3_ hfit_
                                        have hzl2_ := hzl_.trans ((congrArg (zle b_ n_ (zkey b_ n_ (znx b_ n_ (ze Mz 81 4).toNat)) nm_) hz3_).trans (zle_t hsg2_))
                                        refine zw_aload_n (pc := 131) (n := 0) (x := 81) rfl (zdal_p dlC_M_letLine_88 (i := 17) rfl) ?_
                                        refine zr_getF (r := 101) (hf_N51_.w hW) (pc := 132) f_M_75 rfl (zh_101 (hf_N51_.w hW)).1 (zdal_p dlC_M_letLine_88 (i := 18) rfl) ?_
                                        refine zw_aload_n (pc := 135) (n := 0) (x := 81) rfl (zdal_p dlC_M_letLine_88 (i := 19) rfl) ?_
                                        refine zr_getI (hf_N51_.w hW) (pc := 136) f_M_299 rfl (zdal_p dlC_M_letLine_88 (i := 20) rfl) ?_
                                        refine zw_lload_n (pc := 139) (n := 2) (x := Int64.ofInt (zg N3_ 81 11)) rfl (zdal_p dlC_M_letLine_88 (i := 21) rfl) ?_
                                        refine zr_last (pc := 140) (zh_101 (hf_N51_.w hW)).2 (by decide) (by decide) (by omega) (by omega) (zdal_p dlC_M_letLine_88 (i := 22) rfl) (fun N60_ hN60_ hsN60_ => ?_)
                                        have hf_N60_ : zFr [3, 4, 5, 6, 7, 8, 11, 14, 38, 39, 41, 42, 43] [95, 96, 97, 100, 101, 102] Mz N60_ := hf_N51_.tr hsN60_ (by decide) (by decide)
                                        have e3_N60_ : ze N60_ 81 3 = ze N51_ 81 3 := hsN60_.e (by decide)
                                        have e4_N60_ : ze N60_ 81 4 = ze N51_ 81 4 := hsN60_.e (by decide)
                                        have e7_N60_ : ze N60_ 81 7 = ze N51_ 81 7 := hsN60_.e (by decide)
                                        have e14_N60_ : ze N60_ 81 14 = ze N51_ 81 14 := hsN60_.e (by decide)
                                        have e26_N60_ : ze N60_ 81 26 = ze N51_ 81 26 := hsN60_.e (by decide)
                                        have e39_N60_ : ze N60_ 81 39 = ze N51_ 81 39 := hsN60_.e (by decide)
                                        have qzr95_N60_ : zr95 N60_ = zr95 N51_ := zr95_f hsN60_ (by decide)
                                        have qzr102_N60_ : zr102 N60_ = zr102 N51_ := zr102_f hsN60_ (by decide)
                                        have c63_ : zRt b_ n_ N60_ := zRt.fr hsN60_ hp0_N51_ (by decide) (by decide)
                                        have hk1_ : zg N60_ 101 (ze Mz 81 14).toNat = zke8 b_ n_ (znx b_ n_ (ze Mz 81 4).toNat) := by rw [show (ze Mz 81 14).toNat = (ze N51_ 81 14).toNat by omega, zs_getJ hN60_ ⟨by omega, by omega⟩]; exact hwd_
                                        have hko_ : ∀ k : Nat, (k : Int) < ze Mz 81 14 → zg N60_ 101 k = zg Mz 101 k := fun k hk => by rw [zs_othJ hN60_ (by omega)]; exact congrFun (qzr101_N51_.trans (qzr101_N39_.trans (qzr101_N22_.trans (qzr101_N17_.trans qzr101_N3_)))) k
                                        have h102_ : ∀ x : Nat, zg N60_ 102 x = zg Mz 102 x := fun x => congrFun (qzr102_N60_.trans (qzr102_N51_.trans (qzr102_N39_.trans (qzr102_N22_.trans (qzr102_N17_.trans qzr102_N3_))))) x
                                        refine zw_iconst (pc := 141) (v := Int32.ofInt 0) (by decide) (zdal_p dlC_M_letLine_88 (i := 23) rfl) ?_
                                        refine zw_istore (pc := 142) (i := 4) (L2 := [some (.ref 81), some (.int (Int32.ofInt (ze Mz 81 4))), some (.long (Int64.ofInt (zg N3_ 81 11))), none, some (.int (Int32.ofInt 0))]) (by decide) rfl (zdal_p dlC_M_letLine_89 (i := 0) rfl) ?_
                                        have lp_144 : ∀ (n : Nat) (u64_ : Int) (hu64_a : -2147483648 ≤ u64_) (hu64_b : u64_ < 2147483648) (N65_ : zMem) (hs66_ : zFr [] [102] N60_ N65_) (i67_ : 0 ≤ u64_) (i68_ : u64_ ≤ F_) (i69_ : (∀ x : Nat, ¬ (64 * ze Mz 81 14 ≤ x ∧ (x : Int) < 64 * ze Mz 81 14 + F_) → zg N65_ 102 x = zg Mz 102 x)) (i70_ : (∀ k : Nat, (k : Int) < u64_ → zg N65_ 102 ((64 * ze Mz 81 14).toNat + k) = vv_ k)), (F_ - u64_).toNat < n → zW l m_M_letLine (zn Mz + 0, zw Mz + 0) N65_ 144 [some (.ref 81), some (.int (Int32.ofInt (ze Mz 81 4))), some (.long (Int64.ofInt (zg N3_ 81 11))), none, some (.int (Int32.ofInt u64_))] [] (zpV [3, 4, 5, 6, 7, 8, 11, 14, 38, 39, 41, 42, 43] [95, 96, 97, 100, 101, 102] Mz (fun N => zRt b_ n_ N ∧ 0 ≤ ze N 81 14 ∧ ze N 81 14 ≤ 8 ∧ (((1 ≤ ze N 81 7 ∧ zls b_ n_ F_ K_ (0, (ze Mz 81 4).toNat, nm_) = zLf) ∨ (ze N 81 7 = 0 ∧ (∃ nm2 : List (Int × (Nat → Int)), zls b_ n_ F_ K_ (0, (ze Mz 81 4).toNat, nm_) = (0, (ze N 81 4).toNat, nm2) ∧ zRNm nm2 F_ K_ b_ n_ N) ∧ ze Mz 81 4 < ze N 81 4))))) := by
                                          intro n
                                          induction n with
                                          | zero =>
                                            intro u64_ hu64_a hu64_b N65_ hs66_ i67_ i68_ i69_ i70_ h0
                                            exact absurd h0 (Nat.not_lt_zero _)
                                          | succ n ih_144 =>
                                            intro u64_ hu64_a hu64_b N65_ hs66_ i67_ i68_ i69_ i70_ hlt_144
                                            have hf_N65_ : zFr [3, 4, 5, 6, 7, 8, 11, 14, 38, 39, 41, 42, 43] [95, 96, 97, 100, 101, 102] Mz N65_ := hf_N60_.tr hs66_ (by decide) (by decide)
                                            have e3_N65_ : ze N65_ 81 3 = ze N60_ 81 3 := hs66_.e (by decide)
                                            have e4_N65_ : ze N65_ 81 4 = ze N60_ 81 4 := hs66_.e (by decide)
                                            have e7_N65_ : ze N65_ 81 7 = ze N60_ 81 7 := hs66_.e (by decide)
                                            have e14_N65_ : ze N65_ 81 14 = ze N60_ 81 14 := hs66_.e (by decide)
                                            have e26_N65_ : ze N65_ 81 26 = ze N60_ 81 26 := hs66_.e (by decide)
                                            have e39_N65_ : ze N65_ 81 39 = ze N60_ 81 39 := hs66_.e (by decide)
                                            have qzr95_N65_ : zr95 N65_ = zr95 N60_ := zr95_f hs66_ (by decide)
                                            have qzr101_N65_ : zr101 N65_ = zr101 N60_ := zr101_f hs66_ (by decide)
                                            have c73_ : zRt b_ n_ N65_ := zRt.fr hs66_ c63_ (by decide) (by decide)
                                            have hcl0_ := (show (∀ x : Nat, ¬ (64 * ze Mz 81 14 ≤ x ∧ (x : Int) < 64 * ze Mz 81 14 + F_) → zg N65_ 102 x = zg Mz 102 x) by first | with_reducible assumption | assumption)
                                            have hcv0_ := (show (∀ k : Nat, (k : Int) < u64_ → zg N65_ 102 ((64 * ze Mz 81 14).toNat + k) = vv_ k) by first | with_reducible assumption | assumption)
                                            refine zw_iload (pc := 144) (i := 4) (x := Int32.ofInt u64_) rfl (zdal_p dlC_M_letLine_89 (i := 1) rfl) ?_
                                            refine zw_aload_n (pc := 146) (n := 0) (x := 81) rfl (zdal_p dlC_M_letLine_89 (i := 2) rfl) ?_
                                            refine zr_getI0 hf_N65_ hW (pc := 147) (by decide) f_M_235 rfl (zdal_p dlC_M_letLine_89 (i := 3) rfl) ?_
                                            refine zr_icmp_ge (pc := 150) (tgt := 181) ⟨hu64_a, hu64_b⟩ ⟨(ze_r Mz 81 26).1, (ze_r Mz 81 26).2⟩ (by decide) (zdal_p dlC_M_letLine_89 (i := 4) rfl) (fun hc_150 => ?_) (fun hc_150 => ?_)
                                            · skip
                                              refine zw_aload_n (pc := 181) (n := 0) (x := 81) rfl (zdal_p dlC_M_letLine_89 (i := 20) rfl) ?_
                                              refine zw_dup (pc := 182) rfl (zdal_p dlC_M_letLine_89 (i := 21) rfl) ?_
                                              refine zr_getI (hf_N65_.w hW) (pc := 183) f_M_299 rfl (zdal_p dlC_M_letLine_89 (i := 22) rfl) ?_
                                              refine zw_iconst (pc := 186) (v := Int32.ofInt 1) (by decide) (zdal_p dlC_M_letLine_89 (i := 23) rfl) ?_
                                              refine zr_iadd (pc := 187) (zdal_p dlC_M_letLine_90 (i := 0) rfl) ?_
                                              refine zr_putI (hf_N65_.w hW) (pc := 188) f_M_299 rfl rfl ⟨by omega, by omega⟩ rfl rfl (zdal_p dlC_M_letLine_90 (i := 1) rfl) (fun N74_ hsN74_ hvN74_ => ?_)
                                              have hf_N74_ : zFr [3, 4, 5, 6, 7, 8, 11, 14, 38, 39, 41, 42, 43] [95, 96, 97, 100, 101, 102] Mz N74_ := hf_N65_.tr hsN74_ (by decide) (by decide)
                                              have e3_N74_ : ze N74_ 81 3 = ze N65_ 81 3 := hsN74_.e (by decide)
                                              have e4_N74_ : ze N74_ 81 4 = ze N65_ 81 4 := hsN74_.e (by decide)
                                              have e7_N74_ : ze N74_ 81 7 = ze N65_ 81 7 := hsN74_.e (by decide)
                                              have r14_N74_ := ze_r N74_ 81 14
                                              have e26_N74_ : ze N74_ 81 26 = ze N65_ 81 26 := hsN74_.e (by decide)
                                              have e39_N74_ : ze N74_ 81 39 = ze N65_ 81 39 := hsN74_.e (by decide)
                                              have qzr101_N74_ : zr101 N74_ = zr101 N65_ := zr101_f hsN74_ (by decide)
                                              have c77_ : zRt b_ n_ N74_ := zRt.fr hsN74_ c73_ (by decide) (by decide)
                                              have h101_ : ∀ k : Nat, zg N74_ 101 k = zg N60_ 101 k := fun k => congrFun (qzr101_N74_.trans qzr101_N65_) k
                                              have hnu_ := p3_.u (N := N74_) (q := (znx b_ n_ (ze Mz 81 4).toNat)) (v := vv_) (by omega) (by omega) hna_.1 ((h101_ _).trans hk1_) (fun k_ hk_ => (h101_ k_).trans (hko_ k_ hk_)) (zrw_v (fun k_ hk_ => (hsN74_.jg (by decide) (by decide) _).trans (hcv0_ k_ (by omega))) (fun k_ hk_ => by rw [hvv_]; exact zrw_n hk_)) (fun k_ hk_ => zrw_c (fun j_ hj_ => (hsN74_.jg (by decide) (by decide) _).trans (hcl0_ _ (by omega)))) hfit_
                                              have hfin_ : (∃ nm2 : List (Int × (Nat → Int)), zls b_ n_ F_ K_ (0, (ze Mz 81 4).toNat, nm_) = (0, (ze N74_ 81 4).toNat, nm2) ∧ zRNm nm2 F_ K_ b_ n_ N74_) := ⟨_, hzl2_.trans (by rw [← hx4_, show ze N74_ 81 4 = ze N51_ 81 4 by omega]), hnu_⟩
                                              exact zr_vret (pc := 191) rfl hf_N74_ ⟨c77_, (show 0 ≤ ze N74_ 81 14 by first | with_reducible assumption | assumption | omega), (show ze N74_ 81 14 ≤ 8 by first | with_reducible assumption | assumption | omega), (show ((1 ≤ ze N74_ 81 7 ∧ zls b_ n_ F_ K_ (0, (ze Mz 81 4).toNat, nm_) = zLf) ∨ (ze N74_ 81 7 = 0 ∧ (∃ nm2 : List (Int × (Nat → Int)), zls b_ n_ F_ K_ (0, (ze Mz 81 4).toNat, nm_) = (0, (ze N74_ 81 4).toNat, nm2) ∧ zRNm nm2 F_ K_ b_ n_ N74_) ∧ ze Mz 81 4 < ze N74_ 81 4)) from Or.inr (⟨(show ze N74_ 81 7 = 0 by first | omega | exact hfin_), (show (∃ nm2 : List (Int × (Nat → Int)), zls b_ n_ F_ K_ (0, (ze Mz 81 4).toNat, nm_) = (0, (ze N74_ 81 4).toNat, nm2) ∧ zRNm nm2 F_ K_ b_ n_ N74_) by first | omega | exact hfin_), (show ze Mz 81 4 < ze N74_ 81 4 by first | omega | exact hfin_)⟩))⟩ (zdal_p dlC_M_letLine_90 (i := 2) rfl)
                                            · skip
                                              refine zw_aload_n (pc := 153) (n := 0) (x := 81) rfl (zdal_p dlC_M_letLine_89 (i := 5) rfl) ?_
                                              refine zr_getF (r := 102) (hf_N65_.w hW) (pc := 154) f_M_78 rfl (zh_102 (hf_N65_.w hW)).1 (zdal_p dlC_M_letLine_89 (i := 6) rfl) ?_
                                              refine zw_bipush (pc := 157) (v := Int32.ofInt 64) (by decide) (zdal_p dlC_M_letLine_89 (i := 7) rfl) ?_
                                              refine zw_aload_n (pc := 159) (n := 0) (x := 81) rfl (zdal_p dlC_M_letLine_89 (i := 8) rfl) ?_
                                              refine zr_getI (hf_N65_.w hW) (pc := 160) f_M_299 rfl (zdal_p dlC_M_letLine_89 (i := 9) rfl) ?_
                                              refine zr_imul (pc := 163) (zdal_p dlC_M_letLine_89 (i := 10) rfl) ?_
                                              refine zw_iload (pc := 164) (i := 4) (x := Int32.ofInt u64_) rfl (zdal_p dlC_M_letLine_89 (i := 11) rfl) ?_
                                              refine zr_iadd (pc := 166) (zdal_p dlC_M_letLine_89 (i := 12) rfl) ?_
                                              refine zw_aload_n (pc := 167) (n := 0) (x := 81) rfl (zdal_p dlC_M_letLine_89 (i := 13) rfl) ?_
                                              refine zr_getF (r := 95) (hf_N65_.w hW) (pc := 168) f_M_56 rfl (zh_95 (hf_N65_.w hW)).1 (zdal_p dlC_M_letLine_89 (i := 14) rfl) ?_
                                              refine zw_iload (pc := 171) (i := 4) (x := Int32.ofInt u64_) rfl (zdal_p dlC_M_letLine_89 (i := 15) rfl) ?_
                                              refine zr_laldn (pc := 173) (zh_95 (hf_N65_.w hW)).2 (by decide) (by omega) (by omega) (zdal_p dlC_M_letLine_89 (i := 16) rfl) (fun v78_ hv78_ hv78_a hv78_b => ?_)
                                              have hx_ := zrw_at (F := F_) (M := N39_) (q := 95) (k := (u64_).toNat) (e := 0) (by omega) (by omega) (hv78_.trans (congrFun (qzr95_N65_.trans (qzr95_N60_.trans qzr95_N51_)) _)) (by omega)
                                              rw [← hvv_] at hx_
                                              refine zr_last (pc := 174) (zh_102 (hf_N65_.w hW)).2 (by decide) (by decide) (by omega) (by omega) (zdal_p dlC_M_letLine_89 (i := 17) rfl) (fun N79_ hN79_ hsN79_ => ?_)
                                              have hf_N79_ : zFr [3, 4, 5, 6, 7, 8, 11, 14, 38, 39, 41, 42, 43] [95, 96, 97, 100, 101, 102] Mz N79_ := hf_N65_.tr hsN79_ (by decide) (by decide)
                                              have hb0_N79_ : zFr [] [102] N60_ N79_ := hs66_.tr hsN79_ (by decide) (by decide)
                                              have e3_N79_ : ze N79_ 81 3 = ze N65_ 81 3 := hsN79_.e (by decide)
                                              have e4_N79_ : ze N79_ 81 4 = ze N65_ 81 4 := hsN79_.e (by decide)
                                              have e7_N79_ : ze N79_ 81 7 = ze N65_ 81 7 := hsN79_.e (by decide)
                                              have e14_N79_ : ze N79_ 81 14 = ze N65_ 81 14 := hsN79_.e (by decide)
                                              have e26_N79_ : ze N79_ 81 26 = ze N65_ 81 26 := hsN79_.e (by decide)
                                              have e39_N79_ : ze N79_ 81 39 = ze N65_ 81 39 := hsN79_.e (by decide)
                                              have hcl_ : (∀ x : Nat, ¬ (64 * ze Mz 81 14 ≤ x ∧ (x : Int) < 64 * ze Mz 81 14 + F_) → zg N79_ 102 x = zg Mz 102 x) := fun x hx => by rw [zs_othJ hN79_ (by omega)]; exact hcl0_ x hx
                                              have hcv_ : (∀ k : Nat, (k : Int) < u64_ + 1 → zg N79_ 102 ((64 * ze Mz 81 14).toNat + k) = vv_ k) := fun k hk => by by_cases g_ : (k : Int) = u64_; (rw [show (64 * ze Mz 81 14).toNat + k = (64 * ze N65_ 81 14 + u64_).toNat by omega, zs_getJ hN79_ ⟨by omega, by omega⟩, hx_, show (u64_).toNat = k by omega]); (rw [zs_othJ hN79_ (by omega)]; exact hcv0_ k (by omega))
                                              refine zr_iinc (pc := 175) (i := 4) (a := u64_) (n := 1) (L2 := [some (.ref 81), some (.int (Int32.ofInt (ze Mz 81 4))), some (.long (Int64.ofInt (zg N3_ 81 11))), none, some (.int (Int32.ofInt (u64_ + 1)))]) rfl (by decide) rfl (zdal_p dlC_M_letLine_89 (i := 18) rfl) ?_
                                              refine zw_goto (pc := 178) (tgt := 144) (by decide) (zdal_p dlC_M_letLine_89 (i := 19) rfl) ?_
                                              exact ih_144 (u64_ + 1) (by omega) (by omega) N79_ hb0_N79_ (show 0 ≤ (u64_ + 1) by first | with_reducible assumption | assumption | omega) (show (u64_ + 1) ≤ F_ by first | with_reducible assumption | assumption | omega) (show (∀ x : Nat, ¬ (64 * ze Mz 81 14 ≤ x ∧ (x : Int) < 64 * ze Mz 81 14 + F_) → zg N79_ 102 x = zg Mz 102 x) by exact hcl_) (show (∀ k : Nat, (k : Int) < (u64_ + 1) → zg N79_ 102 ((64 * ze Mz 81 14).toNat + k) = vv_ k) by exact hcv_) (by omega)
                                        exact lp_144 _ 0 (by decide) (by decide) N60_ zFr.rf (show 0 ≤ (0 : Int) by first | with_reducible assumption | assumption | omega) (show (0 : Int) ≤ F_ by first | with_reducible assumption | assumption | omega) (show (∀ x : Nat, ¬ (64 * ze Mz 81 14 ≤ x ∧ (x : Int) < 64 * ze Mz 81 14 + F_) → zg N60_ 102 x = zg Mz 102 x) by exact fun x _ => h102_ x) (show (∀ k : Nat, (k : Int) < (0 : Int) → zg N60_ 102 ((64 * ze Mz 81 14).toNat + k) = vv_ k) by exact fun k hk => absurd hk (by omega)) (Nat.lt_succ_self _)
                                      · skip
                                        exfalso; omega
                                    · skip
                                      have hrt_ : zls b_ n_ F_ K_ (0, (ze Mz 81 4).toNat, nm_) = zLf := by rw [hzl_, zRst_g (by omega)]; exact zle_b
                                      refine zw_aload_n (pc := 116) (n := 0) (x := 81) rfl (zdal_p dlC_M_letLine_88 (i := 9) rfl) ?_
                                      refine zw_bipush (pc := 117) (v := Int32.ofInt 6) (by decide) (zdal_p dlC_M_letLine_88 (i := 10) rfl) ?_
                                      refine zw_iload_n (pc := 119) (n := 1) (x := Int32.ofInt (ze Mz 81 4)) rfl (zdal_p dlC_M_letLine_88 (i := 11) rfl) ?_
                                      refine zr_callV (hf_N51_.w hW) hf_N51_.x (pc := 120) [.int (Int32.ofInt 6), .int (Int32.ofInt (ze Mz 81 4))] [] l_M_168 (c_M_wrongAtF l N51_ (hf_N51_.w hW) 6 (by decide) (by decide) (ze Mz 81 4) (ze_r Mz 81 4).1 (ze_r Mz 81 4).2 (show 1 ≤ 6 by first | with_reducible assumption | assumption | omega)) rfl rfl rfl (by decide) (Nat.le_of_ble_eq_true rfl) (zdal_p dlC_M_letLine_88 (i := 12) rfl) ?_
                                      rintro _ N83_ ⟨rfl, hsN83_, hp0_N83_⟩
                                      replace hp0_N83_ : 1 ≤ ze N83_ 81 7 := hp0_N83_
                                      have hf_N83_ : zFr [3, 4, 5, 6, 7, 8, 11, 14, 38, 39, 41, 42, 43] [95, 96, 97, 100, 101, 102] Mz N83_ := hf_N51_.tr hsN83_ (by decide) (by decide)
                                      have e3_N83_ : ze N83_ 81 3 = ze N51_ 81 3 := hsN83_.e (by decide)
                                      have e4_N83_ : ze N83_ 81 4 = ze N51_ 81 4 := hsN83_.e (by decide)
                                      have r7_N83_ := ze_r N83_ 81 7
                                      have e14_N83_ : ze N83_ 81 14 = ze N51_ 81 14 := hsN83_.e (by decide)
                                      have e26_N83_ : ze N83_ 81 26 = ze N51_ 81 26 := hsN83_.e (by decide)
                                      have e39_N83_ : ze N83_ 81 39 = ze N51_ 81 39 := hsN83_.e (by decide)
                                      have c88_ : zRt b_ n_ N83_ := zRt.fr hsN83_ hp0_N51_ (by decide) (by decide)
                                      show zW l m_M_letLine (zn Mz + 0, zw Mz + 0) N83_ 123 [some (.ref 81), some (.int (Int32.ofInt (ze Mz 81 4))), some (.long (Int64.ofInt (zg N3_ 81 11))), none, none] [] _
                                      refine zw_aload_n (pc := 123) (n := 0) (x := 81) rfl d_M_letLine_123 ?_
                                      refine zr_getI (hf_N83_.w hW) (pc := 124) f_M_172 rfl d_M_letLine_124 ?_
                                      refine zr_if_le (pc := 127) (tgt := 131) ⟨(ze_r N83_ 81 7).1, (ze_r N83_ 81 7).2⟩ (by decide) d_M_letLine_127 (fun hc_127 => ?_) (fun hc_127 => ?_)
                                      · skip
                                        exfalso; omega
                                      · skip
                                        exact zr_vret (pc := 130) rfl hf_N83_ ⟨c88_, (show 0 ≤ ze N83_ 81 14 by first | with_reducible assumption | assumption | omega), (show ze N83_ 81 14 ≤ 8 by first | with_reducible assumption | assumption | omega), (show ((1 ≤ ze N83_ 81 7 ∧ zls b_ n_ F_ K_ (0, (ze Mz 81 4).toNat, nm_) = zLf) ∨ (ze N83_ 81 7 = 0 ∧ (∃ nm2 : List (Int × (Nat → Int)), zls b_ n_ F_ K_ (0, (ze Mz 81 4).toNat, nm_) = (0, (ze N83_ 81 4).toNat, nm2) ∧ zRNm nm2 F_ K_ b_ n_ N83_) ∧ ze Mz 81 4 < ze N83_ 81 4)) from Or.inl (⟨(show 1 ≤ ze N83_ 81 7 by first | omega | exact hrt_ | exact hrt2_ | exact hrt3_), (show zls b_ n_ F_ K_ (0, (ze Mz 81 4).toNat, nm_) = zLf by first | omega | exact hrt_ | exact hrt2_ | exact hrt3_)⟩))⟩ (zdal_p dlC_M_letLine_88 (i := 16) rfl)
                                · skip
                                  exfalso; omega
                        · skip
                          exfalso; (exact zo_1328 ha31_0_hp0_N8_ hc_73)
                      · skip
                        exact absurd hc_61 (by decide)
                    · skip
                      have hv0_ := ha57_0_hp0_N14_
                      have hfn_ := ha57_3_hp0_N14_
                      rw [hx1_] at hfn_
                      have hrt_ : zls b_ n_ F_ K_ (0, (ze Mz 81 4).toNat, nm_) = zLf := zls_f hl0_ (fun q_ => by have h_ := q_.2.2.1; rw [hfn_] at h_; cases h_)
                      show zW l m_M_letLine (zn Mz + 0, zw Mz + 0) N3_ 60 [some (.ref 81), some (.int (Int32.ofInt (ze Mz 81 4))), none, none, none] [.int (Int32.ofInt v15_)] _
                      refine zw_iconst (pc := 60) (v := Int32.ofInt (-1)) (by decide) (zdal_p dlC_M_letLine_87 (i := 5) rfl) ?_
                      refine zr_icmp_eq (pc := 61) (tgt := 69) ⟨hv15_a, hv15_b⟩ ⟨(by decide), (by decide)⟩ (by decide) (zdal_p dlC_M_letLine_87 (i := 6) rfl) (fun hc_61 => ?_) (fun hc_61 => ?_)
                      · skip
                        exfalso; (exact zo_583 ha57_0_hp0_N14_ hc_61)
                      · skip
                        refine zw_aload_n (pc := 64) (n := 0) (x := 81) rfl (zdal_p dlC_M_letLine_87 (i := 7) rfl) ?_
                        refine zw_iconst (pc := 65) (v := Int32.ofInt 3) (by decide) (zdal_p dlC_M_letLine_87 (i := 8) rfl) ?_
                        refine zr_callV (hf_N3_.w hW) hf_N3_.x (pc := 66) [.int (Int32.ofInt 3)] [] l_M_190 (c_M_wrongF l N3_ (hf_N3_.w hW) 3 (by decide) (by decide) (show 1 ≤ 3 by first | with_reducible assumption | (decide) | assumption)) rfl rfl rfl (by decide) (Nat.le_of_ble_eq_true rfl) (zdal_p dlC_M_letLine_87 (i := 9) rfl) ?_
                        rintro _ N89_ ⟨rfl, hsN89_, hp0_N89_⟩
                        replace hp0_N89_ : 1 ≤ ze N89_ 81 7 := hp0_N89_
                        have hf_N89_ : zFr [3, 4, 5, 6, 7, 8, 11, 14, 38, 39, 41, 42, 43] [95, 96, 97, 100, 101, 102] Mz N89_ := hf_N3_.tr hsN89_ (by decide) (by decide)
                        have e3_N89_ : ze N89_ 81 3 = ze N3_ 81 3 := hsN89_.e (by decide)
                        have e4_N89_ : ze N89_ 81 4 = ze N3_ 81 4 := hsN89_.e (by decide)
                        have r7_N89_ := ze_r N89_ 81 7
                        have e14_N89_ : ze N89_ 81 14 = ze N3_ 81 14 := hsN89_.e (by decide)
                        have e26_N89_ : ze N89_ 81 26 = ze N3_ 81 26 := hsN89_.e (by decide)
                        have e39_N89_ : ze N89_ 81 39 = ze N3_ 81 39 := hsN89_.e (by decide)
                        have c94_ : zRt b_ n_ N89_ := zRt.fr hsN89_ hp1_N3_ (by decide) (by decide)
                        show zW l m_M_letLine (zn Mz + 0, zw Mz + 0) N89_ 69 [some (.ref 81), some (.int (Int32.ofInt (ze Mz 81 4))), none, none, none] [] _
                        refine zw_aload_n (pc := 69) (n := 0) (x := 81) rfl (zdal_p dlC_M_letLine_87 (i := 10) rfl) ?_
                        refine zr_getI (hf_N89_.w hW) (pc := 70) f_M_172 rfl (zdal_p dlC_M_letLine_87 (i := 11) rfl) ?_
                        refine zr_if_le (pc := 73) (tgt := 77) ⟨(ze_r N89_ 81 7).1, (ze_r N89_ 81 7).2⟩ (by decide) (zdal_p dlC_M_letLine_87 (i := 12) rfl) (fun hc_73 => ?_) (fun hc_73 => ?_)
                        · skip
                          exfalso; (exact zo_1329 hc_73 hp0_N89_)
                        · skip
                          exact zr_vret (pc := 76) rfl hf_N89_ ⟨c94_, (show 0 ≤ ze N89_ 81 14 by first | with_reducible assumption | (exact zo_1330 e14_N89_ ha57_0_hp0_N14_ ha57_2_hp0_N14_) | assumption), (show ze N89_ 81 14 ≤ 8 by first | with_reducible assumption | (exact zo_1331 e14_N3_ e14_N89_ hw8_) | assumption), (show ((1 ≤ ze N89_ 81 7 ∧ zls b_ n_ F_ K_ (0, (ze Mz 81 4).toNat, nm_) = zLf) ∨ (ze N89_ 81 7 = 0 ∧ (∃ nm2 : List (Int × (Nat → Int)), zls b_ n_ F_ K_ (0, (ze Mz 81 4).toNat, nm_) = (0, (ze N89_ 81 4).toNat, nm2) ∧ zRNm nm2 F_ K_ b_ n_ N89_) ∧ ze Mz 81 4 < ze N89_ 81 4)) from Or.inl (⟨(show 1 ≤ ze N89_ 81 7 by first | (exact hp0_N89_) | exact hrt_ | exact hrt2_ | exact hrt3_), (show zls b_ n_ F_ K_ (0, (ze Mz 81 4).toNat, nm_) = zLf by first | (exact hrt_) | exact hrt_ | exact hrt2_ | exact hrt3_)⟩))⟩ (zdal_p dlC_M_letLine_87 (i := 13) rfl)
                · skip
                  exfalso; (exact zo_260 ha31_0_hp0_N8_ ha50_0_hp0_N12_)
              · skip
                exact absurd hc_41 (by decide)
            · skip
              have hna_ := ha38_0_hp0_N10_
              rw [hx1_] at hna_
              have hrt_ : zls b_ n_ F_ K_ (0, (ze Mz 81 4).toNat, nm_) = zLf := zls_f hl0_ (fun q_ => hna_ q_.2.1)
              show zW l m_M_letLine (zn Mz + 0, zw Mz + 0) N3_ 41 [some (.ref 81), some (.int (Int32.ofInt (ze Mz 81 4))), none, none, none] [.int (Int32.ofInt 0)] _
              refine zr_if_ne (pc := 41) (tgt := 49) ⟨(by decide), (by decide)⟩ (by decide) (zdal_p dlC_M_letLine_86 (i := 20) rfl) (fun hc_41 => ?_) (fun hc_41 => ?_)
              · skip
                exact absurd hc_41 (by decide)
              · skip
                refine zw_aload_n (pc := 44) (n := 0) (x := 81) rfl (zdal_p dlC_M_letLine_86 (i := 21) rfl) ?_
                refine zw_iconst (pc := 45) (v := Int32.ofInt 2) (by decide) (zdal_p dlC_M_letLine_86 (i := 22) rfl) ?_
                refine zr_callV (hf_N3_.w hW) hf_N3_.x (pc := 46) [.int (Int32.ofInt 2)] [] l_M_190 (c_M_wrongF l N3_ (hf_N3_.w hW) 2 (by decide) (by decide) (show 1 ≤ 2 by first | with_reducible assumption | (decide) | assumption)) rfl rfl rfl (by decide) (Nat.le_of_ble_eq_true rfl) (zdal_p dlC_M_letLine_86 (i := 23) rfl) ?_
                rintro _ N95_ ⟨rfl, hsN95_, hp0_N95_⟩
                replace hp0_N95_ : 1 ≤ ze N95_ 81 7 := hp0_N95_
                have hf_N95_ : zFr [3, 4, 5, 6, 7, 8, 11, 14, 38, 39, 41, 42, 43] [95, 96, 97, 100, 101, 102] Mz N95_ := hf_N3_.tr hsN95_ (by decide) (by decide)
                have e3_N95_ : ze N95_ 81 3 = ze N3_ 81 3 := hsN95_.e (by decide)
                have e4_N95_ : ze N95_ 81 4 = ze N3_ 81 4 := hsN95_.e (by decide)
                have r7_N95_ := ze_r N95_ 81 7
                have e14_N95_ : ze N95_ 81 14 = ze N3_ 81 14 := hsN95_.e (by decide)
                have e26_N95_ : ze N95_ 81 26 = ze N3_ 81 26 := hsN95_.e (by decide)
                have e39_N95_ : ze N95_ 81 39 = ze N3_ 81 39 := hsN95_.e (by decide)
                have c100_ : zRt b_ n_ N95_ := zRt.fr hsN95_ hp1_N3_ (by decide) (by decide)
                show zW l m_M_letLine (zn Mz + 0, zw Mz + 0) N95_ 49 [some (.ref 81), some (.int (Int32.ofInt (ze Mz 81 4))), none, none, none] [] _
                refine zw_aload_n (pc := 49) (n := 0) (x := 81) rfl (zdal_p dlC_M_letLine_87 (i := 0) rfl) ?_
                refine zr_callV (hf_N95_.w hW) hf_N95_.x (pc := 50) [] [] l_M_183 (c_M_isGood l N95_ (hf_N95_.w hW) ) rfl rfl rfl (by decide) (Nat.le_of_ble_eq_true rfl) (zdal_p dlC_M_letLine_87 (i := 1) rfl) ?_
                rintro _ N101_ ⟨v102_, rfl, ⟨hv102_a, hv102_b⟩, hsN101_, hp0_N101_⟩
                obtain rfl := hsN101_.eq.symm
                replace hp0_N101_ : ((v102_ = 1 ∧ ze N95_ 81 7 = 0) ∨ (v102_ = 0 ∧ ze N95_ 81 7 ≠ 0)) := hp0_N101_
                rcases hp0_N101_ with ⟨rfl, ha50_0_hp0_N101_⟩ | ⟨rfl, ha50_0_hp0_N101_⟩
                · skip
                  exfalso; (exact zo_281 ha50_0_hp0_N101_ hp0_N95_)
                · skip
                  show zW l m_M_letLine (zn Mz + 0, zw Mz + 0) N95_ 53 [some (.ref 81), some (.int (Int32.ofInt (ze Mz 81 4))), none, none, none] [.int (Int32.ofInt 0)] _
                  refine zr_if_eq (pc := 53) (tgt := 69) ⟨(by decide), (by decide)⟩ (by decide) (zdal_p dlC_M_letLine_87 (i := 2) rfl) (fun hc_53 => ?_) (fun hc_53 => ?_)
                  · skip
                    refine zw_aload_n (pc := 69) (n := 0) (x := 81) rfl (zdal_p dlC_M_letLine_87 (i := 10) rfl) ?_
                    refine zr_getI (hf_N95_.w hW) (pc := 70) f_M_172 rfl (zdal_p dlC_M_letLine_87 (i := 11) rfl) ?_
                    refine zr_if_le (pc := 73) (tgt := 77) ⟨(ze_r N95_ 81 7).1, (ze_r N95_ 81 7).2⟩ (by decide) (zdal_p dlC_M_letLine_87 (i := 12) rfl) (fun hc_73 => ?_) (fun hc_73 => ?_)
                    · skip
                      exfalso; (exact zo_1329 hc_73 hp0_N95_)
                    · skip
                      exact zr_vret (pc := 76) rfl hf_N95_ ⟨c100_, (show 0 ≤ ze N95_ 81 14 by first | with_reducible assumption | (exact zo_871 e14_N3_ e14_N95_ hw0_) | assumption), (show ze N95_ 81 14 ≤ 8 by first | with_reducible assumption | (exact zo_1331 e14_N3_ e14_N95_ hw8_) | assumption), (show ((1 ≤ ze N95_ 81 7 ∧ zls b_ n_ F_ K_ (0, (ze Mz 81 4).toNat, nm_) = zLf) ∨ (ze N95_ 81 7 = 0 ∧ (∃ nm2 : List (Int × (Nat → Int)), zls b_ n_ F_ K_ (0, (ze Mz 81 4).toNat, nm_) = (0, (ze N95_ 81 4).toNat, nm2) ∧ zRNm nm2 F_ K_ b_ n_ N95_) ∧ ze Mz 81 4 < ze N95_ 81 4)) from Or.inl (⟨(show 1 ≤ ze N95_ 81 7 by first | (exact hp0_N95_) | exact hrt_ | exact hrt2_ | exact hrt3_), (show zls b_ n_ F_ K_ (0, (ze Mz 81 4).toNat, nm_) = zLf by first | (exact hrt_) | exact hrt_ | exact hrt2_ | exact hrt3_)⟩))⟩ (zdal_p dlC_M_letLine_87 (i := 13) rfl)
                  · skip
                    exact absurd hc_53 (by decide)
        · skip
          exfalso; (exact zo_770 e7_N3_ p4_ ha31_0_hp0_N8_)
    · skip
      exfalso; (exact zo_260 p4_ ha20_0_hp0_N1_)
  · skip
    have hrt_ : zls b_ n_ F_ K_ (0, (ze Mz 81 4).toNat, nm_) = zLf := zls_f hl0_ (fun q_ => by have h_ := q_.1; (exact zo_1332 hc_11 hlen_ q_.1))
    refine zw_aload_n (pc := 14) (n := 0) (x := 81) rfl (zdal_p dlC_M_letLine_86 (i := 7) rfl) ?_
    refine zw_iconst (pc := 15) (v := Int32.ofInt 5) (by decide) (zdal_p dlC_M_letLine_86 (i := 8) rfl) ?_
    refine zr_callV (hf.w hW) hf.x (pc := 16) [.int (Int32.ofInt 5)] [] l_M_190 (c_M_wrongF l Mz (hf.w hW) 5 (by decide) (by decide) (show 1 ≤ 5 by first | with_reducible assumption | (decide) | assumption)) rfl rfl rfl (by decide) (Nat.le_of_ble_eq_true rfl) (zdal_p dlC_M_letLine_86 (i := 9) rfl) ?_
    rintro _ N103_ ⟨rfl, hsN103_, hp0_N103_⟩
    replace hp0_N103_ : 1 ≤ ze N103_ 81 7 := hp0_N103_
    have hf_N103_ : zFr [3, 4, 5, 6, 7, 8, 11, 14, 38, 39, 41, 42, 43] [95, 96, 97, 100, 101, 102] Mz N103_ := hf.tr hsN103_ (by decide) (by decide)
    have e3_N103_ : ze N103_ 81 3 = ze Mz 81 3 := hsN103_.e (by decide)
    have e4_N103_ : ze N103_ 81 4 = ze Mz 81 4 := hsN103_.e (by decide)
    have r7_N103_ := ze_r N103_ 81 7
    have e14_N103_ : ze N103_ 81 14 = ze Mz 81 14 := hsN103_.e (by decide)
    have e26_N103_ : ze N103_ 81 26 = ze Mz 81 26 := hsN103_.e (by decide)
    have e39_N103_ : ze N103_ 81 39 = ze Mz 81 39 := hsN103_.e (by decide)
    have c107_ : zRt b_ n_ N103_ := zRt.fr hsN103_ p2_ (by decide) (by decide)
    show zW l m_M_letLine (zn Mz + 0, zw Mz + 0) N103_ 19 [some (.ref 81), some (.int (Int32.ofInt (ze Mz 81 4))), none, none, none] [] _
    refine zw_aload_n (pc := 19) (n := 0) (x := 81) rfl (zdal_p dlC_M_letLine_86 (i := 10) rfl) ?_
    refine zr_callV (hf_N103_.w hW) hf_N103_.x (pc := 20) [] [] l_M_183 (c_M_isGood l N103_ (hf_N103_.w hW) ) rfl rfl rfl (by decide) (Nat.le_of_ble_eq_true rfl) (zdal_p dlC_M_letLine_86 (i := 11) rfl) ?_
    rintro _ N109_ ⟨v110_, rfl, ⟨hv110_a, hv110_b⟩, hsN109_, hp0_N109_⟩
    obtain rfl := hsN109_.eq.symm
    replace hp0_N109_ : ((v110_ = 1 ∧ ze N103_ 81 7 = 0) ∨ (v110_ = 0 ∧ ze N103_ 81 7 ≠ 0)) := hp0_N109_
    rcases hp0_N109_ with ⟨rfl, ha20_0_hp0_N109_⟩ | ⟨rfl, ha20_0_hp0_N109_⟩
    · skip
      exfalso; (exact zo_281 ha20_0_hp0_N109_ hp0_N103_)
    · skip
      show zW l m_M_letLine (zn Mz + 0, zw Mz + 0) N103_ 23 [some (.ref 81), some (.int (Int32.ofInt (ze Mz 81 4))), none, none, none] [.int (Int32.ofInt 0)] _
      refine zr_if_eq (pc := 23) (tgt := 30) ⟨(by decide), (by decide)⟩ (by decide) (zdal_p dlC_M_letLine_86 (i := 12) rfl) (fun hc_23 => ?_) (fun hc_23 => ?_)
      · skip
        refine zw_aload_n (pc := 30) (n := 0) (x := 81) rfl (zdal_p dlC_M_letLine_86 (i := 15) rfl) ?_
        refine zr_callV (hf_N103_.w hW) hf_N103_.x (pc := 31) [] [] l_M_183 (c_M_isGood l N103_ (hf_N103_.w hW) ) rfl rfl rfl (by decide) (Nat.le_of_ble_eq_true rfl) (zdal_p dlC_M_letLine_86 (i := 16) rfl) ?_
        rintro _ N111_ ⟨v112_, rfl, ⟨hv112_a, hv112_b⟩, hsN111_, hp0_N111_⟩
        obtain rfl := hsN111_.eq.symm
        replace hp0_N111_ : ((v112_ = 1 ∧ ze N103_ 81 7 = 0) ∨ (v112_ = 0 ∧ ze N103_ 81 7 ≠ 0)) := hp0_N111_
        rcases hp0_N111_ with ⟨rfl, ha31_0_hp0_N111_⟩ | ⟨rfl, ha31_0_hp0_N111_⟩
        · skip
          exfalso; (exact zo_281 ha31_0_hp0_N111_ hp0_N103_)
        · skip
          show zW l m_M_letLine (zn Mz + 0, zw Mz + 0) N103_ 34 [some (.ref 81), some (.int (Int32.ofInt (ze Mz 81 4))), none, none, none] [.int (Int32.ofInt 0)] _
          refine zr_if_eq (pc := 34) (tgt := 49) ⟨(by decide), (by decide)⟩ (by decide) (zdal_p dlC_M_letLine_86 (i := 17) rfl) (fun hc_34 => ?_) (fun hc_34 => ?_)
          · skip
            refine zw_aload_n (pc := 49) (n := 0) (x := 81) rfl (zdal_p dlC_M_letLine_87 (i := 0) rfl) ?_
            refine zr_callV (hf_N103_.w hW) hf_N103_.x (pc := 50) [] [] l_M_183 (c_M_isGood l N103_ (hf_N103_.w hW) ) rfl rfl rfl (by decide) (Nat.le_of_ble_eq_true rfl) (zdal_p dlC_M_letLine_87 (i := 1) rfl) ?_
            rintro _ N113_ ⟨v114_, rfl, ⟨hv114_a, hv114_b⟩, hsN113_, hp0_N113_⟩
            obtain rfl := hsN113_.eq.symm
            replace hp0_N113_ : ((v114_ = 1 ∧ ze N103_ 81 7 = 0) ∨ (v114_ = 0 ∧ ze N103_ 81 7 ≠ 0)) := hp0_N113_
            rcases hp0_N113_ with ⟨rfl, ha50_0_hp0_N113_⟩ | ⟨rfl, ha50_0_hp0_N113_⟩
            · skip
              exfalso; (exact zo_281 ha50_0_hp0_N113_ hp0_N103_)
            · skip
              show zW l m_M_letLine (zn Mz + 0, zw Mz + 0) N103_ 53 [some (.ref 81), some (.int (Int32.ofInt (ze Mz 81 4))), none, none, none] [.int (Int32.ofInt 0)] _
              refine zr_if_eq (pc := 53) (tgt := 69) ⟨(by decide), (by decide)⟩ (by decide) (zdal_p dlC_M_letLine_87 (i := 2) rfl) (fun hc_53 => ?_) (fun hc_53 => ?_)
              · skip
                refine zw_aload_n (pc := 69) (n := 0) (x := 81) rfl (zdal_p dlC_M_letLine_87 (i := 10) rfl) ?_
                refine zr_getI (hf_N103_.w hW) (pc := 70) f_M_172 rfl (zdal_p dlC_M_letLine_87 (i := 11) rfl) ?_
                refine zr_if_le (pc := 73) (tgt := 77) ⟨(ze_r N103_ 81 7).1, (ze_r N103_ 81 7).2⟩ (by decide) (zdal_p dlC_M_letLine_87 (i := 12) rfl) (fun hc_73 => ?_) (fun hc_73 => ?_)
                · skip
                  exfalso; (exact zo_1329 hc_73 hp0_N103_)
                · skip
                  exact zr_vret (pc := 76) rfl hf_N103_ ⟨c107_, (show 0 ≤ ze N103_ 81 14 by first | with_reducible assumption | (exact zo_1333 e14_N103_ hc_11) | assumption), (show ze N103_ 81 14 ≤ 8 by first | with_reducible assumption | (exact zo_808 e14_N103_ hw8_) | assumption), (show ((1 ≤ ze N103_ 81 7 ∧ zls b_ n_ F_ K_ (0, (ze Mz 81 4).toNat, nm_) = zLf) ∨ (ze N103_ 81 7 = 0 ∧ (∃ nm2 : List (Int × (Nat → Int)), zls b_ n_ F_ K_ (0, (ze Mz 81 4).toNat, nm_) = (0, (ze N103_ 81 4).toNat, nm2) ∧ zRNm nm2 F_ K_ b_ n_ N103_) ∧ ze Mz 81 4 < ze N103_ 81 4)) from Or.inl (⟨(show 1 ≤ ze N103_ 81 7 by first | (exact hp0_N103_) | exact hrt_ | exact hrt2_ | exact hrt3_), (show zls b_ n_ F_ K_ (0, (ze Mz 81 4).toNat, nm_) = zLf by first | (exact hrt_) | exact hrt_ | exact hrt2_ | exact hrt3_)⟩))⟩ (zdal_p dlC_M_letLine_87 (i := 13) rfl)
              · skip
                exact absurd hc_53 (by decide)
          · skip
            exact absurd hc_34 (by decide)
      · skip
        exact absurd hc_23 (by decide)
def zTrG (b : Nat → Int) (n s : Nat) (mv : List Nat) (T : zGT) : Prop := ∃ P q q2 q3 : Nat, ∃ nm : List (Int × (Nat → Int)), zHd b n s P q ∧ zRg (zbs b n P) (0, q, []) (1, q2, mv) ∧ T ∈ gTabs ∧ zTm mv T ∧ zRg (zls b n (gF T).length (gmkI T)) (0, q2, []) (1, q3, nm)
def zTrB (b : Nat → Int) (n s : Nat) : Prop := (¬ ∃ P q, zHd b n s P q) ∨ (∃ P q, zHd b n s P q ∧ zRg (zbs b n P) (0, q, []) zMf) ∨ ∃ P q q2 : Nat, ∃ mv : List Nat, ∃ T : zGT, zHd b n s P q ∧ zRg (zbs b n P) (0, q, []) (1, q2, mv) ∧ T ∈ gTabs ∧ zTm mv T ∧ zRg (zls b n (gF T).length (gmkI T)) (0, q2, []) zLf
theorem zHd_u {b : Nat → Int} {n s P q P' q' : Nat} (h : zHd b n s P q) (h' : zHd b n s P' q') : P = P' ∧ q = q' := by
  obtain ⟨a1, ⟨a2, a3, a4, a5⟩, a6, a7⟩ := h
  obtain ⟨b1, ⟨b2, b3, b4, b5⟩, b6, b7⟩ := h'
  exact ⟨by omega, by omega⟩
theorem zTrG_m {b : Nat → Int} {n s P q q2 q2' : Nat} {mv mv' : List Nat} (h : zRg (zbs b n P) (0, q, []) (1, q2, mv)) (h' : zRg (zbs b n P) (0, q, []) (1, q2', mv')) : q2 = q2' ∧ mv = mv' := by
  have e := zRg.end h h' zbs_1 zbs_1
  exact ⟨congrArg (fun t : zMst => t.2.1) e, congrArg (fun t : zMst => t.2.2) e⟩
theorem zTrG_u {b : Nat → Int} {n s : Nat} {mv mv' : List Nat} {T T' : zGT} (h : zTrG b n s mv T) (h' : zTrG b n s mv' T') : T = T' := by
  obtain ⟨P, q, q2, q3, nm, a1, a2, a3, a4, a5⟩ := h
  obtain ⟨P', q', q2', q3', nm', b1, b2, b3, b4, b5⟩ := h'
  obtain ⟨rfl, rfl⟩ := zHd_u a1 b1
  obtain ⟨rfl, rfl⟩ := zTrG_m (s := s) a2 b2
  exact zTm_uq a4 b4
theorem zTrG_b {b : Nat → Int} {n s : Nat} {mv : List Nat} {T : zGT} (h : zTrG b n s mv T) : ¬ zTrB b n s := by
  obtain ⟨P, q, q2, q3, nm, a1, a2, a3, a4, a5⟩ := h
  rintro (h | ⟨P', q', b1, b2⟩ | ⟨P', q', q2', mv', T', b1, b2, b3, b4, b5⟩)
  · exact h ⟨P, q, a1⟩
  · obtain ⟨rfl, rfl⟩ := zHd_u a1 b1
    have e := zRg.end a2 b2 zbs_1 zbs_F
    have e1 : (1 : Nat) = 2 := congrArg (fun t : zMst => t.1) e
    omega
  · obtain ⟨rfl, rfl⟩ := zHd_u a1 b1
    obtain ⟨rfl, rfl⟩ := zTrG_m (s := s) a2 b2
    obtain rfl := zTm_uq a4 b4
    have e := zRg.end a5 b5 zls_1 zls_2
    have e1 : (1 : Nat) = 2 := congrArg (fun t : zLst => t.1) e
    omega
def zap (f : Nat → Int) (n v : Int) : Nat → Int := fun j => if n ≤ (j : Int) ∧ (j : Int) < n + 4 then zand (zshr v (24 - 8 * ((j : Int) - n))) 255 else f j
theorem zap_c {f g : Nat → Int} {n v : Int} (h : ∀ k : Nat, (k : Int) < n → f k = g k) : ∀ k : Nat, (k : Int) < n + 4 → zap f n v k = zap g n v k := fun k hk => by
  unfold zap
  by_cases c : n ≤ (k : Int) ∧ (k : Int) < n + 4
  · rw [if_pos c, if_pos c]
  · rw [if_neg c, if_neg c]
    exact h k (by omega)
def zApI (c : Nat) (n m v : Int) (M N : zMem) : Prop := ∀ j : Nat, ze N c j = if n ≤ (j : Int) ∧ (j : Int) < m then zand (zshr v (24 - 8 * ((j : Int) - n))) 255 else ze M c j
theorem zApI_0 {c : Nat} {n v : Int} {M : zMem} : zApI c n n v M M := fun j => by rw [if_neg (by omega)]
theorem zApI_s {c : Nat} {n m v w s : Int} {M N P Q : zMem} (h : zApI c n m v M N) (n0 : 0 ≤ n) (hm : n ≤ m) (hw : w = zand (zshr v s) 255) (hs : s = 24 - 8 * (m - n)) (hr : zn32 w) (hP : P = zsI N c m.toNat (Int32.ofInt w)) (hQ : ∀ j : Nat, ze Q c j = ze P c j) : zApI c n (m + 1) v M Q := fun j => by
  rw [hQ]
  by_cases g : (j : Int) = m
  · rw [show j = m.toNat by omega, zs_get hP hr, if_pos ⟨by omega, by omega⟩, hw, hs, Int.toNat_of_nonneg (by omega)]
  · rw [zs_oth hP (by omega), h j]
    by_cases c1 : n ≤ (j : Int) ∧ (j : Int) < m
    · rw [if_pos c1, if_pos ⟨c1.1, by omega⟩]
    · rw [if_neg c1, if_neg (by omega)]
theorem zApI_e {c : Nat} {n m v : Int} {M N : zMem} (h : zApI c n m v M N) (hm : m = n + 4) : ∀ j : Nat, ze N c j = zap (fun j => ze M c j) n v j := fun j => by
  rw [h j, hm]
  rfl
def zfd5 (f : Nat → Int) (n a b c d e : Int) : Nat → Int := zap (zap (zap (zap (zap f n a) (n + 4) b) (n + 8) c) (n + 12) d) (n + 16) e
theorem zfd5_c {f g : Nat → Int} {n a b c d e : Int} (h : ∀ k : Nat, (k : Int) < n → f k = g k) : ∀ k : Nat, (k : Int) < n + 20 → zfd5 f n a b c d e k = zfd5 g n a b c d e k := by
  have h1 := zap_c (v := a) h
  have h2 := zap_c (v := b) h1
  rw [show n + 4 + 4 = n + 8 by omega] at h2
  have h3 := zap_c (v := c) h2
  rw [show n + 8 + 4 = n + 12 by omega] at h3
  have h4 := zap_c (v := d) h3
  rw [show n + 12 + 4 = n + 16 by omega] at h4
  have h5 := zap_c (v := e) h4
  rw [show n + 16 + 4 = n + 20 by omega] at h5
  exact h5
def zBt (f : Nat → Int) (n : Int) : Prop := ∀ k : Nat, (k : Int) < n → 0 ≤ f k ∧ f k ≤ 255
theorem zand255 (x : Int) : 0 ≤ zand x 255 ∧ zand x 255 ≤ 255 := by
  have h1 : ((Int32.ofInt x &&& Int32.ofInt 255).toBitVec).toNat ≤ 255 := by
    rw [Int32.toBitVec_and, BitVec.toNat_and]
    exact Nat.le_trans Nat.and_le_right (by decide)
  have h2 : zand x 255 = (((Int32.ofInt x &&& Int32.ofInt 255).toBitVec).toNat : Int) := by
    show ((Int32.ofInt x &&& Int32.ofInt 255).toBitVec).toInt = _
    rw [BitVec.toInt_eq_toNat_of_lt (by omega)]
  omega
theorem zap_b {f : Nat → Int} {n v : Int} (h : zBt f n) : zBt (zap f n v) (n + 4) := fun k hk => by
  unfold zap
  by_cases c : n ≤ (k : Int) ∧ (k : Int) < n + 4
  · rw [if_pos c]
    exact zand255 _
  · rw [if_neg c]
    exact h k (by omega)
theorem zfd5_b {f : Nat → Int} {n a b c d e : Int} (h : zBt f n) : zBt (zfd5 f n a b c d e) (n + 20) := by
  have h1 := zap_b (v := a) h
  have h2 := zap_b (v := b) h1
  have h3 := zap_b (v := c) h2
  have h4 := zap_b (v := d) h3
  have h5 := zap_b (v := e) h4
  rw [show n + 4 + 4 = n + 8 by omega] at h2 h3 h4 h5
  rw [show n + 8 + 4 = n + 12 by omega] at h3 h4 h5
  rw [show n + 12 + 4 = n + 16 by omega] at h4 h5
  rw [show n + 16 + 4 = n + 20 by omega] at h5
  exact h5
def zRp (b : Nat → Int) (n : Nat) (M : zMem) : Prop := ze M 81 1 = n ∧ n ≤ 700 ∧ zBy b n ∧ ∀ k, k < n → ze M 82 k = b k
def zCdR (P : Int) (mv : List Nat) (T : zGT) (M : zMem) : Prop := gTb mv (fun i => zrc M 85 i P) T
theorem zCdR.fr {P : Int} {mv : List Nat} {T : zGT} {S C : List Nat} {M N : zMem} (hf : zFr S C M N) (h : zCdR P mv T M) (_ : True) (hc : 85 ∉ C) : zCdR P mv T N := by
  unfold zCdR at h ⊢
  have e : (fun i => zrc N 85 i P) = (fun i => zrc M 85 i P) := funext fun i => zrc_f (fun k => hf.ie (by decide) hc k) i P
  rw [e]
  exact h
theorem zCdR.p {P Q : Int} {mv : List Nat} {T : zGT} {M : zMem} (h : zCdR P mv T M) (e : Q = P) : zCdR Q mv T M := by
  rw [e]
  exact h
def zcn (f : Nat → Int) (i : Int) : Nat → Int
  | 0 => 0
  | k + 1 => zcn f i k + (if f k = i then 1 else 0)
theorem zcn_b (f : Nat → Int) (i : Int) : ∀ k : Nat, 0 ≤ zcn f i k ∧ zcn f i k ≤ k
  | 0 => ⟨Int.le_refl _, Int.le_refl _⟩
  | k + 1 => by
    have ih := zcn_b f i k
    show 0 ≤ zcn f i k + (if f k = i then 1 else 0) ∧ zcn f i k + (if f k = i then 1 else 0) ≤ ((k + 1 : Nat) : Int)
    split <;> omega
theorem zcn_c {f g : Nat → Int} {i : Int} : ∀ k : Nat, (∀ s, s < k → g s = f s) → zcn g i k = zcn f i k
  | 0, _ => rfl
  | k + 1, h => by
    show zcn g i k + (if g k = i then 1 else 0) = zcn f i k + (if f k = i then 1 else 0)
    rw [zcn_c k (fun s hs => h s (by omega)), h k (by omega)]
def zSoF (M : zMem) (F k : Int) : Prop := ∀ i : Nat, (i : Int) < F → ze M 92 i = zcn (fun s => ze M 90 s) i k.toNat
theorem zSoF_0 {M : zMem} {F : Int} (h : ∀ i : Nat, (i : Int) < F → ze M 92 i = 0) : zSoF M F 0 := fun i hi => h i hi
theorem zSoF_s {M N P : zMem} {F k w x o v : Int} (h : zSoF M F k) (k0 : 0 ≤ k) (k1 : k ≤ 1000) (hN : N = zsI M 90 k.toNat (Int32.ofInt w)) (w0 : 0 ≤ w) (w1 : w < F) (w2 : w ≤ 1000) (h92 : ∀ j, ze N 92 j = ze M 92 j) (hx : x = ze N 90 k.toNat) (ho : o = ze N 92 x.toNat) (hP : P = zsI N 92 x.toNat (Int32.ofInt v)) (h90 : ∀ j, ze P 90 j = ze N 90 j) (hv : v = o + 1) : zSoF P F (k + 1) := fun i hi => by
  have hxw : x = w := hx.trans (zs_get hN ⟨by omega, by omega⟩)
  rw [show (k + 1).toNat = k.toNat + 1 by omega]
  have e1 : zcn (fun s => ze P 90 s) i k.toNat = zcn (fun s => ze M 90 s) i k.toNat := zcn_c _ (fun s hs => (h90 s).trans (zs_oth hN (by omega)))
  have e2 : ze P 90 k.toNat = w := (h90 _).trans (hx.symm.trans hxw)
  show ze P 92 i = zcn (fun s => ze P 90 s) i k.toNat + (if ze P 90 k.toNat = i then 1 else 0)
  rw [e1, e2, ← h i hi]
  have hb := zcn_b (fun s => ze M 90 s) w k.toNat
  have hw := h w.toNat (by omega)
  rw [show ((w.toNat : Nat) : Int) = w by omega] at hw
  have ho2 : o = ze M 92 w.toNat := by rw [ho, hxw, h92]
  by_cases g : i = w.toNat
  · rw [if_pos (by omega), g]
    have h3 := zs_get (i := x.toNat) hP ⟨by omega, by omega⟩
    rw [hxw] at h3
    omega
  · rw [if_neg (by omega), zs_oth hP (by omega), h92, Int.add_zero]
def zSoM (T : zGT) (M : zMem) : Prop := zSoF M ((gF T).length : Int) (ze M 81 25)
theorem zSoM.fr {T : zGT} {S C : List Nat} {M N : zMem} (hf : zFr S C M N) (h : zSoM T M) (hs : 25 ∉ S) (hc : 90 ∉ C ∧ 92 ∉ C) : zSoM T N := fun i hi => by
  rw [hf.ie (by decide) hc.2, hf.e hs]
  have e : (fun s => ze N 90 s) = (fun s => ze M 90 s) := funext fun s => hf.ie (by decide) hc.1 s
  rw [e]
  exact h i hi
def zCdS (P : Int) (mv : List Nat) (T : zGT) (M : zMem) : Prop := zCdR P mv T M ∧ zSoM T M
theorem zCdS.fr {P : Int} {mv : List Nat} {T : zGT} {S C : List Nat} {M N : zMem} (hf : zFr S C M N) (h : zCdS P mv T M) (hs : 25 ∉ S) (hc : 85 ∉ C ∧ 90 ∉ C ∧ 92 ∉ C) : zCdS P mv T N := ⟨zCdR.fr hf h.1 trivial hc.1, zSoM.fr hf h.2 hs hc.2⟩
theorem zCdS.p {P Q : Int} {mv : List Nat} {T : zGT} {M : zMem} (h : zCdS P mv T M) (e : Q = P) : zCdS Q mv T M := ⟨h.1.p e, h.2⟩
section ZRP
variable {b : Nat → Int} {n : Nat} {M N : zMem} {S C : List Nat}
theorem zRp.fr (hf : zFr S C M N) (h : zRp b n M) (hs : 1 ∉ S) (hc : 82 ∉ C) : zRp b n N :=
  ⟨(hf.e hs).trans h.1, h.2.1, h.2.2.1, fun k hk => (hf.ie (by decide) hc k).trans (h.2.2.2 k hk)⟩
theorem zTb_g {M0 : zMem} (hp : zPm M0) (hF : zFin M0) (hg : zGr M0 N) {a : Int} (hs : zSt M0 N a) (ha : ze N 81 20 ≤ a) : ∃ T : zGT, zTb M0 N T ∧ zCdR (ze M0 81 12) (zMvs M0) T N := by
  obtain ⟨T, hT, hn⟩ := gTb_i (mv := zMvs M0) (c := fun i => zrc N 85 i (ze M0 81 12)) (n := (ze N 81 20).toNat) hp hF (fun x => (hg.2.1 x).trans ⟨fun ⟨i, h1, h2⟩ => ⟨i, by omega, h2⟩, fun ⟨i, h1, h2⟩ => ⟨i, by omega, h2⟩⟩) (fun i j h1 h2 => hs i j (by omega) h1 (by omega))
  have h20 := hg.1
  exact ⟨T, ⟨hT.1, by omega, hT.2.2.2.1, hT.2.2.2.2, hT.2.2.1⟩, hT⟩
theorem zGB.rm {T : zGT} (h : zGB T M) : zRmk (gF T).length (gmkI T) M :=
  ⟨h.2.2.2.1.1, fun i j hi hj => h.2.2.2.2.2.2 i j (Or.inl (by omega)) hi hj⟩
end ZRP
