set_option maxHeartbeats 4000000 in
theorem c_M_countsUnitF (l : Launch) (Mz : zMem) (hW : zMt Mz) (F_ : Nat) (K_ : Nat → Nat → Int) (p0_ : zRI F_ K_ 0 Mz) (p1_ : 0 ≤ ze Mz 81 7) (p2_ : 0 ≤ ze Mz 81 43) (p3_ : ze Mz 81 43 ≤ 30) : zC l m_M_countsUnit 0 0 [.ref 81] Mz (zpV [7, 8, 43] [] Mz (fun N => ze N 81 43 = ze Mz 81 43 + 1 ∧ (((1 ≤ ze N 81 7 ∧ (ze Mz 81 7 = 0 → ¬ zuo (zrS Mz) (ze Mz 81 43).toNat)) ∨ (ze N 81 7 = 0 ∧ ze Mz 81 7 = 0 ∧ zuo (zrS Mz) (ze Mz 81 43).toNat))))) := by
  refine zC_of (L0 := [some (.ref 81)]) md_M_countsUnit (Nat.le_of_ble_eq_true rfl) rfl ?_ zQ0
  have hf : zFr [7, 8, 43] [] Mz Mz := zFr.rf
  have r_7 := ze_r Mz 81 7
  have r_42 := ze_r Mz 81 42
  have r_43 := ze_r Mz 81 43
  have hdp_ := p0_.2.2.1
  refine zw_aload_n (pc := 0) (n := 0) (x := 81) rfl (zdal_p dlC_M_countsUnit_107 (i := 0) rfl) ?_
  refine zr_callV (hf.w hW) hf.x (pc := 1) [] [] l_M_183 (c_M_isGood l Mz (hf.w hW) ) rfl rfl rfl (by decide) (Nat.le_of_ble_eq_true rfl) (zdal_p dlC_M_countsUnit_107 (i := 1) rfl) ?_
  rintro _ N1_ ⟨v2_, rfl, ⟨hv2_a, hv2_b⟩, hsN1_, hp0_N1_⟩
  obtain rfl := hsN1_.eq.symm
  replace hp0_N1_ : ((v2_ = 1 ∧ ze Mz 81 7 = 0) ∨ (v2_ = 0 ∧ ze Mz 81 7 ≠ 0)) := hp0_N1_
  rcases hp0_N1_ with ⟨rfl, ha1_0_hp0_N1_⟩ | ⟨rfl, ha1_0_hp0_N1_⟩
  · skip
    show zW l m_M_countsUnit (zn Mz + 0, zw Mz + 0) Mz 4 [some (.ref 81)] [.int (Int32.ofInt 1)] _
    refine zr_if_eq (pc := 4) (tgt := 30) ⟨(by decide), (by decide)⟩ (by decide) (zdal_p dlC_M_countsUnit_107 (i := 2) rfl) (fun hc_4 => ?_) (fun hc_4 => ?_)
    · skip
      exact absurd hc_4 (by decide)
    · skip
      refine zw_aload_n (pc := 7) (n := 0) (x := 81) rfl (zdal_p dlC_M_countsUnit_107 (i := 3) rfl) ?_
      refine zr_getI (hf.w hW) (pc := 8) f_M_293 rfl (zdal_p dlC_M_countsUnit_107 (i := 4) rfl) ?_
      refine zw_bipush (pc := 11) (v := Int32.ofInt 30) (by decide) (zdal_p dlC_M_countsUnit_107 (i := 5) rfl) ?_
      refine zr_icmp_eq (pc := 13) (tgt := 25) ⟨(ze_r Mz 81 43).1, (ze_r Mz 81 43).2⟩ ⟨(by decide), (by decide)⟩ (by decide) (zdal_p dlC_M_countsUnit_107 (i := 6) rfl) (fun hc_13 => ?_) (fun hc_13 => ?_)
      · skip
        refine zw_aload_n (pc := 25) (n := 0) (x := 81) rfl (zdal_p dlC_M_countsUnit_107 (i := 11) rfl) ?_
        refine zw_iconst (pc := 26) (v := Int32.ofInt 5) (by decide) (zdal_p dlC_M_countsUnit_107 (i := 12) rfl) ?_
        refine zr_callV (hf.w hW) hf.x (pc := 27) [.int (Int32.ofInt 5)] [] l_M_190 (c_M_wrongF l Mz (hf.w hW) 5 (by decide) (by decide) (show 1 ≤ 5 by first | with_reducible assumption | (decide) | assumption)) rfl rfl rfl (by decide) (Nat.le_of_ble_eq_true rfl) (zdal_p dlC_M_countsUnit_107 (i := 13) rfl) ?_
        rintro _ N3_ ⟨rfl, hsN3_, hp0_N3_⟩
        replace hp0_N3_ : 1 ≤ ze N3_ 81 7 := hp0_N3_
        have hf_N3_ : zFr [7, 8, 43] [] Mz N3_ := hf.tr hsN3_ (by decide) (by decide)
        have r7_N3_ := ze_r N3_ 81 7
        have e42_N3_ : ze N3_ 81 42 = ze Mz 81 42 := hsN3_.e (by decide)
        have e43_N3_ : ze N3_ 81 43 = ze Mz 81 43 := hsN3_.e (by decide)
        show zW l m_M_countsUnit (zn Mz + 0, zw Mz + 0) N3_ 30 [some (.ref 81)] [] _
        refine zw_aload_n (pc := 30) (n := 0) (x := 81) rfl (zdal_p dlC_M_countsUnit_107 (i := 14) rfl) ?_
        refine zw_dup (pc := 31) rfl (zdal_p dlC_M_countsUnit_107 (i := 15) rfl) ?_
        refine zr_getI (hf_N3_.w hW) (pc := 32) f_M_293 rfl (zdal_p dlC_M_countsUnit_107 (i := 16) rfl) ?_
        refine zw_iconst (pc := 35) (v := Int32.ofInt 1) (by decide) (zdal_p dlC_M_countsUnit_107 (i := 17) rfl) ?_
        refine zr_iadd (pc := 36) (zdal_p dlC_M_countsUnit_107 (i := 18) rfl) ?_
        refine zr_putI (hf_N3_.w hW) (pc := 37) f_M_293 rfl rfl ⟨by (exact zo_1245 e43_N3_ hc_13), by (exact zo_1246 e43_N3_ p3_)⟩ rfl rfl (zdal_p dlC_M_countsUnit_107 (i := 19) rfl) (fun N6_ hsN6_ hvN6_ => ?_)
        have hf_N6_ : zFr [7, 8, 43] [] Mz N6_ := hf_N3_.tr hsN6_ (by decide) (by decide)
        have e7_N6_ : ze N6_ 81 7 = ze N3_ 81 7 := hsN6_.e (by decide)
        have e42_N6_ : ze N6_ 81 42 = ze N3_ 81 42 := hsN6_.e (by decide)
        have r43_N6_ := ze_r N6_ 81 43
        exact zr_vret (pc := 40) rfl hf_N6_ ⟨(show ze N6_ 81 43 = ze Mz 81 43 + 1 by first | with_reducible assumption | (exact zo_1247 e43_N3_ hc_13 hvN6_ p3_ r43_N6_.1 r43_N6_.2) | assumption), (show ((1 ≤ ze N6_ 81 7 ∧ (ze Mz 81 7 = 0 → ¬ zuo (zrS Mz) (ze Mz 81 43).toNat)) ∨ (ze N6_ 81 7 = 0 ∧ ze Mz 81 7 = 0 ∧ zuo (zrS Mz) (ze Mz 81 43).toNat)) from Or.inl (⟨(show 1 ≤ ze N6_ 81 7 by first | (exact zo_533 e7_N6_ hp0_N3_) | (intro z_; rintro ⟨z1_, z2_⟩; omega)), (show (ze Mz 81 7 = 0 → ¬ zuo (zrS Mz) (ze Mz 81 43).toNat) by first | omega | (intro z_; rintro ⟨z1_, z2_⟩; (exact zo_1248 hc_13 z1_)))⟩))⟩ (zdal_p dlC_M_countsUnit_107 (i := 20) rfl)
      · skip
        refine zw_aload_n (pc := 16) (n := 0) (x := 81) rfl (zdal_p dlC_M_countsUnit_107 (i := 7) rfl) ?_
        refine zr_getI0 hf hW (pc := 17) (by decide) f_M_296 rfl (zdal_p dlC_M_countsUnit_107 (i := 8) rfl) ?_
        refine zw_bipush (pc := 20) (v := Int32.ofInt 6) (by decide) (zdal_p dlC_M_countsUnit_107 (i := 9) rfl) ?_
        refine zr_icmp_le (pc := 22) (tgt := 30) ⟨(ze_r Mz 81 42).1, (ze_r Mz 81 42).2⟩ ⟨(by decide), (by decide)⟩ (by decide) (zdal_p dlC_M_countsUnit_107 (i := 10) rfl) (fun hc_22 => ?_) (fun hc_22 => ?_)
        · skip
          refine zw_aload_n (pc := 30) (n := 0) (x := 81) rfl (zdal_p dlC_M_countsUnit_107 (i := 14) rfl) ?_
          refine zw_dup (pc := 31) rfl (zdal_p dlC_M_countsUnit_107 (i := 15) rfl) ?_
          refine zr_getI (hf.w hW) (pc := 32) f_M_293 rfl (zdal_p dlC_M_countsUnit_107 (i := 16) rfl) ?_
          refine zw_iconst (pc := 35) (v := Int32.ofInt 1) (by decide) (zdal_p dlC_M_countsUnit_107 (i := 17) rfl) ?_
          refine zr_iadd (pc := 36) (zdal_p dlC_M_countsUnit_107 (i := 18) rfl) ?_
          refine zr_putI (hf.w hW) (pc := 37) f_M_293 rfl rfl ⟨by (exact zo_74 p2_), by (exact zo_1055 p3_)⟩ rfl rfl (zdal_p dlC_M_countsUnit_107 (i := 19) rfl) (fun N8_ hsN8_ hvN8_ => ?_)
          have hf_N8_ : zFr [7, 8, 43] [] Mz N8_ := hf.tr hsN8_ (by decide) (by decide)
          have e7_N8_ : ze N8_ 81 7 = ze Mz 81 7 := hsN8_.e (by decide)
          have e42_N8_ : ze N8_ 81 42 = ze Mz 81 42 := hsN8_.e (by decide)
          have r43_N8_ := ze_r N8_ 81 43
          exact zr_vret (pc := 40) rfl hf_N8_ ⟨(show ze N8_ 81 43 = ze Mz 81 43 + 1 by first | with_reducible assumption | assumption | omega), (show ((1 ≤ ze N8_ 81 7 ∧ (ze Mz 81 7 = 0 → ¬ zuo (zrS Mz) (ze Mz 81 43).toNat)) ∨ (ze N8_ 81 7 = 0 ∧ ze Mz 81 7 = 0 ∧ zuo (zrS Mz) (ze Mz 81 43).toNat)) from Or.inr (⟨(show ze N8_ 81 7 = 0 by first | (exact zo_278 e7_N8_ ha1_0_hp0_N1_ p1_) | exact ⟨by omega, by omega⟩), (show ze Mz 81 7 = 0 by first | (exact ha1_0_hp0_N1_) | exact ⟨by omega, by omega⟩), (show zuo (zrS Mz) (ze Mz 81 43).toNat by first | omega | exact ⟨by (exact zo_1249 p2_ p3_ hc_13), by (exact zo_1250 hc_22 hdp_)⟩)⟩))⟩ (zdal_p dlC_M_countsUnit_107 (i := 20) rfl)
        · skip
          refine zw_aload_n (pc := 25) (n := 0) (x := 81) rfl (zdal_p dlC_M_countsUnit_107 (i := 11) rfl) ?_
          refine zw_iconst (pc := 26) (v := Int32.ofInt 5) (by decide) (zdal_p dlC_M_countsUnit_107 (i := 12) rfl) ?_
          refine zr_callV (hf.w hW) hf.x (pc := 27) [.int (Int32.ofInt 5)] [] l_M_190 (c_M_wrongF l Mz (hf.w hW) 5 (by decide) (by decide) (show 1 ≤ 5 by first | with_reducible assumption | (decide) | assumption)) rfl rfl rfl (by decide) (Nat.le_of_ble_eq_true rfl) (zdal_p dlC_M_countsUnit_107 (i := 13) rfl) ?_
          rintro _ N10_ ⟨rfl, hsN10_, hp0_N10_⟩
          replace hp0_N10_ : 1 ≤ ze N10_ 81 7 := hp0_N10_
          have hf_N10_ : zFr [7, 8, 43] [] Mz N10_ := hf.tr hsN10_ (by decide) (by decide)
          have r7_N10_ := ze_r N10_ 81 7
          have e42_N10_ : ze N10_ 81 42 = ze Mz 81 42 := hsN10_.e (by decide)
          have e43_N10_ : ze N10_ 81 43 = ze Mz 81 43 := hsN10_.e (by decide)
          show zW l m_M_countsUnit (zn Mz + 0, zw Mz + 0) N10_ 30 [some (.ref 81)] [] _
          refine zw_aload_n (pc := 30) (n := 0) (x := 81) rfl (zdal_p dlC_M_countsUnit_107 (i := 14) rfl) ?_
          refine zw_dup (pc := 31) rfl (zdal_p dlC_M_countsUnit_107 (i := 15) rfl) ?_
          refine zr_getI (hf_N10_.w hW) (pc := 32) f_M_293 rfl (zdal_p dlC_M_countsUnit_107 (i := 16) rfl) ?_
          refine zw_iconst (pc := 35) (v := Int32.ofInt 1) (by decide) (zdal_p dlC_M_countsUnit_107 (i := 17) rfl) ?_
          refine zr_iadd (pc := 36) (zdal_p dlC_M_countsUnit_107 (i := 18) rfl) ?_
          refine zr_putI (hf_N10_.w hW) (pc := 37) f_M_293 rfl rfl ⟨by (exact zo_1205 e43_N10_ p2_), by (exact zo_1246 e43_N10_ p3_)⟩ rfl rfl (zdal_p dlC_M_countsUnit_107 (i := 19) rfl) (fun N13_ hsN13_ hvN13_ => ?_)
          have hf_N13_ : zFr [7, 8, 43] [] Mz N13_ := hf_N10_.tr hsN13_ (by decide) (by decide)
          have e7_N13_ : ze N13_ 81 7 = ze N10_ 81 7 := hsN13_.e (by decide)
          have e42_N13_ : ze N13_ 81 42 = ze N10_ 81 42 := hsN13_.e (by decide)
          have r43_N13_ := ze_r N13_ 81 43
          exact zr_vret (pc := 40) rfl hf_N13_ ⟨(show ze N13_ 81 43 = ze Mz 81 43 + 1 by first | with_reducible assumption | (exact zo_1251 e43_N10_ hvN13_ p2_ p3_ r43_N13_.1 r43_N13_.2) | assumption), (show ((1 ≤ ze N13_ 81 7 ∧ (ze Mz 81 7 = 0 → ¬ zuo (zrS Mz) (ze Mz 81 43).toNat)) ∨ (ze N13_ 81 7 = 0 ∧ ze Mz 81 7 = 0 ∧ zuo (zrS Mz) (ze Mz 81 43).toNat)) from Or.inl (⟨(show 1 ≤ ze N13_ 81 7 by first | (exact zo_533 e7_N13_ hp0_N10_) | (intro z_; rintro ⟨z1_, z2_⟩; omega)), (show (ze Mz 81 7 = 0 → ¬ zuo (zrS Mz) (ze Mz 81 43).toNat) by first | omega | (intro z_; rintro ⟨z1_, z2_⟩; (exact zo_1252 hc_22 hdp_ z2_)))⟩))⟩ (zdal_p dlC_M_countsUnit_107 (i := 20) rfl)
  · skip
    show zW l m_M_countsUnit (zn Mz + 0, zw Mz + 0) Mz 4 [some (.ref 81)] [.int (Int32.ofInt 0)] _
    refine zr_if_eq (pc := 4) (tgt := 30) ⟨(by decide), (by decide)⟩ (by decide) (zdal_p dlC_M_countsUnit_107 (i := 2) rfl) (fun hc_4 => ?_) (fun hc_4 => ?_)
    · skip
      refine zw_aload_n (pc := 30) (n := 0) (x := 81) rfl (zdal_p dlC_M_countsUnit_107 (i := 14) rfl) ?_
      refine zw_dup (pc := 31) rfl (zdal_p dlC_M_countsUnit_107 (i := 15) rfl) ?_
      refine zr_getI (hf.w hW) (pc := 32) f_M_293 rfl (zdal_p dlC_M_countsUnit_107 (i := 16) rfl) ?_
      refine zw_iconst (pc := 35) (v := Int32.ofInt 1) (by decide) (zdal_p dlC_M_countsUnit_107 (i := 17) rfl) ?_
      refine zr_iadd (pc := 36) (zdal_p dlC_M_countsUnit_107 (i := 18) rfl) ?_
      refine zr_putI (hf.w hW) (pc := 37) f_M_293 rfl rfl ⟨by (exact zo_74 p2_), by (exact zo_1055 p3_)⟩ rfl rfl (zdal_p dlC_M_countsUnit_107 (i := 19) rfl) (fun N15_ hsN15_ hvN15_ => ?_)
      have hf_N15_ : zFr [7, 8, 43] [] Mz N15_ := hf.tr hsN15_ (by decide) (by decide)
      have e7_N15_ : ze N15_ 81 7 = ze Mz 81 7 := hsN15_.e (by decide)
      have e42_N15_ : ze N15_ 81 42 = ze Mz 81 42 := hsN15_.e (by decide)
      have r43_N15_ := ze_r N15_ 81 43
      exact zr_vret (pc := 40) rfl hf_N15_ ⟨(show ze N15_ 81 43 = ze Mz 81 43 + 1 by first | with_reducible assumption | assumption | omega), (show ((1 ≤ ze N15_ 81 7 ∧ (ze Mz 81 7 = 0 → ¬ zuo (zrS Mz) (ze Mz 81 43).toNat)) ∨ (ze N15_ 81 7 = 0 ∧ ze Mz 81 7 = 0 ∧ zuo (zrS Mz) (ze Mz 81 43).toNat)) from Or.inl (⟨(show 1 ≤ ze N15_ 81 7 by first | (exact zo_1253 e7_N15_ p1_ ha1_0_hp0_N1_) | (intro z_; rintro ⟨z1_, z2_⟩; omega)), (show (ze Mz 81 7 = 0 → ¬ zuo (zrS Mz) (ze Mz 81 43).toNat) by first | omega | (intro z_; rintro ⟨z1_, z2_⟩; omega))⟩))⟩ (zdal_p dlC_M_countsUnit_107 (i := 20) rfl)
    · skip
      exact absurd hc_4 (by decide)
set_option maxHeartbeats 4000000 in
theorem c_M_nameAtF (l : Launch) (Mz : zMem) (hW : zMt Mz) (F_ : Nat) (K_ : Nat → Nat → Int) (b_ : Nat → Int) (n_ : Nat) (nm_ : List (Int × (Nat → Int))) (p0_ : zRNm nm_ F_ K_ b_ n_ Mz) (p1_ : zRt b_ n_ Mz) (p2_ : zkd b_ n_ (ze Mz 81 4).toNat = 1) : zC l m_M_nameAt 0 0 [.ref 81] Mz (zpI [] [] Mz (fun v N => (((v = -1 ∧ zfd nm_ (zkey b_ n_ (ze Mz 81 4).toNat) = none) ∨ (0 ≤ v ∧ v ≤ 7 ∧ v < ze Mz 81 14 ∧ zfd nm_ (zkey b_ n_ (ze Mz 81 4).toNat) = some (zrw F_ Mz 102 (64 * v)) ∧ zfit F_ K_ (zrw F_ Mz 102 (64 * v))))))) := by
  refine zC_of (L0 := [some (.ref 81), none]) md_M_nameAt (Nat.le_of_ble_eq_true rfl) rfl ?_ zQ0
  have hf : zFr [] [] Mz Mz := zFr.rf
  have r_4 := ze_r Mz 81 4
  have r_14 := ze_r Mz 81 14
  obtain ⟨w1_, gk_, w2_, w3_⟩ := id p0_
  obtain ⟨t1_, t2_, t3_, t4_, t5_, t6_⟩ := id p1_
  have hwd_ : zg Mz 81 11 = zke8 b_ n_ (ze Mz 81 4).toNat := t4_ p2_
  refine zw_iconst (pc := 0) (v := Int32.ofInt 0) (by decide) (zdal_p dlC_M_nameAt_93 (i := 0) rfl) ?_
  refine zw_istore_n (pc := 1) (i := 1) (L2 := [some (.ref 81), some (.int (Int32.ofInt 0))]) rfl (by decide) rfl (zdal_p dlC_M_nameAt_93 (i := 1) rfl) ?_
  have lp_2 : ∀ (n : Nat) (u1_ : Int) (hu1_a : -2147483648 ≤ u1_) (hu1_b : u1_ < 2147483648) (i2_ : 0 ≤ u1_) (i3_ : u1_ ≤ ze Mz 81 14) (i4_ : zRsr nm_ F_ b_ n_ Mz (zkey b_ n_ (ze Mz 81 4).toNat) u1_), (ze Mz 81 14 - u1_).toNat < n → zW l m_M_nameAt (zn Mz + 0, zw Mz + 0) Mz 2 [some (.ref 81), some (.int (Int32.ofInt u1_))] [] (zpI [] [] Mz (fun v N => (((v = -1 ∧ zfd nm_ (zkey b_ n_ (ze Mz 81 4).toNat) = none) ∨ (0 ≤ v ∧ v ≤ 7 ∧ v < ze Mz 81 14 ∧ zfd nm_ (zkey b_ n_ (ze Mz 81 4).toNat) = some (zrw F_ Mz 102 (64 * v)) ∧ zfit F_ K_ (zrw F_ Mz 102 (64 * v))))))) := by
    intro n
    induction n with
    | zero =>
      intro u1_ hu1_a hu1_b i2_ i3_ i4_ h0
      exact absurd h0 (Nat.not_lt_zero _)
    | succ n ih_2 =>
      intro u1_ hu1_a hu1_b i2_ i3_ i4_ hlt_2
      have hzz_ := (show zRsr nm_ F_ b_ n_ Mz (zkey b_ n_ (ze Mz 81 4).toNat) u1_ by first | with_reducible assumption | assumption)
      refine zw_iload_n (pc := 2) (n := 1) (x := Int32.ofInt u1_) rfl (zdal_p dlC_M_nameAt_93 (i := 2) rfl) ?_
      refine zw_aload_n (pc := 3) (n := 0) (x := 81) rfl (zdal_p dlC_M_nameAt_93 (i := 3) rfl) ?_
      refine zr_getI0 hf hW (pc := 4) (by decide) f_M_299 rfl (zdal_p dlC_M_nameAt_93 (i := 4) rfl) ?_
      refine zr_icmp_ge (pc := 7) (tgt := 32) ⟨hu1_a, hu1_b⟩ ⟨(ze_r Mz 81 14).1, (ze_r Mz 81 14).2⟩ (by decide) (zdal_p dlC_M_nameAt_93 (i := 5) rfl) (fun hc_7 => ?_) (fun hc_7 => ?_)
      · skip
        refine zw_iconst (pc := 32) (v := Int32.ofInt (-1)) (by decide) (zdal_p dlC_M_nameAt_93 (i := 18) rfl) ?_
        exact zr_iret (pc := 33) (ty := .int) rfl rfl ⟨by (decide), by (decide)⟩ hf (show ((((-1)) = -1 ∧ zfd nm_ (zkey b_ n_ (ze Mz 81 4).toNat) = none) ∨ (0 ≤ ((-1)) ∧ ((-1)) ≤ 7 ∧ ((-1)) < ze Mz 81 14 ∧ zfd nm_ (zkey b_ n_ (ze Mz 81 4).toNat) = some (zrw F_ Mz 102 (64 * ((-1)))) ∧ zfit F_ K_ (zrw F_ Mz 102 (64 * ((-1)))))) from Or.inl (⟨(show ((-1)) = -1 by first | rfl | exact zRsr_n hzz_ (by omega)), (show zfd nm_ (zkey b_ n_ (ze Mz 81 4).toNat) = none by first | rfl | exact zRsr_n hzz_ (by (exact hc_7)))⟩)) (zdal_p dlC_M_nameAt_93 (i := 19) rfl)
      · skip
        refine zw_aload_n (pc := 10) (n := 0) (x := 81) rfl (zdal_p dlC_M_nameAt_93 (i := 6) rfl) ?_
        refine zr_getF (r := 101) (hf.w hW) (pc := 11) f_M_75 rfl (zh_101 (hf.w hW)).1 (zdal_p dlC_M_nameAt_93 (i := 7) rfl) ?_
        refine zw_iload_n (pc := 14) (n := 1) (x := Int32.ofInt u1_) rfl (zdal_p dlC_M_nameAt_93 (i := 8) rfl) ?_
        refine zr_laldn (pc := 15) (zh_101 (hf.w hW)).2 (by decide) (by (exact i2_)) (by (exact zo_1254 hc_7 w1_.2)) (zdal_p dlC_M_nameAt_93 (i := 9) rfl) (fun v5_ hv5_ hv5_a hv5_b => ?_)
        have hvv_ := hv5_
        refine zw_aload_n (pc := 16) (n := 0) (x := 81) rfl (zdal_p dlC_M_nameAt_93 (i := 10) rfl) ?_
        refine zr_getJ (hf.w hW) (pc := 17) f_M_148 rfl (zdal_p dlC_M_nameAt_93 (i := 11) rfl) ?_
        have hr6_ := zg_r Mz 81 11
        refine zr_lcmp (pc := 20) ⟨hv5_a, hv5_b⟩ ⟨(zg_r Mz 81 11).1, (zg_r Mz 81 11).2⟩ (zdal_p dlC_M_nameAt_93 (i := 12) rfl) ?_
        have hr7_ := zcmp_s v5_ (zg Mz 81 11)
        refine zr_if_ne (pc := 21) (tgt := 26) ⟨(by (exact zo_81 hr7_)), (by (exact zo_82 hr7_))⟩ (by decide) (zdal_p dlC_M_nameAt_93 (i := 13) rfl) (fun hc_21 => ?_) (fun hc_21 => ?_)
        · skip
          refine zr_iinc (pc := 26) (i := 1) (a := u1_) (n := 1) (L2 := [some (.ref 81), some (.int (Int32.ofInt (u1_ + 1)))]) rfl (by decide) rfl (zdal_p dlC_M_nameAt_93 (i := 16) rfl) ?_
          refine zw_goto (pc := 29) (tgt := 2) (by decide) (zdal_p dlC_M_nameAt_93 (i := 17) rfl) ?_
          have hs_ := zRsr_s hzz_ p2_ (by (exact i2_)) (by (exact hc_7)) hvv_ (by omega)
          exact ih_2 (u1_ + 1) (by (exact zo_74 i2_)) (by (exact zo_1255 hc_7 w1_.2)) (show 0 ≤ (u1_ + 1) by first | with_reducible assumption | (exact zo_76 i2_) | assumption) (show (u1_ + 1) ≤ ze Mz 81 14 by first | with_reducible assumption | assumption | omega) (show zRsr nm_ F_ b_ n_ Mz (zkey b_ n_ (ze Mz 81 4).toNat) (u1_ + 1) by exact hs_) (by (exact zo_147 hc_7 hlt_2))
        · skip
          refine zw_iload_n (pc := 24) (n := 1) (x := Int32.ofInt u1_) rfl (zdal_p dlC_M_nameAt_93 (i := 14) rfl) ?_
          exact zr_iret (pc := 25) (ty := .int) rfl rfl ⟨by (exact hu1_a), by (exact hu1_b)⟩ hf (show ((u1_ = -1 ∧ zfd nm_ (zkey b_ n_ (ze Mz 81 4).toNat) = none) ∨ (0 ≤ u1_ ∧ u1_ ≤ 7 ∧ u1_ < ze Mz 81 14 ∧ zfd nm_ (zkey b_ n_ (ze Mz 81 4).toNat) = some (zrw F_ Mz 102 (64 * u1_)) ∧ zfit F_ K_ (zrw F_ Mz 102 (64 * u1_)))) from Or.inr (⟨(show 0 ≤ u1_ by first | (exact i2_) | exact zRsr_f hzz_ p2_ (by omega) (by omega) hvv_ (by omega) | (have h_ := (w3_ (u1_).toNat (by omega)).2; rwa [Int.toNat_of_nonneg (by omega)] at h_)), (show u1_ ≤ 7 by first | (exact zo_1256 hc_7 w1_.2) | exact zRsr_f hzz_ p2_ (by omega) (by omega) hvv_ (by omega) | (have h_ := (w3_ (u1_).toNat (by omega)).2; rwa [Int.toNat_of_nonneg (by omega)] at h_)), (show u1_ < ze Mz 81 14 by first | (exact hc_7) | exact zRsr_f hzz_ p2_ (by omega) (by omega) hvv_ (by omega) | (have h_ := (w3_ (u1_).toNat (by omega)).2; rwa [Int.toNat_of_nonneg (by omega)] at h_)), (show zfd nm_ (zkey b_ n_ (ze Mz 81 4).toNat) = some (zrw F_ Mz 102 (64 * u1_)) by first | omega | exact zRsr_f hzz_ p2_ (by omega) (by omega) hvv_ (by omega) | (have h_ := (w3_ (u1_).toNat (by (exact zo_695 hc_7 i2_))).2; rwa [Int.toNat_of_nonneg (by (exact i2_))] at h_)), (show zfit F_ K_ (zrw F_ Mz 102 (64 * u1_)) by first | omega | exact zRsr_f hzz_ p2_ (by omega) (by omega) hvv_ (by omega) | (have h_ := (w3_ (u1_).toNat (by (exact zo_695 hc_7 i2_))).2; rwa [Int.toNat_of_nonneg (by (exact i2_))] at h_))⟩)) (zdal_p dlC_M_nameAt_93 (i := 15) rfl)
  exact lp_2 _ 0 (by decide) (by decide) (show 0 ≤ (0 : Int) by first | with_reducible assumption | (decide) | assumption) (show (0 : Int) ≤ ze Mz 81 14 by first | with_reducible assumption | (exact zo_57 w1_.1) | assumption) (show zRsr nm_ F_ b_ n_ Mz (zkey b_ n_ (ze Mz 81 4).toNat) (0 : Int) by exact zRsr_0 p0_) (Nat.lt_succ_self _)
set_option maxHeartbeats 4000000 in
theorem c_M_isOpenF (l : Launch) (Mz : zMem) (hW : zMt Mz) (F_ : Nat) (K_ : Nat → Nat → Int) (p0_ : zRI F_ K_ 1 Mz) : zC l m_M_isOpen 0 0 [.ref 81] Mz (zpI [] [] Mz (fun v N => (((v = 1 ∧ 0 ∈ zrS Mz) ∨ (v = 0 ∧ ¬ 0 ∈ zrS Mz))))) := by
  refine zC_of (L0 := [some (.ref 81), none]) md_M_isOpen (Nat.le_of_ble_eq_true rfl) rfl ?_ zQ0
  have hf : zFr [] [] Mz Mz := zFr.rf
  have r_41 := ze_r Mz 81 41
  have hrb_ := p0_.bd
  have hr0_ := p0_.1
  refine zw_iconst (pc := 0) (v := Int32.ofInt 0) (by decide) (zdal_p dlC_M_isOpen_140 (i := 0) rfl) ?_
  refine zw_istore_n (pc := 1) (i := 1) (L2 := [some (.ref 81), some (.int (Int32.ofInt 0))]) rfl (by decide) rfl (zdal_p dlC_M_isOpen_140 (i := 1) rfl) ?_
  have lp_2 : ∀ (n : Nat) (u1_ : Int) (hu1_a : -2147483648 ≤ u1_) (hu1_b : u1_ < 2147483648) (i2_ : 0 ≤ u1_) (i3_ : u1_ ≤ ze Mz 81 41) (i4_ : (∀ i : Nat, (i : Int) < u1_ → ze Mz 100 i ≠ 0)), (ze Mz 81 41 - u1_).toNat < n → zW l m_M_isOpen (zn Mz + 0, zw Mz + 0) Mz 2 [some (.ref 81), some (.int (Int32.ofInt u1_))] [] (zpI [] [] Mz (fun v N => (((v = 1 ∧ 0 ∈ zrS Mz) ∨ (v = 0 ∧ ¬ 0 ∈ zrS Mz))))) := by
    intro n
    induction n with
    | zero =>
      intro u1_ hu1_a hu1_b i2_ i3_ i4_ h0
      exact absurd h0 (Nat.not_lt_zero _)
    | succ n ih_2 =>
      intro u1_ hu1_a hu1_b i2_ i3_ i4_ hlt_2
      have hno_ := (show (∀ i : Nat, (i : Int) < u1_ → ze Mz 100 i ≠ 0) by first | with_reducible assumption | assumption)
      obtain ⟨w_, hw_⟩ : ∃ w : Nat, (w : Int) = u1_ := ⟨(u1_).toNat, by (exact zo_167 i2_)⟩
      refine zw_iload_n (pc := 2) (n := 1) (x := Int32.ofInt u1_) rfl (zdal_p dlC_M_isOpen_140 (i := 2) rfl) ?_
      refine zw_aload_n (pc := 3) (n := 0) (x := 81) rfl (zdal_p dlC_M_isOpen_140 (i := 3) rfl) ?_
      refine zr_getI0 hf hW (pc := 4) (by decide) f_M_305 rfl (zdal_p dlC_M_isOpen_140 (i := 4) rfl) ?_
      refine zr_icmp_ge (pc := 7) (tgt := 27) ⟨hu1_a, hu1_b⟩ ⟨(ze_r Mz 81 41).1, (ze_r Mz 81 41).2⟩ (by decide) (zdal_p dlC_M_isOpen_140 (i := 5) rfl) (fun hc_7 => ?_) (fun hc_7 => ?_)
      · skip
        refine zw_iconst (pc := 27) (v := Int32.ofInt 0) (by decide) (zdal_p dlC_M_isOpen_140 (i := 15) rfl) ?_
        exact zr_iret (pc := 28) (ty := .boolean) rfl (z_narB (by (decide))) ⟨by (decide), by (decide)⟩ hf (show ((0 = 1 ∧ 0 ∈ zrS Mz) ∨ (0 = 0 ∧ ¬ 0 ∈ zrS Mz)) from Or.inr (⟨(show 0 = 0 by first | rfl | exact fun q_ => by obtain ⟨i_, h1_, h2_⟩ := zrS_m.mp q_; have h3_ := hno_ i_ (by omega); have h4_ := p0_.2.1 i_ h1_; omega), (show ¬ 0 ∈ zrS Mz by first | rfl | exact fun q_ => by obtain ⟨i_, h1_, h2_⟩ := zrS_m.mp q_; have h3_ := hno_ i_ (by (exact zo_1257 h1_ hc_7)); have h4_ := p0_.2.1 i_ h1_; (exact zo_1258 h2_ h4_.1 h3_))⟩)) (zdal_p dlC_M_isOpen_140 (i := 16) rfl)
      · skip
        refine zw_aload_n (pc := 10) (n := 0) (x := 81) rfl (zdal_p dlC_M_isOpen_140 (i := 6) rfl) ?_
        refine zr_getF (r := 100) (hf.w hW) (pc := 11) f_M_72 rfl (zh_100 (hf.w hW)).1 (zdal_p dlC_M_isOpen_140 (i := 7) rfl) ?_
        refine zw_iload_n (pc := 14) (n := 1) (x := Int32.ofInt u1_) rfl (zdal_p dlC_M_isOpen_140 (i := 8) rfl) ?_
        refine zr_ialdn (pc := 15) (zh_100 (hf.w hW)).2 (by decide) (by (exact i2_)) (by (exact zo_1259 hc_7 hrb_.1 hrb_.2.2.2 r_41.2)) (zdal_p dlC_M_isOpen_140 (i := 9) rfl) (fun v5_ hv5_ hv5_a hv5_b => ?_)
        have hvv_ := hv5_
        rw [show (u1_).toNat = w_ by (exact zo_1260 hu1_b hw_ i2_)] at hvv_
        refine zr_if_ne (pc := 16) (tgt := 21) ⟨hv5_a, hv5_b⟩ (by decide) (zdal_p dlC_M_isOpen_140 (i := 10) rfl) (fun hc_16 => ?_) (fun hc_16 => ?_)
        · skip
          refine zr_iinc (pc := 21) (i := 1) (a := u1_) (n := 1) (L2 := [some (.ref 81), some (.int (Int32.ofInt (u1_ + 1)))]) rfl (by decide) rfl (zdal_p dlC_M_isOpen_140 (i := 13) rfl) ?_
          refine zw_goto (pc := 24) (tgt := 2) (by decide) (zdal_p dlC_M_isOpen_140 (i := 14) rfl) ?_
          have hn2_ : ∀ i : Nat, (i : Int) < (u1_ + 1) → ze Mz 100 i ≠ 0 := fun i hi => by by_cases g_ : i = w_; (rw [g_]; (exact zo_806 hvv_ hc_16)); exact hno_ i (by (exact zo_1261 hi hw_ g_))
          exact ih_2 (u1_ + 1) (by (exact zo_74 i2_)) (by (exact zo_1262 hc_7 hrb_.1 hrb_.2.2.2 r_41.2)) (show 0 ≤ (u1_ + 1) by first | with_reducible assumption | (exact zo_76 i2_) | assumption) (show (u1_ + 1) ≤ ze Mz 81 41 by first | with_reducible assumption | assumption | omega) (show (∀ i : Nat, (i : Int) < (u1_ + 1) → ze Mz 100 i ≠ 0) by exact hn2_) (by (exact zo_147 hc_7 hlt_2))
        · skip
          refine zw_iconst (pc := 19) (v := Int32.ofInt 1) (by decide) (zdal_p dlC_M_isOpen_140 (i := 11) rfl) ?_
          exact zr_iret (pc := 20) (ty := .boolean) rfl (z_narB (by (decide))) ⟨by (decide), by (decide)⟩ hf (show ((1 = 1 ∧ 0 ∈ zrS Mz) ∨ (1 = 0 ∧ ¬ 0 ∈ zrS Mz)) from Or.inl (⟨(show 1 = 1 by first | rfl | exact zrS_m.mpr ⟨w_, by omega, by omega⟩), (show 0 ∈ zrS Mz by first | rfl | exact zrS_m.mpr ⟨w_, by (exact zo_1263 hc_7 hw_), by (exact zo_1264 hc_16 hvv_)⟩)⟩)) (zdal_p dlC_M_isOpen_140 (i := 12) rfl)
  exact lp_2 _ 0 (by decide) (by decide) (show 0 ≤ (0 : Int) by first | with_reducible assumption | (decide) | assumption) (show (0 : Int) ≤ ze Mz 81 41 by first | with_reducible assumption | assumption | omega) (show (∀ i : Nat, (i : Int) < (0 : Int) → ze Mz 100 i ≠ 0) by exact fun i hi => absurd hi (by (exact zo_131))) (Nat.lt_succ_self _)
set_option maxHeartbeats 4000000 in
theorem c_M_worksF (l : Launch) (Mz : zMem) (hW : zMt Mz) (a0_ : Int) (ha0_a : -2147483648 ≤ a0_) (ha0_b : a0_ < 2147483648) (F_ : Nat) (K_ : Nat → Nat → Int) (hA_ : zTA F_ K_) (p0_ : zRmk F_ K_ Mz) (p1_ : zRI F_ K_ 1 Mz) (p2_ : 2 ≤ a0_) (p3_ : a0_ ≤ 4) : zC l m_M_works 0 0 [.ref 81, .int (Int32.ofInt a0_)] Mz (zpV [38, 39, 41] [95, 96, 97] Mz (fun N => zRI F_ K_ 1 N ∧ (zrS N, zrW F_ N, zrG N) = zrk F_ K_ ((a0_).toNat) (zrS Mz).length (zrS Mz, zrW F_ Mz, zrG Mz) ∧ (∀ y, (zrS N).head? = some y → y < (a0_).toNat) ∧ ((zrS Mz).head? ≠ some 1 → (zrS N).head? ≠ some 1))) := by
  refine zC_of (L0 := [some (.ref 81), some (.int (Int32.ofInt a0_)), none]) md_M_works (Nat.le_of_ble_eq_true rfl) rfl ?_ zQ0
  have hf : zFr [38, 39, 41] [95, 96, 97] Mz Mz := zFr.rf
  have r_38 := ze_r Mz 81 38
  have r_39 := ze_r Mz 81 39
  have r_41 := ze_r Mz 81 41
  have r_42 := ze_r Mz 81 42
  obtain ⟨⟨hF1_, hF27_⟩, hAr_⟩ := id hA_
  obtain ⟨hFc_, hKt_⟩ := id p0_
  have lp_0 : ∀ (n : Nat) (N1_ : zMem) (hs2_ : zFr [38, 39, 41] [95, 96, 97] Mz N1_) (i3_ : zRI F_ K_ 1 N1_) (i4_ : zWkI F_ K_ (a0_).toNat Mz N1_) (i5_ : ((zrS Mz).head? ≠ some 1 → (zrS N1_).head? ≠ some 1)), (ze N1_ 81 41).toNat < n → zW l m_M_works (zn Mz + 0, zw Mz + 0) N1_ 0 [some (.ref 81), some (.int (Int32.ofInt a0_)), none] [] (zpV [38, 39, 41] [95, 96, 97] Mz (fun N => zRI F_ K_ 1 N ∧ (zrS N, zrW F_ N, zrG N) = zrk F_ K_ ((a0_).toNat) (zrS Mz).length (zrS Mz, zrW F_ Mz, zrG Mz) ∧ (∀ y, (zrS N).head? = some y → y < (a0_).toNat) ∧ ((zrS Mz).head? ≠ some 1 → (zrS N).head? ≠ some 1))) := by
    intro n
    induction n with
    | zero =>
      intro N1_ hs2_ i3_ i4_ i5_ h0
      exact absurd h0 (Nat.not_lt_zero _)
    | succ n ih_0 =>
      intro N1_ hs2_ i3_ i4_ i5_ hlt_0
      have hf_N1_ : zFr [38, 39, 41] [95, 96, 97] Mz N1_ := hf.tr hs2_ (by decide) (by decide)
      have r38_N1_ := ze_r N1_ 81 38
      have r39_N1_ := ze_r N1_ 81 39
      have r41_N1_ := ze_r N1_ 81 41
      have e42_N1_ : ze N1_ 81 42 = ze Mz 81 42 := hs2_.e (by decide)
      have c6_ : zRmk F_ K_ N1_ := zRmk.fr hs2_ p0_ (by decide) (by decide)
      have hri_ := i3_
      have hwi_ := (show zWkI F_ K_ (a0_).toNat Mz N1_ by first | with_reducible assumption | assumption)
      have hhi_ := (show ((zrS Mz).head? ≠ some 1 → (zrS N1_).head? ≠ some 1) by first | with_reducible assumption | assumption)
      have hft_ : zFtR F_ K_ N1_ := hri_.ft
      have hrb_ := hri_.bd
      have hr0_ := hri_.1
      refine zw_aload_n (pc := 0) (n := 0) (x := 81) rfl (zdal_p dlC_M_works_134 (i := 0) rfl) ?_
      refine zr_getI (hf_N1_.w hW) (pc := 1) f_M_305 rfl (zdal_p dlC_M_works_134 (i := 1) rfl) ?_
      refine zr_if_le (pc := 4) (tgt := 73) ⟨(ze_r N1_ 81 41).1, (ze_r N1_ 81 41).2⟩ (by decide) (zdal_p dlC_M_works_134 (i := 2) rfl) (fun hc_4 => ?_) (fun hc_4 => ?_)
      · skip
        have he_ : ∀ y, (zrS N1_).head? = some y → y < (a0_).toNat := by first | (intro y_ h_; rw [zrS_z (by (exact hc_4))] at h_; cases h_) | (intro y_ h_; rw [zrS_h (by omega)] at h_; injection h_ with h_; omega)
        exact zr_vret (pc := 73) rfl hf_N1_ ⟨i3_, (show (zrS N1_, zrW F_ N1_, zrG N1_) = zrk F_ K_ ((a0_).toNat) (zrS Mz).length (zrS Mz, zrW F_ Mz, zrG Mz) by exact zWkI_e hwi_ he_), (show (∀ y, (zrS N1_).head? = some y → y < (a0_).toNat) by exact he_), (show ((zrS Mz).head? ≠ some 1 → (zrS N1_).head? ≠ some 1) by exact hhi_)⟩ (zdal_p dlC_M_works_135 (i := 17) rfl)
      · skip
        refine zw_aload_n (pc := 7) (n := 0) (x := 81) rfl (zdal_p dlC_M_works_134 (i := 3) rfl) ?_
        refine zr_getF (r := 100) (hf_N1_.w hW) (pc := 8) f_M_72 rfl (zh_100 (hf_N1_.w hW)).1 (zdal_p dlC_M_works_134 (i := 4) rfl) ?_
        refine zw_aload_n (pc := 11) (n := 0) (x := 81) rfl (zdal_p dlC_M_works_134 (i := 5) rfl) ?_
        refine zr_getI (hf_N1_.w hW) (pc := 12) f_M_305 rfl (zdal_p dlC_M_works_134 (i := 6) rfl) ?_
        refine zw_iconst (pc := 15) (v := Int32.ofInt 1) (by decide) (zdal_p dlC_M_works_134 (i := 7) rfl) ?_
        refine zr_isub (pc := 16) (zdal_p dlC_M_works_134 (i := 8) rfl) ?_
        refine zr_ialdn (pc := 17) (zh_100 (hf_N1_.w hW)).2 (by decide) (by (exact zo_1265 hc_4)) (by (exact zo_1266 hrb_.1 hrb_.2.2.2 r41_N1_.2)) (zdal_p dlC_M_works_134 (i := 9) rfl) (fun v7_ hv7_ hv7_a hv7_b => ?_)
        rw [hf_N1_.ie (by decide) (by decide)] at hv7_
        have hx_ : v7_ = ze N1_ 100 (ze N1_ 81 41 - 1).toNat := by first | exact hv7_ | exact hv7_.trans (hf_N1_.ie (by decide) (by decide) _).symm
        refine zw_iload_n (pc := 18) (n := 1) (x := Int32.ofInt a0_) rfl (zdal_p dlC_M_works_134 (i := 10) rfl) ?_
        refine zr_icmp_lt (pc := 19) (tgt := 73) ⟨hv7_a, hv7_b⟩ ⟨ha0_a, ha0_b⟩ (by decide) (zdal_p dlC_M_works_134 (i := 11) rfl) (fun hc_19 => ?_) (fun hc_19 => ?_)
        · skip
          have he_ : ∀ y, (zrS N1_).head? = some y → y < (a0_).toNat := by first | (intro y_ h_; rw [zrS_z (by omega)] at h_; cases h_) | (intro y_ h_; rw [zrS_h (by (exact zo_1 hc_4))] at h_; injection h_ with h_; omega)
          exact zr_vret (pc := 73) rfl hf_N1_ ⟨i3_, (show (zrS N1_, zrW F_ N1_, zrG N1_) = zrk F_ K_ ((a0_).toNat) (zrS Mz).length (zrS Mz, zrW F_ Mz, zrG Mz) by exact zWkI_e hwi_ he_), (show (∀ y, (zrS N1_).head? = some y → y < (a0_).toNat) by exact he_), (show ((zrS Mz).head? ≠ some 1 → (zrS N1_).head? ≠ some 1) by exact hhi_)⟩ (zdal_p dlC_M_works_135 (i := 17) rfl)
        · skip
          have htw_ := hri_.two (by (exact zo_1 hc_4)) (by (exact zo_1267 hc_19 hv7_a hx_ p2_))
          refine zw_aload_n (pc := 22) (n := 0) (x := 81) rfl (zdal_p dlC_M_works_134 (i := 12) rfl) ?_
          refine zr_getF (r := 100) (hf_N1_.w hW) (pc := 23) f_M_72 rfl (zh_100 (hf_N1_.w hW)).1 (zdal_p dlC_M_works_134 (i := 13) rfl) ?_
          refine zw_aload_n (pc := 26) (n := 0) (x := 81) rfl (zdal_p dlC_M_works_134 (i := 14) rfl) ?_
          refine zr_getI (hf_N1_.w hW) (pc := 27) f_M_305 rfl (zdal_p dlC_M_works_134 (i := 15) rfl) ?_
          refine zw_iconst (pc := 30) (v := Int32.ofInt 1) (by decide) (zdal_p dlC_M_works_134 (i := 16) rfl) ?_
          refine zr_isub (pc := 31) (zdal_p dlC_M_works_134 (i := 17) rfl) ?_
          refine zr_ialdn (pc := 32) (zh_100 (hf_N1_.w hW)).2 (by decide) (by (exact zo_1265 hc_4)) (by (exact zo_1266 hrb_.1 hrb_.2.2.2 r41_N1_.2)) (zdal_p dlC_M_works_134 (i := 18) rfl) (fun v8_ hv8_ hv8_a hv8_b => ?_)
          rw [hf_N1_.ie (by decide) (by decide)] at hv8_
          have hy_ : v8_ = ze N1_ 100 (ze N1_ 81 41 - 1).toNat := by first | exact hv8_ | exact hv8_.trans (hf_N1_.ie (by decide) (by decide) _).symm
          have hxr_ := hri_.2.1 (ze N1_ 81 41 - 1).toNat (by (exact zo_2 hc_4))
          rw [← hy_] at hxr_
          refine zw_istore_n (pc := 33) (i := 2) (L2 := [some (.ref 81), some (.int (Int32.ofInt a0_)), some (.int (Int32.ofInt v8_))]) rfl (by decide) rfl (zdal_p dlC_M_works_134 (i := 19) rfl) ?_
          refine zw_aload_n (pc := 34) (n := 0) (x := 81) rfl (zdal_p dlC_M_works_134 (i := 20) rfl) ?_
          refine zw_dup (pc := 35) rfl (zdal_p dlC_M_works_134 (i := 21) rfl) ?_
          refine zr_getI (hf_N1_.w hW) (pc := 36) f_M_305 rfl (zdal_p dlC_M_works_134 (i := 22) rfl) ?_
          refine zw_iconst (pc := 39) (v := Int32.ofInt 1) (by decide) (zdal_p dlC_M_works_134 (i := 23) rfl) ?_
          refine zr_isub (pc := 40) (zdal_p dlC_M_works_135 (i := 0) rfl) ?_
          refine zr_putI (hf_N1_.w hW) (pc := 41) f_M_305 rfl rfl ⟨by (exact zo_3 hc_4), by (exact zo_601 r41_N1_.2)⟩ rfl rfl (zdal_p dlC_M_works_135 (i := 1) rfl) (fun N9_ hsN9_ hvN9_ => ?_)
          have hf_N9_ : zFr [38, 39, 41] [95, 96, 97] Mz N9_ := hf_N1_.tr hsN9_ (by decide) (by decide)
          have hb0_N9_ : zFr [38, 39, 41] [95, 96, 97] Mz N9_ := hs2_.tr hsN9_ (by decide) (by decide)
          have e38_N9_ : ze N9_ 81 38 = ze N1_ 81 38 := hsN9_.e (by decide)
          have e39_N9_ : ze N9_ 81 39 = ze N1_ 81 39 := hsN9_.e (by decide)
          have r41_N9_ := ze_r N9_ 81 41
          have e42_N9_ : ze N9_ 81 42 = ze N1_ 81 42 := hsN9_.e (by decide)
          have c10_ : zRmk F_ K_ N9_ := zRmk.fr hsN9_ c6_ (by decide) (by decide)
          have c11_ : zFtR F_ K_ N9_ := zFtR.fr hsN9_ hft_ (by decide) (by decide)
          refine zw_iload_n (pc := 44) (n := 2) (x := Int32.ofInt v8_) rfl (zdal_p dlC_M_works_135 (i := 2) rfl) ?_
          refine zw_iconst (pc := 45) (v := Int32.ofInt 4) (by decide) (zdal_p dlC_M_works_135 (i := 3) rfl) ?_
          refine zr_icmp_ne (pc := 46) (tgt := 56) ⟨hv8_a, hv8_b⟩ ⟨(by decide), (by decide)⟩ (by decide) (zdal_p dlC_M_works_135 (i := 4) rfl) (fun hc_46 => ?_) (fun hc_46 => ?_)
          · skip
            refine zw_aload_n (pc := 56) (n := 0) (x := 81) rfl (zdal_p dlC_M_works_135 (i := 8) rfl) ?_
            refine zw_iload_n (pc := 57) (n := 2) (x := Int32.ofInt v8_) rfl (zdal_p dlC_M_works_135 (i := 9) rfl) ?_
            refine zw_iconst (pc := 58) (v := Int32.ofInt 2) (by decide) (zdal_p dlC_M_works_135 (i := 10) rfl) ?_
            refine zr_icmp_ne (pc := 59) (tgt := 66) ⟨hv8_a, hv8_b⟩ ⟨(by decide), (by decide)⟩ (by decide) (zdal_p dlC_M_works_135 (i := 11) rfl) (fun hc_59 => ?_) (fun hc_59 => ?_)
            · skip
              refine zw_iconst (pc := 66) (v := Int32.ofInt (-1)) (by decide) (zdal_p dlC_M_works_135 (i := 14) rfl) ?_
              refine zr_callV (hf_N9_.w hW) hf_N9_.x (pc := 67) [.int (Int32.ofInt ((-1)))] [] l_M_334 (c_M_addsF l N9_ (hf_N9_.w hW) ((-1)) (by decide) (by decide) F_ K_ hA_ c10_ (show 2 ≤ ze N9_ 81 38 by first | with_reducible assumption | (exact zo_1268 e38_N9_ htw_.1) | assumption) (show ze N9_ 81 38 ≤ 40 by first | with_reducible assumption | (exact zo_1269 e38_N9_ htw_.2) | assumption) (show zFtR F_ K_ N9_ by exact c11_) (show (((-1)) = 1 ∨ ((-1)) = -1) by first | with_reducible assumption | (decide) | assumption)) rfl rfl rfl (by decide) (Nat.le_of_ble_eq_true rfl) (zdal_p dlC_M_works_135 (i := 15) rfl) ?_
              rintro _ N12_ ⟨rfl, hsN12_, ⟨hp0_N12_, hp1_N12_⟩⟩
              have hf_N12_ : zFr [38, 39, 41] [95, 96, 97] Mz N12_ := hf_N9_.tr hsN12_ (by decide) (by decide)
              have hb0_N12_ : zFr [38, 39, 41] [95, 96, 97] Mz N12_ := hb0_N9_.tr hsN12_ (by decide) (by decide)
              have r38_N12_ := ze_r N12_ 81 38
              have r39_N12_ := ze_r N12_ 81 39
              have e41_N12_ : ze N12_ 81 41 = ze N9_ 81 41 := hsN12_.e (by decide)
              have e42_N12_ : ze N12_ 81 42 = ze N9_ 81 42 := hsN12_.e (by decide)
              show zW l m_M_works (zn Mz + 0, zw Mz + 0) N12_ 70 [some (.ref 81), some (.int (Int32.ofInt a0_)), some (.int (Int32.ofInt v8_))] [] _
              have hac_ := hp1_N12_
              rw [show ze N9_ 81 38 = ze N1_ 81 38 by (exact e38_N9_)] at hac_
              have hzw_ : ∀ e : Int, zrw F_ N9_ 95 e = zrw F_ N1_ 95 e := fun e => zrw_c (fun k_ _ => hsN9_.jg (by decide) (by decide) _)
              rw [hzw_, hzw_] at hac_
              have hac2_ := hac_.m (M := N1_) (by (exact e39_N9_)) (fun x_ => hsN9_.jg (by decide) (by decide) x_)
              have hwk_ := zRI_wkA hF27_ hri_ (by (exact zo_1 hc_4)) hy_ (by (exact zo_1270 hc_19 hx_ hxr_.1 hxr_.2 hy_ p2_ hc_46 hc_59)) (by (exact zo_1271 e41_N12_ hc_4 hvN9_ r41_N9_.2)) (fun i_ => (hsN12_.ie (by decide) (by decide) i_).trans (hsN9_.ie (by decide) (by decide) i_)) (by (exact zo_794 e42_N12_ e42_N9_)) (by (exact zo_1272 e38_N9_ hp0_N12_ htw_.1 htw_.2 r38_N12_.1 r38_N12_.2)) hac2_
              have hwk1_ := hwk_.1
              refine zw_goto (pc := 70) (tgt := 0) (by decide) (zdal_p dlC_M_works_135 (i := 16) rfl) ?_
              refine zW_le [some (.ref 81), some (.int (Int32.ofInt a0_)), none] (⟨rfl, rfl, trivial⟩) ?_
              exact ih_0 N12_ hb0_N12_ hwk1_ (show zWkI F_ K_ (a0_).toNat Mz N12_ by exact zWkI_s hwi_ hwk_.2.1 hwk_.2.2.1 (by (exact zo_1273 hc_19 hv7_ hv8_ p2_ p3_))) (show ((zrS Mz).head? ≠ some 1 → (zrS N12_).head? ≠ some 1) by exact fun _ => hwk_.2.2.2.1) (by (exact zo_1274 e41_N12_ hc_4 hlt_0 hvN9_ r41_N9_.2))
            · skip
              refine zw_iconst (pc := 62) (v := Int32.ofInt 1) (by decide) (zdal_p dlC_M_works_135 (i := 12) rfl) ?_
              refine zw_goto (pc := 63) (tgt := 67) (by decide) (zdal_p dlC_M_works_135 (i := 13) rfl) ?_
              refine zr_callV (hf_N9_.w hW) hf_N9_.x (pc := 67) [.int (Int32.ofInt 1)] [] l_M_334 (c_M_addsF l N9_ (hf_N9_.w hW) 1 (by decide) (by decide) F_ K_ hA_ c10_ (show 2 ≤ ze N9_ 81 38 by first | with_reducible assumption | (exact zo_1268 e38_N9_ htw_.1) | assumption) (show ze N9_ 81 38 ≤ 40 by first | with_reducible assumption | (exact zo_1269 e38_N9_ htw_.2) | assumption) (show zFtR F_ K_ N9_ by exact c11_) (show (1 = 1 ∨ 1 = -1) by first | with_reducible assumption | (decide) | assumption)) rfl rfl rfl (by decide) (Nat.le_of_ble_eq_true rfl) (zdal_p dlC_M_works_135 (i := 15) rfl) ?_
              rintro _ N15_ ⟨rfl, hsN15_, ⟨hp0_N15_, hp1_N15_⟩⟩
              have hf_N15_ : zFr [38, 39, 41] [95, 96, 97] Mz N15_ := hf_N9_.tr hsN15_ (by decide) (by decide)
              have hb0_N15_ : zFr [38, 39, 41] [95, 96, 97] Mz N15_ := hb0_N9_.tr hsN15_ (by decide) (by decide)
              have r38_N15_ := ze_r N15_ 81 38
              have r39_N15_ := ze_r N15_ 81 39
              have e41_N15_ : ze N15_ 81 41 = ze N9_ 81 41 := hsN15_.e (by decide)
              have e42_N15_ : ze N15_ 81 42 = ze N9_ 81 42 := hsN15_.e (by decide)
              show zW l m_M_works (zn Mz + 0, zw Mz + 0) N15_ 70 [some (.ref 81), some (.int (Int32.ofInt a0_)), some (.int (Int32.ofInt v8_))] [] _
              have hac_ := hp1_N15_
              rw [show ze N9_ 81 38 = ze N1_ 81 38 by (exact e38_N9_)] at hac_
              have hzw_ : ∀ e : Int, zrw F_ N9_ 95 e = zrw F_ N1_ 95 e := fun e => zrw_c (fun k_ _ => hsN9_.jg (by decide) (by decide) _)
              rw [hzw_, hzw_] at hac_
              have hac2_ := hac_.m (M := N1_) (by (exact e39_N9_)) (fun x_ => hsN9_.jg (by decide) (by decide) x_)
              have hwk_ := zRI_wkA hF27_ hri_ (by (exact zo_1 hc_4)) hy_ (by omega) (by (exact zo_1271 e41_N15_ hc_4 hvN9_ r41_N9_.2)) (fun i_ => (hsN15_.ie (by decide) (by decide) i_).trans (hsN9_.ie (by decide) (by decide) i_)) (by (exact zo_794 e42_N15_ e42_N9_)) (by (exact zo_1272 e38_N9_ hp0_N15_ htw_.1 htw_.2 r38_N15_.1 r38_N15_.2)) hac2_
              have hwk1_ := hwk_.1
              refine zw_goto (pc := 70) (tgt := 0) (by decide) (zdal_p dlC_M_works_135 (i := 16) rfl) ?_
              refine zW_le [some (.ref 81), some (.int (Int32.ofInt a0_)), none] (⟨rfl, rfl, trivial⟩) ?_
              exact ih_0 N15_ hb0_N15_ hwk1_ (show zWkI F_ K_ (a0_).toNat Mz N15_ by exact zWkI_s hwi_ hwk_.2.1 hwk_.2.2.1 (by (exact zo_1275 hc_19 hc_59 hv7_ hv8_ p2_ p3_))) (show ((zrS Mz).head? ≠ some 1 → (zrS N15_).head? ≠ some 1) by exact fun _ => hwk_.2.2.2.1) (by (exact zo_1274 e41_N15_ hc_4 hlt_0 hvN9_ r41_N9_.2))
          · skip
            refine zw_aload_n (pc := 49) (n := 0) (x := 81) rfl (zdal_p dlC_M_works_135 (i := 5) rfl) ?_
            refine zr_callV (hf_N9_.w hW) hf_N9_.x (pc := 50) [] [] l_M_331 (c_M_timesTwoF l N9_ (hf_N9_.w hW) F_ K_ hA_ c10_ (show 2 ≤ ze N9_ 81 38 by first | with_reducible assumption | (exact zo_1268 e38_N9_ htw_.1) | assumption) (show ze N9_ 81 38 ≤ 40 by first | with_reducible assumption | (exact zo_1269 e38_N9_ htw_.2) | assumption) (show zFtR F_ K_ N9_ by exact c11_)) rfl rfl rfl (by decide) (Nat.le_of_ble_eq_true rfl) (zdal_p dlC_M_works_135 (i := 6) rfl) ?_
            rintro _ N18_ ⟨rfl, hsN18_, ⟨hp0_N18_, hp1_N18_⟩⟩
            have hf_N18_ : zFr [38, 39, 41] [95, 96, 97] Mz N18_ := hf_N9_.tr hsN18_ (by decide) (by decide)
            have hb0_N18_ : zFr [38, 39, 41] [95, 96, 97] Mz N18_ := hb0_N9_.tr hsN18_ (by decide) (by decide)
            have r38_N18_ := ze_r N18_ 81 38
            have r39_N18_ := ze_r N18_ 81 39
            have e41_N18_ : ze N18_ 81 41 = ze N9_ 81 41 := hsN18_.e (by decide)
            have e42_N18_ : ze N18_ 81 42 = ze N9_ 81 42 := hsN18_.e (by decide)
            show zW l m_M_works (zn Mz + 0, zw Mz + 0) N18_ 53 [some (.ref 81), some (.int (Int32.ofInt a0_)), some (.int (Int32.ofInt v8_))] [] _
            have hac_ := hp1_N18_
            rw [show ze N9_ 81 38 = ze N1_ 81 38 by (exact e38_N9_)] at hac_
            have hzw_ : ∀ e : Int, zrw F_ N9_ 95 e = zrw F_ N1_ 95 e := fun e => zrw_c (fun k_ _ => hsN9_.jg (by decide) (by decide) _)
            rw [hzw_, hzw_] at hac_
            have hac2_ := hac_.m (M := N1_) (by (exact e39_N9_)) (fun x_ => hsN9_.jg (by decide) (by decide) x_)
            have hwk_ := zRI_wkB hF27_ hri_ (by (exact zo_1 hc_4)) hy_ (by (exact hc_46)) (by (exact zo_1271 e41_N18_ hc_4 hvN9_ r41_N9_.2)) (fun i_ => (hsN18_.ie (by decide) (by decide) i_).trans (hsN9_.ie (by decide) (by decide) i_)) (by (exact zo_794 e42_N18_ e42_N9_)) (by (exact zo_1272 e38_N9_ hp0_N18_ htw_.1 htw_.2 r38_N18_.1 r38_N18_.2)) hac2_
            have hwk1_ := hwk_.1
            refine zw_goto (pc := 53) (tgt := 70) (by decide) (zdal_p dlC_M_works_135 (i := 7) rfl) ?_
            refine zw_goto (pc := 70) (tgt := 0) (by decide) (zdal_p dlC_M_works_135 (i := 16) rfl) ?_
            refine zW_le [some (.ref 81), some (.int (Int32.ofInt a0_)), none] (⟨rfl, rfl, trivial⟩) ?_
            exact ih_0 N18_ hb0_N18_ hwk1_ (show zWkI F_ K_ (a0_).toNat Mz N18_ by exact zWkI_s hwi_ hwk_.2.1 hwk_.2.2.1 (by (exact zo_1276 hc_46 p2_ p3_))) (show ((zrS Mz).head? ≠ some 1 → (zrS N18_).head? ≠ some 1) by exact fun _ => hwk_.2.2.2.1) (by (exact zo_1274 e41_N18_ hc_4 hlt_0 hvN9_ r41_N9_.2))
  exact lp_0 _ Mz zFr.rf p1_ (show zWkI F_ K_ (a0_).toNat Mz Mz by rfl) (show ((zrS Mz).head? ≠ some 1 → (zrS Mz).head? ≠ some 1) by exact fun q_ => q_) (Nat.lt_succ_self _)
set_option maxHeartbeats 4000000 in
theorem c_M_waitsForF (l : Launch) (Mz : zMem) (hW : zMt Mz) (a0_ : Int) (ha0_a : -2147483648 ≤ a0_) (ha0_b : a0_ < 2147483648) (F_ : Nat) (K_ : Nat → Nat → Int) (hA_ : zTA F_ K_) (b_ : Nat → Int) (n_ : Nat) (p0_ : zRmk F_ K_ Mz) (p1_ : zRb b_ n_ Mz) (p2_ : zRt b_ n_ Mz) (p3_ : zRI F_ K_ 1 Mz) (p4_ : 2 ≤ a0_) (p5_ : a0_ ≤ 4) (p6_ : (zrS Mz).head? ≠ some 1) : zC l m_M_waitsFor 0 0 [.ref 81, .int (Int32.ofInt a0_)] Mz (zpV [3, 4, 5, 6, 11, 38, 39, 41] [95, 96, 97, 100] Mz (fun N => zRt b_ n_ N ∧ zRI F_ K_ 0 N ∧ zrS N = (a0_).toNat :: (zrk F_ K_ (if a0_ = 4 then 4 else 2 : Nat) (zrS Mz).length (zrS Mz, zrW F_ Mz, zrG Mz)).1 ∧ zrW F_ N = (zrk F_ K_ (if a0_ = 4 then 4 else 2 : Nat) (zrS Mz).length (zrS Mz, zrW F_ Mz, zrG Mz)).2.1 ∧ zrG N = (zrk F_ K_ (if a0_ = 4 then 4 else 2 : Nat) (zrS Mz).length (zrS Mz, zrW F_ Mz, zrG Mz)).2.2 ∧ (ze N 81 4).toNat = znx b_ n_ (ze Mz 81 4).toNat)) := by
  refine zC_of (L0 := [some (.ref 81), some (.int (Int32.ofInt a0_))]) md_M_waitsFor (Nat.le_of_ble_eq_true rfl) rfl ?_ zQ0
  have hf : zFr [3, 4, 5, 6, 11, 38, 39, 41] [95, 96, 97, 100] Mz Mz := zFr.rf
  have r_3 := ze_r Mz 81 3
  have r_4 := ze_r Mz 81 4
  have r_38 := ze_r Mz 81 38
  have r_39 := ze_r Mz 81 39
  have r_41 := ze_r Mz 81 41
  have r_42 := ze_r Mz 81 42
  obtain ⟨⟨hF1_, hF27_⟩, hAr_⟩ := id hA_
  obtain ⟨hFc_, hKt_⟩ := id p0_
  refine zw_aload_n (pc := 0) (n := 0) (x := 81) rfl (zdal_p dlC_M_waitsFor_133 (i := 0) rfl) ?_
  refine zw_iload_n (pc := 1) (n := 1) (x := Int32.ofInt a0_) rfl (zdal_p dlC_M_waitsFor_133 (i := 1) rfl) ?_
  refine zw_iconst (pc := 2) (v := Int32.ofInt 4) (by decide) (zdal_p dlC_M_waitsFor_133 (i := 2) rfl) ?_
  refine zr_icmp_ne (pc := 3) (tgt := 10) ⟨ha0_a, ha0_b⟩ ⟨(by decide), (by decide)⟩ (by decide) (zdal_p dlC_M_waitsFor_133 (i := 3) rfl) (fun hc_3 => ?_) (fun hc_3 => ?_)
  · skip
    refine zw_iconst (pc := 10) (v := Int32.ofInt 2) (by decide) (zdal_p dlC_M_waitsFor_133 (i := 6) rfl) ?_
    refine zr_callV (hf.w hW) hf.x (pc := 11) [.int (Int32.ofInt 2)] [] l_M_337 (c_M_worksF l Mz (hf.w hW) 2 (by decide) (by decide) F_ K_ hA_ p0_ p3_ (show 2 ≤ 2 by first | with_reducible assumption | (decide) | assumption) (show 2 ≤ 4 by first | with_reducible assumption | (decide) | assumption)) rfl rfl rfl (by decide) (Nat.le_of_ble_eq_true rfl) (zdal_p dlC_M_waitsFor_133 (i := 7) rfl) ?_
    rintro _ N1_ ⟨rfl, hsN1_, ⟨hp0_N1_, hp1_N1_, hp2_N1_, hp3_N1_⟩⟩
    have hf_N1_ : zFr [3, 4, 5, 6, 11, 38, 39, 41] [95, 96, 97, 100] Mz N1_ := hf.tr hsN1_ (by decide) (by decide)
    have e3_N1_ : ze N1_ 81 3 = ze Mz 81 3 := hsN1_.e (by decide)
    have e4_N1_ : ze N1_ 81 4 = ze Mz 81 4 := hsN1_.e (by decide)
    have r38_N1_ := ze_r N1_ 81 38
    have r39_N1_ := ze_r N1_ 81 39
    have r41_N1_ := ze_r N1_ 81 41
    have e42_N1_ : ze N1_ 81 42 = ze Mz 81 42 := hsN1_.e (by decide)
    have c4_ : zRb b_ n_ N1_ := zRb.fr hsN1_ p1_ (by decide) (by decide)
    have c5_ : zRt b_ n_ N1_ := zRt.fr hsN1_ p2_ (by decide) (by decide)
    show zW l m_M_waitsFor (zn Mz + 0, zw Mz + 0) N1_ 14 [some (.ref 81), some (.int (Int32.ofInt a0_))] [] _
    have hw1_ := hp1_N1_
    have hw2_ := hp2_N1_
    have hw3_ := hp3_N1_ p6_
    have hri_ := hp0_N1_
    have hrb_ := hri_.bd
    have hr0_ := hri_.1
    have hw4_ : (zrS N1_, zrW F_ N1_, zrG N1_) = zrk F_ K_ (if a0_ = 4 then 4 else 2 : Nat) (zrS Mz).length (zrS Mz, zrW F_ Mz, zrG Mz) := by first | (rw [if_pos (by omega)]; exact hw1_) | (rw [if_neg (by (exact zo_1277 hc_3))]; exact hw1_)
    have hzwp_ : ∀ y, (zrS N1_).head? = some y → zwp (a0_).toNat y := by intro y_ h_; have h2_ := hw2_ y_ h_; have h3_ : y_ ≠ 1 := fun q_ => hw3_ (by rw [h_, q_]); exact ⟨fun q_ => by omega, fun q_ => by omega⟩
    refine zw_aload_n (pc := 14) (n := 0) (x := 81) rfl (zdal_p dlC_M_waitsFor_133 (i := 8) rfl) ?_
    refine zr_getF (r := 100) (hf_N1_.w hW) (pc := 15) f_M_72 rfl (zh_100 (hf_N1_.w hW)).1 (zdal_p dlC_M_waitsFor_133 (i := 9) rfl) ?_
    refine zw_aload_n (pc := 18) (n := 0) (x := 81) rfl (zdal_p dlC_M_waitsFor_133 (i := 10) rfl) ?_
    refine zr_getI (hf_N1_.w hW) (pc := 19) f_M_305 rfl (zdal_p dlC_M_waitsFor_133 (i := 11) rfl) ?_
    refine zw_iload_n (pc := 22) (n := 1) (x := Int32.ofInt a0_) rfl (zdal_p dlC_M_waitsFor_133 (i := 12) rfl) ?_
    refine zr_iast (pc := 23) (zh_100 (hf_N1_.w hW)).2 (by decide) (by decide) (by (exact hr0_)) (by (exact zo_1278 hrb_.1 hrb_.2.2.2 r41_N1_.2)) (zdal_p dlC_M_waitsFor_133 (i := 13) rfl) (fun N6_ hN6_ hsN6_ => ?_)
    have hf_N6_ : zFr [3, 4, 5, 6, 11, 38, 39, 41] [95, 96, 97, 100] Mz N6_ := hf_N1_.tr hsN6_ (by decide) (by decide)
    have e3_N6_ : ze N6_ 81 3 = ze N1_ 81 3 := hsN6_.e (by decide)
    have e4_N6_ : ze N6_ 81 4 = ze N1_ 81 4 := hsN6_.e (by decide)
    have e38_N6_ : ze N6_ 81 38 = ze N1_ 81 38 := hsN6_.e (by decide)
    have e39_N6_ : ze N6_ 81 39 = ze N1_ 81 39 := hsN6_.e (by decide)
    have e41_N6_ : ze N6_ 81 41 = ze N1_ 81 41 := hsN6_.e (by decide)
    have e42_N6_ : ze N6_ 81 42 = ze N1_ 81 42 := hsN6_.e (by decide)
    have c8_ : zRb b_ n_ N6_ := zRb.fr hsN6_ c4_ (by decide) (by decide)
    have c9_ : zRt b_ n_ N6_ := zRt.fr hsN6_ c5_ (by decide) (by decide)
    refine zw_aload_n (pc := 24) (n := 0) (x := 81) rfl (zdal_p dlC_M_waitsFor_133 (i := 14) rfl) ?_
    refine zw_dup (pc := 25) rfl (zdal_p dlC_M_waitsFor_133 (i := 15) rfl) ?_
    refine zr_getI (hf_N6_.w hW) (pc := 26) f_M_305 rfl (zdal_p dlC_M_waitsFor_133 (i := 16) rfl) ?_
    refine zw_iconst (pc := 29) (v := Int32.ofInt 1) (by decide) (zdal_p dlC_M_waitsFor_133 (i := 17) rfl) ?_
    refine zr_iadd (pc := 30) (zdal_p dlC_M_waitsFor_133 (i := 18) rfl) ?_
    refine zr_putI (hf_N6_.w hW) (pc := 31) f_M_305 rfl rfl ⟨by (exact zo_1205 e41_N6_ hr0_), by (exact zo_1279 e41_N6_ hrb_.1 hrb_.2.2.2 r41_N1_.2)⟩ rfl rfl (zdal_p dlC_M_waitsFor_133 (i := 19) rfl) (fun N10_ hsN10_ hvN10_ => ?_)
    have hf_N10_ : zFr [3, 4, 5, 6, 11, 38, 39, 41] [95, 96, 97, 100] Mz N10_ := hf_N6_.tr hsN10_ (by decide) (by decide)
    have e3_N10_ : ze N10_ 81 3 = ze N6_ 81 3 := hsN10_.e (by decide)
    have e4_N10_ : ze N10_ 81 4 = ze N6_ 81 4 := hsN10_.e (by decide)
    have e38_N10_ : ze N10_ 81 38 = ze N6_ 81 38 := hsN10_.e (by decide)
    have e39_N10_ : ze N10_ 81 39 = ze N6_ 81 39 := hsN10_.e (by decide)
    have r41_N10_ := ze_r N10_ 81 41
    have e42_N10_ : ze N10_ 81 42 = ze N6_ 81 42 := hsN10_.e (by decide)
    have c12_ : zRb b_ n_ N10_ := zRb.fr hsN10_ c8_ (by decide) (by decide)
    have c13_ : zRt b_ n_ N10_ := zRt.fr hsN10_ c9_ (by decide) (by decide)
    have hps_ := zRI_ps (Mz := N1_) (Nz := N10_) (x := a0_) (e' := 0) hri_ ⟨by (exact zo_1280 p4_), by (exact p5_)⟩ (by first | (rw [if_pos (by (exact p4_))]; done) | (rw [if_pos (by (exact p4_))]; (decide))) hzwp_ (fun q_ => absurd q_ (by (exact zo_1281 p4_))) (by (exact zo_1282 e41_N6_ hr0_ hvN10_ r41_N10_.2)) (by rw [hsN10_.ie (by decide) (by decide)]; exact zs_get hN6_ ⟨by (exact ha0_a), by (exact ha0_b)⟩) (fun i_ hi_ => by rw [hsN10_.ie (by decide) (by decide)]; exact zs_oth hN6_ (by (exact zo_732 hi_))) (by rw [if_neg (by (exact zo_1281 p4_))]; (exact zo_1283 e42_N10_ e42_N6_)) (by (exact zo_794 e38_N10_ e38_N6_)) (by (exact zo_794 e39_N10_ e39_N6_)) (fun k_ => (hsN10_.jg (by decide) (by decide) k_).trans (hsN6_.jg (by decide) (by decide) k_))
    have hri0_ := hps_.1
    have hyt_ := c13_
    have hyx_ := hyt_.x
    refine zw_aload_n (pc := 34) (n := 0) (x := 81) rfl (zdal_p dlC_M_waitsFor_133 (i := 20) rfl) ?_
    refine zr_callV (hf_N10_.w hW) hf_N10_.x (pc := 35) [] [] l_M_193 (c_M_goOnF l N10_ (hf_N10_.w hW) b_ n_ c12_ (show 0 ≤ ze N10_ 81 3 by first | with_reducible assumption | (exact zo_57 hyx_.2.1) | assumption) (show ze N10_ 81 3 ≤ n_ by first | with_reducible assumption | (exact zo_605 hyx_.2.2) | assumption)) rfl rfl rfl (by decide) (Nat.le_of_ble_eq_true rfl) (zdal_p dlC_M_waitsFor_133 (i := 21) rfl) ?_
    rintro _ N14_ ⟨rfl, hsN14_, ⟨hp0_N14_, hp1_N14_⟩⟩
    have hf_N14_ : zFr [3, 4, 5, 6, 11, 38, 39, 41] [95, 96, 97, 100] Mz N14_ := hf_N10_.tr hsN14_ (by decide) (by decide)
    have r3_N14_ := ze_r N14_ 81 3
    have r4_N14_ := ze_r N14_ 81 4
    have e38_N14_ : ze N14_ 81 38 = ze N10_ 81 38 := hsN14_.e (by decide)
    have e39_N14_ : ze N14_ 81 39 = ze N10_ 81 39 := hsN14_.e (by decide)
    have e41_N14_ : ze N14_ 81 41 = ze N10_ 81 41 := hsN14_.e (by decide)
    have e42_N14_ : ze N14_ 81 42 = ze N10_ 81 42 := hsN14_.e (by decide)
    have qzrS_N14_ : zrS N14_ = zrS N10_ := zrS_q hsN14_ (by decide)
    have qzrG_N14_ : zrG N14_ = zrG N10_ := zrG_q hsN14_ (by decide)
    have qzrW_N14_ : zrW F_ N14_ = zrW F_ N10_ := zrW_q hsN14_ (by decide)
    have c18_ : zRI F_ K_ 0 N14_ := zRI.fr hsN14_ hri0_ (by decide) (by decide)
    show zW l m_M_waitsFor (zn Mz + 0, zw Mz + 0) N14_ 38 [some (.ref 81), some (.int (Int32.ofInt a0_))] [] _
    have hnn_ := hyt_.nx hp0_N14_
    exact zr_vret (pc := 38) rfl hf_N14_ ⟨hp1_N14_, c18_, (show zrS N14_ = (a0_).toNat :: (zrk F_ K_ (if a0_ = 4 then 4 else 2 : Nat) (zrS Mz).length (zrS Mz, zrW F_ Mz, zrG Mz)).1 by exact (qzrS_N14_.trans hps_.2.1).trans (congrArg (fun t_ : zTr => (a0_).toNat :: t_.1) hw4_)), (show zrW F_ N14_ = (zrk F_ K_ (if a0_ = 4 then 4 else 2 : Nat) (zrS Mz).length (zrS Mz, zrW F_ Mz, zrG Mz)).2.1 by exact (qzrW_N14_.trans hps_.2.2.1).trans (congrArg (fun t_ : zTr => t_.2.1) hw4_)), (show zrG N14_ = (zrk F_ K_ (if a0_ = 4 then 4 else 2 : Nat) (zrS Mz).length (zrS Mz, zrW F_ Mz, zrG Mz)).2.2 by exact (qzrG_N14_.trans hps_.2.2.2).trans (congrArg (fun t_ : zTr => t_.2.2) hw4_)), (show (ze N14_ 81 4).toNat = znx b_ n_ (ze Mz 81 4).toNat by exact hnn_.2.trans (by rw [show ze N10_ 81 4 = ze Mz 81 4 by (exact zo_1284 e4_N10_ e4_N1_ e4_N6_ hyx_.1.1 r_4.2)]))⟩ (zdal_p dlC_M_waitsFor_133 (i := 22) rfl)
  · skip
    refine zw_iconst (pc := 6) (v := Int32.ofInt 4) (by decide) (zdal_p dlC_M_waitsFor_133 (i := 4) rfl) ?_
    refine zw_goto (pc := 7) (tgt := 11) (by decide) (zdal_p dlC_M_waitsFor_133 (i := 5) rfl) ?_
    refine zr_callV (hf.w hW) hf.x (pc := 11) [.int (Int32.ofInt 4)] [] l_M_337 (c_M_worksF l Mz (hf.w hW) 4 (by decide) (by decide) F_ K_ hA_ p0_ p3_ (show 2 ≤ 4 by first | with_reducible assumption | (decide) | assumption) (show 4 ≤ 4 by first | with_reducible assumption | (decide) | assumption)) rfl rfl rfl (by decide) (Nat.le_of_ble_eq_true rfl) (zdal_p dlC_M_waitsFor_133 (i := 7) rfl) ?_
    rintro _ N19_ ⟨rfl, hsN19_, ⟨hp0_N19_, hp1_N19_, hp2_N19_, hp3_N19_⟩⟩
    have hf_N19_ : zFr [3, 4, 5, 6, 11, 38, 39, 41] [95, 96, 97, 100] Mz N19_ := hf.tr hsN19_ (by decide) (by decide)
    have e3_N19_ : ze N19_ 81 3 = ze Mz 81 3 := hsN19_.e (by decide)
    have e4_N19_ : ze N19_ 81 4 = ze Mz 81 4 := hsN19_.e (by decide)
    have r38_N19_ := ze_r N19_ 81 38
    have r39_N19_ := ze_r N19_ 81 39
    have r41_N19_ := ze_r N19_ 81 41
    have e42_N19_ : ze N19_ 81 42 = ze Mz 81 42 := hsN19_.e (by decide)
    have c22_ : zRb b_ n_ N19_ := zRb.fr hsN19_ p1_ (by decide) (by decide)
    have c23_ : zRt b_ n_ N19_ := zRt.fr hsN19_ p2_ (by decide) (by decide)
    show zW l m_M_waitsFor (zn Mz + 0, zw Mz + 0) N19_ 14 [some (.ref 81), some (.int (Int32.ofInt a0_))] [] _
    have hw1_ := hp1_N19_
    have hw2_ := hp2_N19_
    have hw3_ := hp3_N19_ p6_
    have hri_ := hp0_N19_
    have hrb_ := hri_.bd
    have hr0_ := hri_.1
    have hw4_ : (zrS N19_, zrW F_ N19_, zrG N19_) = zrk F_ K_ (if a0_ = 4 then 4 else 2 : Nat) (zrS Mz).length (zrS Mz, zrW F_ Mz, zrG Mz) := by first | (rw [if_pos (by (exact hc_3))]; exact hw1_) | (rw [if_neg (by omega)]; exact hw1_)
    have hzwp_ : ∀ y, (zrS N19_).head? = some y → zwp (a0_).toNat y := by intro y_ h_; have h2_ := hw2_ y_ h_; have h3_ : y_ ≠ 1 := fun q_ => hw3_ (by rw [h_, q_]); exact ⟨fun q_ => by omega, fun q_ => by omega⟩
    refine zw_aload_n (pc := 14) (n := 0) (x := 81) rfl (zdal_p dlC_M_waitsFor_133 (i := 8) rfl) ?_
    refine zr_getF (r := 100) (hf_N19_.w hW) (pc := 15) f_M_72 rfl (zh_100 (hf_N19_.w hW)).1 (zdal_p dlC_M_waitsFor_133 (i := 9) rfl) ?_
    refine zw_aload_n (pc := 18) (n := 0) (x := 81) rfl (zdal_p dlC_M_waitsFor_133 (i := 10) rfl) ?_
    refine zr_getI (hf_N19_.w hW) (pc := 19) f_M_305 rfl (zdal_p dlC_M_waitsFor_133 (i := 11) rfl) ?_
    refine zw_iload_n (pc := 22) (n := 1) (x := Int32.ofInt a0_) rfl (zdal_p dlC_M_waitsFor_133 (i := 12) rfl) ?_
    refine zr_iast (pc := 23) (zh_100 (hf_N19_.w hW)).2 (by decide) (by decide) (by (exact hr0_)) (by (exact zo_1278 hrb_.1 hrb_.2.2.2 r41_N19_.2)) (zdal_p dlC_M_waitsFor_133 (i := 13) rfl) (fun N24_ hN24_ hsN24_ => ?_)
    have hf_N24_ : zFr [3, 4, 5, 6, 11, 38, 39, 41] [95, 96, 97, 100] Mz N24_ := hf_N19_.tr hsN24_ (by decide) (by decide)
    have e3_N24_ : ze N24_ 81 3 = ze N19_ 81 3 := hsN24_.e (by decide)
    have e4_N24_ : ze N24_ 81 4 = ze N19_ 81 4 := hsN24_.e (by decide)
    have e38_N24_ : ze N24_ 81 38 = ze N19_ 81 38 := hsN24_.e (by decide)
    have e39_N24_ : ze N24_ 81 39 = ze N19_ 81 39 := hsN24_.e (by decide)
    have e41_N24_ : ze N24_ 81 41 = ze N19_ 81 41 := hsN24_.e (by decide)
    have e42_N24_ : ze N24_ 81 42 = ze N19_ 81 42 := hsN24_.e (by decide)
    have c26_ : zRb b_ n_ N24_ := zRb.fr hsN24_ c22_ (by decide) (by decide)
    have c27_ : zRt b_ n_ N24_ := zRt.fr hsN24_ c23_ (by decide) (by decide)
    refine zw_aload_n (pc := 24) (n := 0) (x := 81) rfl (zdal_p dlC_M_waitsFor_133 (i := 14) rfl) ?_
    refine zw_dup (pc := 25) rfl (zdal_p dlC_M_waitsFor_133 (i := 15) rfl) ?_
    refine zr_getI (hf_N24_.w hW) (pc := 26) f_M_305 rfl (zdal_p dlC_M_waitsFor_133 (i := 16) rfl) ?_
    refine zw_iconst (pc := 29) (v := Int32.ofInt 1) (by decide) (zdal_p dlC_M_waitsFor_133 (i := 17) rfl) ?_
    refine zr_iadd (pc := 30) (zdal_p dlC_M_waitsFor_133 (i := 18) rfl) ?_
    refine zr_putI (hf_N24_.w hW) (pc := 31) f_M_305 rfl rfl ⟨by (exact zo_1205 e41_N24_ hr0_), by (exact zo_1279 e41_N24_ hrb_.1 hrb_.2.2.2 r41_N19_.2)⟩ rfl rfl (zdal_p dlC_M_waitsFor_133 (i := 19) rfl) (fun N28_ hsN28_ hvN28_ => ?_)
    have hf_N28_ : zFr [3, 4, 5, 6, 11, 38, 39, 41] [95, 96, 97, 100] Mz N28_ := hf_N24_.tr hsN28_ (by decide) (by decide)
    have e3_N28_ : ze N28_ 81 3 = ze N24_ 81 3 := hsN28_.e (by decide)
    have e4_N28_ : ze N28_ 81 4 = ze N24_ 81 4 := hsN28_.e (by decide)
    have e38_N28_ : ze N28_ 81 38 = ze N24_ 81 38 := hsN28_.e (by decide)
    have e39_N28_ : ze N28_ 81 39 = ze N24_ 81 39 := hsN28_.e (by decide)
    have r41_N28_ := ze_r N28_ 81 41
    have e42_N28_ : ze N28_ 81 42 = ze N24_ 81 42 := hsN28_.e (by decide)
    have c30_ : zRb b_ n_ N28_ := zRb.fr hsN28_ c26_ (by decide) (by decide)
    have c31_ : zRt b_ n_ N28_ := zRt.fr hsN28_ c27_ (by decide) (by decide)
    have hps_ := zRI_ps (Mz := N19_) (Nz := N28_) (x := a0_) (e' := 0) hri_ ⟨by (exact zo_1280 p4_), by (exact p5_)⟩ (by first | (rw [if_pos (by (exact p4_))]; done) | (rw [if_pos (by (exact p4_))]; (decide))) hzwp_ (fun q_ => absurd q_ (by (exact zo_1281 p4_))) (by (exact zo_1282 e41_N24_ hr0_ hvN28_ r41_N28_.2)) (by rw [hsN28_.ie (by decide) (by decide)]; exact zs_get hN24_ ⟨by (exact ha0_a), by (exact ha0_b)⟩) (fun i_ hi_ => by rw [hsN28_.ie (by decide) (by decide)]; exact zs_oth hN24_ (by (exact zo_732 hi_))) (by rw [if_neg (by (exact zo_1281 p4_))]; (exact zo_1285 e42_N24_ e42_N28_)) (by (exact zo_53 e38_N24_ e38_N28_)) (by (exact zo_53 e39_N24_ e39_N28_)) (fun k_ => (hsN28_.jg (by decide) (by decide) k_).trans (hsN24_.jg (by decide) (by decide) k_))
    have hri0_ := hps_.1
    have hyt_ := c31_
    have hyx_ := hyt_.x
    refine zw_aload_n (pc := 34) (n := 0) (x := 81) rfl (zdal_p dlC_M_waitsFor_133 (i := 20) rfl) ?_
    refine zr_callV (hf_N28_.w hW) hf_N28_.x (pc := 35) [] [] l_M_193 (c_M_goOnF l N28_ (hf_N28_.w hW) b_ n_ c30_ (show 0 ≤ ze N28_ 81 3 by first | with_reducible assumption | (exact zo_57 hyx_.2.1) | assumption) (show ze N28_ 81 3 ≤ n_ by first | with_reducible assumption | (exact zo_605 hyx_.2.2) | assumption)) rfl rfl rfl (by decide) (Nat.le_of_ble_eq_true rfl) (zdal_p dlC_M_waitsFor_133 (i := 21) rfl) ?_
    rintro _ N32_ ⟨rfl, hsN32_, ⟨hp0_N32_, hp1_N32_⟩⟩
    have hf_N32_ : zFr [3, 4, 5, 6, 11, 38, 39, 41] [95, 96, 97, 100] Mz N32_ := hf_N28_.tr hsN32_ (by decide) (by decide)
    have r3_N32_ := ze_r N32_ 81 3
    have r4_N32_ := ze_r N32_ 81 4
    have e38_N32_ : ze N32_ 81 38 = ze N28_ 81 38 := hsN32_.e (by decide)
    have e39_N32_ : ze N32_ 81 39 = ze N28_ 81 39 := hsN32_.e (by decide)
    have e41_N32_ : ze N32_ 81 41 = ze N28_ 81 41 := hsN32_.e (by decide)
    have e42_N32_ : ze N32_ 81 42 = ze N28_ 81 42 := hsN32_.e (by decide)
    have qzrS_N32_ : zrS N32_ = zrS N28_ := zrS_q hsN32_ (by decide)
    have qzrG_N32_ : zrG N32_ = zrG N28_ := zrG_q hsN32_ (by decide)
    have qzrW_N32_ : zrW F_ N32_ = zrW F_ N28_ := zrW_q hsN32_ (by decide)
    have c36_ : zRI F_ K_ 0 N32_ := zRI.fr hsN32_ hri0_ (by decide) (by decide)
    show zW l m_M_waitsFor (zn Mz + 0, zw Mz + 0) N32_ 38 [some (.ref 81), some (.int (Int32.ofInt a0_))] [] _
    have hnn_ := hyt_.nx hp0_N32_
    exact zr_vret (pc := 38) rfl hf_N32_ ⟨hp1_N32_, c36_, (show zrS N32_ = (a0_).toNat :: (zrk F_ K_ (if a0_ = 4 then 4 else 2 : Nat) (zrS Mz).length (zrS Mz, zrW F_ Mz, zrG Mz)).1 by exact (qzrS_N32_.trans hps_.2.1).trans (congrArg (fun t_ : zTr => (a0_).toNat :: t_.1) hw4_)), (show zrW F_ N32_ = (zrk F_ K_ (if a0_ = 4 then 4 else 2 : Nat) (zrS Mz).length (zrS Mz, zrW F_ Mz, zrG Mz)).2.1 by exact (qzrW_N32_.trans hps_.2.2.1).trans (congrArg (fun t_ : zTr => t_.2.1) hw4_)), (show zrG N32_ = (zrk F_ K_ (if a0_ = 4 then 4 else 2 : Nat) (zrS Mz).length (zrS Mz, zrW F_ Mz, zrG Mz)).2.2 by exact (qzrG_N32_.trans hps_.2.2.2).trans (congrArg (fun t_ : zTr => t_.2.2) hw4_)), (show (ze N32_ 81 4).toNat = znx b_ n_ (ze Mz 81 4).toNat by exact hnn_.2.trans (by rw [show ze N28_ 81 4 = ze Mz 81 4 by (exact zo_606 e4_N19_ e4_N24_ e4_N28_ hyx_.1.1 r_4.2)]))⟩ (zdal_p dlC_M_waitsFor_133 (i := 22) rfl)
set_option maxHeartbeats 4000000 in
theorem c_M_goesOnF (l : Launch) (Mz : zMem) (hW : zMt Mz) (F_ : Nat) (K_ : Nat → Nat → Int) (hA_ : zTA F_ K_) (b_ : Nat → Int) (n_ : Nat) (nm_ : List (Int × (Nat → Int))) (p0_ : zRmk F_ K_ Mz) (p1_ : zRb b_ n_ Mz) (p2_ : zRt b_ n_ Mz) (p3_ : zRI F_ K_ 1 Mz) (p4_ : (zrS Mz).head? ≠ some 1) (p5_ : ze Mz 81 7 = 0) : zC l m_M_goesOn 0 0 [.ref 81] Mz (zpI [3, 4, 5, 6, 11, 38, 39, 41] [95, 96, 97, 100] Mz (fun v N => zRt b_ n_ N ∧ ze N 81 43 = ze Mz 81 43 ∧ (((v = 1 ∧ zRea (zfs b_ n_ F_ K_ nm_) (zRst 2 F_ Mz) (zRst 0 F_ N) ∧ zRI F_ K_ 0 N ∧ ze Mz 81 4 < ze N 81 4) ∨ (v = 0 ∧ zRea (zfs b_ n_ F_ K_ nm_) (zRst 2 F_ Mz) (zRst 2 F_ N) ∧ zRI F_ K_ 1 N ∧ (zrS N).head? ≠ some 1 ∧ ¬ (zisg b_ n_ (ze N 81 4).toNat 42 ∨ zisg b_ n_ (ze N 81 4).toNat 43 ∨ zisg b_ n_ (ze N 81 4).toNat 45) ∧ ze N 81 4 = ze Mz 81 4))))) := by
  refine zC_of (L0 := [some (.ref 81)]) md_M_goesOn (Nat.le_of_ble_eq_true rfl) rfl ?_ zQ0
  have hf : zFr [3, 4, 5, 6, 11, 38, 39, 41] [95, 96, 97, 100] Mz Mz := zFr.rf
  have r_4 := ze_r Mz 81 4
  have r_6 := ze_r Mz 81 6
  have r_7 := ze_r Mz 81 7
  have r_43 := ze_r Mz 81 43
  obtain ⟨t1_, t2_, t3_, t4_, t5_, t6_⟩ := id p2_
  refine zw_aload_n (pc := 0) (n := 0) (x := 81) rfl (zdal_p dlC_M_goesOn_131 (i := 0) rfl) ?_
  refine zw_bipush (pc := 1) (v := Int32.ofInt 42) (by decide) (zdal_p dlC_M_goesOn_131 (i := 1) rfl) ?_
  refine zr_callV (hf.w hW) hf.x (pc := 3) [.int (Int32.ofInt 42)] [] l_M_187 (c_M_isSignHereF l Mz (hf.w hW) 42 (by decide) (by decide) b_ n_ p2_) rfl rfl rfl (by decide) (Nat.le_of_ble_eq_true rfl) (zdal_p dlC_M_goesOn_131 (i := 2) rfl) ?_
  rintro _ N1_ ⟨v2_, rfl, ⟨hv2_a, hv2_b⟩, hsN1_, hp0_N1_⟩
  obtain rfl := hsN1_.eq.symm
  replace hp0_N1_ : ((v2_ = 1 ∧ ze Mz 81 7 = 0 ∧ zisg b_ n_ (ze Mz 81 4).toNat 42) ∨ (v2_ = 0 ∧ (ze Mz 81 7 = 0 → ¬ zisg b_ n_ (ze Mz 81 4).toNat 42))) := hp0_N1_
  rcases hp0_N1_ with ⟨rfl, ha3_0_hp0_N1_, ha3_1_hp0_N1_⟩ | ⟨rfl, ha3_0_hp0_N1_⟩
  · skip
    have hk3_ : zkd b_ n_ (ze Mz 81 4).toNat = 3 := ha3_1_hp0_N1_.1
    have hkb_ : b_ (ze Mz 81 4).toNat = 42 := ha3_1_hp0_N1_.2
    have hnx_ := znx_g (b := b_) (n := n_) (s := (ze Mz 81 4).toNat) (by omega)
    show zW l m_M_goesOn (zn Mz + 0, zw Mz + 0) Mz 6 [some (.ref 81)] [.int (Int32.ofInt 1)] _
    refine zr_if_eq (pc := 6) (tgt := 16) ⟨(by decide), (by decide)⟩ (by decide) (zdal_p dlC_M_goesOn_131 (i := 3) rfl) (fun hc_6 => ?_) (fun hc_6 => ?_)
    · skip
      exact absurd hc_6 (by decide)
    · skip
      refine zw_aload_n (pc := 9) (n := 0) (x := 81) rfl (zdal_p dlC_M_goesOn_131 (i := 4) rfl) ?_
      refine zw_iconst (pc := 10) (v := Int32.ofInt 4) (by decide) (zdal_p dlC_M_goesOn_131 (i := 5) rfl) ?_
      refine zr_callV (hf.w hW) hf.x (pc := 11) [.int (Int32.ofInt 4)] [] l_M_340 (c_M_waitsForF l Mz (hf.w hW) 4 (by decide) (by decide) F_ K_ hA_ b_ n_ p0_ p1_ p2_ p3_ (show 2 ≤ 4 by first | with_reducible assumption | (decide) | assumption) (show 4 ≤ 4 by first | with_reducible assumption | (decide) | assumption) (show (zrS Mz).head? ≠ some 1 by first | with_reducible assumption | assumption | omega)) rfl rfl rfl (by decide) (Nat.le_of_ble_eq_true rfl) (zdal_p dlC_M_goesOn_131 (i := 6) rfl) ?_
      rintro _ N3_ ⟨rfl, hsN3_, ⟨hp0_N3_, hp1_N3_, hp2_N3_, hp3_N3_, hp4_N3_, hp5_N3_⟩⟩
      have hf_N3_ : zFr [3, 4, 5, 6, 11, 38, 39, 41] [95, 96, 97, 100] Mz N3_ := hf.tr hsN3_ (by decide) (by decide)
      have r4_N3_ := ze_r N3_ 81 4
      have r6_N3_ := ze_r N3_ 81 6
      have e7_N3_ : ze N3_ 81 7 = ze Mz 81 7 := hsN3_.e (by decide)
      have e43_N3_ : ze N3_ 81 43 = ze Mz 81 43 := hsN3_.e (by decide)
      show zW l m_M_goesOn (zn Mz + 0, zw Mz + 0) N3_ 14 [some (.ref 81)] [] _
      have hst_ := zRea.st (zr2_x (F := F_) (K := K_) (nm := nm_) hk3_ (by omega) hp2_N3_ hp3_N3_ hp4_N3_ (by (exact e43_N3_)) hp5_N3_)
      have hpx_ := hp5_N3_
      have hrz_ := hp1_N3_
      refine zw_iconst (pc := 14) (v := Int32.ofInt 1) (by decide) (zdal_p dlC_M_goesOn_131 (i := 7) rfl) ?_
      exact zr_iret (pc := 15) (ty := .boolean) rfl (z_narB (by omega)) ⟨by omega, by omega⟩ hf_N3_ ⟨hp0_N3_, (show ze N3_ 81 43 = ze Mz 81 43 by first | with_reducible assumption | assumption | omega), (show ((1 = 1 ∧ zRea (zfs b_ n_ F_ K_ nm_) (zRst 2 F_ Mz) (zRst 0 F_ N3_) ∧ zRI F_ K_ 0 N3_ ∧ ze Mz 81 4 < ze N3_ 81 4) ∨ (1 = 0 ∧ zRea (zfs b_ n_ F_ K_ nm_) (zRst 2 F_ Mz) (zRst 2 F_ N3_) ∧ zRI F_ K_ 1 N3_ ∧ (zrS N3_).head? ≠ some 1 ∧ ¬ (zisg b_ n_ (ze N3_ 81 4).toNat 42 ∨ zisg b_ n_ (ze N3_ 81 4).toNat 43 ∨ zisg b_ n_ (ze N3_ 81 4).toNat 45) ∧ ze N3_ 81 4 = ze Mz 81 4)) from Or.inl (⟨(show 1 = 1 by first | rfl | exact hst_ | exact hrz_ | omega), (show zRea (zfs b_ n_ F_ K_ nm_) (zRst 2 F_ Mz) (zRst 0 F_ N3_) by first | rfl | exact hst_ | exact hrz_ | omega), (show zRI F_ K_ 0 N3_ by first | rfl | exact hst_ | exact hrz_ | omega), (show ze Mz 81 4 < ze N3_ 81 4 by first | rfl | exact hst_ | exact hrz_ | omega)⟩))⟩ (zdal_p dlC_M_goesOn_131 (i := 8) rfl)
  · skip
    have hm0_ := ha3_0_hp0_N1_ p5_
    show zW l m_M_goesOn (zn Mz + 0, zw Mz + 0) Mz 6 [some (.ref 81)] [.int (Int32.ofInt 0)] _
    refine zr_if_eq (pc := 6) (tgt := 16) ⟨(by decide), (by decide)⟩ (by decide) (zdal_p dlC_M_goesOn_131 (i := 3) rfl) (fun hc_6 => ?_) (fun hc_6 => ?_)
    · skip
      refine zw_aload_n (pc := 16) (n := 0) (x := 81) rfl (zdal_p dlC_M_goesOn_131 (i := 9) rfl) ?_
      refine zw_bipush (pc := 17) (v := Int32.ofInt 43) (by decide) (zdal_p dlC_M_goesOn_131 (i := 10) rfl) ?_
      refine zr_callV (hf.w hW) hf.x (pc := 19) [.int (Int32.ofInt 43)] [] l_M_187 (c_M_isSignHereF l Mz (hf.w hW) 43 (by decide) (by decide) b_ n_ p2_) rfl rfl rfl (by decide) (Nat.le_of_ble_eq_true rfl) (zdal_p dlC_M_goesOn_131 (i := 11) rfl) ?_
      rintro _ N7_ ⟨v8_, rfl, ⟨hv8_a, hv8_b⟩, hsN7_, hp0_N7_⟩
      obtain rfl := hsN7_.eq.symm
      replace hp0_N7_ : ((v8_ = 1 ∧ ze Mz 81 7 = 0 ∧ zisg b_ n_ (ze Mz 81 4).toNat 43) ∨ (v8_ = 0 ∧ (ze Mz 81 7 = 0 → ¬ zisg b_ n_ (ze Mz 81 4).toNat 43))) := hp0_N7_
      rcases hp0_N7_ with ⟨rfl, ha19_0_hp0_N7_, ha19_1_hp0_N7_⟩ | ⟨rfl, ha19_0_hp0_N7_⟩
      · skip
        have hk3_ : zkd b_ n_ (ze Mz 81 4).toNat = 3 := ha19_1_hp0_N7_.1
        have hkb_ : b_ (ze Mz 81 4).toNat = 43 := ha19_1_hp0_N7_.2
        have hv6_ := t6_ hk3_
        have hnx_ := znx_g (b := b_) (n := n_) (s := (ze Mz 81 4).toNat) (by omega)
        show zW l m_M_goesOn (zn Mz + 0, zw Mz + 0) Mz 22 [some (.ref 81)] [.int (Int32.ofInt 1)] _
        refine zr_if_ne (pc := 22) (tgt := 34) ⟨(by decide), (by decide)⟩ (by decide) (zdal_p dlC_M_goesOn_131 (i := 12) rfl) (fun hc_22 => ?_) (fun hc_22 => ?_)
        · skip
          refine zw_aload_n (pc := 34) (n := 0) (x := 81) rfl (zdal_p dlC_M_goesOn_131 (i := 17) rfl) ?_
          refine zw_aload_n (pc := 35) (n := 0) (x := 81) rfl (zdal_p dlC_M_goesOn_131 (i := 18) rfl) ?_
          refine zr_getI (hf.w hW) (pc := 36) f_M_152 rfl (zdal_p dlC_M_goesOn_131 (i := 19) rfl) ?_
          refine zw_bipush (pc := 39) (v := Int32.ofInt 43) (by decide) (zdal_p dlC_M_goesOn_131 (i := 20) rfl) ?_
          refine zr_icmp_ne (pc := 41) (tgt := 48) ⟨(ze_r Mz 81 6).1, (ze_r Mz 81 6).2⟩ ⟨(by decide), (by decide)⟩ (by decide) (zdal_p dlC_M_goesOn_131 (i := 21) rfl) (fun hc_41 => ?_) (fun hc_41 => ?_)
          · skip
            refine zw_iconst (pc := 48) (v := Int32.ofInt 3) (by decide) (zdal_p dlC_M_goesOn_132 (i := 0) rfl) ?_
            refine zr_callV (hf.w hW) hf.x (pc := 49) [.int (Int32.ofInt 3)] [] l_M_340 (c_M_waitsForF l Mz (hf.w hW) 3 (by decide) (by decide) F_ K_ hA_ b_ n_ p0_ p1_ p2_ p3_ (show 2 ≤ 3 by first | with_reducible assumption | (decide) | assumption) (show 3 ≤ 4 by first | with_reducible assumption | (decide) | assumption) (show (zrS Mz).head? ≠ some 1 by first | with_reducible assumption | assumption | omega)) rfl rfl rfl (by decide) (Nat.le_of_ble_eq_true rfl) (zdal_p dlC_M_goesOn_132 (i := 1) rfl) ?_
            rintro _ N9_ ⟨rfl, hsN9_, ⟨hp0_N9_, hp1_N9_, hp2_N9_, hp3_N9_, hp4_N9_, hp5_N9_⟩⟩
            have hf_N9_ : zFr [3, 4, 5, 6, 11, 38, 39, 41] [95, 96, 97, 100] Mz N9_ := hf.tr hsN9_ (by decide) (by decide)
            have r4_N9_ := ze_r N9_ 81 4
            have r6_N9_ := ze_r N9_ 81 6
            have e7_N9_ : ze N9_ 81 7 = ze Mz 81 7 := hsN9_.e (by decide)
            have e43_N9_ : ze N9_ 81 43 = ze Mz 81 43 := hsN9_.e (by decide)
            show zW l m_M_goesOn (zn Mz + 0, zw Mz + 0) N9_ 52 [some (.ref 81)] [] _
            have hst_ := zRea.st (zr2_x (F := F_) (K := K_) (nm := nm_) hk3_ (by omega) hp2_N9_ hp3_N9_ hp4_N9_ (by (exact e43_N9_)) hp5_N9_)
            have hpx_ := hp5_N9_
            have hrz_ := hp1_N9_
            refine zw_iconst (pc := 52) (v := Int32.ofInt 1) (by decide) (zdal_p dlC_M_goesOn_132 (i := 2) rfl) ?_
            exact zr_iret (pc := 53) (ty := .boolean) rfl (z_narB (by omega)) ⟨by omega, by omega⟩ hf_N9_ ⟨hp0_N9_, (show ze N9_ 81 43 = ze Mz 81 43 by first | with_reducible assumption | assumption | omega), (show ((1 = 1 ∧ zRea (zfs b_ n_ F_ K_ nm_) (zRst 2 F_ Mz) (zRst 0 F_ N9_) ∧ zRI F_ K_ 0 N9_ ∧ ze Mz 81 4 < ze N9_ 81 4) ∨ (1 = 0 ∧ zRea (zfs b_ n_ F_ K_ nm_) (zRst 2 F_ Mz) (zRst 2 F_ N9_) ∧ zRI F_ K_ 1 N9_ ∧ (zrS N9_).head? ≠ some 1 ∧ ¬ (zisg b_ n_ (ze N9_ 81 4).toNat 42 ∨ zisg b_ n_ (ze N9_ 81 4).toNat 43 ∨ zisg b_ n_ (ze N9_ 81 4).toNat 45) ∧ ze N9_ 81 4 = ze Mz 81 4)) from Or.inl (⟨(show 1 = 1 by first | rfl | exact hst_ | exact hrz_ | omega), (show zRea (zfs b_ n_ F_ K_ nm_) (zRst 2 F_ Mz) (zRst 0 F_ N9_) by first | rfl | exact hst_ | exact hrz_ | omega), (show zRI F_ K_ 0 N9_ by first | rfl | exact hst_ | exact hrz_ | omega), (show ze Mz 81 4 < ze N9_ 81 4 by first | rfl | exact hst_ | exact hrz_ | omega)⟩))⟩ (zdal_p dlC_M_goesOn_132 (i := 3) rfl)
          · skip
            refine zw_iconst (pc := 44) (v := Int32.ofInt 2) (by decide) (zdal_p dlC_M_goesOn_131 (i := 22) rfl) ?_
            refine zw_goto (pc := 45) (tgt := 49) (by decide) (zdal_p dlC_M_goesOn_131 (i := 23) rfl) ?_
            refine zr_callV (hf.w hW) hf.x (pc := 49) [.int (Int32.ofInt 2)] [] l_M_340 (c_M_waitsForF l Mz (hf.w hW) 2 (by decide) (by decide) F_ K_ hA_ b_ n_ p0_ p1_ p2_ p3_ (show 2 ≤ 2 by first | with_reducible assumption | (decide) | assumption) (show 2 ≤ 4 by first | with_reducible assumption | (decide) | assumption) (show (zrS Mz).head? ≠ some 1 by first | with_reducible assumption | assumption | omega)) rfl rfl rfl (by decide) (Nat.le_of_ble_eq_true rfl) (zdal_p dlC_M_goesOn_132 (i := 1) rfl) ?_
            rintro _ N13_ ⟨rfl, hsN13_, ⟨hp0_N13_, hp1_N13_, hp2_N13_, hp3_N13_, hp4_N13_, hp5_N13_⟩⟩
            have hf_N13_ : zFr [3, 4, 5, 6, 11, 38, 39, 41] [95, 96, 97, 100] Mz N13_ := hf.tr hsN13_ (by decide) (by decide)
            have r4_N13_ := ze_r N13_ 81 4
            have r6_N13_ := ze_r N13_ 81 6
            have e7_N13_ : ze N13_ 81 7 = ze Mz 81 7 := hsN13_.e (by decide)
            have e43_N13_ : ze N13_ 81 43 = ze Mz 81 43 := hsN13_.e (by decide)
            show zW l m_M_goesOn (zn Mz + 0, zw Mz + 0) N13_ 52 [some (.ref 81)] [] _
            have hst_ := zRea.st (zr2_x (F := F_) (K := K_) (nm := nm_) hk3_ (by omega) hp2_N13_ hp3_N13_ hp4_N13_ (by (exact e43_N13_)) hp5_N13_)
            have hpx_ := hp5_N13_
            have hrz_ := hp1_N13_
            refine zw_iconst (pc := 52) (v := Int32.ofInt 1) (by decide) (zdal_p dlC_M_goesOn_132 (i := 2) rfl) ?_
            exact zr_iret (pc := 53) (ty := .boolean) rfl (z_narB (by omega)) ⟨by omega, by omega⟩ hf_N13_ ⟨hp0_N13_, (show ze N13_ 81 43 = ze Mz 81 43 by first | with_reducible assumption | assumption | omega), (show ((1 = 1 ∧ zRea (zfs b_ n_ F_ K_ nm_) (zRst 2 F_ Mz) (zRst 0 F_ N13_) ∧ zRI F_ K_ 0 N13_ ∧ ze Mz 81 4 < ze N13_ 81 4) ∨ (1 = 0 ∧ zRea (zfs b_ n_ F_ K_ nm_) (zRst 2 F_ Mz) (zRst 2 F_ N13_) ∧ zRI F_ K_ 1 N13_ ∧ (zrS N13_).head? ≠ some 1 ∧ ¬ (zisg b_ n_ (ze N13_ 81 4).toNat 42 ∨ zisg b_ n_ (ze N13_ 81 4).toNat 43 ∨ zisg b_ n_ (ze N13_ 81 4).toNat 45) ∧ ze N13_ 81 4 = ze Mz 81 4)) from Or.inl (⟨(show 1 = 1 by first | rfl | exact hst_ | exact hrz_ | omega), (show zRea (zfs b_ n_ F_ K_ nm_) (zRst 2 F_ Mz) (zRst 0 F_ N13_) by first | rfl | exact hst_ | exact hrz_ | omega), (show zRI F_ K_ 0 N13_ by first | rfl | exact hst_ | exact hrz_ | omega), (show ze Mz 81 4 < ze N13_ 81 4 by first | rfl | exact hst_ | exact hrz_ | omega)⟩))⟩ (zdal_p dlC_M_goesOn_132 (i := 3) rfl)
        · skip
          exact absurd hc_22 (by decide)
      · skip
        have hm1_ := ha19_0_hp0_N7_ p5_
        show zW l m_M_goesOn (zn Mz + 0, zw Mz + 0) Mz 22 [some (.ref 81)] [.int (Int32.ofInt 0)] _
        refine zr_if_ne (pc := 22) (tgt := 34) ⟨(by decide), (by decide)⟩ (by decide) (zdal_p dlC_M_goesOn_131 (i := 12) rfl) (fun hc_22 => ?_) (fun hc_22 => ?_)
        · skip
          exact absurd hc_22 (by decide)
        · skip
          refine zw_aload_n (pc := 25) (n := 0) (x := 81) rfl (zdal_p dlC_M_goesOn_131 (i := 13) rfl) ?_
          refine zw_bipush (pc := 26) (v := Int32.ofInt 45) (by decide) (zdal_p dlC_M_goesOn_131 (i := 14) rfl) ?_
          refine zr_callV (hf.w hW) hf.x (pc := 28) [.int (Int32.ofInt 45)] [] l_M_187 (c_M_isSignHereF l Mz (hf.w hW) 45 (by decide) (by decide) b_ n_ p2_) rfl rfl rfl (by decide) (Nat.le_of_ble_eq_true rfl) (zdal_p dlC_M_goesOn_131 (i := 15) rfl) ?_
          rintro _ N17_ ⟨v18_, rfl, ⟨hv18_a, hv18_b⟩, hsN17_, hp0_N17_⟩
          obtain rfl := hsN17_.eq.symm
          replace hp0_N17_ : ((v18_ = 1 ∧ ze Mz 81 7 = 0 ∧ zisg b_ n_ (ze Mz 81 4).toNat 45) ∨ (v18_ = 0 ∧ (ze Mz 81 7 = 0 → ¬ zisg b_ n_ (ze Mz 81 4).toNat 45))) := hp0_N17_
          rcases hp0_N17_ with ⟨rfl, ha28_0_hp0_N17_, ha28_1_hp0_N17_⟩ | ⟨rfl, ha28_0_hp0_N17_⟩
          · skip
            have hk3_ : zkd b_ n_ (ze Mz 81 4).toNat = 3 := ha28_1_hp0_N17_.1
            have hkb_ : b_ (ze Mz 81 4).toNat = 45 := ha28_1_hp0_N17_.2
            have hv6_ := t6_ hk3_
            have hnx_ := znx_g (b := b_) (n := n_) (s := (ze Mz 81 4).toNat) (by omega)
            show zW l m_M_goesOn (zn Mz + 0, zw Mz + 0) Mz 31 [some (.ref 81)] [.int (Int32.ofInt 1)] _
            refine zr_if_eq (pc := 31) (tgt := 54) ⟨(by decide), (by decide)⟩ (by decide) (zdal_p dlC_M_goesOn_131 (i := 16) rfl) (fun hc_31 => ?_) (fun hc_31 => ?_)
            · skip
              exact absurd hc_31 (by decide)
            · skip
              refine zw_aload_n (pc := 34) (n := 0) (x := 81) rfl (zdal_p dlC_M_goesOn_131 (i := 17) rfl) ?_
              refine zw_aload_n (pc := 35) (n := 0) (x := 81) rfl (zdal_p dlC_M_goesOn_131 (i := 18) rfl) ?_
              refine zr_getI (hf.w hW) (pc := 36) f_M_152 rfl (zdal_p dlC_M_goesOn_131 (i := 19) rfl) ?_
              refine zw_bipush (pc := 39) (v := Int32.ofInt 43) (by decide) (zdal_p dlC_M_goesOn_131 (i := 20) rfl) ?_
              refine zr_icmp_ne (pc := 41) (tgt := 48) ⟨(ze_r Mz 81 6).1, (ze_r Mz 81 6).2⟩ ⟨(by decide), (by decide)⟩ (by decide) (zdal_p dlC_M_goesOn_131 (i := 21) rfl) (fun hc_41 => ?_) (fun hc_41 => ?_)
              · skip
                refine zw_iconst (pc := 48) (v := Int32.ofInt 3) (by decide) (zdal_p dlC_M_goesOn_132 (i := 0) rfl) ?_
                refine zr_callV (hf.w hW) hf.x (pc := 49) [.int (Int32.ofInt 3)] [] l_M_340 (c_M_waitsForF l Mz (hf.w hW) 3 (by decide) (by decide) F_ K_ hA_ b_ n_ p0_ p1_ p2_ p3_ (show 2 ≤ 3 by first | with_reducible assumption | (decide) | assumption) (show 3 ≤ 4 by first | with_reducible assumption | (decide) | assumption) (show (zrS Mz).head? ≠ some 1 by first | with_reducible assumption | assumption | omega)) rfl rfl rfl (by decide) (Nat.le_of_ble_eq_true rfl) (zdal_p dlC_M_goesOn_132 (i := 1) rfl) ?_
                rintro _ N19_ ⟨rfl, hsN19_, ⟨hp0_N19_, hp1_N19_, hp2_N19_, hp3_N19_, hp4_N19_, hp5_N19_⟩⟩
                have hf_N19_ : zFr [3, 4, 5, 6, 11, 38, 39, 41] [95, 96, 97, 100] Mz N19_ := hf.tr hsN19_ (by decide) (by decide)
                have r4_N19_ := ze_r N19_ 81 4
                have r6_N19_ := ze_r N19_ 81 6
                have e7_N19_ : ze N19_ 81 7 = ze Mz 81 7 := hsN19_.e (by decide)
                have e43_N19_ : ze N19_ 81 43 = ze Mz 81 43 := hsN19_.e (by decide)
                show zW l m_M_goesOn (zn Mz + 0, zw Mz + 0) N19_ 52 [some (.ref 81)] [] _
                have hst_ := zRea.st (zr2_x (F := F_) (K := K_) (nm := nm_) hk3_ (by omega) hp2_N19_ hp3_N19_ hp4_N19_ (by (exact e43_N19_)) hp5_N19_)
                have hpx_ := hp5_N19_
                have hrz_ := hp1_N19_
                refine zw_iconst (pc := 52) (v := Int32.ofInt 1) (by decide) (zdal_p dlC_M_goesOn_132 (i := 2) rfl) ?_
                exact zr_iret (pc := 53) (ty := .boolean) rfl (z_narB (by omega)) ⟨by omega, by omega⟩ hf_N19_ ⟨hp0_N19_, (show ze N19_ 81 43 = ze Mz 81 43 by first | with_reducible assumption | assumption | omega), (show ((1 = 1 ∧ zRea (zfs b_ n_ F_ K_ nm_) (zRst 2 F_ Mz) (zRst 0 F_ N19_) ∧ zRI F_ K_ 0 N19_ ∧ ze Mz 81 4 < ze N19_ 81 4) ∨ (1 = 0 ∧ zRea (zfs b_ n_ F_ K_ nm_) (zRst 2 F_ Mz) (zRst 2 F_ N19_) ∧ zRI F_ K_ 1 N19_ ∧ (zrS N19_).head? ≠ some 1 ∧ ¬ (zisg b_ n_ (ze N19_ 81 4).toNat 42 ∨ zisg b_ n_ (ze N19_ 81 4).toNat 43 ∨ zisg b_ n_ (ze N19_ 81 4).toNat 45) ∧ ze N19_ 81 4 = ze Mz 81 4)) from Or.inl (⟨(show 1 = 1 by first | rfl | exact hst_ | exact hrz_ | omega), (show zRea (zfs b_ n_ F_ K_ nm_) (zRst 2 F_ Mz) (zRst 0 F_ N19_) by first | rfl | exact hst_ | exact hrz_ | omega), (show zRI F_ K_ 0 N19_ by first | rfl | exact hst_ | exact hrz_ | omega), (show ze Mz 81 4 < ze N19_ 81 4 by first | rfl | exact hst_ | exact hrz_ | omega)⟩))⟩ (zdal_p dlC_M_goesOn_132 (i := 3) rfl)
              · skip
                refine zw_iconst (pc := 44) (v := Int32.ofInt 2) (by decide) (zdal_p dlC_M_goesOn_131 (i := 22) rfl) ?_
                refine zw_goto (pc := 45) (tgt := 49) (by decide) (zdal_p dlC_M_goesOn_131 (i := 23) rfl) ?_
                refine zr_callV (hf.w hW) hf.x (pc := 49) [.int (Int32.ofInt 2)] [] l_M_340 (c_M_waitsForF l Mz (hf.w hW) 2 (by decide) (by decide) F_ K_ hA_ b_ n_ p0_ p1_ p2_ p3_ (show 2 ≤ 2 by first | with_reducible assumption | (decide) | assumption) (show 2 ≤ 4 by first | with_reducible assumption | (decide) | assumption) (show (zrS Mz).head? ≠ some 1 by first | with_reducible assumption | assumption | omega)) rfl rfl rfl (by decide) (Nat.le_of_ble_eq_true rfl) (zdal_p dlC_M_goesOn_132 (i := 1) rfl) ?_
                rintro _ N23_ ⟨rfl, hsN23_, ⟨hp0_N23_, hp1_N23_, hp2_N23_, hp3_N23_, hp4_N23_, hp5_N23_⟩⟩
                have hf_N23_ : zFr [3, 4, 5, 6, 11, 38, 39, 41] [95, 96, 97, 100] Mz N23_ := hf.tr hsN23_ (by decide) (by decide)
                have r4_N23_ := ze_r N23_ 81 4
                have r6_N23_ := ze_r N23_ 81 6
                have e7_N23_ : ze N23_ 81 7 = ze Mz 81 7 := hsN23_.e (by decide)
                have e43_N23_ : ze N23_ 81 43 = ze Mz 81 43 := hsN23_.e (by decide)
                show zW l m_M_goesOn (zn Mz + 0, zw Mz + 0) N23_ 52 [some (.ref 81)] [] _
                have hst_ := zRea.st (zr2_x (F := F_) (K := K_) (nm := nm_) hk3_ (by omega) hp2_N23_ hp3_N23_ hp4_N23_ (by (exact e43_N23_)) hp5_N23_)
                have hpx_ := hp5_N23_
                have hrz_ := hp1_N23_
                refine zw_iconst (pc := 52) (v := Int32.ofInt 1) (by decide) (zdal_p dlC_M_goesOn_132 (i := 2) rfl) ?_
                exact zr_iret (pc := 53) (ty := .boolean) rfl (z_narB (by omega)) ⟨by omega, by omega⟩ hf_N23_ ⟨hp0_N23_, (show ze N23_ 81 43 = ze Mz 81 43 by first | with_reducible assumption | assumption | omega), (show ((1 = 1 ∧ zRea (zfs b_ n_ F_ K_ nm_) (zRst 2 F_ Mz) (zRst 0 F_ N23_) ∧ zRI F_ K_ 0 N23_ ∧ ze Mz 81 4 < ze N23_ 81 4) ∨ (1 = 0 ∧ zRea (zfs b_ n_ F_ K_ nm_) (zRst 2 F_ Mz) (zRst 2 F_ N23_) ∧ zRI F_ K_ 1 N23_ ∧ (zrS N23_).head? ≠ some 1 ∧ ¬ (zisg b_ n_ (ze N23_ 81 4).toNat 42 ∨ zisg b_ n_ (ze N23_ 81 4).toNat 43 ∨ zisg b_ n_ (ze N23_ 81 4).toNat 45) ∧ ze N23_ 81 4 = ze Mz 81 4)) from Or.inl (⟨(show 1 = 1 by first | rfl | exact hst_ | exact hrz_ | omega), (show zRea (zfs b_ n_ F_ K_ nm_) (zRst 2 F_ Mz) (zRst 0 F_ N23_) by first | rfl | exact hst_ | exact hrz_ | omega), (show zRI F_ K_ 0 N23_ by first | rfl | exact hst_ | exact hrz_ | omega), (show ze Mz 81 4 < ze N23_ 81 4 by first | rfl | exact hst_ | exact hrz_ | omega)⟩))⟩ (zdal_p dlC_M_goesOn_132 (i := 3) rfl)
          · skip
            have hm2_ := ha28_0_hp0_N17_ p5_
            show zW l m_M_goesOn (zn Mz + 0, zw Mz + 0) Mz 31 [some (.ref 81)] [.int (Int32.ofInt 0)] _
            refine zr_if_eq (pc := 31) (tgt := 54) ⟨(by decide), (by decide)⟩ (by decide) (zdal_p dlC_M_goesOn_131 (i := 16) rfl) (fun hc_31 => ?_) (fun hc_31 => ?_)
            · skip
              refine zw_iconst (pc := 54) (v := Int32.ofInt 0) (by decide) (zdal_p dlC_M_goesOn_132 (i := 4) rfl) ?_
              exact zr_iret (pc := 55) (ty := .boolean) rfl (z_narB (by (decide))) ⟨by (exact hv2_a), by (exact hv2_b)⟩ hf ⟨p2_, (show ze Mz 81 43 = ze Mz 81 43 by first | with_reducible assumption | (exact zo_62) | assumption), (show ((0 = 1 ∧ zRea (zfs b_ n_ F_ K_ nm_) (zRst 2 F_ Mz) (zRst 0 F_ Mz) ∧ zRI F_ K_ 0 Mz ∧ ze Mz 81 4 < ze Mz 81 4) ∨ (0 = 0 ∧ zRea (zfs b_ n_ F_ K_ nm_) (zRst 2 F_ Mz) (zRst 2 F_ Mz) ∧ zRI F_ K_ 1 Mz ∧ (zrS Mz).head? ≠ some 1 ∧ ¬ (zisg b_ n_ (ze Mz 81 4).toNat 42 ∨ zisg b_ n_ (ze Mz 81 4).toNat 43 ∨ zisg b_ n_ (ze Mz 81 4).toNat 45) ∧ ze Mz 81 4 = ze Mz 81 4)) from Or.inr (⟨(show 0 = 0 by first | rfl | exact zRea.rf | exact p3_ | exact p4_ | exact fun q_ => q_.elim hm0_ (fun q_ => q_.elim hm1_ hm2_)), (show zRea (zfs b_ n_ F_ K_ nm_) (zRst 2 F_ Mz) (zRst 2 F_ Mz) by first | rfl | exact zRea.rf | exact p3_ | exact p4_ | exact fun q_ => q_.elim hm0_ (fun q_ => q_.elim hm1_ hm2_)), (show zRI F_ K_ 1 Mz by first | rfl | exact zRea.rf | exact p3_ | exact p4_ | exact fun q_ => q_.elim hm0_ (fun q_ => q_.elim hm1_ hm2_)), (show (zrS Mz).head? ≠ some 1 by first | rfl | exact zRea.rf | exact p3_ | exact p4_ | exact fun q_ => q_.elim hm0_ (fun q_ => q_.elim hm1_ hm2_)), (show ¬ (zisg b_ n_ (ze Mz 81 4).toNat 42 ∨ zisg b_ n_ (ze Mz 81 4).toNat 43 ∨ zisg b_ n_ (ze Mz 81 4).toNat 45) by first | rfl | exact zRea.rf | exact p3_ | exact p4_ | exact fun q_ => q_.elim hm0_ (fun q_ => q_.elim hm1_ hm2_)), (show ze Mz 81 4 = ze Mz 81 4 by first | rfl | exact zRea.rf | exact p3_ | exact p4_ | exact fun q_ => q_.elim hm0_ (fun q_ => q_.elim hm1_ hm2_))⟩))⟩ (zdal_p dlC_M_goesOn_132 (i := 5) rfl)
            · skip
              exact absurd hc_31 (by decide)
    · skip
      exact absurd hc_6 (by decide)
set_option maxHeartbeats 4000000 in
theorem c_M_closesF (l : Launch) (Mz : zMem) (hW : zMt Mz) (F_ : Nat) (K_ : Nat → Nat → Int) (hA_ : zTA F_ K_) (b_ : Nat → Int) (n_ : Nat) (nm_ : List (Int × (Nat → Int))) (p0_ : zRmk F_ K_ Mz) (p1_ : zRb b_ n_ Mz) (p2_ : zRt b_ n_ Mz) (p3_ : zRI F_ K_ 1 Mz) (p4_ : ze Mz 81 7 = 0) : zC l m_M_closes 0 0 [.ref 81] Mz (zpV [3, 4, 5, 6, 7, 8, 11, 39, 41, 42] [95, 96, 97] Mz (fun N => zRt b_ n_ N ∧ ze N 81 43 = ze Mz 81 43 ∧ (((1 ≤ ze N 81 7 ∧ zRea (zfs b_ n_ F_ K_ nm_) (zRst 1 F_ Mz) zFt) ∨ (ze N 81 7 = 0 ∧ zRea (zfs b_ n_ F_ K_ nm_) (zRst 1 F_ Mz) (zRst 2 F_ N) ∧ zRI F_ K_ 1 N ∧ (zrS N).head? ≠ some 1 ∧ ze Mz 81 4 ≤ ze N 81 4))))) := by
  refine zC_of (L0 := [some (.ref 81), none]) md_M_closes (Nat.le_of_ble_eq_true rfl) rfl ?_ zQ0
  have hf : zFr [3, 4, 5, 6, 7, 8, 11, 39, 41, 42] [95, 96, 97] Mz Mz := zFr.rf
  have r_3 := ze_r Mz 81 3
  have r_4 := ze_r Mz 81 4
  have r_7 := ze_r Mz 81 7
  have r_38 := ze_r Mz 81 38
  have r_39 := ze_r Mz 81 39
  have r_41 := ze_r Mz 81 41
  have r_42 := ze_r Mz 81 42
  have r_43 := ze_r Mz 81 43
  obtain ⟨⟨hF1_, hF27_⟩, hAr_⟩ := id hA_
  obtain ⟨hFc_, hKt_⟩ := id p0_
  have hrm_ := p3_.one
  obtain ⟨t1_, t2_, t3_, t4_, t5_, t6_⟩ := id p2_
  refine zw_aload_n (pc := 0) (n := 0) (x := 81) rfl (zdal_p dlC_M_closes_116 (i := 0) rfl) ?_
  refine zw_bipush (pc := 1) (v := Int32.ofInt 94) (by decide) (zdal_p dlC_M_closes_116 (i := 1) rfl) ?_
  refine zr_callV (hf.w hW) hf.x (pc := 3) [.int (Int32.ofInt 94)] [] l_M_187 (c_M_isSignHereF l Mz (hf.w hW) 94 (by decide) (by decide) b_ n_ p2_) rfl rfl rfl (by decide) (Nat.le_of_ble_eq_true rfl) (zdal_p dlC_M_closes_116 (i := 2) rfl) ?_
  rintro _ N1_ ⟨v2_, rfl, ⟨hv2_a, hv2_b⟩, hsN1_, hp0_N1_⟩
  obtain rfl := hsN1_.eq.symm
  replace hp0_N1_ : ((v2_ = 1 ∧ ze Mz 81 7 = 0 ∧ zisg b_ n_ (ze Mz 81 4).toNat 94) ∨ (v2_ = 0 ∧ (ze Mz 81 7 = 0 → ¬ zisg b_ n_ (ze Mz 81 4).toNat 94))) := hp0_N1_
  rcases hp0_N1_ with ⟨rfl, ha3_0_hp0_N1_, ha3_1_hp0_N1_⟩ | ⟨rfl, ha3_0_hp0_N1_⟩
  · skip
    have hP_ := ha3_1_hp0_N1_
    show zW l m_M_closes (zn Mz + 0, zw Mz + 0) Mz 6 [some (.ref 81), none] [.int (Int32.ofInt 1)] _
    refine zr_if_eq (pc := 6) (tgt := 33) ⟨(by decide), (by decide)⟩ (by decide) (zdal_p dlC_M_closes_116 (i := 3) rfl) (fun hc_6 => ?_) (fun hc_6 => ?_)
    · skip
      exact absurd hc_6 (by decide)
    · skip
      have hyt_ := p2_
      have hyx_ := hyt_.x
      refine zw_aload_n (pc := 9) (n := 0) (x := 81) rfl (zdal_p dlC_M_closes_116 (i := 4) rfl) ?_
      refine zr_callV (hf.w hW) hf.x (pc := 10) [] [] l_M_193 (c_M_goOnF l Mz (hf.w hW) b_ n_ p1_ (show 0 ≤ ze Mz 81 3 by first | with_reducible assumption | (exact zo_57 hyx_.2.1) | assumption) (show ze Mz 81 3 ≤ n_ by first | with_reducible assumption | (exact zo_277 hyx_.2.2 r_3.2) | assumption)) rfl rfl rfl (by decide) (Nat.le_of_ble_eq_true rfl) (zdal_p dlC_M_closes_116 (i := 5) rfl) ?_
      rintro _ N3_ ⟨rfl, hsN3_, ⟨hp0_N3_, hp1_N3_⟩⟩
      have hf_N3_ : zFr [3, 4, 5, 6, 7, 8, 11, 39, 41, 42] [95, 96, 97] Mz N3_ := hf.tr hsN3_ (by decide) (by decide)
      have r3_N3_ := ze_r N3_ 81 3
      have r4_N3_ := ze_r N3_ 81 4
      have e7_N3_ : ze N3_ 81 7 = ze Mz 81 7 := hsN3_.e (by decide)
      have e38_N3_ : ze N3_ 81 38 = ze Mz 81 38 := hsN3_.e (by decide)
      have e39_N3_ : ze N3_ 81 39 = ze Mz 81 39 := hsN3_.e (by decide)
      have e41_N3_ : ze N3_ 81 41 = ze Mz 81 41 := hsN3_.e (by decide)
      have e42_N3_ : ze N3_ 81 42 = ze Mz 81 42 := hsN3_.e (by decide)
      have e43_N3_ : ze N3_ 81 43 = ze Mz 81 43 := hsN3_.e (by decide)
      have qzrS_N3_ : zrS N3_ = zrS Mz := zrS_q hsN3_ (by decide)
      have qzrG_N3_ : zrG N3_ = zrG Mz := zrG_q hsN3_ (by decide)
      have qzrW_N3_ : zrW F_ N3_ = zrW F_ Mz := zrW_q hsN3_ (by decide)
      have c5_ : zRmk F_ K_ N3_ := zRmk.fr hsN3_ p0_ (by decide) (by decide)
      have c6_ : zRb b_ n_ N3_ := zRb.fr hsN3_ p1_ (by decide) (by decide)
      have c7_ : zRI F_ K_ 1 N3_ := zRI.fr hsN3_ p3_ (by decide) (by decide)
      show zW l m_M_closes (zn Mz + 0, zw Mz + 0) N3_ 13 [some (.ref 81), none] [] _
      have hnn_ := hyt_.nx hp0_N3_
      have hx1_ := hnn_.2
      have hge1_ := znx_ge (b := b_) (n := n_) (s := (ze Mz 81 4).toNat)
      refine zw_aload_n (pc := 13) (n := 0) (x := 81) rfl (zdal_p dlC_M_closes_116 (i := 6) rfl) ?_
      refine zw_iconst (pc := 14) (v := Int32.ofInt 0) (by decide) (zdal_p dlC_M_closes_116 (i := 7) rfl) ?_
      refine zw_bipush (pc := 15) (v := Int32.ofInt 9) (by decide) (zdal_p dlC_M_closes_116 (i := 8) rfl) ?_
      refine zr_callV (hf_N3_.w hW) hf_N3_.x (pc := 17) [.int (Int32.ofInt 0), .int (Int32.ofInt 9)] [] l_M_322 (c_M_numberF l N3_ (hf_N3_.w hW) 0 (by decide) (by decide) 9 (by decide) (by decide) b_ n_ c6_ hp1_N3_ (show 0 ≤ ze N3_ 81 7 by first | with_reducible assumption | (exact zo_631 e7_N3_ p4_) | assumption)) rfl rfl rfl (by decide) (Nat.le_of_ble_eq_true rfl) (zdal_p dlC_M_closes_116 (i := 9) rfl) ?_
      rintro _ N8_ ⟨v9_, rfl, ⟨hv9_a, hv9_b⟩, hsN8_, ⟨hp0_N8_, hp1_N8_⟩⟩
      have hf_N8_ : zFr [3, 4, 5, 6, 7, 8, 11, 39, 41, 42] [95, 96, 97] Mz N8_ := hf_N3_.tr hsN8_ (by decide) (by decide)
      have r3_N8_ := ze_r N8_ 81 3
      have r4_N8_ := ze_r N8_ 81 4
      have r7_N8_ := ze_r N8_ 81 7
      have e38_N8_ : ze N8_ 81 38 = ze N3_ 81 38 := hsN8_.e (by decide)
      have e39_N8_ : ze N8_ 81 39 = ze N3_ 81 39 := hsN8_.e (by decide)
      have e41_N8_ : ze N8_ 81 41 = ze N3_ 81 41 := hsN8_.e (by decide)
      have e42_N8_ : ze N8_ 81 42 = ze N3_ 81 42 := hsN8_.e (by decide)
      have e43_N8_ : ze N8_ 81 43 = ze N3_ 81 43 := hsN8_.e (by decide)
      have qzrS_N8_ : zrS N8_ = zrS N3_ := zrS_q hsN8_ (by decide)
      have qzrG_N8_ : zrG N8_ = zrG N3_ := zrG_q hsN8_ (by decide)
      have qzrW_N8_ : zrW F_ N8_ = zrW F_ N3_ := zrW_q hsN8_ (by decide)
      have c10_ : zRmk F_ K_ N8_ := zRmk.fr hsN8_ c5_ (by decide) (by decide)
      have c12_ : zRI F_ K_ 1 N8_ := zRI.fr hsN8_ c7_ (by decide) (by decide)
      rcases hp1_N8_ with ⟨ha17_0_hp1_N8_, ha17_1_hp1_N8_⟩ | ⟨ha17_0_hp1_N8_, ha17_1_hp1_N8_, ha17_2_hp1_N8_, ha17_3_hp1_N8_, ha17_4_hp1_N8_⟩
      · skip
        have hft_ : zRea (zfs b_ n_ F_ K_ nm_) (zRst 1 F_ Mz) zFt := zRea.st (zr1_f hP_ (fun q_ => ha17_1_hp1_N8_ (by (exact zo_610 e7_N3_ p4_)) (by rw [hx1_]; exact ⟨q_.1, (znu_b q_.1).1, q_.2⟩)))
        show zW l m_M_closes (zn Mz + 0, zw Mz + 0) N8_ 20 [some (.ref 81), none] [.int (Int32.ofInt v9_)] _
        refine zw_istore_n (pc := 20) (i := 1) (L2 := [some (.ref 81), some (.int (Int32.ofInt v9_))]) rfl (by decide) rfl (zdal_p dlC_M_closes_116 (i := 10) rfl) ?_
        refine zw_aload_n (pc := 21) (n := 0) (x := 81) rfl (zdal_p dlC_M_closes_116 (i := 11) rfl) ?_
        refine zr_callV (hf_N8_.w hW) hf_N8_.x (pc := 22) [] [] l_M_183 (c_M_isGood l N8_ (hf_N8_.w hW) ) rfl rfl rfl (by decide) (Nat.le_of_ble_eq_true rfl) (zdal_p dlC_M_closes_116 (i := 12) rfl) ?_
        rintro _ N13_ ⟨v14_, rfl, ⟨hv14_a, hv14_b⟩, hsN13_, hp0_N13_⟩
        obtain rfl := hsN13_.eq.symm
        replace hp0_N13_ : ((v14_ = 1 ∧ ze N8_ 81 7 = 0) ∨ (v14_ = 0 ∧ ze N8_ 81 7 ≠ 0)) := hp0_N13_
        rcases hp0_N13_ with ⟨rfl, ha22_0_hp0_N13_⟩ | ⟨rfl, ha22_0_hp0_N13_⟩
        · skip
          exfalso; (exact zo_609 ha17_0_hp1_N8_ ha22_0_hp0_N13_)
        · skip
          show zW l m_M_closes (zn Mz + 0, zw Mz + 0) N8_ 25 [some (.ref 81), some (.int (Int32.ofInt v9_))] [.int (Int32.ofInt 0)] _
          refine zr_if_eq (pc := 25) (tgt := 33) ⟨(by decide), (by decide)⟩ (by decide) (zdal_p dlC_M_closes_116 (i := 13) rfl) (fun hc_25 => ?_) (fun hc_25 => ?_)
          · skip
            have lp_33 : ∀ (n : Nat) (N15_ : zMem) (hs16_ : zFr [41, 42] [95] N8_ N15_) (i17_ : zRt b_ n_ N15_) (i18_ : zRI F_ K_ 1 N15_) (i19_ : ze N15_ 81 43 = ze Mz 81 43) (i20_ : (1 ≤ ze N15_ 81 7 ∧ zRea (zfs b_ n_ F_ K_ nm_) (zRst 1 F_ Mz) zFt) ∨ (ze N15_ 81 7 = 0 ∧ zClI b_ n_ F_ K_ nm_ Mz N15_ ∧ ze Mz 81 4 ≤ ze N15_ 81 4)), (ze N15_ 81 41).toNat < n → zW l m_M_closes (zn Mz + 0, zw Mz + 0) N15_ 33 [some (.ref 81), none] [] (zpV [3, 4, 5, 6, 7, 8, 11, 39, 41, 42] [95, 96, 97] Mz (fun N => zRt b_ n_ N ∧ ze N 81 43 = ze Mz 81 43 ∧ (((1 ≤ ze N 81 7 ∧ zRea (zfs b_ n_ F_ K_ nm_) (zRst 1 F_ Mz) zFt) ∨ (ze N 81 7 = 0 ∧ zRea (zfs b_ n_ F_ K_ nm_) (zRst 1 F_ Mz) (zRst 2 F_ N) ∧ zRI F_ K_ 1 N ∧ (zrS N).head? ≠ some 1 ∧ ze Mz 81 4 ≤ ze N 81 4))))) := by
              intro n
              induction n with
              | zero =>
                intro N15_ hs16_ i17_ i18_ i19_ i20_ h0
                exact absurd h0 (Nat.not_lt_zero _)
              | succ n ih_33 =>
                intro N15_ hs16_ i17_ i18_ i19_ i20_ hlt_33
                have hf_N15_ : zFr [3, 4, 5, 6, 7, 8, 11, 39, 41, 42] [95, 96, 97] Mz N15_ := hf_N8_.tr hs16_ (by decide) (by decide)
                have e3_N15_ : ze N15_ 81 3 = ze N8_ 81 3 := hs16_.e (by decide)
                have e4_N15_ : ze N15_ 81 4 = ze N8_ 81 4 := hs16_.e (by decide)
                have e7_N15_ : ze N15_ 81 7 = ze N8_ 81 7 := hs16_.e (by decide)
                have e38_N15_ : ze N15_ 81 38 = ze N8_ 81 38 := hs16_.e (by decide)
                have e39_N15_ : ze N15_ 81 39 = ze N8_ 81 39 := hs16_.e (by decide)
                have r41_N15_ := ze_r N15_ 81 41
                have r42_N15_ := ze_r N15_ 81 42
                have e43_N15_ : ze N15_ 81 43 = ze N8_ 81 43 := hs16_.e (by decide)
                rcases i20_ with ⟨hl33_0_i20_, hl33_1_i20_⟩ | ⟨hl33_0_i20_, hl33_1_i20_, hl33_2_i20_⟩
                · skip
                  have hri_ := i18_
                  have hrb_ := hri_.bd
                  have hr0_ := hri_.1
                  have hro_ := hri_.one
                  have hrd_ := hri_.2.2.1
                  refine zw_aload_n (pc := 33) (n := 0) (x := 81) rfl (zdal_p dlC_M_closes_116 (i := 17) rfl) ?_
                  refine zr_callV (hf_N15_.w hW) hf_N15_.x (pc := 34) [] [] l_M_183 (c_M_isGood l N15_ (hf_N15_.w hW) ) rfl rfl rfl (by decide) (Nat.le_of_ble_eq_true rfl) (zdal_p dlC_M_closes_116 (i := 18) rfl) ?_
                  rintro _ N23_ ⟨v24_, rfl, ⟨hv24_a, hv24_b⟩, hsN23_, hp0_N23_⟩
                  obtain rfl := hsN23_.eq.symm
                  replace hp0_N23_ : ((v24_ = 1 ∧ ze N15_ 81 7 = 0) ∨ (v24_ = 0 ∧ ze N15_ 81 7 ≠ 0)) := hp0_N23_
                  rcases hp0_N23_ with ⟨rfl, ha34_0_hp0_N23_⟩ | ⟨rfl, ha34_0_hp0_N23_⟩
                  · skip
                    exfalso; (exact zo_281 ha34_0_hp0_N23_ hl33_0_i20_)
                  · skip
                    show zW l m_M_closes (zn Mz + 0, zw Mz + 0) N15_ 37 [some (.ref 81), none] [.int (Int32.ofInt 0)] _
                    refine zr_if_eq (pc := 37) (tgt := 89) ⟨(by decide), (by decide)⟩ (by decide) (zdal_p dlC_M_closes_116 (i := 19) rfl) (fun hc_37 => ?_) (fun hc_37 => ?_)
                    · skip
                      have hh_ : ze N15_ 81 7 = 0 → (zrS N15_).head? ≠ some 1 := fun q_ => by first | (intro h_; rw [zrS_z (by omega)] at h_; cases h_) | (intro h_; rw [zrS_h (by omega)] at h_; injection h_ with h_; omega) | (exfalso; omega)
                      exact zr_vret (pc := 89) rfl hf_N15_ ⟨i17_, (show ze N15_ 81 43 = ze Mz 81 43 by first | with_reducible assumption | assumption | omega), (show ((1 ≤ ze N15_ 81 7 ∧ zRea (zfs b_ n_ F_ K_ nm_) (zRst 1 F_ Mz) zFt) ∨ (ze N15_ 81 7 = 0 ∧ zRea (zfs b_ n_ F_ K_ nm_) (zRst 1 F_ Mz) (zRst 2 F_ N15_) ∧ zRI F_ K_ 1 N15_ ∧ (zrS N15_).head? ≠ some 1 ∧ ze Mz 81 4 ≤ ze N15_ 81 4)) from Or.inl (⟨(show 1 ≤ ze N15_ 81 7 by first | with_reducible assumption | assumption | omega), (show zRea (zfs b_ n_ F_ K_ nm_) (zRst 1 F_ Mz) zFt by first | with_reducible assumption | assumption | omega)⟩))⟩ d_M_closes_89
                    · skip
                      exact absurd hc_37 (by decide)
                · skip
                  exfalso; (exact zo_799 e7_N15_ ha17_0_hp1_N8_ hl33_0_i20_)
            refine zW_le [some (.ref 81), none] (⟨rfl, trivial⟩) ?_
            exact lp_33 _ N8_ zFr.rf hp0_N8_ c12_ (show ze N8_ 81 43 = ze Mz 81 43 by first | with_reducible assumption | (exact zo_53 e43_N3_ e43_N8_) | assumption) (show (1 ≤ ze N8_ 81 7 ∧ zRea (zfs b_ n_ F_ K_ nm_) (zRst 1 F_ Mz) zFt) ∨ (ze N8_ 81 7 = 0 ∧ zClI b_ n_ F_ K_ nm_ Mz N8_ ∧ ze Mz 81 4 ≤ ze N8_ 81 4) from Or.inl (⟨(show 1 ≤ ze N8_ 81 7 by first | with_reducible assumption | assumption | omega), (show zRea (zfs b_ n_ F_ K_ nm_) (zRst 1 F_ Mz) zFt by first | with_reducible assumption | assumption | omega)⟩)) (Nat.lt_succ_self _)
          · skip
            exact absurd hc_25 (by decide)
      · skip
        have hnu_ := ha17_2_hp1_N8_
        have hnv_ := ha17_3_hp1_N8_
        have hnp_ := ha17_4_hp1_N8_
        rw [hx1_] at hnu_ hnv_ hnp_
        have hri1_ := c12_
        have hro1_ := hri1_.one
        have hge2_ := znx_ge (b := b_) (n := n_) (s := znx b_ n_ (ze Mz 81 4).toNat)
        show zW l m_M_closes (zn Mz + 0, zw Mz + 0) N8_ 20 [some (.ref 81), none] [.int (Int32.ofInt v9_)] _
        refine zw_istore_n (pc := 20) (i := 1) (L2 := [some (.ref 81), some (.int (Int32.ofInt v9_))]) rfl (by decide) rfl (zdal_p dlC_M_closes_116 (i := 10) rfl) ?_
        refine zw_aload_n (pc := 21) (n := 0) (x := 81) rfl (zdal_p dlC_M_closes_116 (i := 11) rfl) ?_
        refine zr_callV (hf_N8_.w hW) hf_N8_.x (pc := 22) [] [] l_M_183 (c_M_isGood l N8_ (hf_N8_.w hW) ) rfl rfl rfl (by decide) (Nat.le_of_ble_eq_true rfl) (zdal_p dlC_M_closes_116 (i := 12) rfl) ?_
        rintro _ N25_ ⟨v26_, rfl, ⟨hv26_a, hv26_b⟩, hsN25_, hp0_N25_⟩
        obtain rfl := hsN25_.eq.symm
        replace hp0_N25_ : ((v26_ = 1 ∧ ze N8_ 81 7 = 0) ∨ (v26_ = 0 ∧ ze N8_ 81 7 ≠ 0)) := hp0_N25_
        rcases hp0_N25_ with ⟨rfl, ha22_0_hp0_N25_⟩ | ⟨rfl, ha22_0_hp0_N25_⟩
        · skip
          show zW l m_M_closes (zn Mz + 0, zw Mz + 0) N8_ 25 [some (.ref 81), some (.int (Int32.ofInt v9_))] [.int (Int32.ofInt 1)] _
          refine zr_if_eq (pc := 25) (tgt := 33) ⟨(by decide), (by decide)⟩ (by decide) (zdal_p dlC_M_closes_116 (i := 13) rfl) (fun hc_25 => ?_) (fun hc_25 => ?_)
          · skip
            exact absurd hc_25 (by decide)
          · skip
            refine zw_aload_n (pc := 28) (n := 0) (x := 81) rfl (zdal_p dlC_M_closes_116 (i := 14) rfl) ?_
            refine zw_iload_n (pc := 29) (n := 1) (x := Int32.ofInt v9_) rfl (zdal_p dlC_M_closes_116 (i := 15) rfl) ?_
            refine zr_callV (hf_N8_.w hW) hf_N8_.x (pc := 30) [.int (Int32.ofInt v9_)] [] l_M_325 (c_M_powersF l N8_ (hf_N8_.w hW) v9_ hv9_a hv9_b F_ K_ hA_ c10_ (show 1 ≤ ze N8_ 81 38 by first | with_reducible assumption | (exact zo_694 hro1_.1) | assumption) (show ze N8_ 81 38 ≤ 40 by first | with_reducible assumption | (exact zo_1286 hro1_.2) | assumption) (show zFtR F_ K_ N8_ by exact hri1_.ft) (show 0 ≤ v9_ by first | with_reducible assumption | (exact zo_574 hnu_.2.1 hnv_ hv9_a) | assumption) (show v9_ ≤ 9 by first | with_reducible assumption | (exact zo_1287 ha17_2_hp1_N8_.2.2 ha17_3_hp1_N8_ hv9_b) | assumption)) rfl rfl rfl (by decide) (Nat.le_of_ble_eq_true rfl) (zdal_p dlC_M_closes_116 (i := 16) rfl) ?_
            rintro _ N27_ ⟨rfl, hsN27_, hp0_N27_⟩
            replace hp0_N27_ : zPwE F_ K_ (zrw F_ N8_ 95 (64 * (ze N8_ 81 38 - 1))) (64 * (ze N8_ 81 38 - 1)) N8_ N27_ v9_ := hp0_N27_
            have hf_N27_ : zFr [3, 4, 5, 6, 7, 8, 11, 39, 41, 42] [95, 96, 97] Mz N27_ := hf_N8_.tr hsN27_ (by decide) (by decide)
            have e3_N27_ : ze N27_ 81 3 = ze N8_ 81 3 := hsN27_.e (by decide)
            have e4_N27_ : ze N27_ 81 4 = ze N8_ 81 4 := hsN27_.e (by decide)
            have e7_N27_ : ze N27_ 81 7 = ze N8_ 81 7 := hsN27_.e (by decide)
            have e38_N27_ : ze N27_ 81 38 = ze N8_ 81 38 := hsN27_.e (by decide)
            have r39_N27_ := ze_r N27_ 81 39
            have e41_N27_ : ze N27_ 81 41 = ze N8_ 81 41 := hsN27_.e (by decide)
            have e42_N27_ : ze N27_ 81 42 = ze N8_ 81 42 := hsN27_.e (by decide)
            have e43_N27_ : ze N27_ 81 43 = ze N8_ 81 43 := hsN27_.e (by decide)
            have c29_ : zRmk F_ K_ N27_ := zRmk.fr hsN27_ c10_ (by decide) (by decide)
            have c31_ : zRt b_ n_ N27_ := zRt.fr hsN27_ hp0_N8_ (by decide) (by decide)
            show zW l m_M_closes (zn Mz + 0, zw Mz + 0) N27_ 33 [some (.ref 81), some (.int (Int32.ofInt v9_))] [] _
            have hyz_ := c31_.x
            have hpe_ := hp0_N27_
            have hpw_ := zRI_pw hF27_ hri1_ hpe_ (by (exact e41_N27_)) (fun i_ => hsN27_.ie (by decide) (by decide) i_) (by (exact e42_N27_)) (by (exact e38_N27_))
            have hcl1_ : zClI b_ n_ F_ K_ nm_ Mz N27_ := zClI_c hP_ ⟨hnu_.1, hnu_.2.2⟩ hnv_ (by rw [hpw_.2.1, qzrS_N8_, qzrS_N3_]) (by rw [hpw_.2.2.1, qzrW_N8_, qzrW_N3_, qzrG_N8_, qzrG_N3_]) (by rw [hpw_.2.2.2, qzrW_N8_, qzrW_N3_, qzrG_N8_, qzrG_N3_]) (by (exact zo_250 e43_N27_ e43_N3_ e43_N8_)) ((show (ze N27_ 81 4).toNat = (ze N8_ 81 4).toNat by rw [show ze N27_ 81 4 = ze N8_ 81 4 by (exact e4_N27_)]).trans hnp_)
            have hpw1_ := hpw_.1
            have lp_33 : ∀ (n : Nat) (N32_ : zMem) (hs33_ : zFr [41, 42] [95] N27_ N32_) (i34_ : zRt b_ n_ N32_) (i35_ : zRI F_ K_ 1 N32_) (i36_ : ze N32_ 81 43 = ze Mz 81 43) (i37_ : (1 ≤ ze N32_ 81 7 ∧ zRea (zfs b_ n_ F_ K_ nm_) (zRst 1 F_ Mz) zFt) ∨ (ze N32_ 81 7 = 0 ∧ zClI b_ n_ F_ K_ nm_ Mz N32_ ∧ ze Mz 81 4 ≤ ze N32_ 81 4)), (ze N32_ 81 41).toNat < n → zW l m_M_closes (zn Mz + 0, zw Mz + 0) N32_ 33 [some (.ref 81), none] [] (zpV [3, 4, 5, 6, 7, 8, 11, 39, 41, 42] [95, 96, 97] Mz (fun N => zRt b_ n_ N ∧ ze N 81 43 = ze Mz 81 43 ∧ (((1 ≤ ze N 81 7 ∧ zRea (zfs b_ n_ F_ K_ nm_) (zRst 1 F_ Mz) zFt) ∨ (ze N 81 7 = 0 ∧ zRea (zfs b_ n_ F_ K_ nm_) (zRst 1 F_ Mz) (zRst 2 F_ N) ∧ zRI F_ K_ 1 N ∧ (zrS N).head? ≠ some 1 ∧ ze Mz 81 4 ≤ ze N 81 4))))) := by
              intro n
              induction n with
              | zero =>
                intro N32_ hs33_ i34_ i35_ i36_ i37_ h0
                exact absurd h0 (Nat.not_lt_zero _)
              | succ n ih_33 =>
                intro N32_ hs33_ i34_ i35_ i36_ i37_ hlt_33
                have hf_N32_ : zFr [3, 4, 5, 6, 7, 8, 11, 39, 41, 42] [95, 96, 97] Mz N32_ := hf_N27_.tr hs33_ (by decide) (by decide)
                have e3_N32_ : ze N32_ 81 3 = ze N27_ 81 3 := hs33_.e (by decide)
                have e4_N32_ : ze N32_ 81 4 = ze N27_ 81 4 := hs33_.e (by decide)
                have e7_N32_ : ze N32_ 81 7 = ze N27_ 81 7 := hs33_.e (by decide)
                have e38_N32_ : ze N32_ 81 38 = ze N27_ 81 38 := hs33_.e (by decide)
                have e39_N32_ : ze N32_ 81 39 = ze N27_ 81 39 := hs33_.e (by decide)
                have r41_N32_ := ze_r N32_ 81 41
                have r42_N32_ := ze_r N32_ 81 42
                have e43_N32_ : ze N32_ 81 43 = ze N27_ 81 43 := hs33_.e (by decide)
                have c38_ : zRmk F_ K_ N32_ := zRmk.fr hs33_ c29_ (by decide) (by decide)
                rcases i37_ with ⟨hl33_0_i37_, hl33_1_i37_⟩ | ⟨hl33_0_i37_, hl33_1_i37_, hl33_2_i37_⟩
                · skip
                  exfalso; (exact zo_1288 e7_N27_ e7_N32_ ha17_0_hp1_N8_ hl33_0_i37_)
                · skip
                  have hri_ := i35_
                  have hrb_ := hri_.bd
                  have hr0_ := hri_.1
                  have hro_ := hri_.one
                  have hrd_ := hri_.2.2.1
                  have hcl_ := (show zClI b_ n_ F_ K_ nm_ Mz N32_ by first | with_reducible assumption | assumption)
                  refine zw_aload_n (pc := 33) (n := 0) (x := 81) rfl (zdal_p dlC_M_closes_116 (i := 17) rfl) ?_
                  refine zr_callV (hf_N32_.w hW) hf_N32_.x (pc := 34) [] [] l_M_183 (c_M_isGood l N32_ (hf_N32_.w hW) ) rfl rfl rfl (by decide) (Nat.le_of_ble_eq_true rfl) (zdal_p dlC_M_closes_116 (i := 18) rfl) ?_
                  rintro _ N40_ ⟨v41_, rfl, ⟨hv41_a, hv41_b⟩, hsN40_, hp0_N40_⟩
                  obtain rfl := hsN40_.eq.symm
                  replace hp0_N40_ : ((v41_ = 1 ∧ ze N32_ 81 7 = 0) ∨ (v41_ = 0 ∧ ze N32_ 81 7 ≠ 0)) := hp0_N40_
                  rcases hp0_N40_ with ⟨rfl, ha34_0_hp0_N40_⟩ | ⟨rfl, ha34_0_hp0_N40_⟩
                  · skip
                    show zW l m_M_closes (zn Mz + 0, zw Mz + 0) N32_ 37 [some (.ref 81), none] [.int (Int32.ofInt 1)] _
                    refine zr_if_eq (pc := 37) (tgt := 89) ⟨(by decide), (by decide)⟩ (by decide) (zdal_p dlC_M_closes_116 (i := 19) rfl) (fun hc_37 => ?_) (fun hc_37 => ?_)
                    · skip
                      exact absurd hc_37 (by decide)
                    · skip
                      refine zw_aload_n (pc := 40) (n := 0) (x := 81) rfl (zdal_p dlC_M_closes_116 (i := 20) rfl) ?_
                      refine zr_getI (hf_N32_.w hW) (pc := 41) f_M_305 rfl (zdal_p dlC_M_closes_116 (i := 21) rfl) ?_
                      refine zr_if_le (pc := 44) (tgt := 89) ⟨(ze_r N32_ 81 41).1, (ze_r N32_ 81 41).2⟩ (by decide) (zdal_p dlC_M_closes_116 (i := 22) rfl) (fun hc_44 => ?_) (fun hc_44 => ?_)
                      · skip
                        have hh_ : ze N32_ 81 7 = 0 → (zrS N32_).head? ≠ some 1 := fun q_ => by first | (intro h_; rw [zrS_z (by (exact hc_44))] at h_; cases h_) | (intro h_; rw [zrS_h (by omega)] at h_; injection h_ with h_; omega) | (exfalso; omega)
                        exact zr_vret (pc := 89) rfl hf_N32_ ⟨i34_, (show ze N32_ 81 43 = ze Mz 81 43 by first | with_reducible assumption | assumption | omega), (show ((1 ≤ ze N32_ 81 7 ∧ zRea (zfs b_ n_ F_ K_ nm_) (zRst 1 F_ Mz) zFt) ∨ (ze N32_ 81 7 = 0 ∧ zRea (zfs b_ n_ F_ K_ nm_) (zRst 1 F_ Mz) (zRst 2 F_ N32_) ∧ zRI F_ K_ 1 N32_ ∧ (zrS N32_).head? ≠ some 1 ∧ ze Mz 81 4 ≤ ze N32_ 81 4)) from Or.inr (⟨(show ze N32_ 81 7 = 0 by first | exact hh_ (by (exact hl33_0_i37_)) | exact zRea.st (zClI_e hcl_ (hh_ (by (exact hl33_0_i37_)))) | exact i35_ | (exact hl33_0_i37_)), (show zRea (zfs b_ n_ F_ K_ nm_) (zRst 1 F_ Mz) (zRst 2 F_ N32_) by first | exact hh_ (by (exact hl33_0_i37_)) | exact zRea.st (zClI_e hcl_ (hh_ (by (exact hl33_0_i37_)))) | exact i35_ | omega), (show zRI F_ K_ 1 N32_ by first | exact hh_ (by (exact hl33_0_i37_)) | exact zRea.st (zClI_e hcl_ (hh_ (by (exact hl33_0_i37_)))) | exact i35_ | omega), (show (zrS N32_).head? ≠ some 1 by first | exact hh_ (by (exact hl33_0_i37_)) | exact zRea.st (zClI_e hcl_ (hh_ (by omega))) | exact i35_ | omega), (show ze Mz 81 4 ≤ ze N32_ 81 4 by first | exact hh_ (by (exact hl33_0_i37_)) | exact zRea.st (zClI_e hcl_ (hh_ (by (exact hl33_0_i37_)))) | exact i35_ | (exact hl33_2_i37_))⟩))⟩ d_M_closes_89
                      · skip
                        refine zw_aload_n (pc := 47) (n := 0) (x := 81) rfl (zdal_p dlC_M_closes_116 (i := 23) rfl) ?_
                        refine zr_getF (r := 100) (hf_N32_.w hW) (pc := 48) f_M_72 rfl (zh_100 (hf_N32_.w hW)).1 (zdal_p dlC_M_closes_117 (i := 0) rfl) ?_
                        refine zw_aload_n (pc := 51) (n := 0) (x := 81) rfl (zdal_p dlC_M_closes_117 (i := 1) rfl) ?_
                        refine zr_getI (hf_N32_.w hW) (pc := 52) f_M_305 rfl (zdal_p dlC_M_closes_117 (i := 2) rfl) ?_
                        refine zw_iconst (pc := 55) (v := Int32.ofInt 1) (by decide) (zdal_p dlC_M_closes_117 (i := 3) rfl) ?_
                        refine zr_isub (pc := 56) (zdal_p dlC_M_closes_117 (i := 4) rfl) ?_
                        refine zr_ialdn (pc := 57) (zh_100 (hf_N32_.w hW)).2 (by decide) (by (exact zo_1265 hc_44)) (by (exact zo_1266 hrb_.1 hrb_.2.2.2 r41_N32_.2)) (zdal_p dlC_M_closes_117 (i := 5) rfl) (fun v42_ hv42_ hv42_a hv42_b => ?_)
                        rw [hf_N32_.ie (by decide) (by decide)] at hv42_
                        have hx_ : v42_ = ze N32_ 100 (ze N32_ 81 41 - 1).toNat := by first | exact hv42_ | exact hv42_.trans (hf_N32_.ie (by decide) (by decide) _).symm
                        refine zw_iconst (pc := 58) (v := Int32.ofInt 1) (by decide) (zdal_p dlC_M_closes_117 (i := 6) rfl) ?_
                        refine zr_icmp_ne (pc := 59) (tgt := 89) ⟨hv42_a, hv42_b⟩ ⟨(by decide), (by decide)⟩ (by decide) (zdal_p dlC_M_closes_117 (i := 7) rfl) (fun hc_59 => ?_) (fun hc_59 => ?_)
                        · skip
                          have hh_ : ze N32_ 81 7 = 0 → (zrS N32_).head? ≠ some 1 := fun q_ => by first | (intro h_; rw [zrS_z (by omega)] at h_; cases h_) | (intro h_; rw [zrS_h (by (exact zo_1 hc_44))] at h_; injection h_ with h_; omega) | (exfalso; omega)
                          exact zr_vret (pc := 89) rfl hf_N32_ ⟨i34_, (show ze N32_ 81 43 = ze Mz 81 43 by first | with_reducible assumption | assumption | omega), (show ((1 ≤ ze N32_ 81 7 ∧ zRea (zfs b_ n_ F_ K_ nm_) (zRst 1 F_ Mz) zFt) ∨ (ze N32_ 81 7 = 0 ∧ zRea (zfs b_ n_ F_ K_ nm_) (zRst 1 F_ Mz) (zRst 2 F_ N32_) ∧ zRI F_ K_ 1 N32_ ∧ (zrS N32_).head? ≠ some 1 ∧ ze Mz 81 4 ≤ ze N32_ 81 4)) from Or.inr (⟨(show ze N32_ 81 7 = 0 by first | exact hh_ (by (exact hl33_0_i37_)) | exact zRea.st (zClI_e hcl_ (hh_ (by (exact hl33_0_i37_)))) | exact i35_ | (exact hl33_0_i37_)), (show zRea (zfs b_ n_ F_ K_ nm_) (zRst 1 F_ Mz) (zRst 2 F_ N32_) by first | exact hh_ (by (exact hl33_0_i37_)) | exact zRea.st (zClI_e hcl_ (hh_ (by (exact hl33_0_i37_)))) | exact i35_ | omega), (show zRI F_ K_ 1 N32_ by first | exact hh_ (by (exact hl33_0_i37_)) | exact zRea.st (zClI_e hcl_ (hh_ (by (exact hl33_0_i37_)))) | exact i35_ | omega), (show (zrS N32_).head? ≠ some 1 by first | exact hh_ (by (exact hl33_0_i37_)) | exact zRea.st (zClI_e hcl_ (hh_ (by omega))) | exact i35_ | omega), (show ze Mz 81 4 ≤ ze N32_ 81 4 by first | exact hh_ (by (exact hl33_0_i37_)) | exact zRea.st (zClI_e hcl_ (hh_ (by (exact hl33_0_i37_)))) | exact i35_ | (exact hl33_2_i37_))⟩))⟩ d_M_closes_89
                        · skip
                          refine zw_aload_n (pc := 62) (n := 0) (x := 81) rfl (zdal_p dlC_M_closes_117 (i := 8) rfl) ?_
                          refine zr_callV (hf_N32_.w hW) hf_N32_.x (pc := 63) [] [] l_M_328 (c_M_negatesF l N32_ (hf_N32_.w hW) F_ K_ hA_ c38_ (show 1 ≤ ze N32_ 81 38 by first | with_reducible assumption | (exact zo_694 hro_.1) | assumption) (show ze N32_ 81 38 ≤ 40 by first | with_reducible assumption | (exact zo_1286 hro_.2) | assumption)) rfl rfl rfl (by decide) (Nat.le_of_ble_eq_true rfl) (zdal_p dlC_M_closes_117 (i := 9) rfl) ?_
                          rintro _ N43_ ⟨rfl, hsN43_, ⟨hp0_N43_, hp1_N43_⟩⟩
                          have hf_N43_ : zFr [3, 4, 5, 6, 7, 8, 11, 39, 41, 42] [95, 96, 97] Mz N43_ := hf_N32_.tr hsN43_ (by decide) (by decide)
                          have hb0_N43_ : zFr [41, 42] [95] N27_ N43_ := hs33_.tr hsN43_ (by decide) (by decide)
                          have e3_N43_ : ze N43_ 81 3 = ze N32_ 81 3 := hsN43_.e (by decide)
                          have e4_N43_ : ze N43_ 81 4 = ze N32_ 81 4 := hsN43_.e (by decide)
                          have e7_N43_ : ze N43_ 81 7 = ze N32_ 81 7 := hsN43_.e (by decide)
                          have e38_N43_ : ze N43_ 81 38 = ze N32_ 81 38 := hsN43_.e (by decide)
                          have e39_N43_ : ze N43_ 81 39 = ze N32_ 81 39 := hsN43_.e (by decide)
                          have e41_N43_ : ze N43_ 81 41 = ze N32_ 81 41 := hsN43_.e (by decide)
                          have e42_N43_ : ze N43_ 81 42 = ze N32_ 81 42 := hsN43_.e (by decide)
                          have e43_N43_ : ze N43_ 81 43 = ze N32_ 81 43 := hsN43_.e (by decide)
                          have c47_ : zRt b_ n_ N43_ := zRt.fr hsN43_ i34_ (by decide) (by decide)
                          show zW l m_M_closes (zn Mz + 0, zw Mz + 0) N43_ 66 [some (.ref 81), none] [] _
                          have hn0_ := hp0_N43_
                          have hn1_ := hp1_N43_
                          refine zw_aload_n (pc := 66) (n := 0) (x := 81) rfl (zdal_p dlC_M_closes_117 (i := 10) rfl) ?_
                          refine zw_dup (pc := 67) rfl (zdal_p dlC_M_closes_117 (i := 11) rfl) ?_
                          refine zr_getI (hf_N43_.w hW) (pc := 68) f_M_305 rfl (zdal_p dlC_M_closes_117 (i := 12) rfl) ?_
                          refine zw_iconst (pc := 71) (v := Int32.ofInt 1) (by decide) (zdal_p dlC_M_closes_117 (i := 13) rfl) ?_
                          refine zr_isub (pc := 72) (zdal_p dlC_M_closes_117 (i := 14) rfl) ?_
                          refine zr_putI (hf_N43_.w hW) (pc := 73) f_M_305 rfl rfl ⟨by (exact zo_1289 e41_N43_ hc_44), by (exact zo_6 e41_N43_ r41_N32_.2)⟩ rfl rfl (zdal_p dlC_M_closes_117 (i := 15) rfl) (fun N48_ hsN48_ hvN48_ => ?_)
                          have hf_N48_ : zFr [3, 4, 5, 6, 7, 8, 11, 39, 41, 42] [95, 96, 97] Mz N48_ := hf_N43_.tr hsN48_ (by decide) (by decide)
                          have hb0_N48_ : zFr [41, 42] [95] N27_ N48_ := hb0_N43_.tr hsN48_ (by decide) (by decide)
                          have e3_N48_ : ze N48_ 81 3 = ze N43_ 81 3 := hsN48_.e (by decide)
                          have e4_N48_ : ze N48_ 81 4 = ze N43_ 81 4 := hsN48_.e (by decide)
                          have e7_N48_ : ze N48_ 81 7 = ze N43_ 81 7 := hsN48_.e (by decide)
                          have e38_N48_ : ze N48_ 81 38 = ze N43_ 81 38 := hsN48_.e (by decide)
                          have e39_N48_ : ze N48_ 81 39 = ze N43_ 81 39 := hsN48_.e (by decide)
                          have r41_N48_ := ze_r N48_ 81 41
                          have e42_N48_ : ze N48_ 81 42 = ze N43_ 81 42 := hsN48_.e (by decide)
                          have e43_N48_ : ze N48_ 81 43 = ze N43_ 81 43 := hsN48_.e (by decide)
                          have c51_ : zRt b_ n_ N48_ := zRt.fr hsN48_ c47_ (by decide) (by decide)
                          refine zw_aload_n (pc := 76) (n := 0) (x := 81) rfl (zdal_p dlC_M_closes_117 (i := 16) rfl) ?_
                          refine zw_dup (pc := 77) rfl (zdal_p dlC_M_closes_117 (i := 17) rfl) ?_
                          refine zr_getI (hf_N48_.w hW) (pc := 78) f_M_296 rfl (zdal_p dlC_M_closes_117 (i := 18) rfl) ?_
                          refine zw_iconst (pc := 81) (v := Int32.ofInt 1) (by decide) (zdal_p dlC_M_closes_117 (i := 19) rfl) ?_
                          refine zr_isub (pc := 82) (zdal_p dlC_M_closes_117 (i := 20) rfl) ?_
                          refine zr_putI (hf_N48_.w hW) (pc := 83) f_M_296 rfl rfl ⟨by (exact zo_64 e42_N43_ e42_N48_ hrd_ r42_N32_.1), by (exact zo_65 e42_N43_ e42_N48_ r42_N32_.2)⟩ rfl rfl (zdal_p dlC_M_closes_117 (i := 21) rfl) (fun N52_ hsN52_ hvN52_ => ?_)
                          have hf_N52_ : zFr [3, 4, 5, 6, 7, 8, 11, 39, 41, 42] [95, 96, 97] Mz N52_ := hf_N48_.tr hsN52_ (by decide) (by decide)
                          have hb0_N52_ : zFr [41, 42] [95] N27_ N52_ := hb0_N48_.tr hsN52_ (by decide) (by decide)
                          have e3_N52_ : ze N52_ 81 3 = ze N48_ 81 3 := hsN52_.e (by decide)
                          have e4_N52_ : ze N52_ 81 4 = ze N48_ 81 4 := hsN52_.e (by decide)
                          have e7_N52_ : ze N52_ 81 7 = ze N48_ 81 7 := hsN52_.e (by decide)
                          have e38_N52_ : ze N52_ 81 38 = ze N48_ 81 38 := hsN52_.e (by decide)
                          have e39_N52_ : ze N52_ 81 39 = ze N48_ 81 39 := hsN52_.e (by decide)
                          have e41_N52_ : ze N52_ 81 41 = ze N48_ 81 41 := hsN52_.e (by decide)
                          have r42_N52_ := ze_r N52_ 81 42
                          have e43_N52_ : ze N52_ 81 43 = ze N48_ 81 43 := hsN52_.e (by decide)
                          have c55_ : zRt b_ n_ N52_ := zRt.fr hsN52_ c51_ (by decide) (by decide)
                          have hng_ := zRI_ng (Mz := N32_) (Nz := N52_) hF27_ hri_ (by (exact zo_1 hc_44)) (by (exact zo_262 hc_59 hx_)) (by (exact zo_1290 e41_N43_ e41_N52_ hc_44 hvN48_ r41_N48_.2)) (fun i_ => ((hsN52_.ie (by decide) (by decide) i_).trans (hsN48_.ie (by decide) (by decide) i_)).trans (hsN43_.ie (by decide) (by decide) i_)) (by (exact zo_1291 e42_N43_ e42_N48_ hrd_ hvN52_ r42_N52_.2)) (by (exact zo_19 e38_N43_ e38_N48_ e38_N52_)) (by (exact zo_19 e39_N43_ e39_N48_ e39_N52_)) (fun x_ hx_ => ((hsN52_.jg (by decide) (by decide) x_).trans (hsN48_.jg (by decide) (by decide) x_)).trans (hn0_ x_ (by (exact hx_)))) (fun q_ => (zrw_c (fun k_ _ => (hsN52_.jg (by decide) (by decide) _).trans (hsN48_.jg (by decide) (by decide) _))).trans (hn1_ q_))
                          have hng1_ := hng_.1
                          have hcl2_ : zClI b_ n_ F_ K_ nm_ Mz N52_ := zClI_s hcl_ hng_.2.1 hng_.2.2 (by (exact zo_19 e43_N43_ e43_N48_ e43_N52_)) (by (exact zo_19 e4_N43_ e4_N48_ e4_N52_))
                          refine zw_goto (pc := 86) (tgt := 33) (by decide) (zdal_p dlC_M_closes_117 (i := 22) rfl) ?_
                          exact ih_33 N52_ hb0_N52_ c55_ hng1_ (show ze N52_ 81 43 = ze Mz 81 43 by first | with_reducible assumption | (exact zo_1292 e43_N43_ e43_N48_ e43_N52_ i36_) | assumption) (show (1 ≤ ze N52_ 81 7 ∧ zRea (zfs b_ n_ F_ K_ nm_) (zRst 1 F_ Mz) zFt) ∨ (ze N52_ 81 7 = 0 ∧ zClI b_ n_ F_ K_ nm_ Mz N52_ ∧ ze Mz 81 4 ≤ ze N52_ 81 4) from Or.inr (⟨(show ze N52_ 81 7 = 0 by first | exact hcl2_ | (exact zo_595 e7_N43_ e7_N48_ e7_N52_ hl33_0_i37_)), (show zClI b_ n_ F_ K_ nm_ Mz N52_ by first | exact hcl2_ | omega), (show ze Mz 81 4 ≤ ze N52_ 81 4 by first | exact hcl2_ | (exact zo_1293 e4_N43_ e4_N48_ e4_N52_ hl33_2_i37_))⟩)) (by (exact zo_1294 e41_N43_ e41_N52_ hc_44 hlt_33 hvN48_ r41_N48_.2))
                  · skip
                    exfalso; (exact zo_260 hl33_0_i37_ ha34_0_hp0_N40_)
            refine zW_le [some (.ref 81), none] (⟨rfl, trivial⟩) ?_
            exact lp_33 _ N27_ zFr.rf c31_ hpw1_ (show ze N27_ 81 43 = ze Mz 81 43 by first | with_reducible assumption | (exact zo_250 e43_N27_ e43_N3_ e43_N8_) | assumption) (show (1 ≤ ze N27_ 81 7 ∧ zRea (zfs b_ n_ F_ K_ nm_) (zRst 1 F_ Mz) zFt) ∨ (ze N27_ 81 7 = 0 ∧ zClI b_ n_ F_ K_ nm_ Mz N27_ ∧ ze Mz 81 4 ≤ ze N27_ 81 4) from Or.inr (⟨(show ze N27_ 81 7 = 0 by first | with_reducible assumption | (exact zo_610 e7_N27_ ha17_0_hp1_N8_) | assumption), (show zClI b_ n_ F_ K_ nm_ Mz N27_ by first | with_reducible assumption | assumption | omega), (show ze Mz 81 4 ≤ ze N27_ 81 4 by first | with_reducible assumption | assumption | omega)⟩)) (Nat.lt_succ_self _)
        · skip
          exfalso; (exact zo_260 ha17_0_hp1_N8_ ha22_0_hp0_N25_)
  · skip
    have hP_ := ha3_0_hp0_N1_ p4_
    have hcl0_ : zClI b_ n_ F_ K_ nm_ Mz Mz := zClI_a hP_
    show zW l m_M_closes (zn Mz + 0, zw Mz + 0) Mz 6 [some (.ref 81), none] [.int (Int32.ofInt 0)] _
    refine zr_if_eq (pc := 6) (tgt := 33) ⟨(by decide), (by decide)⟩ (by decide) (zdal_p dlC_M_closes_116 (i := 3) rfl) (fun hc_6 => ?_) (fun hc_6 => ?_)
    · skip
      have lp_33 : ∀ (n : Nat) (N56_ : zMem) (hs57_ : zFr [41, 42] [95] Mz N56_) (i58_ : zRt b_ n_ N56_) (i59_ : zRI F_ K_ 1 N56_) (i60_ : ze N56_ 81 43 = ze Mz 81 43) (i61_ : (1 ≤ ze N56_ 81 7 ∧ zRea (zfs b_ n_ F_ K_ nm_) (zRst 1 F_ Mz) zFt) ∨ (ze N56_ 81 7 = 0 ∧ zClI b_ n_ F_ K_ nm_ Mz N56_ ∧ ze Mz 81 4 ≤ ze N56_ 81 4)), (ze N56_ 81 41).toNat < n → zW l m_M_closes (zn Mz + 0, zw Mz + 0) N56_ 33 [some (.ref 81), none] [] (zpV [3, 4, 5, 6, 7, 8, 11, 39, 41, 42] [95, 96, 97] Mz (fun N => zRt b_ n_ N ∧ ze N 81 43 = ze Mz 81 43 ∧ (((1 ≤ ze N 81 7 ∧ zRea (zfs b_ n_ F_ K_ nm_) (zRst 1 F_ Mz) zFt) ∨ (ze N 81 7 = 0 ∧ zRea (zfs b_ n_ F_ K_ nm_) (zRst 1 F_ Mz) (zRst 2 F_ N) ∧ zRI F_ K_ 1 N ∧ (zrS N).head? ≠ some 1 ∧ ze Mz 81 4 ≤ ze N 81 4))))) := by
        intro n
        induction n with
        | zero =>
          intro N56_ hs57_ i58_ i59_ i60_ i61_ h0
          exact absurd h0 (Nat.not_lt_zero _)
        | succ n ih_33 =>
          intro N56_ hs57_ i58_ i59_ i60_ i61_ hlt_33
          have hf_N56_ : zFr [3, 4, 5, 6, 7, 8, 11, 39, 41, 42] [95, 96, 97] Mz N56_ := hf.tr hs57_ (by decide) (by decide)
          have e3_N56_ : ze N56_ 81 3 = ze Mz 81 3 := hs57_.e (by decide)
          have e4_N56_ : ze N56_ 81 4 = ze Mz 81 4 := hs57_.e (by decide)
          have e7_N56_ : ze N56_ 81 7 = ze Mz 81 7 := hs57_.e (by decide)
          have e38_N56_ : ze N56_ 81 38 = ze Mz 81 38 := hs57_.e (by decide)
          have e39_N56_ : ze N56_ 81 39 = ze Mz 81 39 := hs57_.e (by decide)
          have r41_N56_ := ze_r N56_ 81 41
          have r42_N56_ := ze_r N56_ 81 42
          have e43_N56_ : ze N56_ 81 43 = ze Mz 81 43 := hs57_.e (by decide)
          have c62_ : zRmk F_ K_ N56_ := zRmk.fr hs57_ p0_ (by decide) (by decide)
          rcases i61_ with ⟨hl33_0_i61_, hl33_1_i61_⟩ | ⟨hl33_0_i61_, hl33_1_i61_, hl33_2_i61_⟩
          · skip
            exfalso; (exact zo_1295 e7_N56_ hl33_0_i61_ p4_)
          · skip
            have hri_ := i59_
            have hrb_ := hri_.bd
            have hr0_ := hri_.1
            have hro_ := hri_.one
            have hrd_ := hri_.2.2.1
            have hcl_ := (show zClI b_ n_ F_ K_ nm_ Mz N56_ by first | with_reducible assumption | assumption)
            refine zw_aload_n (pc := 33) (n := 0) (x := 81) rfl (zdal_p dlC_M_closes_116 (i := 17) rfl) ?_
            refine zr_callV (hf_N56_.w hW) hf_N56_.x (pc := 34) [] [] l_M_183 (c_M_isGood l N56_ (hf_N56_.w hW) ) rfl rfl rfl (by decide) (Nat.le_of_ble_eq_true rfl) (zdal_p dlC_M_closes_116 (i := 18) rfl) ?_
            rintro _ N64_ ⟨v65_, rfl, ⟨hv65_a, hv65_b⟩, hsN64_, hp0_N64_⟩
            obtain rfl := hsN64_.eq.symm
            replace hp0_N64_ : ((v65_ = 1 ∧ ze N56_ 81 7 = 0) ∨ (v65_ = 0 ∧ ze N56_ 81 7 ≠ 0)) := hp0_N64_
            rcases hp0_N64_ with ⟨rfl, ha34_0_hp0_N64_⟩ | ⟨rfl, ha34_0_hp0_N64_⟩
            · skip
              show zW l m_M_closes (zn Mz + 0, zw Mz + 0) N56_ 37 [some (.ref 81), none] [.int (Int32.ofInt 1)] _
              refine zr_if_eq (pc := 37) (tgt := 89) ⟨(by decide), (by decide)⟩ (by decide) (zdal_p dlC_M_closes_116 (i := 19) rfl) (fun hc_37 => ?_) (fun hc_37 => ?_)
              · skip
                exact absurd hc_37 (by decide)
              · skip
                refine zw_aload_n (pc := 40) (n := 0) (x := 81) rfl (zdal_p dlC_M_closes_116 (i := 20) rfl) ?_
                refine zr_getI (hf_N56_.w hW) (pc := 41) f_M_305 rfl (zdal_p dlC_M_closes_116 (i := 21) rfl) ?_
                refine zr_if_le (pc := 44) (tgt := 89) ⟨(ze_r N56_ 81 41).1, (ze_r N56_ 81 41).2⟩ (by decide) (zdal_p dlC_M_closes_116 (i := 22) rfl) (fun hc_44 => ?_) (fun hc_44 => ?_)
                · skip
                  have hh_ : ze N56_ 81 7 = 0 → (zrS N56_).head? ≠ some 1 := fun q_ => by first | (intro h_; rw [zrS_z (by (exact hc_44))] at h_; cases h_) | (intro h_; rw [zrS_h (by omega)] at h_; injection h_ with h_; omega) | (exfalso; omega)
                  exact zr_vret (pc := 89) rfl hf_N56_ ⟨i58_, (show ze N56_ 81 43 = ze Mz 81 43 by first | with_reducible assumption | assumption | omega), (show ((1 ≤ ze N56_ 81 7 ∧ zRea (zfs b_ n_ F_ K_ nm_) (zRst 1 F_ Mz) zFt) ∨ (ze N56_ 81 7 = 0 ∧ zRea (zfs b_ n_ F_ K_ nm_) (zRst 1 F_ Mz) (zRst 2 F_ N56_) ∧ zRI F_ K_ 1 N56_ ∧ (zrS N56_).head? ≠ some 1 ∧ ze Mz 81 4 ≤ ze N56_ 81 4)) from Or.inr (⟨(show ze N56_ 81 7 = 0 by first | exact hh_ (by (exact hl33_0_i61_)) | exact zRea.st (zClI_e hcl_ (hh_ (by (exact hl33_0_i61_)))) | exact i59_ | (exact hl33_0_i61_)), (show zRea (zfs b_ n_ F_ K_ nm_) (zRst 1 F_ Mz) (zRst 2 F_ N56_) by first | exact hh_ (by (exact hl33_0_i61_)) | exact zRea.st (zClI_e hcl_ (hh_ (by (exact hl33_0_i61_)))) | exact i59_ | omega), (show zRI F_ K_ 1 N56_ by first | exact hh_ (by (exact hl33_0_i61_)) | exact zRea.st (zClI_e hcl_ (hh_ (by (exact hl33_0_i61_)))) | exact i59_ | omega), (show (zrS N56_).head? ≠ some 1 by first | exact hh_ (by (exact hl33_0_i61_)) | exact zRea.st (zClI_e hcl_ (hh_ (by omega))) | exact i59_ | omega), (show ze Mz 81 4 ≤ ze N56_ 81 4 by first | exact hh_ (by (exact hl33_0_i61_)) | exact zRea.st (zClI_e hcl_ (hh_ (by (exact hl33_0_i61_)))) | exact i59_ | (exact hl33_2_i61_))⟩))⟩ d_M_closes_89
                · skip
                  refine zw_aload_n (pc := 47) (n := 0) (x := 81) rfl (zdal_p dlC_M_closes_116 (i := 23) rfl) ?_
                  refine zr_getF (r := 100) (hf_N56_.w hW) (pc := 48) f_M_72 rfl (zh_100 (hf_N56_.w hW)).1 (zdal_p dlC_M_closes_117 (i := 0) rfl) ?_
                  refine zw_aload_n (pc := 51) (n := 0) (x := 81) rfl (zdal_p dlC_M_closes_117 (i := 1) rfl) ?_
                  refine zr_getI (hf_N56_.w hW) (pc := 52) f_M_305 rfl (zdal_p dlC_M_closes_117 (i := 2) rfl) ?_
                  refine zw_iconst (pc := 55) (v := Int32.ofInt 1) (by decide) (zdal_p dlC_M_closes_117 (i := 3) rfl) ?_
                  refine zr_isub (pc := 56) (zdal_p dlC_M_closes_117 (i := 4) rfl) ?_
                  refine zr_ialdn (pc := 57) (zh_100 (hf_N56_.w hW)).2 (by decide) (by (exact zo_1265 hc_44)) (by (exact zo_1266 hrb_.1 hrb_.2.2.2 r41_N56_.2)) (zdal_p dlC_M_closes_117 (i := 5) rfl) (fun v66_ hv66_ hv66_a hv66_b => ?_)
                  rw [hf_N56_.ie (by decide) (by decide)] at hv66_
                  have hx_ : v66_ = ze N56_ 100 (ze N56_ 81 41 - 1).toNat := by first | exact hv66_ | exact hv66_.trans (hf_N56_.ie (by decide) (by decide) _).symm
                  refine zw_iconst (pc := 58) (v := Int32.ofInt 1) (by decide) (zdal_p dlC_M_closes_117 (i := 6) rfl) ?_
                  refine zr_icmp_ne (pc := 59) (tgt := 89) ⟨hv66_a, hv66_b⟩ ⟨(by decide), (by decide)⟩ (by decide) (zdal_p dlC_M_closes_117 (i := 7) rfl) (fun hc_59 => ?_) (fun hc_59 => ?_)
                  · skip
                    have hh_ : ze N56_ 81 7 = 0 → (zrS N56_).head? ≠ some 1 := fun q_ => by first | (intro h_; rw [zrS_z (by omega)] at h_; cases h_) | (intro h_; rw [zrS_h (by (exact zo_1 hc_44))] at h_; injection h_ with h_; omega) | (exfalso; omega)
                    exact zr_vret (pc := 89) rfl hf_N56_ ⟨i58_, (show ze N56_ 81 43 = ze Mz 81 43 by first | with_reducible assumption | assumption | omega), (show ((1 ≤ ze N56_ 81 7 ∧ zRea (zfs b_ n_ F_ K_ nm_) (zRst 1 F_ Mz) zFt) ∨ (ze N56_ 81 7 = 0 ∧ zRea (zfs b_ n_ F_ K_ nm_) (zRst 1 F_ Mz) (zRst 2 F_ N56_) ∧ zRI F_ K_ 1 N56_ ∧ (zrS N56_).head? ≠ some 1 ∧ ze Mz 81 4 ≤ ze N56_ 81 4)) from Or.inr (⟨(show ze N56_ 81 7 = 0 by first | exact hh_ (by (exact hl33_0_i61_)) | exact zRea.st (zClI_e hcl_ (hh_ (by (exact hl33_0_i61_)))) | exact i59_ | (exact hl33_0_i61_)), (show zRea (zfs b_ n_ F_ K_ nm_) (zRst 1 F_ Mz) (zRst 2 F_ N56_) by first | exact hh_ (by (exact hl33_0_i61_)) | exact zRea.st (zClI_e hcl_ (hh_ (by (exact hl33_0_i61_)))) | exact i59_ | omega), (show zRI F_ K_ 1 N56_ by first | exact hh_ (by (exact hl33_0_i61_)) | exact zRea.st (zClI_e hcl_ (hh_ (by (exact hl33_0_i61_)))) | exact i59_ | omega), (show (zrS N56_).head? ≠ some 1 by first | exact hh_ (by (exact hl33_0_i61_)) | exact zRea.st (zClI_e hcl_ (hh_ (by omega))) | exact i59_ | omega), (show ze Mz 81 4 ≤ ze N56_ 81 4 by first | exact hh_ (by (exact hl33_0_i61_)) | exact zRea.st (zClI_e hcl_ (hh_ (by (exact hl33_0_i61_)))) | exact i59_ | (exact hl33_2_i61_))⟩))⟩ d_M_closes_89
                  · skip
                    refine zw_aload_n (pc := 62) (n := 0) (x := 81) rfl (zdal_p dlC_M_closes_117 (i := 8) rfl) ?_
                    refine zr_callV (hf_N56_.w hW) hf_N56_.x (pc := 63) [] [] l_M_328 (c_M_negatesF l N56_ (hf_N56_.w hW) F_ K_ hA_ c62_ (show 1 ≤ ze N56_ 81 38 by first | with_reducible assumption | (exact zo_694 hro_.1) | assumption) (show ze N56_ 81 38 ≤ 40 by first | with_reducible assumption | (exact zo_1286 hro_.2) | assumption)) rfl rfl rfl (by decide) (Nat.le_of_ble_eq_true rfl) (zdal_p dlC_M_closes_117 (i := 9) rfl) ?_
                    rintro _ N67_ ⟨rfl, hsN67_, ⟨hp0_N67_, hp1_N67_⟩⟩
                    have hf_N67_ : zFr [3, 4, 5, 6, 7, 8, 11, 39, 41, 42] [95, 96, 97] Mz N67_ := hf_N56_.tr hsN67_ (by decide) (by decide)
                    have hb0_N67_ : zFr [41, 42] [95] Mz N67_ := hs57_.tr hsN67_ (by decide) (by decide)
                    have e3_N67_ : ze N67_ 81 3 = ze N56_ 81 3 := hsN67_.e (by decide)
                    have e4_N67_ : ze N67_ 81 4 = ze N56_ 81 4 := hsN67_.e (by decide)
                    have e7_N67_ : ze N67_ 81 7 = ze N56_ 81 7 := hsN67_.e (by decide)
                    have e38_N67_ : ze N67_ 81 38 = ze N56_ 81 38 := hsN67_.e (by decide)
                    have e39_N67_ : ze N67_ 81 39 = ze N56_ 81 39 := hsN67_.e (by decide)
                    have e41_N67_ : ze N67_ 81 41 = ze N56_ 81 41 := hsN67_.e (by decide)
                    have e42_N67_ : ze N67_ 81 42 = ze N56_ 81 42 := hsN67_.e (by decide)
                    have e43_N67_ : ze N67_ 81 43 = ze N56_ 81 43 := hsN67_.e (by decide)
                    have c71_ : zRt b_ n_ N67_ := zRt.fr hsN67_ i58_ (by decide) (by decide)
                    show zW l m_M_closes (zn Mz + 0, zw Mz + 0) N67_ 66 [some (.ref 81), none] [] _
                    have hn0_ := hp0_N67_
                    have hn1_ := hp1_N67_
                    refine zw_aload_n (pc := 66) (n := 0) (x := 81) rfl (zdal_p dlC_M_closes_117 (i := 10) rfl) ?_
                    refine zw_dup (pc := 67) rfl (zdal_p dlC_M_closes_117 (i := 11) rfl) ?_
                    refine zr_getI (hf_N67_.w hW) (pc := 68) f_M_305 rfl (zdal_p dlC_M_closes_117 (i := 12) rfl) ?_
                    refine zw_iconst (pc := 71) (v := Int32.ofInt 1) (by decide) (zdal_p dlC_M_closes_117 (i := 13) rfl) ?_
                    refine zr_isub (pc := 72) (zdal_p dlC_M_closes_117 (i := 14) rfl) ?_
                    refine zr_putI (hf_N67_.w hW) (pc := 73) f_M_305 rfl rfl ⟨by (exact zo_1289 e41_N67_ hc_44), by (exact zo_6 e41_N67_ r41_N56_.2)⟩ rfl rfl (zdal_p dlC_M_closes_117 (i := 15) rfl) (fun N72_ hsN72_ hvN72_ => ?_)
                    have hf_N72_ : zFr [3, 4, 5, 6, 7, 8, 11, 39, 41, 42] [95, 96, 97] Mz N72_ := hf_N67_.tr hsN72_ (by decide) (by decide)
                    have hb0_N72_ : zFr [41, 42] [95] Mz N72_ := hb0_N67_.tr hsN72_ (by decide) (by decide)
                    have e3_N72_ : ze N72_ 81 3 = ze N67_ 81 3 := hsN72_.e (by decide)
                    have e4_N72_ : ze N72_ 81 4 = ze N67_ 81 4 := hsN72_.e (by decide)
                    have e7_N72_ : ze N72_ 81 7 = ze N67_ 81 7 := hsN72_.e (by decide)
                    have e38_N72_ : ze N72_ 81 38 = ze N67_ 81 38 := hsN72_.e (by decide)
                    have e39_N72_ : ze N72_ 81 39 = ze N67_ 81 39 := hsN72_.e (by decide)
                    have r41_N72_ := ze_r N72_ 81 41
                    have e42_N72_ : ze N72_ 81 42 = ze N67_ 81 42 := hsN72_.e (by decide)
                    have e43_N72_ : ze N72_ 81 43 = ze N67_ 81 43 := hsN72_.e (by decide)
                    have c75_ : zRt b_ n_ N72_ := zRt.fr hsN72_ c71_ (by decide) (by decide)
                    refine zw_aload_n (pc := 76) (n := 0) (x := 81) rfl (zdal_p dlC_M_closes_117 (i := 16) rfl) ?_
                    refine zw_dup (pc := 77) rfl (zdal_p dlC_M_closes_117 (i := 17) rfl) ?_
                    refine zr_getI (hf_N72_.w hW) (pc := 78) f_M_296 rfl (zdal_p dlC_M_closes_117 (i := 18) rfl) ?_
                    refine zw_iconst (pc := 81) (v := Int32.ofInt 1) (by decide) (zdal_p dlC_M_closes_117 (i := 19) rfl) ?_
                    refine zr_isub (pc := 82) (zdal_p dlC_M_closes_117 (i := 20) rfl) ?_
                    refine zr_putI (hf_N72_.w hW) (pc := 83) f_M_296 rfl rfl ⟨by (exact zo_64 e42_N67_ e42_N72_ hrd_ r42_N56_.1), by (exact zo_65 e42_N67_ e42_N72_ r42_N56_.2)⟩ rfl rfl (zdal_p dlC_M_closes_117 (i := 21) rfl) (fun N76_ hsN76_ hvN76_ => ?_)
                    have hf_N76_ : zFr [3, 4, 5, 6, 7, 8, 11, 39, 41, 42] [95, 96, 97] Mz N76_ := hf_N72_.tr hsN76_ (by decide) (by decide)
                    have hb0_N76_ : zFr [41, 42] [95] Mz N76_ := hb0_N72_.tr hsN76_ (by decide) (by decide)
                    have e3_N76_ : ze N76_ 81 3 = ze N72_ 81 3 := hsN76_.e (by decide)
                    have e4_N76_ : ze N76_ 81 4 = ze N72_ 81 4 := hsN76_.e (by decide)
                    have e7_N76_ : ze N76_ 81 7 = ze N72_ 81 7 := hsN76_.e (by decide)
                    have e38_N76_ : ze N76_ 81 38 = ze N72_ 81 38 := hsN76_.e (by decide)
                    have e39_N76_ : ze N76_ 81 39 = ze N72_ 81 39 := hsN76_.e (by decide)
                    have e41_N76_ : ze N76_ 81 41 = ze N72_ 81 41 := hsN76_.e (by decide)
                    have r42_N76_ := ze_r N76_ 81 42
                    have e43_N76_ : ze N76_ 81 43 = ze N72_ 81 43 := hsN76_.e (by decide)
                    have c79_ : zRt b_ n_ N76_ := zRt.fr hsN76_ c75_ (by decide) (by decide)
                    have hng_ := zRI_ng (Mz := N56_) (Nz := N76_) hF27_ hri_ (by (exact zo_1 hc_44)) (by (exact zo_262 hc_59 hx_)) (by (exact zo_1290 e41_N67_ e41_N76_ hc_44 hvN72_ r41_N72_.2)) (fun i_ => ((hsN76_.ie (by decide) (by decide) i_).trans (hsN72_.ie (by decide) (by decide) i_)).trans (hsN67_.ie (by decide) (by decide) i_)) (by (exact zo_1291 e42_N67_ e42_N72_ hrd_ hvN76_ r42_N76_.2)) (by (exact zo_19 e38_N67_ e38_N72_ e38_N76_)) (by (exact zo_19 e39_N67_ e39_N72_ e39_N76_)) (fun x_ hx_ => ((hsN76_.jg (by decide) (by decide) x_).trans (hsN72_.jg (by decide) (by decide) x_)).trans (hn0_ x_ (by (exact hx_)))) (fun q_ => (zrw_c (fun k_ _ => (hsN76_.jg (by decide) (by decide) _).trans (hsN72_.jg (by decide) (by decide) _))).trans (hn1_ q_))
                    have hng1_ := hng_.1
                    have hcl2_ : zClI b_ n_ F_ K_ nm_ Mz N76_ := zClI_s hcl_ hng_.2.1 hng_.2.2 (by (exact zo_19 e43_N67_ e43_N72_ e43_N76_)) (by (exact zo_19 e4_N67_ e4_N72_ e4_N76_))
                    refine zw_goto (pc := 86) (tgt := 33) (by decide) (zdal_p dlC_M_closes_117 (i := 22) rfl) ?_
                    exact ih_33 N76_ hb0_N76_ c79_ hng1_ (show ze N76_ 81 43 = ze Mz 81 43 by first | with_reducible assumption | (exact zo_1292 e43_N67_ e43_N72_ e43_N76_ i60_) | assumption) (show (1 ≤ ze N76_ 81 7 ∧ zRea (zfs b_ n_ F_ K_ nm_) (zRst 1 F_ Mz) zFt) ∨ (ze N76_ 81 7 = 0 ∧ zClI b_ n_ F_ K_ nm_ Mz N76_ ∧ ze Mz 81 4 ≤ ze N76_ 81 4) from Or.inr (⟨(show ze N76_ 81 7 = 0 by first | exact hcl2_ | (exact zo_595 e7_N67_ e7_N72_ e7_N76_ hl33_0_i61_)), (show zClI b_ n_ F_ K_ nm_ Mz N76_ by first | exact hcl2_ | omega), (show ze Mz 81 4 ≤ ze N76_ 81 4 by first | exact hcl2_ | (exact zo_1296 e4_N56_ e4_N67_ e4_N72_ e4_N76_))⟩)) (by (exact zo_1294 e41_N67_ e41_N76_ hc_44 hlt_33 hvN72_ r41_N72_.2))
            · skip
              exfalso; (exact zo_260 hl33_0_i61_ ha34_0_hp0_N64_)
      exact lp_33 _ Mz zFr.rf p2_ p3_ (show ze Mz 81 43 = ze Mz 81 43 by first | with_reducible assumption | (exact zo_62) | assumption) (show (1 ≤ ze Mz 81 7 ∧ zRea (zfs b_ n_ F_ K_ nm_) (zRst 1 F_ Mz) zFt) ∨ (ze Mz 81 7 = 0 ∧ zClI b_ n_ F_ K_ nm_ Mz Mz ∧ ze Mz 81 4 ≤ ze Mz 81 4) from Or.inr (⟨(show ze Mz 81 7 = 0 by first | with_reducible assumption | assumption | omega), (show zClI b_ n_ F_ K_ nm_ Mz Mz by first | with_reducible assumption | assumption | omega), (show ze Mz 81 4 ≤ ze Mz 81 4 by first | with_reducible assumption | (exact zo_628) | assumption)⟩)) (Nat.lt_succ_self _)
    · skip
      exact absurd hc_6 (by decide)
