set_option maxHeartbeats 4000000 in
theorem c_M_multipliesF (l : Launch) (Mz : zMem) (hW : zMt Mz) (F_ : Nat) (K_ : Nat → Nat → Int) (hA_ : zTA F_ K_) (p0_ : zRmk F_ K_ Mz) (p1_ : (ze Mz 81 39 = 0 → ∀ k : Nat, k < F_ → zIn (zg Mz 96 k) ∧ zIn (zg Mz 97 k))) : zC l m_M_multiplies 0 0 [.ref 81] Mz (zpV [39] [96] Mz (fun N => zMuI F_ Mz N F_)) := by
  refine zC_of (L0 := [some (.ref 81), none, none, none, none, none]) md_M_multiplies (Nat.le_of_ble_eq_true rfl) rfl ?_ zQ0
  have hf : zFr [39] [96] Mz Mz := zFr.rf
  have r_26 := ze_r Mz 81 26
  have r_39 := ze_r Mz 81 39
  obtain ⟨⟨hF1_, hF27_⟩, hAr_⟩ := id hA_
  obtain ⟨hFc_, hKt_⟩ := id p0_
  refine zw_iconst (pc := 0) (v := Int32.ofInt 0) (by decide) (zdal_p dlC_M_multiplies_122 (i := 0) rfl) ?_
  refine zw_istore_n (pc := 1) (i := 1) (L2 := [some (.ref 81), some (.int (Int32.ofInt 0)), none, none, none, none]) rfl (by decide) rfl (zdal_p dlC_M_multiplies_122 (i := 1) rfl) ?_
  have lp_2 : ∀ (n : Nat) (u1_ : Int) (hu1_a : -2147483648 ≤ u1_) (hu1_b : u1_ < 2147483648) (N2_ : zMem) (hs3_ : zFr [39] [96] Mz N2_) (i4_ : 0 ≤ u1_) (i5_ : u1_ ≤ F_) (i6_ : zMuI F_ Mz N2_ u1_), (F_ - u1_).toNat < n → zW l m_M_multiplies (zn Mz + 0, zw Mz + 0) N2_ 2 [some (.ref 81), some (.int (Int32.ofInt u1_)), none, none, none, none] [] (zpV [39] [96] Mz (fun N => zMuI F_ Mz N F_)) := by
    intro n
    induction n with
    | zero =>
      intro u1_ hu1_a hu1_b N2_ hs3_ i4_ i5_ i6_ h0
      exact absurd h0 (Nat.not_lt_zero _)
    | succ n ih_2 =>
      intro u1_ hu1_a hu1_b N2_ hs3_ i4_ i5_ i6_ hlt_2
      have hf_N2_ : zFr [39] [96] Mz N2_ := hf.tr hs3_ (by decide) (by decide)
      have e26_N2_ : ze N2_ 81 26 = ze Mz 81 26 := hs3_.e (by decide)
      have r39_N2_ := ze_r N2_ 81 39
      have hmi_ := (show zMuI F_ Mz N2_ u1_ by first | with_reducible assumption | assumption)
      have hsame_ := hmi_.2.1 (u1_).toNat (by (exact zo_68))
      refine zw_iload_n (pc := 2) (n := 1) (x := Int32.ofInt u1_) rfl (zdal_p dlC_M_multiplies_122 (i := 2) rfl) ?_
      refine zw_aload_n (pc := 3) (n := 0) (x := 81) rfl (zdal_p dlC_M_multiplies_122 (i := 3) rfl) ?_
      refine zr_getI0 hf_N2_ hW (pc := 4) (by decide) f_M_235 rfl (zdal_p dlC_M_multiplies_122 (i := 4) rfl) ?_
      refine zr_icmp_ge (pc := 7) (tgt := 125) ⟨hu1_a, hu1_b⟩ ⟨(ze_r Mz 81 26).1, (ze_r Mz 81 26).2⟩ (by decide) (zdal_p dlC_M_multiplies_122 (i := 5) rfl) (fun hc_7 => ?_) (fun hc_7 => ?_)
      · skip
        exact zr_vret (pc := 125) rfl hf_N2_ (show zMuI F_ Mz N2_ F_ by rw [show (F_ : Int) = u1_ by (exact zo_69 hF27_ hFc_ hc_7 hu1_b i4_ i5_)]; exact hmi_) (zdal_p dlC_M_multiplies_125 (i := 3) rfl)
      · skip
        refine zw_aload_n (pc := 10) (n := 0) (x := 81) rfl (zdal_p dlC_M_multiplies_122 (i := 6) rfl) ?_
        refine zr_getF (r := 96) (hf_N2_.w hW) (pc := 11) f_M_60 rfl (zh_96 (hf_N2_.w hW)).1 (zdal_p dlC_M_multiplies_122 (i := 7) rfl) ?_
        refine zw_iload_n (pc := 14) (n := 1) (x := Int32.ofInt u1_) rfl (zdal_p dlC_M_multiplies_122 (i := 8) rfl) ?_
        refine zr_laldn (pc := 15) (zh_96 (hf_N2_.w hW)).2 (by decide) (by (exact i4_)) (by (exact zo_70 hF27_ hu1_b i5_)) (zdal_p dlC_M_multiplies_122 (i := 9) rfl) (fun v8_ hv8_ hv8_a hv8_b => ?_)
        have hA15_ : v8_ = zg Mz 96 (u1_).toNat := by first | exact hv8_.trans hsame_ | exact (hv8_.trans (congrFun qzr96_N2_ _)).trans hsame_
        refine zw_lconst (pc := 16) (v := Int64.ofInt 0) (by decide) (zdal_p dlC_M_multiplies_122 (i := 10) rfl) ?_
        refine zr_lcmp (pc := 17) ⟨hv8_a, hv8_b⟩ ⟨(by decide), (by decide)⟩ (zdal_p dlC_M_multiplies_122 (i := 11) rfl) ?_
        have hr9_ := zcmp_s v8_ 0
        refine zr_if_ge (pc := 18) (tgt := 31) ⟨(by (exact zo_71 hr9_)), (by (exact zo_72 hr9_))⟩ (by decide) (zdal_p dlC_M_multiplies_122 (i := 12) rfl) (fun hc_18 => ?_) (fun hc_18 => ?_)
        · skip
          refine zw_aload_n (pc := 31) (n := 0) (x := 81) rfl (zdal_p dlC_M_multiplies_122 (i := 19) rfl) ?_
          refine zr_getF (r := 96) (hf_N2_.w hW) (pc := 32) f_M_60 rfl (zh_96 (hf_N2_.w hW)).1 (zdal_p dlC_M_multiplies_122 (i := 20) rfl) ?_
          refine zw_iload_n (pc := 35) (n := 1) (x := Int32.ofInt u1_) rfl (zdal_p dlC_M_multiplies_122 (i := 21) rfl) ?_
          refine zr_laldn (pc := 36) (zh_96 (hf_N2_.w hW)).2 (by decide) (by (exact i4_)) (by (exact zo_70 hF27_ hu1_b i5_)) (zdal_p dlC_M_multiplies_122 (i := 22) rfl) (fun v10_ hv10_ hv10_a hv10_b => ?_)
          have hA36_ : v10_ = zg Mz 96 (u1_).toNat := by first | exact hv10_.trans hsame_ | exact (hv10_.trans (congrFun qzr96_N2_ _)).trans hsame_
          refine zw_lstore_n (pc := 37) (i := 2) (L2 := [some (.ref 81), some (.int (Int32.ofInt u1_)), some (.long (Int64.ofInt v10_)), none, none, none]) rfl (by decide) rfl (zdal_p dlC_M_multiplies_122 (i := 23) rfl) ?_
          have hxa_ : ze Mz 81 39 = 0 → (0 < zg Mz 96 (u1_).toNat ∧ v10_ = zg Mz 96 (u1_).toNat) ∨ (zg Mz 96 (u1_).toNat ≤ 0 ∧ v10_ = -(zg Mz 96 (u1_).toNat)) := fun q_ => by have hz_ := (p1_ q_ (u1_).toNat (by (exact zo_73 hFc_ hc_7 hu1_b i4_ i5_))).1; unfold zIn zLim at hz_; first | omega | (have hq_ := z64q hnr_ ⟨by omega, by omega⟩ hneg_; omega)
          refine zw_aload_n (pc := 38) (n := 0) (x := 81) rfl (zdal_p dlC_M_multiplies_123 (i := 0) rfl) ?_
          refine zr_getF (r := 97) (hf_N2_.w hW) (pc := 39) f_M_63 rfl (zh_97 (hf_N2_.w hW)).1 (zdal_p dlC_M_multiplies_123 (i := 1) rfl) ?_
          refine zw_iload_n (pc := 42) (n := 1) (x := Int32.ofInt u1_) rfl (zdal_p dlC_M_multiplies_123 (i := 2) rfl) ?_
          refine zr_laldn (pc := 43) (zh_97 (hf_N2_.w hW)).2 (by decide) (by (exact i4_)) (by (exact zo_70 hF27_ hu1_b i5_)) (zdal_p dlC_M_multiplies_123 (i := 3) rfl) (fun v11_ hv11_ hv11_a hv11_b => ?_)
          rw [hf_N2_.jg (by decide) (by decide)] at hv11_
          have hB43_ : v11_ = zg Mz 97 (u1_).toNat := hv11_
          refine zw_lconst (pc := 44) (v := Int64.ofInt 0) (by decide) (zdal_p dlC_M_multiplies_123 (i := 4) rfl) ?_
          refine zr_lcmp (pc := 45) ⟨hv11_a, hv11_b⟩ ⟨(by decide), (by decide)⟩ (zdal_p dlC_M_multiplies_123 (i := 5) rfl) ?_
          have hr12_ := zcmp_s v11_ 0
          refine zr_if_ge (pc := 46) (tgt := 59) ⟨(by (exact zo_71 hr12_)), (by (exact zo_72 hr12_))⟩ (by decide) (zdal_p dlC_M_multiplies_123 (i := 6) rfl) (fun hc_46 => ?_) (fun hc_46 => ?_)
          · skip
            refine zw_aload_n (pc := 59) (n := 0) (x := 81) rfl (zdal_p dlC_M_multiplies_123 (i := 13) rfl) ?_
            refine zr_getF (r := 97) (hf_N2_.w hW) (pc := 60) f_M_63 rfl (zh_97 (hf_N2_.w hW)).1 (zdal_p dlC_M_multiplies_123 (i := 14) rfl) ?_
            refine zw_iload_n (pc := 63) (n := 1) (x := Int32.ofInt u1_) rfl (zdal_p dlC_M_multiplies_123 (i := 15) rfl) ?_
            refine zr_laldn (pc := 64) (zh_97 (hf_N2_.w hW)).2 (by decide) (by (exact i4_)) (by (exact zo_70 hF27_ hu1_b i5_)) (zdal_p dlC_M_multiplies_123 (i := 16) rfl) (fun v13_ hv13_ hv13_a hv13_b => ?_)
            rw [hf_N2_.jg (by decide) (by decide)] at hv13_
            have hB64_ : v13_ = zg Mz 97 (u1_).toNat := hv13_
            refine zw_lstore (pc := 65) (i := 4) (L2 := [some (.ref 81), some (.int (Int32.ofInt u1_)), some (.long (Int64.ofInt v10_)), none, some (.long (Int64.ofInt v13_)), none]) (by decide) rfl (zdal_p dlC_M_multiplies_123 (i := 17) rfl) ?_
            have hxb_ : ze Mz 81 39 = 0 → (0 < zg Mz 97 (u1_).toNat ∧ v13_ = zg Mz 97 (u1_).toNat) ∨ (zg Mz 97 (u1_).toNat ≤ 0 ∧ v13_ = -(zg Mz 97 (u1_).toNat)) := fun q_ => by have hz_ := (p1_ q_ (u1_).toNat (by (exact zo_73 hFc_ hc_7 hu1_b i4_ i5_))).2; unfold zIn zLim at hz_; first | omega | (have hq_ := z64q hnrb_ ⟨by omega, by omega⟩ hnegb_; omega)
            refine zw_lload_n (pc := 67) (n := 2) (x := Int64.ofInt v10_) rfl (zdal_p dlC_M_multiplies_123 (i := 18) rfl) ?_
            refine zw_lconst (pc := 68) (v := Int64.ofInt 0) (by decide) (zdal_p dlC_M_multiplies_123 (i := 19) rfl) ?_
            refine zr_lcmp (pc := 69) ⟨hv10_a, hv10_b⟩ ⟨(by decide), (by decide)⟩ (zdal_p dlC_M_multiplies_123 (i := 20) rfl) ?_
            have hr14_ := zcmp_s v10_ 0
            refine zr_if_le (pc := 70) (tgt := 89) ⟨(by (exact zo_71 hr14_)), (by (exact zo_72 hr14_))⟩ (by decide) (zdal_p dlC_M_multiplies_123 (i := 21) rfl) (fun hc_70 => ?_) (fun hc_70 => ?_)
            · skip
              have hgg_ : (ze N2_ 81 39 = 1 ∧ 1 ≤ v10_ ∧ zlquo 1000000000000 v10_ < v13_) ∨ (ze N2_ 81 39 = ze N2_ 81 39 ∧ (v10_ ≤ 0 ∨ v13_ ≤ zlquo 1000000000000 v10_)) := by omega
              refine zw_aload_n (pc := 89) (n := 0) (x := 81) rfl d_M_multiplies_89 ?_
              refine zr_getF (r := 96) (hf_N2_.w hW) (pc := 90) f_M_60 rfl (zh_96 (hf_N2_.w hW)).1 d_M_multiplies_90 ?_
              refine zw_iload_n (pc := 93) (n := 1) (x := Int32.ofInt u1_) rfl d_M_multiplies_93 ?_
              refine zw_aload_n (pc := 94) (n := 0) (x := 81) rfl d_M_multiplies_94 ?_
              refine zr_getI (hf_N2_.w hW) (pc := 95) f_M_275 rfl d_M_multiplies_95 ?_
              refine zr_if_eq (pc := 98) (tgt := 105) ⟨(ze_r N2_ 81 39).1, (ze_r N2_ 81 39).2⟩ (by decide) d_M_multiplies_98 (fun hc_98 => ?_) (fun hc_98 => ?_)
              · skip
                refine zw_aload_n (pc := 105) (n := 0) (x := 81) rfl d_M_multiplies_105 ?_
                refine zr_getF (r := 96) (hf_N2_.w hW) (pc := 106) f_M_60 rfl (zh_96 (hf_N2_.w hW)).1 d_M_multiplies_106 ?_
                refine zw_iload_n (pc := 109) (n := 1) (x := Int32.ofInt u1_) rfl d_M_multiplies_109 ?_
                refine zr_laldn (pc := 110) (zh_96 (hf_N2_.w hW)).2 (by decide) (by (exact i4_)) (by (exact zo_70 hF27_ hu1_b i5_)) d_M_multiplies_110 (fun v15_ hv15_ hv15_a hv15_b => ?_)
                have hA110_ : v15_ = zg Mz 96 (u1_).toNat := by first | exact hv15_.trans hsame_ | exact (hv15_.trans (congrFun qzr96_N2_ _)).trans hsame_
                refine zw_aload_n (pc := 111) (n := 0) (x := 81) rfl d_M_multiplies_111 ?_
                refine zr_getF (r := 97) (hf_N2_.w hW) (pc := 112) f_M_63 rfl (zh_97 (hf_N2_.w hW)).1 d_M_multiplies_112 ?_
                refine zw_iload_n (pc := 115) (n := 1) (x := Int32.ofInt u1_) rfl d_M_multiplies_115 ?_
                refine zr_laldn (pc := 116) (zh_97 (hf_N2_.w hW)).2 (by decide) (by (exact i4_)) (by (exact zo_70 hF27_ hu1_b i5_)) d_M_multiplies_116 (fun v16_ hv16_ hv16_a hv16_b => ?_)
                rw [hf_N2_.jg (by decide) (by decide)] at hv16_
                have hB116_ : v16_ = zg Mz 97 (u1_).toNat := hv16_
                refine zr_lmul (pc := 117) d_M_multiplies_117 ?_
                have hww_ : (ze N2_ 81 39 ≠ 0 ∧ ((v15_ * v16_) : Int) = 0) ∨ (ze N2_ 81 39 = 0 ∧ ((v15_ * v16_) : Int) = zg Mz 96 (u1_).toNat * zg Mz 97 (u1_).toNat) := by first | exact Or.inl ⟨by omega, rfl⟩ | exact Or.inr ⟨by (exact hc_98), by rw [hA110_, hB116_]⟩
                refine zr_last (pc := 118) (zh_96 (hf_N2_.w hW)).2 (by decide) (by decide) (by (exact i4_)) (by (exact zo_70 hF27_ hu1_b i5_)) d_M_multiplies_118 (fun N17_ hN17_ hsN17_ => ?_)
                have hf_N17_ : zFr [39] [96] Mz N17_ := hf_N2_.tr hsN17_ (by decide) (by decide)
                have hb0_N17_ : zFr [39] [96] Mz N17_ := hs3_.tr hsN17_ (by decide) (by decide)
                have e26_N17_ : ze N17_ 81 26 = ze N2_ 81 26 := hsN17_.e (by decide)
                have e39_N17_ : ze N17_ 81 39 = ze N2_ 81 39 := hsN17_.e (by decide)
                have hms_ := zMuI_s (P := N2_) (Q := N17_) hmi_ (by (exact i4_)) rfl rfl hxa_ hxb_ hgg_ (fun hM_ => p1_ hM_ (u1_).toNat (by (exact zo_73 hFc_ hc_7 hu1_b i4_ i5_))) (by first | exact fun k_ => rfl | exact fun k_ => congrFun qzr96_N2_ k_) hN17_ (by (exact e39_N17_)) hww_
                refine zr_iinc (pc := 119) (i := 1) (a := u1_) (n := 1) (L2 := [some (.ref 81), some (.int (Int32.ofInt (u1_ + 1))), some (.long (Int64.ofInt v10_)), none, some (.long (Int64.ofInt v13_)), none]) rfl (by decide) rfl d_M_multiplies_119 ?_
                refine zw_goto (pc := 122) (tgt := 2) (by decide) d_M_multiplies_122 ?_
                refine zW_le [some (.ref 81), some (.int (Int32.ofInt (u1_ + 1))), none, none, none, none] (⟨rfl, rfl, trivial⟩) ?_
                exact ih_2 (u1_ + 1) (by (exact zo_74 i4_)) (by (exact zo_75 hF27_ hu1_b i5_)) N17_ hb0_N17_ (show 0 ≤ (u1_ + 1) by first | with_reducible assumption | (exact zo_76 i4_) | assumption) (show (u1_ + 1) ≤ F_ by first | with_reducible assumption | (exact zo_77 hFc_ hc_7 hu1_b i5_) | assumption) (show zMuI F_ Mz N17_ (u1_ + 1) by exact hms_) (by (exact zo_78 hFc_ hc_7 hlt_2 hu1_b i5_))
              · skip
                refine zw_lconst (pc := 101) (v := Int64.ofInt 0) (by decide) d_M_multiplies_101 ?_
                refine zw_goto (pc := 102) (tgt := 118) (by decide) d_M_multiplies_102 ?_
                have hww_ : (ze N2_ 81 39 ≠ 0 ∧ (0 : Int) = 0) ∨ (ze N2_ 81 39 = 0 ∧ (0 : Int) = zg Mz 96 (u1_).toNat * zg Mz 97 (u1_).toNat) := by first | exact Or.inl ⟨by (exact hc_98), rfl⟩ | exact Or.inr ⟨by omega, by rw [hA110_, hB116_]⟩
                refine zr_last (pc := 118) (zh_96 (hf_N2_.w hW)).2 (by decide) (by decide) (by (exact i4_)) (by (exact zo_70 hF27_ hu1_b i5_)) d_M_multiplies_118 (fun N19_ hN19_ hsN19_ => ?_)
                have hf_N19_ : zFr [39] [96] Mz N19_ := hf_N2_.tr hsN19_ (by decide) (by decide)
                have hb0_N19_ : zFr [39] [96] Mz N19_ := hs3_.tr hsN19_ (by decide) (by decide)
                have e26_N19_ : ze N19_ 81 26 = ze N2_ 81 26 := hsN19_.e (by decide)
                have e39_N19_ : ze N19_ 81 39 = ze N2_ 81 39 := hsN19_.e (by decide)
                have hms_ := zMuI_s (P := N2_) (Q := N19_) hmi_ (by (exact i4_)) rfl rfl hxa_ hxb_ hgg_ (fun hM_ => p1_ hM_ (u1_).toNat (by (exact zo_73 hFc_ hc_7 hu1_b i4_ i5_))) (by first | exact fun k_ => rfl | exact fun k_ => congrFun qzr96_N2_ k_) hN19_ (by (exact e39_N19_)) hww_
                refine zr_iinc (pc := 119) (i := 1) (a := u1_) (n := 1) (L2 := [some (.ref 81), some (.int (Int32.ofInt (u1_ + 1))), some (.long (Int64.ofInt v10_)), none, some (.long (Int64.ofInt v13_)), none]) rfl (by decide) rfl d_M_multiplies_119 ?_
                refine zw_goto (pc := 122) (tgt := 2) (by decide) d_M_multiplies_122 ?_
                refine zW_le [some (.ref 81), some (.int (Int32.ofInt (u1_ + 1))), none, none, none, none] (⟨rfl, rfl, trivial⟩) ?_
                exact ih_2 (u1_ + 1) (by (exact zo_74 i4_)) (by (exact zo_75 hF27_ hu1_b i5_)) N19_ hb0_N19_ (show 0 ≤ (u1_ + 1) by first | with_reducible assumption | (exact zo_76 i4_) | assumption) (show (u1_ + 1) ≤ F_ by first | with_reducible assumption | (exact zo_77 hFc_ hc_7 hu1_b i5_) | assumption) (show zMuI F_ Mz N19_ (u1_ + 1) by exact hms_) (by (exact zo_78 hFc_ hc_7 hlt_2 hu1_b i5_))
            · skip
              refine zw_lload (pc := 73) (i := 4) (x := Int64.ofInt v13_) rfl (zdal_p dlC_M_multiplies_123 (i := 22) rfl) ?_
              refine zr_ldc2 (pc := 75) (n := 1000000000000) (by decide) k_M_262 (zdal_p dlC_M_multiplies_123 (i := 23) rfl) ?_
              refine zw_lload_n (pc := 78) (n := 2) (x := Int64.ofInt v10_) rfl (zdal_p dlC_M_multiplies_124 (i := 0) rfl) ?_
              refine zr_ldiv (pc := 79) ⟨by (exact hv10_a), by (exact hv10_b)⟩ (by omega) (zdal_p dlC_M_multiplies_124 (i := 1) rfl) ?_
              have hr21_ := zlquo_r 1000000000000 v10_
              refine zr_lcmp (pc := 80) ⟨hv13_a, hv13_b⟩ ⟨(by (exact zo_79 hr21_.1)), (by (exact zo_80 hr21_.2))⟩ (zdal_p dlC_M_multiplies_124 (i := 2) rfl) ?_
              have hr22_ := zcmp_s v13_ (zlquo 1000000000000 v10_)
              refine zr_if_le (pc := 81) (tgt := 89) ⟨(by (exact zo_81 hr22_)), (by (exact zo_82 hr22_))⟩ (by decide) (zdal_p dlC_M_multiplies_124 (i := 3) rfl) (fun hc_81 => ?_) (fun hc_81 => ?_)
              · skip
                have hgg_ : (ze N2_ 81 39 = 1 ∧ 1 ≤ v10_ ∧ zlquo 1000000000000 v10_ < v13_) ∨ (ze N2_ 81 39 = ze N2_ 81 39 ∧ (v10_ ≤ 0 ∨ v13_ ≤ zlquo 1000000000000 v10_)) := by omega
                refine zw_aload_n (pc := 89) (n := 0) (x := 81) rfl d_M_multiplies_89 ?_
                refine zr_getF (r := 96) (hf_N2_.w hW) (pc := 90) f_M_60 rfl (zh_96 (hf_N2_.w hW)).1 d_M_multiplies_90 ?_
                refine zw_iload_n (pc := 93) (n := 1) (x := Int32.ofInt u1_) rfl d_M_multiplies_93 ?_
                refine zw_aload_n (pc := 94) (n := 0) (x := 81) rfl d_M_multiplies_94 ?_
                refine zr_getI (hf_N2_.w hW) (pc := 95) f_M_275 rfl d_M_multiplies_95 ?_
                refine zr_if_eq (pc := 98) (tgt := 105) ⟨(ze_r N2_ 81 39).1, (ze_r N2_ 81 39).2⟩ (by decide) d_M_multiplies_98 (fun hc_98 => ?_) (fun hc_98 => ?_)
                · skip
                  refine zw_aload_n (pc := 105) (n := 0) (x := 81) rfl d_M_multiplies_105 ?_
                  refine zr_getF (r := 96) (hf_N2_.w hW) (pc := 106) f_M_60 rfl (zh_96 (hf_N2_.w hW)).1 d_M_multiplies_106 ?_
                  refine zw_iload_n (pc := 109) (n := 1) (x := Int32.ofInt u1_) rfl d_M_multiplies_109 ?_
                  refine zr_laldn (pc := 110) (zh_96 (hf_N2_.w hW)).2 (by decide) (by (exact i4_)) (by (exact zo_70 hF27_ hu1_b i5_)) d_M_multiplies_110 (fun v23_ hv23_ hv23_a hv23_b => ?_)
                  have hA110_ : v23_ = zg Mz 96 (u1_).toNat := by first | exact hv23_.trans hsame_ | exact (hv23_.trans (congrFun qzr96_N2_ _)).trans hsame_
                  refine zw_aload_n (pc := 111) (n := 0) (x := 81) rfl d_M_multiplies_111 ?_
                  refine zr_getF (r := 97) (hf_N2_.w hW) (pc := 112) f_M_63 rfl (zh_97 (hf_N2_.w hW)).1 d_M_multiplies_112 ?_
                  refine zw_iload_n (pc := 115) (n := 1) (x := Int32.ofInt u1_) rfl d_M_multiplies_115 ?_
                  refine zr_laldn (pc := 116) (zh_97 (hf_N2_.w hW)).2 (by decide) (by (exact i4_)) (by (exact zo_70 hF27_ hu1_b i5_)) d_M_multiplies_116 (fun v24_ hv24_ hv24_a hv24_b => ?_)
                  rw [hf_N2_.jg (by decide) (by decide)] at hv24_
                  have hB116_ : v24_ = zg Mz 97 (u1_).toNat := hv24_
                  refine zr_lmul (pc := 117) d_M_multiplies_117 ?_
                  have hww_ : (ze N2_ 81 39 ≠ 0 ∧ ((v23_ * v24_) : Int) = 0) ∨ (ze N2_ 81 39 = 0 ∧ ((v23_ * v24_) : Int) = zg Mz 96 (u1_).toNat * zg Mz 97 (u1_).toNat) := by first | exact Or.inl ⟨by omega, rfl⟩ | exact Or.inr ⟨by (exact hc_98), by rw [hA110_, hB116_]⟩
                  refine zr_last (pc := 118) (zh_96 (hf_N2_.w hW)).2 (by decide) (by decide) (by (exact i4_)) (by (exact zo_70 hF27_ hu1_b i5_)) d_M_multiplies_118 (fun N25_ hN25_ hsN25_ => ?_)
                  have hf_N25_ : zFr [39] [96] Mz N25_ := hf_N2_.tr hsN25_ (by decide) (by decide)
                  have hb0_N25_ : zFr [39] [96] Mz N25_ := hs3_.tr hsN25_ (by decide) (by decide)
                  have e26_N25_ : ze N25_ 81 26 = ze N2_ 81 26 := hsN25_.e (by decide)
                  have e39_N25_ : ze N25_ 81 39 = ze N2_ 81 39 := hsN25_.e (by decide)
                  have hms_ := zMuI_s (P := N2_) (Q := N25_) hmi_ (by (exact i4_)) rfl rfl hxa_ hxb_ hgg_ (fun hM_ => p1_ hM_ (u1_).toNat (by (exact zo_73 hFc_ hc_7 hu1_b i4_ i5_))) (by first | exact fun k_ => rfl | exact fun k_ => congrFun qzr96_N2_ k_) hN25_ (by (exact e39_N25_)) hww_
                  refine zr_iinc (pc := 119) (i := 1) (a := u1_) (n := 1) (L2 := [some (.ref 81), some (.int (Int32.ofInt (u1_ + 1))), some (.long (Int64.ofInt v10_)), none, some (.long (Int64.ofInt v13_)), none]) rfl (by decide) rfl d_M_multiplies_119 ?_
                  refine zw_goto (pc := 122) (tgt := 2) (by decide) d_M_multiplies_122 ?_
                  refine zW_le [some (.ref 81), some (.int (Int32.ofInt (u1_ + 1))), none, none, none, none] (⟨rfl, rfl, trivial⟩) ?_
                  exact ih_2 (u1_ + 1) (by (exact zo_74 i4_)) (by (exact zo_75 hF27_ hu1_b i5_)) N25_ hb0_N25_ (show 0 ≤ (u1_ + 1) by first | with_reducible assumption | (exact zo_76 i4_) | assumption) (show (u1_ + 1) ≤ F_ by first | with_reducible assumption | (exact zo_77 hFc_ hc_7 hu1_b i5_) | assumption) (show zMuI F_ Mz N25_ (u1_ + 1) by exact hms_) (by (exact zo_78 hFc_ hc_7 hlt_2 hu1_b i5_))
                · skip
                  refine zw_lconst (pc := 101) (v := Int64.ofInt 0) (by decide) d_M_multiplies_101 ?_
                  refine zw_goto (pc := 102) (tgt := 118) (by decide) d_M_multiplies_102 ?_
                  have hww_ : (ze N2_ 81 39 ≠ 0 ∧ (0 : Int) = 0) ∨ (ze N2_ 81 39 = 0 ∧ (0 : Int) = zg Mz 96 (u1_).toNat * zg Mz 97 (u1_).toNat) := by first | exact Or.inl ⟨by (exact hc_98), rfl⟩ | exact Or.inr ⟨by omega, by rw [hA110_, hB116_]⟩
                  refine zr_last (pc := 118) (zh_96 (hf_N2_.w hW)).2 (by decide) (by decide) (by (exact i4_)) (by (exact zo_70 hF27_ hu1_b i5_)) d_M_multiplies_118 (fun N27_ hN27_ hsN27_ => ?_)
                  have hf_N27_ : zFr [39] [96] Mz N27_ := hf_N2_.tr hsN27_ (by decide) (by decide)
                  have hb0_N27_ : zFr [39] [96] Mz N27_ := hs3_.tr hsN27_ (by decide) (by decide)
                  have e26_N27_ : ze N27_ 81 26 = ze N2_ 81 26 := hsN27_.e (by decide)
                  have e39_N27_ : ze N27_ 81 39 = ze N2_ 81 39 := hsN27_.e (by decide)
                  have hms_ := zMuI_s (P := N2_) (Q := N27_) hmi_ (by (exact i4_)) rfl rfl hxa_ hxb_ hgg_ (fun hM_ => p1_ hM_ (u1_).toNat (by (exact zo_73 hFc_ hc_7 hu1_b i4_ i5_))) (by first | exact fun k_ => rfl | exact fun k_ => congrFun qzr96_N2_ k_) hN27_ (by (exact e39_N27_)) hww_
                  refine zr_iinc (pc := 119) (i := 1) (a := u1_) (n := 1) (L2 := [some (.ref 81), some (.int (Int32.ofInt (u1_ + 1))), some (.long (Int64.ofInt v10_)), none, some (.long (Int64.ofInt v13_)), none]) rfl (by decide) rfl d_M_multiplies_119 ?_
                  refine zw_goto (pc := 122) (tgt := 2) (by decide) d_M_multiplies_122 ?_
                  refine zW_le [some (.ref 81), some (.int (Int32.ofInt (u1_ + 1))), none, none, none, none] (⟨rfl, rfl, trivial⟩) ?_
                  exact ih_2 (u1_ + 1) (by (exact zo_74 i4_)) (by (exact zo_75 hF27_ hu1_b i5_)) N27_ hb0_N27_ (show 0 ≤ (u1_ + 1) by first | with_reducible assumption | (exact zo_76 i4_) | assumption) (show (u1_ + 1) ≤ F_ by first | with_reducible assumption | (exact zo_77 hFc_ hc_7 hu1_b i5_) | assumption) (show zMuI F_ Mz N27_ (u1_ + 1) by exact hms_) (by (exact zo_78 hFc_ hc_7 hlt_2 hu1_b i5_))
              · skip
                refine zw_aload_n (pc := 84) (n := 0) (x := 81) rfl (zdal_p dlC_M_multiplies_124 (i := 4) rfl) ?_
                refine zw_iconst (pc := 85) (v := Int32.ofInt 1) (by decide) (zdal_p dlC_M_multiplies_124 (i := 5) rfl) ?_
                refine zr_putI (hf_N2_.w hW) (pc := 86) f_M_275 rfl rfl ⟨by (decide), by (decide)⟩ (z_narB (by (decide))) (z_fitB (by (decide))) (zdal_p dlC_M_multiplies_124 (i := 6) rfl) (fun N29_ hsN29_ hvN29_ => ?_)
                have hf_N29_ : zFr [39] [96] Mz N29_ := hf_N2_.tr hsN29_ (by decide) (by decide)
                have hb0_N29_ : zFr [39] [96] Mz N29_ := hs3_.tr hsN29_ (by decide) (by decide)
                have e26_N29_ : ze N29_ 81 26 = ze N2_ 81 26 := hsN29_.e (by decide)
                have r39_N29_ := ze_r N29_ 81 39
                have qzr96_N29_ : zr96 N29_ = zr96 N2_ := zr96_f hsN29_ (by decide)
                have hgg_ : (ze N29_ 81 39 = 1 ∧ 1 ≤ v10_ ∧ zlquo 1000000000000 v10_ < v13_) ∨ (ze N29_ 81 39 = ze N2_ 81 39 ∧ (v10_ ≤ 0 ∨ v13_ ≤ zlquo 1000000000000 v10_)) := by omega
                refine zw_aload_n (pc := 89) (n := 0) (x := 81) rfl d_M_multiplies_89 ?_
                refine zr_getF (r := 96) (hf_N29_.w hW) (pc := 90) f_M_60 rfl (zh_96 (hf_N29_.w hW)).1 d_M_multiplies_90 ?_
                refine zw_iload_n (pc := 93) (n := 1) (x := Int32.ofInt u1_) rfl d_M_multiplies_93 ?_
                refine zw_aload_n (pc := 94) (n := 0) (x := 81) rfl d_M_multiplies_94 ?_
                refine zr_getI (hf_N29_.w hW) (pc := 95) f_M_275 rfl d_M_multiplies_95 ?_
                refine zr_if_eq (pc := 98) (tgt := 105) ⟨(ze_r N29_ 81 39).1, (ze_r N29_ 81 39).2⟩ (by decide) d_M_multiplies_98 (fun hc_98 => ?_) (fun hc_98 => ?_)
                · skip
                  refine zw_aload_n (pc := 105) (n := 0) (x := 81) rfl d_M_multiplies_105 ?_
                  refine zr_getF (r := 96) (hf_N29_.w hW) (pc := 106) f_M_60 rfl (zh_96 (hf_N29_.w hW)).1 d_M_multiplies_106 ?_
                  refine zw_iload_n (pc := 109) (n := 1) (x := Int32.ofInt u1_) rfl d_M_multiplies_109 ?_
                  refine zr_laldn (pc := 110) (zh_96 (hf_N29_.w hW)).2 (by decide) (by (exact i4_)) (by (exact zo_70 hF27_ hu1_b i5_)) d_M_multiplies_110 (fun v31_ hv31_ hv31_a hv31_b => ?_)
                  have hA110_ : v31_ = zg Mz 96 (u1_).toNat := by first | exact hv31_.trans hsame_ | exact (hv31_.trans (congrFun qzr96_N29_ _)).trans hsame_
                  refine zw_aload_n (pc := 111) (n := 0) (x := 81) rfl d_M_multiplies_111 ?_
                  refine zr_getF (r := 97) (hf_N29_.w hW) (pc := 112) f_M_63 rfl (zh_97 (hf_N29_.w hW)).1 d_M_multiplies_112 ?_
                  refine zw_iload_n (pc := 115) (n := 1) (x := Int32.ofInt u1_) rfl d_M_multiplies_115 ?_
                  refine zr_laldn (pc := 116) (zh_97 (hf_N29_.w hW)).2 (by decide) (by (exact i4_)) (by (exact zo_70 hF27_ hu1_b i5_)) d_M_multiplies_116 (fun v32_ hv32_ hv32_a hv32_b => ?_)
                  rw [hf_N29_.jg (by decide) (by decide)] at hv32_
                  have hB116_ : v32_ = zg Mz 97 (u1_).toNat := hv32_
                  refine zr_lmul (pc := 117) d_M_multiplies_117 ?_
                  have hww_ : (ze N29_ 81 39 ≠ 0 ∧ ((v31_ * v32_) : Int) = 0) ∨ (ze N29_ 81 39 = 0 ∧ ((v31_ * v32_) : Int) = zg Mz 96 (u1_).toNat * zg Mz 97 (u1_).toNat) := by first | exact Or.inl ⟨by (exact zo_83 hvN29_), rfl⟩ | exact Or.inr ⟨by (exact hc_98), by rw [hA110_, hB116_]⟩
                  refine zr_last (pc := 118) (zh_96 (hf_N29_.w hW)).2 (by decide) (by decide) (by (exact i4_)) (by (exact zo_70 hF27_ hu1_b i5_)) d_M_multiplies_118 (fun N33_ hN33_ hsN33_ => ?_)
                  have hf_N33_ : zFr [39] [96] Mz N33_ := hf_N29_.tr hsN33_ (by decide) (by decide)
                  have hb0_N33_ : zFr [39] [96] Mz N33_ := hb0_N29_.tr hsN33_ (by decide) (by decide)
                  have e26_N33_ : ze N33_ 81 26 = ze N29_ 81 26 := hsN33_.e (by decide)
                  have e39_N33_ : ze N33_ 81 39 = ze N29_ 81 39 := hsN33_.e (by decide)
                  have hms_ := zMuI_s (P := N29_) (Q := N33_) hmi_ (by (exact i4_)) rfl rfl hxa_ hxb_ hgg_ (fun hM_ => p1_ hM_ (u1_).toNat (by (exact zo_73 hFc_ hc_7 hu1_b i4_ i5_))) (by first | exact fun k_ => rfl | exact fun k_ => congrFun qzr96_N29_ k_) hN33_ (by (exact e39_N33_)) hww_
                  refine zr_iinc (pc := 119) (i := 1) (a := u1_) (n := 1) (L2 := [some (.ref 81), some (.int (Int32.ofInt (u1_ + 1))), some (.long (Int64.ofInt v10_)), none, some (.long (Int64.ofInt v13_)), none]) rfl (by decide) rfl d_M_multiplies_119 ?_
                  refine zw_goto (pc := 122) (tgt := 2) (by decide) d_M_multiplies_122 ?_
                  refine zW_le [some (.ref 81), some (.int (Int32.ofInt (u1_ + 1))), none, none, none, none] (⟨rfl, rfl, trivial⟩) ?_
                  exact ih_2 (u1_ + 1) (by (exact zo_74 i4_)) (by (exact zo_75 hF27_ hu1_b i5_)) N33_ hb0_N33_ (show 0 ≤ (u1_ + 1) by first | with_reducible assumption | (exact zo_76 i4_) | assumption) (show (u1_ + 1) ≤ F_ by first | with_reducible assumption | (exact zo_77 hFc_ hc_7 hu1_b i5_) | assumption) (show zMuI F_ Mz N33_ (u1_ + 1) by exact hms_) (by (exact zo_78 hFc_ hc_7 hlt_2 hu1_b i5_))
                · skip
                  refine zw_lconst (pc := 101) (v := Int64.ofInt 0) (by decide) d_M_multiplies_101 ?_
                  refine zw_goto (pc := 102) (tgt := 118) (by decide) d_M_multiplies_102 ?_
                  have hww_ : (ze N29_ 81 39 ≠ 0 ∧ (0 : Int) = 0) ∨ (ze N29_ 81 39 = 0 ∧ (0 : Int) = zg Mz 96 (u1_).toNat * zg Mz 97 (u1_).toNat) := by first | exact Or.inl ⟨by (exact hc_98), rfl⟩ | exact Or.inr ⟨by omega, by rw [hA110_, hB116_]⟩
                  refine zr_last (pc := 118) (zh_96 (hf_N29_.w hW)).2 (by decide) (by decide) (by (exact i4_)) (by (exact zo_70 hF27_ hu1_b i5_)) d_M_multiplies_118 (fun N35_ hN35_ hsN35_ => ?_)
                  have hf_N35_ : zFr [39] [96] Mz N35_ := hf_N29_.tr hsN35_ (by decide) (by decide)
                  have hb0_N35_ : zFr [39] [96] Mz N35_ := hb0_N29_.tr hsN35_ (by decide) (by decide)
                  have e26_N35_ : ze N35_ 81 26 = ze N29_ 81 26 := hsN35_.e (by decide)
                  have e39_N35_ : ze N35_ 81 39 = ze N29_ 81 39 := hsN35_.e (by decide)
                  have hms_ := zMuI_s (P := N29_) (Q := N35_) hmi_ (by (exact i4_)) rfl rfl hxa_ hxb_ hgg_ (fun hM_ => p1_ hM_ (u1_).toNat (by (exact zo_73 hFc_ hc_7 hu1_b i4_ i5_))) (by first | exact fun k_ => rfl | exact fun k_ => congrFun qzr96_N29_ k_) hN35_ (by (exact e39_N35_)) hww_
                  refine zr_iinc (pc := 119) (i := 1) (a := u1_) (n := 1) (L2 := [some (.ref 81), some (.int (Int32.ofInt (u1_ + 1))), some (.long (Int64.ofInt v10_)), none, some (.long (Int64.ofInt v13_)), none]) rfl (by decide) rfl d_M_multiplies_119 ?_
                  refine zw_goto (pc := 122) (tgt := 2) (by decide) d_M_multiplies_122 ?_
                  refine zW_le [some (.ref 81), some (.int (Int32.ofInt (u1_ + 1))), none, none, none, none] (⟨rfl, rfl, trivial⟩) ?_
                  exact ih_2 (u1_ + 1) (by (exact zo_74 i4_)) (by (exact zo_75 hF27_ hu1_b i5_)) N35_ hb0_N35_ (show 0 ≤ (u1_ + 1) by first | with_reducible assumption | (exact zo_76 i4_) | assumption) (show (u1_ + 1) ≤ F_ by first | with_reducible assumption | (exact zo_77 hFc_ hc_7 hu1_b i5_) | assumption) (show zMuI F_ Mz N35_ (u1_ + 1) by exact hms_) (by (exact zo_78 hFc_ hc_7 hlt_2 hu1_b i5_))
          · skip
            refine zw_aload_n (pc := 49) (n := 0) (x := 81) rfl (zdal_p dlC_M_multiplies_123 (i := 7) rfl) ?_
            refine zr_getF (r := 97) (hf_N2_.w hW) (pc := 50) f_M_63 rfl (zh_97 (hf_N2_.w hW)).1 (zdal_p dlC_M_multiplies_123 (i := 8) rfl) ?_
            refine zw_iload_n (pc := 53) (n := 1) (x := Int32.ofInt u1_) rfl (zdal_p dlC_M_multiplies_123 (i := 9) rfl) ?_
            refine zr_laldn (pc := 54) (zh_97 (hf_N2_.w hW)).2 (by decide) (by (exact i4_)) (by (exact zo_70 hF27_ hu1_b i5_)) (zdal_p dlC_M_multiplies_123 (i := 10) rfl) (fun v37_ hv37_ hv37_a hv37_b => ?_)
            rw [hf_N2_.jg (by decide) (by decide)] at hv37_
            have hB54_ : v37_ = zg Mz 97 (u1_).toNat := hv37_
            refine zr_lneg (pc := 55) (zdal_p dlC_M_multiplies_123 (i := 11) rfl) ?_
            refine zk_nmJ (fun v38_ hv38_ hv38_e => ?_)
            obtain ⟨hv38_a, hv38_b⟩ := hv38_
            have hnegb_ := hv38_e
            have hnrb_ : zn64 v38_ := ⟨by (exact hv38_a), by (exact hv38_b)⟩
            refine zw_goto (pc := 56) (tgt := 65) (by decide) (zdal_p dlC_M_multiplies_123 (i := 12) rfl) ?_
            refine zw_lstore (pc := 65) (i := 4) (L2 := [some (.ref 81), some (.int (Int32.ofInt u1_)), some (.long (Int64.ofInt v10_)), none, some (.long (Int64.ofInt v38_)), none]) (by decide) rfl (zdal_p dlC_M_multiplies_123 (i := 17) rfl) ?_
            have hxb_ : ze Mz 81 39 = 0 → (0 < zg Mz 97 (u1_).toNat ∧ v38_ = zg Mz 97 (u1_).toNat) ∨ (zg Mz 97 (u1_).toNat ≤ 0 ∧ v38_ = -(zg Mz 97 (u1_).toNat)) := fun q_ => by have hz_ := (p1_ q_ (u1_).toNat (by (exact zo_73 hFc_ hc_7 hu1_b i4_ i5_))).2; unfold zIn zLim at hz_; first | omega | (have hq_ := z64q hnrb_ ⟨by (exact zo_84 hv37_b), by omega⟩ hnegb_; omega)
            refine zw_lload_n (pc := 67) (n := 2) (x := Int64.ofInt v10_) rfl (zdal_p dlC_M_multiplies_123 (i := 18) rfl) ?_
            refine zw_lconst (pc := 68) (v := Int64.ofInt 0) (by decide) (zdal_p dlC_M_multiplies_123 (i := 19) rfl) ?_
            refine zr_lcmp (pc := 69) ⟨hv10_a, hv10_b⟩ ⟨(by decide), (by decide)⟩ (zdal_p dlC_M_multiplies_123 (i := 20) rfl) ?_
            have hr39_ := zcmp_s v10_ 0
            refine zr_if_le (pc := 70) (tgt := 89) ⟨(by (exact zo_71 hr39_)), (by (exact zo_72 hr39_))⟩ (by decide) (zdal_p dlC_M_multiplies_123 (i := 21) rfl) (fun hc_70 => ?_) (fun hc_70 => ?_)
            · skip
              have hgg_ : (ze N2_ 81 39 = 1 ∧ 1 ≤ v10_ ∧ zlquo 1000000000000 v10_ < v38_) ∨ (ze N2_ 81 39 = ze N2_ 81 39 ∧ (v10_ ≤ 0 ∨ v38_ ≤ zlquo 1000000000000 v10_)) := by omega
              refine zw_aload_n (pc := 89) (n := 0) (x := 81) rfl d_M_multiplies_89 ?_
              refine zr_getF (r := 96) (hf_N2_.w hW) (pc := 90) f_M_60 rfl (zh_96 (hf_N2_.w hW)).1 d_M_multiplies_90 ?_
              refine zw_iload_n (pc := 93) (n := 1) (x := Int32.ofInt u1_) rfl d_M_multiplies_93 ?_
              refine zw_aload_n (pc := 94) (n := 0) (x := 81) rfl d_M_multiplies_94 ?_
              refine zr_getI (hf_N2_.w hW) (pc := 95) f_M_275 rfl d_M_multiplies_95 ?_
              refine zr_if_eq (pc := 98) (tgt := 105) ⟨(ze_r N2_ 81 39).1, (ze_r N2_ 81 39).2⟩ (by decide) d_M_multiplies_98 (fun hc_98 => ?_) (fun hc_98 => ?_)
              · skip
                refine zw_aload_n (pc := 105) (n := 0) (x := 81) rfl d_M_multiplies_105 ?_
                refine zr_getF (r := 96) (hf_N2_.w hW) (pc := 106) f_M_60 rfl (zh_96 (hf_N2_.w hW)).1 d_M_multiplies_106 ?_
                refine zw_iload_n (pc := 109) (n := 1) (x := Int32.ofInt u1_) rfl d_M_multiplies_109 ?_
                refine zr_laldn (pc := 110) (zh_96 (hf_N2_.w hW)).2 (by decide) (by (exact i4_)) (by (exact zo_70 hF27_ hu1_b i5_)) d_M_multiplies_110 (fun v40_ hv40_ hv40_a hv40_b => ?_)
                have hA110_ : v40_ = zg Mz 96 (u1_).toNat := by first | exact hv40_.trans hsame_ | exact (hv40_.trans (congrFun qzr96_N2_ _)).trans hsame_
                refine zw_aload_n (pc := 111) (n := 0) (x := 81) rfl d_M_multiplies_111 ?_
                refine zr_getF (r := 97) (hf_N2_.w hW) (pc := 112) f_M_63 rfl (zh_97 (hf_N2_.w hW)).1 d_M_multiplies_112 ?_
                refine zw_iload_n (pc := 115) (n := 1) (x := Int32.ofInt u1_) rfl d_M_multiplies_115 ?_
                refine zr_laldn (pc := 116) (zh_97 (hf_N2_.w hW)).2 (by decide) (by (exact i4_)) (by (exact zo_70 hF27_ hu1_b i5_)) d_M_multiplies_116 (fun v41_ hv41_ hv41_a hv41_b => ?_)
                rw [hf_N2_.jg (by decide) (by decide)] at hv41_
                have hB116_ : v41_ = zg Mz 97 (u1_).toNat := hv41_
                refine zr_lmul (pc := 117) d_M_multiplies_117 ?_
                have hww_ : (ze N2_ 81 39 ≠ 0 ∧ ((v40_ * v41_) : Int) = 0) ∨ (ze N2_ 81 39 = 0 ∧ ((v40_ * v41_) : Int) = zg Mz 96 (u1_).toNat * zg Mz 97 (u1_).toNat) := by first | exact Or.inl ⟨by omega, rfl⟩ | exact Or.inr ⟨by (exact hc_98), by rw [hA110_, hB116_]⟩
                refine zr_last (pc := 118) (zh_96 (hf_N2_.w hW)).2 (by decide) (by decide) (by (exact i4_)) (by (exact zo_70 hF27_ hu1_b i5_)) d_M_multiplies_118 (fun N42_ hN42_ hsN42_ => ?_)
                have hf_N42_ : zFr [39] [96] Mz N42_ := hf_N2_.tr hsN42_ (by decide) (by decide)
                have hb0_N42_ : zFr [39] [96] Mz N42_ := hs3_.tr hsN42_ (by decide) (by decide)
                have e26_N42_ : ze N42_ 81 26 = ze N2_ 81 26 := hsN42_.e (by decide)
                have e39_N42_ : ze N42_ 81 39 = ze N2_ 81 39 := hsN42_.e (by decide)
                have hms_ := zMuI_s (P := N2_) (Q := N42_) hmi_ (by (exact i4_)) rfl rfl hxa_ hxb_ hgg_ (fun hM_ => p1_ hM_ (u1_).toNat (by (exact zo_73 hFc_ hc_7 hu1_b i4_ i5_))) (by first | exact fun k_ => rfl | exact fun k_ => congrFun qzr96_N2_ k_) hN42_ (by (exact e39_N42_)) hww_
                refine zr_iinc (pc := 119) (i := 1) (a := u1_) (n := 1) (L2 := [some (.ref 81), some (.int (Int32.ofInt (u1_ + 1))), some (.long (Int64.ofInt v10_)), none, some (.long (Int64.ofInt v38_)), none]) rfl (by decide) rfl d_M_multiplies_119 ?_
                refine zw_goto (pc := 122) (tgt := 2) (by decide) d_M_multiplies_122 ?_
                refine zW_le [some (.ref 81), some (.int (Int32.ofInt (u1_ + 1))), none, none, none, none] (⟨rfl, rfl, trivial⟩) ?_
                exact ih_2 (u1_ + 1) (by (exact zo_74 i4_)) (by (exact zo_75 hF27_ hu1_b i5_)) N42_ hb0_N42_ (show 0 ≤ (u1_ + 1) by first | with_reducible assumption | (exact zo_76 i4_) | assumption) (show (u1_ + 1) ≤ F_ by first | with_reducible assumption | (exact zo_77 hFc_ hc_7 hu1_b i5_) | assumption) (show zMuI F_ Mz N42_ (u1_ + 1) by exact hms_) (by (exact zo_78 hFc_ hc_7 hlt_2 hu1_b i5_))
              · skip
                refine zw_lconst (pc := 101) (v := Int64.ofInt 0) (by decide) d_M_multiplies_101 ?_
                refine zw_goto (pc := 102) (tgt := 118) (by decide) d_M_multiplies_102 ?_
                have hww_ : (ze N2_ 81 39 ≠ 0 ∧ (0 : Int) = 0) ∨ (ze N2_ 81 39 = 0 ∧ (0 : Int) = zg Mz 96 (u1_).toNat * zg Mz 97 (u1_).toNat) := by first | exact Or.inl ⟨by (exact hc_98), rfl⟩ | exact Or.inr ⟨by omega, by rw [hA110_, hB116_]⟩
                refine zr_last (pc := 118) (zh_96 (hf_N2_.w hW)).2 (by decide) (by decide) (by (exact i4_)) (by (exact zo_70 hF27_ hu1_b i5_)) d_M_multiplies_118 (fun N44_ hN44_ hsN44_ => ?_)
                have hf_N44_ : zFr [39] [96] Mz N44_ := hf_N2_.tr hsN44_ (by decide) (by decide)
                have hb0_N44_ : zFr [39] [96] Mz N44_ := hs3_.tr hsN44_ (by decide) (by decide)
                have e26_N44_ : ze N44_ 81 26 = ze N2_ 81 26 := hsN44_.e (by decide)
                have e39_N44_ : ze N44_ 81 39 = ze N2_ 81 39 := hsN44_.e (by decide)
                have hms_ := zMuI_s (P := N2_) (Q := N44_) hmi_ (by (exact i4_)) rfl rfl hxa_ hxb_ hgg_ (fun hM_ => p1_ hM_ (u1_).toNat (by (exact zo_73 hFc_ hc_7 hu1_b i4_ i5_))) (by first | exact fun k_ => rfl | exact fun k_ => congrFun qzr96_N2_ k_) hN44_ (by (exact e39_N44_)) hww_
                refine zr_iinc (pc := 119) (i := 1) (a := u1_) (n := 1) (L2 := [some (.ref 81), some (.int (Int32.ofInt (u1_ + 1))), some (.long (Int64.ofInt v10_)), none, some (.long (Int64.ofInt v38_)), none]) rfl (by decide) rfl d_M_multiplies_119 ?_
                refine zw_goto (pc := 122) (tgt := 2) (by decide) d_M_multiplies_122 ?_
                refine zW_le [some (.ref 81), some (.int (Int32.ofInt (u1_ + 1))), none, none, none, none] (⟨rfl, rfl, trivial⟩) ?_
                exact ih_2 (u1_ + 1) (by (exact zo_74 i4_)) (by (exact zo_75 hF27_ hu1_b i5_)) N44_ hb0_N44_ (show 0 ≤ (u1_ + 1) by first | with_reducible assumption | (exact zo_76 i4_) | assumption) (show (u1_ + 1) ≤ F_ by first | with_reducible assumption | (exact zo_77 hFc_ hc_7 hu1_b i5_) | assumption) (show zMuI F_ Mz N44_ (u1_ + 1) by exact hms_) (by (exact zo_78 hFc_ hc_7 hlt_2 hu1_b i5_))
            · skip
              refine zw_lload (pc := 73) (i := 4) (x := Int64.ofInt v38_) rfl (zdal_p dlC_M_multiplies_123 (i := 22) rfl) ?_
              refine zr_ldc2 (pc := 75) (n := 1000000000000) (by decide) k_M_262 (zdal_p dlC_M_multiplies_123 (i := 23) rfl) ?_
              refine zw_lload_n (pc := 78) (n := 2) (x := Int64.ofInt v10_) rfl (zdal_p dlC_M_multiplies_124 (i := 0) rfl) ?_
              refine zr_ldiv (pc := 79) ⟨by (exact hv10_a), by (exact hv10_b)⟩ (by omega) (zdal_p dlC_M_multiplies_124 (i := 1) rfl) ?_
              have hr46_ := zlquo_r 1000000000000 v10_
              refine zr_lcmp (pc := 80) ⟨hv38_a, hv38_b⟩ ⟨(by (exact zo_79 hr46_.1)), (by (exact zo_80 hr46_.2))⟩ (zdal_p dlC_M_multiplies_124 (i := 2) rfl) ?_
              have hr47_ := zcmp_s v38_ (zlquo 1000000000000 v10_)
              refine zr_if_le (pc := 81) (tgt := 89) ⟨(by (exact zo_81 hr47_)), (by (exact zo_82 hr47_))⟩ (by decide) (zdal_p dlC_M_multiplies_124 (i := 3) rfl) (fun hc_81 => ?_) (fun hc_81 => ?_)
              · skip
                have hgg_ : (ze N2_ 81 39 = 1 ∧ 1 ≤ v10_ ∧ zlquo 1000000000000 v10_ < v38_) ∨ (ze N2_ 81 39 = ze N2_ 81 39 ∧ (v10_ ≤ 0 ∨ v38_ ≤ zlquo 1000000000000 v10_)) := by omega
                refine zw_aload_n (pc := 89) (n := 0) (x := 81) rfl d_M_multiplies_89 ?_
                refine zr_getF (r := 96) (hf_N2_.w hW) (pc := 90) f_M_60 rfl (zh_96 (hf_N2_.w hW)).1 d_M_multiplies_90 ?_
                refine zw_iload_n (pc := 93) (n := 1) (x := Int32.ofInt u1_) rfl d_M_multiplies_93 ?_
                refine zw_aload_n (pc := 94) (n := 0) (x := 81) rfl d_M_multiplies_94 ?_
                refine zr_getI (hf_N2_.w hW) (pc := 95) f_M_275 rfl d_M_multiplies_95 ?_
                refine zr_if_eq (pc := 98) (tgt := 105) ⟨(ze_r N2_ 81 39).1, (ze_r N2_ 81 39).2⟩ (by decide) d_M_multiplies_98 (fun hc_98 => ?_) (fun hc_98 => ?_)
                · skip
                  refine zw_aload_n (pc := 105) (n := 0) (x := 81) rfl d_M_multiplies_105 ?_
                  refine zr_getF (r := 96) (hf_N2_.w hW) (pc := 106) f_M_60 rfl (zh_96 (hf_N2_.w hW)).1 d_M_multiplies_106 ?_
                  refine zw_iload_n (pc := 109) (n := 1) (x := Int32.ofInt u1_) rfl d_M_multiplies_109 ?_
                  refine zr_laldn (pc := 110) (zh_96 (hf_N2_.w hW)).2 (by decide) (by (exact i4_)) (by (exact zo_70 hF27_ hu1_b i5_)) d_M_multiplies_110 (fun v48_ hv48_ hv48_a hv48_b => ?_)
                  have hA110_ : v48_ = zg Mz 96 (u1_).toNat := by first | exact hv48_.trans hsame_ | exact (hv48_.trans (congrFun qzr96_N2_ _)).trans hsame_
                  refine zw_aload_n (pc := 111) (n := 0) (x := 81) rfl d_M_multiplies_111 ?_
                  refine zr_getF (r := 97) (hf_N2_.w hW) (pc := 112) f_M_63 rfl (zh_97 (hf_N2_.w hW)).1 d_M_multiplies_112 ?_
                  refine zw_iload_n (pc := 115) (n := 1) (x := Int32.ofInt u1_) rfl d_M_multiplies_115 ?_
                  refine zr_laldn (pc := 116) (zh_97 (hf_N2_.w hW)).2 (by decide) (by (exact i4_)) (by (exact zo_70 hF27_ hu1_b i5_)) d_M_multiplies_116 (fun v49_ hv49_ hv49_a hv49_b => ?_)
                  rw [hf_N2_.jg (by decide) (by decide)] at hv49_
                  have hB116_ : v49_ = zg Mz 97 (u1_).toNat := hv49_
                  refine zr_lmul (pc := 117) d_M_multiplies_117 ?_
                  have hww_ : (ze N2_ 81 39 ≠ 0 ∧ ((v48_ * v49_) : Int) = 0) ∨ (ze N2_ 81 39 = 0 ∧ ((v48_ * v49_) : Int) = zg Mz 96 (u1_).toNat * zg Mz 97 (u1_).toNat) := by first | exact Or.inl ⟨by omega, rfl⟩ | exact Or.inr ⟨by (exact hc_98), by rw [hA110_, hB116_]⟩
                  refine zr_last (pc := 118) (zh_96 (hf_N2_.w hW)).2 (by decide) (by decide) (by (exact i4_)) (by (exact zo_70 hF27_ hu1_b i5_)) d_M_multiplies_118 (fun N50_ hN50_ hsN50_ => ?_)
                  have hf_N50_ : zFr [39] [96] Mz N50_ := hf_N2_.tr hsN50_ (by decide) (by decide)
                  have hb0_N50_ : zFr [39] [96] Mz N50_ := hs3_.tr hsN50_ (by decide) (by decide)
                  have e26_N50_ : ze N50_ 81 26 = ze N2_ 81 26 := hsN50_.e (by decide)
                  have e39_N50_ : ze N50_ 81 39 = ze N2_ 81 39 := hsN50_.e (by decide)
                  have hms_ := zMuI_s (P := N2_) (Q := N50_) hmi_ (by (exact i4_)) rfl rfl hxa_ hxb_ hgg_ (fun hM_ => p1_ hM_ (u1_).toNat (by (exact zo_73 hFc_ hc_7 hu1_b i4_ i5_))) (by first | exact fun k_ => rfl | exact fun k_ => congrFun qzr96_N2_ k_) hN50_ (by (exact e39_N50_)) hww_
                  refine zr_iinc (pc := 119) (i := 1) (a := u1_) (n := 1) (L2 := [some (.ref 81), some (.int (Int32.ofInt (u1_ + 1))), some (.long (Int64.ofInt v10_)), none, some (.long (Int64.ofInt v38_)), none]) rfl (by decide) rfl d_M_multiplies_119 ?_
                  refine zw_goto (pc := 122) (tgt := 2) (by decide) d_M_multiplies_122 ?_
                  refine zW_le [some (.ref 81), some (.int (Int32.ofInt (u1_ + 1))), none, none, none, none] (⟨rfl, rfl, trivial⟩) ?_
                  exact ih_2 (u1_ + 1) (by (exact zo_74 i4_)) (by (exact zo_75 hF27_ hu1_b i5_)) N50_ hb0_N50_ (show 0 ≤ (u1_ + 1) by first | with_reducible assumption | (exact zo_76 i4_) | assumption) (show (u1_ + 1) ≤ F_ by first | with_reducible assumption | (exact zo_77 hFc_ hc_7 hu1_b i5_) | assumption) (show zMuI F_ Mz N50_ (u1_ + 1) by exact hms_) (by (exact zo_78 hFc_ hc_7 hlt_2 hu1_b i5_))
                · skip
                  refine zw_lconst (pc := 101) (v := Int64.ofInt 0) (by decide) d_M_multiplies_101 ?_
                  refine zw_goto (pc := 102) (tgt := 118) (by decide) d_M_multiplies_102 ?_
                  have hww_ : (ze N2_ 81 39 ≠ 0 ∧ (0 : Int) = 0) ∨ (ze N2_ 81 39 = 0 ∧ (0 : Int) = zg Mz 96 (u1_).toNat * zg Mz 97 (u1_).toNat) := by first | exact Or.inl ⟨by (exact hc_98), rfl⟩ | exact Or.inr ⟨by omega, by rw [hA110_, hB116_]⟩
                  refine zr_last (pc := 118) (zh_96 (hf_N2_.w hW)).2 (by decide) (by decide) (by (exact i4_)) (by (exact zo_70 hF27_ hu1_b i5_)) d_M_multiplies_118 (fun N52_ hN52_ hsN52_ => ?_)
                  have hf_N52_ : zFr [39] [96] Mz N52_ := hf_N2_.tr hsN52_ (by decide) (by decide)
                  have hb0_N52_ : zFr [39] [96] Mz N52_ := hs3_.tr hsN52_ (by decide) (by decide)
                  have e26_N52_ : ze N52_ 81 26 = ze N2_ 81 26 := hsN52_.e (by decide)
                  have e39_N52_ : ze N52_ 81 39 = ze N2_ 81 39 := hsN52_.e (by decide)
                  have hms_ := zMuI_s (P := N2_) (Q := N52_) hmi_ (by (exact i4_)) rfl rfl hxa_ hxb_ hgg_ (fun hM_ => p1_ hM_ (u1_).toNat (by (exact zo_73 hFc_ hc_7 hu1_b i4_ i5_))) (by first | exact fun k_ => rfl | exact fun k_ => congrFun qzr96_N2_ k_) hN52_ (by (exact e39_N52_)) hww_
                  refine zr_iinc (pc := 119) (i := 1) (a := u1_) (n := 1) (L2 := [some (.ref 81), some (.int (Int32.ofInt (u1_ + 1))), some (.long (Int64.ofInt v10_)), none, some (.long (Int64.ofInt v38_)), none]) rfl (by decide) rfl d_M_multiplies_119 ?_
                  refine zw_goto (pc := 122) (tgt := 2) (by decide) d_M_multiplies_122 ?_
                  refine zW_le [some (.ref 81), some (.int (Int32.ofInt (u1_ + 1))), none, none, none, none] (⟨rfl, rfl, trivial⟩) ?_
                  exact ih_2 (u1_ + 1) (by (exact zo_74 i4_)) (by (exact zo_75 hF27_ hu1_b i5_)) N52_ hb0_N52_ (show 0 ≤ (u1_ + 1) by first | with_reducible assumption | (exact zo_76 i4_) | assumption) (show (u1_ + 1) ≤ F_ by first | with_reducible assumption | (exact zo_77 hFc_ hc_7 hu1_b i5_) | assumption) (show zMuI F_ Mz N52_ (u1_ + 1) by exact hms_) (by (exact zo_78 hFc_ hc_7 hlt_2 hu1_b i5_))
              · skip
                refine zw_aload_n (pc := 84) (n := 0) (x := 81) rfl (zdal_p dlC_M_multiplies_124 (i := 4) rfl) ?_
                refine zw_iconst (pc := 85) (v := Int32.ofInt 1) (by decide) (zdal_p dlC_M_multiplies_124 (i := 5) rfl) ?_
                refine zr_putI (hf_N2_.w hW) (pc := 86) f_M_275 rfl rfl ⟨by (decide), by (decide)⟩ (z_narB (by (decide))) (z_fitB (by (decide))) (zdal_p dlC_M_multiplies_124 (i := 6) rfl) (fun N54_ hsN54_ hvN54_ => ?_)
                have hf_N54_ : zFr [39] [96] Mz N54_ := hf_N2_.tr hsN54_ (by decide) (by decide)
                have hb0_N54_ : zFr [39] [96] Mz N54_ := hs3_.tr hsN54_ (by decide) (by decide)
                have e26_N54_ : ze N54_ 81 26 = ze N2_ 81 26 := hsN54_.e (by decide)
                have r39_N54_ := ze_r N54_ 81 39
                have qzr96_N54_ : zr96 N54_ = zr96 N2_ := zr96_f hsN54_ (by decide)
                have hgg_ : (ze N54_ 81 39 = 1 ∧ 1 ≤ v10_ ∧ zlquo 1000000000000 v10_ < v38_) ∨ (ze N54_ 81 39 = ze N2_ 81 39 ∧ (v10_ ≤ 0 ∨ v38_ ≤ zlquo 1000000000000 v10_)) := by omega
                refine zw_aload_n (pc := 89) (n := 0) (x := 81) rfl d_M_multiplies_89 ?_
                refine zr_getF (r := 96) (hf_N54_.w hW) (pc := 90) f_M_60 rfl (zh_96 (hf_N54_.w hW)).1 d_M_multiplies_90 ?_
                refine zw_iload_n (pc := 93) (n := 1) (x := Int32.ofInt u1_) rfl d_M_multiplies_93 ?_
                refine zw_aload_n (pc := 94) (n := 0) (x := 81) rfl d_M_multiplies_94 ?_
                refine zr_getI (hf_N54_.w hW) (pc := 95) f_M_275 rfl d_M_multiplies_95 ?_
                refine zr_if_eq (pc := 98) (tgt := 105) ⟨(ze_r N54_ 81 39).1, (ze_r N54_ 81 39).2⟩ (by decide) d_M_multiplies_98 (fun hc_98 => ?_) (fun hc_98 => ?_)
                · skip
                  refine zw_aload_n (pc := 105) (n := 0) (x := 81) rfl d_M_multiplies_105 ?_
                  refine zr_getF (r := 96) (hf_N54_.w hW) (pc := 106) f_M_60 rfl (zh_96 (hf_N54_.w hW)).1 d_M_multiplies_106 ?_
                  refine zw_iload_n (pc := 109) (n := 1) (x := Int32.ofInt u1_) rfl d_M_multiplies_109 ?_
                  refine zr_laldn (pc := 110) (zh_96 (hf_N54_.w hW)).2 (by decide) (by (exact i4_)) (by (exact zo_70 hF27_ hu1_b i5_)) d_M_multiplies_110 (fun v56_ hv56_ hv56_a hv56_b => ?_)
                  have hA110_ : v56_ = zg Mz 96 (u1_).toNat := by first | exact hv56_.trans hsame_ | exact (hv56_.trans (congrFun qzr96_N54_ _)).trans hsame_
                  refine zw_aload_n (pc := 111) (n := 0) (x := 81) rfl d_M_multiplies_111 ?_
                  refine zr_getF (r := 97) (hf_N54_.w hW) (pc := 112) f_M_63 rfl (zh_97 (hf_N54_.w hW)).1 d_M_multiplies_112 ?_
                  refine zw_iload_n (pc := 115) (n := 1) (x := Int32.ofInt u1_) rfl d_M_multiplies_115 ?_
                  refine zr_laldn (pc := 116) (zh_97 (hf_N54_.w hW)).2 (by decide) (by (exact i4_)) (by (exact zo_70 hF27_ hu1_b i5_)) d_M_multiplies_116 (fun v57_ hv57_ hv57_a hv57_b => ?_)
                  rw [hf_N54_.jg (by decide) (by decide)] at hv57_
                  have hB116_ : v57_ = zg Mz 97 (u1_).toNat := hv57_
                  refine zr_lmul (pc := 117) d_M_multiplies_117 ?_
                  have hww_ : (ze N54_ 81 39 ≠ 0 ∧ ((v56_ * v57_) : Int) = 0) ∨ (ze N54_ 81 39 = 0 ∧ ((v56_ * v57_) : Int) = zg Mz 96 (u1_).toNat * zg Mz 97 (u1_).toNat) := by first | exact Or.inl ⟨by (exact zo_83 hvN54_), rfl⟩ | exact Or.inr ⟨by (exact hc_98), by rw [hA110_, hB116_]⟩
                  refine zr_last (pc := 118) (zh_96 (hf_N54_.w hW)).2 (by decide) (by decide) (by (exact i4_)) (by (exact zo_70 hF27_ hu1_b i5_)) d_M_multiplies_118 (fun N58_ hN58_ hsN58_ => ?_)
                  have hf_N58_ : zFr [39] [96] Mz N58_ := hf_N54_.tr hsN58_ (by decide) (by decide)
                  have hb0_N58_ : zFr [39] [96] Mz N58_ := hb0_N54_.tr hsN58_ (by decide) (by decide)
                  have e26_N58_ : ze N58_ 81 26 = ze N54_ 81 26 := hsN58_.e (by decide)
                  have e39_N58_ : ze N58_ 81 39 = ze N54_ 81 39 := hsN58_.e (by decide)
                  have hms_ := zMuI_s (P := N54_) (Q := N58_) hmi_ (by (exact i4_)) rfl rfl hxa_ hxb_ hgg_ (fun hM_ => p1_ hM_ (u1_).toNat (by (exact zo_73 hFc_ hc_7 hu1_b i4_ i5_))) (by first | exact fun k_ => rfl | exact fun k_ => congrFun qzr96_N54_ k_) hN58_ (by (exact e39_N58_)) hww_
                  refine zr_iinc (pc := 119) (i := 1) (a := u1_) (n := 1) (L2 := [some (.ref 81), some (.int (Int32.ofInt (u1_ + 1))), some (.long (Int64.ofInt v10_)), none, some (.long (Int64.ofInt v38_)), none]) rfl (by decide) rfl d_M_multiplies_119 ?_
                  refine zw_goto (pc := 122) (tgt := 2) (by decide) d_M_multiplies_122 ?_
                  refine zW_le [some (.ref 81), some (.int (Int32.ofInt (u1_ + 1))), none, none, none, none] (⟨rfl, rfl, trivial⟩) ?_
                  exact ih_2 (u1_ + 1) (by (exact zo_74 i4_)) (by (exact zo_75 hF27_ hu1_b i5_)) N58_ hb0_N58_ (show 0 ≤ (u1_ + 1) by first | with_reducible assumption | (exact zo_76 i4_) | assumption) (show (u1_ + 1) ≤ F_ by first | with_reducible assumption | (exact zo_77 hFc_ hc_7 hu1_b i5_) | assumption) (show zMuI F_ Mz N58_ (u1_ + 1) by exact hms_) (by (exact zo_78 hFc_ hc_7 hlt_2 hu1_b i5_))
                · skip
                  refine zw_lconst (pc := 101) (v := Int64.ofInt 0) (by decide) d_M_multiplies_101 ?_
                  refine zw_goto (pc := 102) (tgt := 118) (by decide) d_M_multiplies_102 ?_
                  have hww_ : (ze N54_ 81 39 ≠ 0 ∧ (0 : Int) = 0) ∨ (ze N54_ 81 39 = 0 ∧ (0 : Int) = zg Mz 96 (u1_).toNat * zg Mz 97 (u1_).toNat) := by first | exact Or.inl ⟨by (exact hc_98), rfl⟩ | exact Or.inr ⟨by omega, by rw [hA110_, hB116_]⟩
                  refine zr_last (pc := 118) (zh_96 (hf_N54_.w hW)).2 (by decide) (by decide) (by (exact i4_)) (by (exact zo_70 hF27_ hu1_b i5_)) d_M_multiplies_118 (fun N60_ hN60_ hsN60_ => ?_)
                  have hf_N60_ : zFr [39] [96] Mz N60_ := hf_N54_.tr hsN60_ (by decide) (by decide)
                  have hb0_N60_ : zFr [39] [96] Mz N60_ := hb0_N54_.tr hsN60_ (by decide) (by decide)
                  have e26_N60_ : ze N60_ 81 26 = ze N54_ 81 26 := hsN60_.e (by decide)
                  have e39_N60_ : ze N60_ 81 39 = ze N54_ 81 39 := hsN60_.e (by decide)
                  have hms_ := zMuI_s (P := N54_) (Q := N60_) hmi_ (by (exact i4_)) rfl rfl hxa_ hxb_ hgg_ (fun hM_ => p1_ hM_ (u1_).toNat (by (exact zo_73 hFc_ hc_7 hu1_b i4_ i5_))) (by first | exact fun k_ => rfl | exact fun k_ => congrFun qzr96_N54_ k_) hN60_ (by (exact e39_N60_)) hww_
                  refine zr_iinc (pc := 119) (i := 1) (a := u1_) (n := 1) (L2 := [some (.ref 81), some (.int (Int32.ofInt (u1_ + 1))), some (.long (Int64.ofInt v10_)), none, some (.long (Int64.ofInt v38_)), none]) rfl (by decide) rfl d_M_multiplies_119 ?_
                  refine zw_goto (pc := 122) (tgt := 2) (by decide) d_M_multiplies_122 ?_
                  refine zW_le [some (.ref 81), some (.int (Int32.ofInt (u1_ + 1))), none, none, none, none] (⟨rfl, rfl, trivial⟩) ?_
                  exact ih_2 (u1_ + 1) (by (exact zo_74 i4_)) (by (exact zo_75 hF27_ hu1_b i5_)) N60_ hb0_N60_ (show 0 ≤ (u1_ + 1) by first | with_reducible assumption | (exact zo_76 i4_) | assumption) (show (u1_ + 1) ≤ F_ by first | with_reducible assumption | (exact zo_77 hFc_ hc_7 hu1_b i5_) | assumption) (show zMuI F_ Mz N60_ (u1_ + 1) by exact hms_) (by (exact zo_78 hFc_ hc_7 hlt_2 hu1_b i5_))
        · skip
          refine zw_aload_n (pc := 21) (n := 0) (x := 81) rfl (zdal_p dlC_M_multiplies_122 (i := 13) rfl) ?_
          refine zr_getF (r := 96) (hf_N2_.w hW) (pc := 22) f_M_60 rfl (zh_96 (hf_N2_.w hW)).1 (zdal_p dlC_M_multiplies_122 (i := 14) rfl) ?_
          refine zw_iload_n (pc := 25) (n := 1) (x := Int32.ofInt u1_) rfl (zdal_p dlC_M_multiplies_122 (i := 15) rfl) ?_
          refine zr_laldn (pc := 26) (zh_96 (hf_N2_.w hW)).2 (by decide) (by (exact i4_)) (by (exact zo_70 hF27_ hu1_b i5_)) (zdal_p dlC_M_multiplies_122 (i := 16) rfl) (fun v62_ hv62_ hv62_a hv62_b => ?_)
          have hA26_ : v62_ = zg Mz 96 (u1_).toNat := by first | exact hv62_.trans hsame_ | exact (hv62_.trans (congrFun qzr96_N2_ _)).trans hsame_
          refine zr_lneg (pc := 27) (zdal_p dlC_M_multiplies_122 (i := 17) rfl) ?_
          refine zk_nmJ (fun v63_ hv63_ hv63_e => ?_)
          obtain ⟨hv63_a, hv63_b⟩ := hv63_
          have hneg_ := hv63_e
          have hnr_ : zn64 v63_ := ⟨by (exact hv63_a), by (exact hv63_b)⟩
          refine zw_goto (pc := 28) (tgt := 37) (by decide) (zdal_p dlC_M_multiplies_122 (i := 18) rfl) ?_
          refine zw_lstore_n (pc := 37) (i := 2) (L2 := [some (.ref 81), some (.int (Int32.ofInt u1_)), some (.long (Int64.ofInt v63_)), none, none, none]) rfl (by decide) rfl (zdal_p dlC_M_multiplies_122 (i := 23) rfl) ?_
          have hxa_ : ze Mz 81 39 = 0 → (0 < zg Mz 96 (u1_).toNat ∧ v63_ = zg Mz 96 (u1_).toNat) ∨ (zg Mz 96 (u1_).toNat ≤ 0 ∧ v63_ = -(zg Mz 96 (u1_).toNat)) := fun q_ => by have hz_ := (p1_ q_ (u1_).toNat (by (exact zo_73 hFc_ hc_7 hu1_b i4_ i5_))).1; unfold zIn zLim at hz_; first | omega | (have hq_ := z64q hnr_ ⟨by (exact zo_84 hv62_b), by omega⟩ hneg_; omega)
          refine zw_aload_n (pc := 38) (n := 0) (x := 81) rfl (zdal_p dlC_M_multiplies_123 (i := 0) rfl) ?_
          refine zr_getF (r := 97) (hf_N2_.w hW) (pc := 39) f_M_63 rfl (zh_97 (hf_N2_.w hW)).1 (zdal_p dlC_M_multiplies_123 (i := 1) rfl) ?_
          refine zw_iload_n (pc := 42) (n := 1) (x := Int32.ofInt u1_) rfl (zdal_p dlC_M_multiplies_123 (i := 2) rfl) ?_
          refine zr_laldn (pc := 43) (zh_97 (hf_N2_.w hW)).2 (by decide) (by (exact i4_)) (by (exact zo_70 hF27_ hu1_b i5_)) (zdal_p dlC_M_multiplies_123 (i := 3) rfl) (fun v64_ hv64_ hv64_a hv64_b => ?_)
          rw [hf_N2_.jg (by decide) (by decide)] at hv64_
          have hB43_ : v64_ = zg Mz 97 (u1_).toNat := hv64_
          refine zw_lconst (pc := 44) (v := Int64.ofInt 0) (by decide) (zdal_p dlC_M_multiplies_123 (i := 4) rfl) ?_
          refine zr_lcmp (pc := 45) ⟨hv64_a, hv64_b⟩ ⟨(by decide), (by decide)⟩ (zdal_p dlC_M_multiplies_123 (i := 5) rfl) ?_
          have hr65_ := zcmp_s v64_ 0
          refine zr_if_ge (pc := 46) (tgt := 59) ⟨(by (exact zo_71 hr65_)), (by (exact zo_72 hr65_))⟩ (by decide) (zdal_p dlC_M_multiplies_123 (i := 6) rfl) (fun hc_46 => ?_) (fun hc_46 => ?_)
          · skip
            refine zw_aload_n (pc := 59) (n := 0) (x := 81) rfl (zdal_p dlC_M_multiplies_123 (i := 13) rfl) ?_
            refine zr_getF (r := 97) (hf_N2_.w hW) (pc := 60) f_M_63 rfl (zh_97 (hf_N2_.w hW)).1 (zdal_p dlC_M_multiplies_123 (i := 14) rfl) ?_
            refine zw_iload_n (pc := 63) (n := 1) (x := Int32.ofInt u1_) rfl (zdal_p dlC_M_multiplies_123 (i := 15) rfl) ?_
            refine zr_laldn (pc := 64) (zh_97 (hf_N2_.w hW)).2 (by decide) (by (exact i4_)) (by (exact zo_70 hF27_ hu1_b i5_)) (zdal_p dlC_M_multiplies_123 (i := 16) rfl) (fun v66_ hv66_ hv66_a hv66_b => ?_)
            rw [hf_N2_.jg (by decide) (by decide)] at hv66_
            have hB64_ : v66_ = zg Mz 97 (u1_).toNat := hv66_
            refine zw_lstore (pc := 65) (i := 4) (L2 := [some (.ref 81), some (.int (Int32.ofInt u1_)), some (.long (Int64.ofInt v63_)), none, some (.long (Int64.ofInt v66_)), none]) (by decide) rfl (zdal_p dlC_M_multiplies_123 (i := 17) rfl) ?_
            have hxb_ : ze Mz 81 39 = 0 → (0 < zg Mz 97 (u1_).toNat ∧ v66_ = zg Mz 97 (u1_).toNat) ∨ (zg Mz 97 (u1_).toNat ≤ 0 ∧ v66_ = -(zg Mz 97 (u1_).toNat)) := fun q_ => by have hz_ := (p1_ q_ (u1_).toNat (by (exact zo_73 hFc_ hc_7 hu1_b i4_ i5_))).2; unfold zIn zLim at hz_; first | omega | (have hq_ := z64q hnrb_ ⟨by omega, by omega⟩ hnegb_; omega)
            refine zw_lload_n (pc := 67) (n := 2) (x := Int64.ofInt v63_) rfl (zdal_p dlC_M_multiplies_123 (i := 18) rfl) ?_
            refine zw_lconst (pc := 68) (v := Int64.ofInt 0) (by decide) (zdal_p dlC_M_multiplies_123 (i := 19) rfl) ?_
            refine zr_lcmp (pc := 69) ⟨hv63_a, hv63_b⟩ ⟨(by decide), (by decide)⟩ (zdal_p dlC_M_multiplies_123 (i := 20) rfl) ?_
            have hr67_ := zcmp_s v63_ 0
            refine zr_if_le (pc := 70) (tgt := 89) ⟨(by (exact zo_71 hr67_)), (by (exact zo_72 hr67_))⟩ (by decide) (zdal_p dlC_M_multiplies_123 (i := 21) rfl) (fun hc_70 => ?_) (fun hc_70 => ?_)
            · skip
              have hgg_ : (ze N2_ 81 39 = 1 ∧ 1 ≤ v63_ ∧ zlquo 1000000000000 v63_ < v66_) ∨ (ze N2_ 81 39 = ze N2_ 81 39 ∧ (v63_ ≤ 0 ∨ v66_ ≤ zlquo 1000000000000 v63_)) := by omega
              refine zw_aload_n (pc := 89) (n := 0) (x := 81) rfl d_M_multiplies_89 ?_
              refine zr_getF (r := 96) (hf_N2_.w hW) (pc := 90) f_M_60 rfl (zh_96 (hf_N2_.w hW)).1 d_M_multiplies_90 ?_
              refine zw_iload_n (pc := 93) (n := 1) (x := Int32.ofInt u1_) rfl d_M_multiplies_93 ?_
              refine zw_aload_n (pc := 94) (n := 0) (x := 81) rfl d_M_multiplies_94 ?_
              refine zr_getI (hf_N2_.w hW) (pc := 95) f_M_275 rfl d_M_multiplies_95 ?_
              refine zr_if_eq (pc := 98) (tgt := 105) ⟨(ze_r N2_ 81 39).1, (ze_r N2_ 81 39).2⟩ (by decide) d_M_multiplies_98 (fun hc_98 => ?_) (fun hc_98 => ?_)
              · skip
                refine zw_aload_n (pc := 105) (n := 0) (x := 81) rfl d_M_multiplies_105 ?_
                refine zr_getF (r := 96) (hf_N2_.w hW) (pc := 106) f_M_60 rfl (zh_96 (hf_N2_.w hW)).1 d_M_multiplies_106 ?_
                refine zw_iload_n (pc := 109) (n := 1) (x := Int32.ofInt u1_) rfl d_M_multiplies_109 ?_
                refine zr_laldn (pc := 110) (zh_96 (hf_N2_.w hW)).2 (by decide) (by (exact i4_)) (by (exact zo_70 hF27_ hu1_b i5_)) d_M_multiplies_110 (fun v68_ hv68_ hv68_a hv68_b => ?_)
                have hA110_ : v68_ = zg Mz 96 (u1_).toNat := by first | exact hv68_.trans hsame_ | exact (hv68_.trans (congrFun qzr96_N2_ _)).trans hsame_
                refine zw_aload_n (pc := 111) (n := 0) (x := 81) rfl d_M_multiplies_111 ?_
                refine zr_getF (r := 97) (hf_N2_.w hW) (pc := 112) f_M_63 rfl (zh_97 (hf_N2_.w hW)).1 d_M_multiplies_112 ?_
                refine zw_iload_n (pc := 115) (n := 1) (x := Int32.ofInt u1_) rfl d_M_multiplies_115 ?_
                refine zr_laldn (pc := 116) (zh_97 (hf_N2_.w hW)).2 (by decide) (by (exact i4_)) (by (exact zo_70 hF27_ hu1_b i5_)) d_M_multiplies_116 (fun v69_ hv69_ hv69_a hv69_b => ?_)
                rw [hf_N2_.jg (by decide) (by decide)] at hv69_
                have hB116_ : v69_ = zg Mz 97 (u1_).toNat := hv69_
                refine zr_lmul (pc := 117) d_M_multiplies_117 ?_
                have hww_ : (ze N2_ 81 39 ≠ 0 ∧ ((v68_ * v69_) : Int) = 0) ∨ (ze N2_ 81 39 = 0 ∧ ((v68_ * v69_) : Int) = zg Mz 96 (u1_).toNat * zg Mz 97 (u1_).toNat) := by first | exact Or.inl ⟨by omega, rfl⟩ | exact Or.inr ⟨by (exact hc_98), by rw [hA110_, hB116_]⟩
                refine zr_last (pc := 118) (zh_96 (hf_N2_.w hW)).2 (by decide) (by decide) (by (exact i4_)) (by (exact zo_70 hF27_ hu1_b i5_)) d_M_multiplies_118 (fun N70_ hN70_ hsN70_ => ?_)
                have hf_N70_ : zFr [39] [96] Mz N70_ := hf_N2_.tr hsN70_ (by decide) (by decide)
                have hb0_N70_ : zFr [39] [96] Mz N70_ := hs3_.tr hsN70_ (by decide) (by decide)
                have e26_N70_ : ze N70_ 81 26 = ze N2_ 81 26 := hsN70_.e (by decide)
                have e39_N70_ : ze N70_ 81 39 = ze N2_ 81 39 := hsN70_.e (by decide)
                have hms_ := zMuI_s (P := N2_) (Q := N70_) hmi_ (by (exact i4_)) rfl rfl hxa_ hxb_ hgg_ (fun hM_ => p1_ hM_ (u1_).toNat (by (exact zo_73 hFc_ hc_7 hu1_b i4_ i5_))) (by first | exact fun k_ => rfl | exact fun k_ => congrFun qzr96_N2_ k_) hN70_ (by (exact e39_N70_)) hww_
                refine zr_iinc (pc := 119) (i := 1) (a := u1_) (n := 1) (L2 := [some (.ref 81), some (.int (Int32.ofInt (u1_ + 1))), some (.long (Int64.ofInt v63_)), none, some (.long (Int64.ofInt v66_)), none]) rfl (by decide) rfl d_M_multiplies_119 ?_
                refine zw_goto (pc := 122) (tgt := 2) (by decide) d_M_multiplies_122 ?_
                refine zW_le [some (.ref 81), some (.int (Int32.ofInt (u1_ + 1))), none, none, none, none] (⟨rfl, rfl, trivial⟩) ?_
                exact ih_2 (u1_ + 1) (by (exact zo_74 i4_)) (by (exact zo_75 hF27_ hu1_b i5_)) N70_ hb0_N70_ (show 0 ≤ (u1_ + 1) by first | with_reducible assumption | (exact zo_76 i4_) | assumption) (show (u1_ + 1) ≤ F_ by first | with_reducible assumption | (exact zo_77 hFc_ hc_7 hu1_b i5_) | assumption) (show zMuI F_ Mz N70_ (u1_ + 1) by exact hms_) (by (exact zo_78 hFc_ hc_7 hlt_2 hu1_b i5_))
              · skip
                refine zw_lconst (pc := 101) (v := Int64.ofInt 0) (by decide) d_M_multiplies_101 ?_
                refine zw_goto (pc := 102) (tgt := 118) (by decide) d_M_multiplies_102 ?_
                have hww_ : (ze N2_ 81 39 ≠ 0 ∧ (0 : Int) = 0) ∨ (ze N2_ 81 39 = 0 ∧ (0 : Int) = zg Mz 96 (u1_).toNat * zg Mz 97 (u1_).toNat) := by first | exact Or.inl ⟨by (exact hc_98), rfl⟩ | exact Or.inr ⟨by omega, by rw [hA110_, hB116_]⟩
                refine zr_last (pc := 118) (zh_96 (hf_N2_.w hW)).2 (by decide) (by decide) (by (exact i4_)) (by (exact zo_70 hF27_ hu1_b i5_)) d_M_multiplies_118 (fun N72_ hN72_ hsN72_ => ?_)
                have hf_N72_ : zFr [39] [96] Mz N72_ := hf_N2_.tr hsN72_ (by decide) (by decide)
                have hb0_N72_ : zFr [39] [96] Mz N72_ := hs3_.tr hsN72_ (by decide) (by decide)
                have e26_N72_ : ze N72_ 81 26 = ze N2_ 81 26 := hsN72_.e (by decide)
                have e39_N72_ : ze N72_ 81 39 = ze N2_ 81 39 := hsN72_.e (by decide)
                have hms_ := zMuI_s (P := N2_) (Q := N72_) hmi_ (by (exact i4_)) rfl rfl hxa_ hxb_ hgg_ (fun hM_ => p1_ hM_ (u1_).toNat (by (exact zo_73 hFc_ hc_7 hu1_b i4_ i5_))) (by first | exact fun k_ => rfl | exact fun k_ => congrFun qzr96_N2_ k_) hN72_ (by (exact e39_N72_)) hww_
                refine zr_iinc (pc := 119) (i := 1) (a := u1_) (n := 1) (L2 := [some (.ref 81), some (.int (Int32.ofInt (u1_ + 1))), some (.long (Int64.ofInt v63_)), none, some (.long (Int64.ofInt v66_)), none]) rfl (by decide) rfl d_M_multiplies_119 ?_
                refine zw_goto (pc := 122) (tgt := 2) (by decide) d_M_multiplies_122 ?_
                refine zW_le [some (.ref 81), some (.int (Int32.ofInt (u1_ + 1))), none, none, none, none] (⟨rfl, rfl, trivial⟩) ?_
                exact ih_2 (u1_ + 1) (by (exact zo_74 i4_)) (by (exact zo_75 hF27_ hu1_b i5_)) N72_ hb0_N72_ (show 0 ≤ (u1_ + 1) by first | with_reducible assumption | (exact zo_76 i4_) | assumption) (show (u1_ + 1) ≤ F_ by first | with_reducible assumption | (exact zo_77 hFc_ hc_7 hu1_b i5_) | assumption) (show zMuI F_ Mz N72_ (u1_ + 1) by exact hms_) (by (exact zo_78 hFc_ hc_7 hlt_2 hu1_b i5_))
            · skip
              refine zw_lload (pc := 73) (i := 4) (x := Int64.ofInt v66_) rfl (zdal_p dlC_M_multiplies_123 (i := 22) rfl) ?_
              refine zr_ldc2 (pc := 75) (n := 1000000000000) (by decide) k_M_262 (zdal_p dlC_M_multiplies_123 (i := 23) rfl) ?_
              refine zw_lload_n (pc := 78) (n := 2) (x := Int64.ofInt v63_) rfl (zdal_p dlC_M_multiplies_124 (i := 0) rfl) ?_
              refine zr_ldiv (pc := 79) ⟨by (exact hv63_a), by (exact hv63_b)⟩ (by omega) (zdal_p dlC_M_multiplies_124 (i := 1) rfl) ?_
              have hr74_ := zlquo_r 1000000000000 v63_
              refine zr_lcmp (pc := 80) ⟨hv66_a, hv66_b⟩ ⟨(by (exact zo_79 hr74_.1)), (by (exact zo_80 hr74_.2))⟩ (zdal_p dlC_M_multiplies_124 (i := 2) rfl) ?_
              have hr75_ := zcmp_s v66_ (zlquo 1000000000000 v63_)
              refine zr_if_le (pc := 81) (tgt := 89) ⟨(by (exact zo_81 hr75_)), (by (exact zo_82 hr75_))⟩ (by decide) (zdal_p dlC_M_multiplies_124 (i := 3) rfl) (fun hc_81 => ?_) (fun hc_81 => ?_)
              · skip
                have hgg_ : (ze N2_ 81 39 = 1 ∧ 1 ≤ v63_ ∧ zlquo 1000000000000 v63_ < v66_) ∨ (ze N2_ 81 39 = ze N2_ 81 39 ∧ (v63_ ≤ 0 ∨ v66_ ≤ zlquo 1000000000000 v63_)) := by omega
                refine zw_aload_n (pc := 89) (n := 0) (x := 81) rfl d_M_multiplies_89 ?_
                refine zr_getF (r := 96) (hf_N2_.w hW) (pc := 90) f_M_60 rfl (zh_96 (hf_N2_.w hW)).1 d_M_multiplies_90 ?_
                refine zw_iload_n (pc := 93) (n := 1) (x := Int32.ofInt u1_) rfl d_M_multiplies_93 ?_
                refine zw_aload_n (pc := 94) (n := 0) (x := 81) rfl d_M_multiplies_94 ?_
                refine zr_getI (hf_N2_.w hW) (pc := 95) f_M_275 rfl d_M_multiplies_95 ?_
                refine zr_if_eq (pc := 98) (tgt := 105) ⟨(ze_r N2_ 81 39).1, (ze_r N2_ 81 39).2⟩ (by decide) d_M_multiplies_98 (fun hc_98 => ?_) (fun hc_98 => ?_)
                · skip
                  refine zw_aload_n (pc := 105) (n := 0) (x := 81) rfl d_M_multiplies_105 ?_
                  refine zr_getF (r := 96) (hf_N2_.w hW) (pc := 106) f_M_60 rfl (zh_96 (hf_N2_.w hW)).1 d_M_multiplies_106 ?_
                  refine zw_iload_n (pc := 109) (n := 1) (x := Int32.ofInt u1_) rfl d_M_multiplies_109 ?_
                  refine zr_laldn (pc := 110) (zh_96 (hf_N2_.w hW)).2 (by decide) (by (exact i4_)) (by (exact zo_70 hF27_ hu1_b i5_)) d_M_multiplies_110 (fun v76_ hv76_ hv76_a hv76_b => ?_)
                  have hA110_ : v76_ = zg Mz 96 (u1_).toNat := by first | exact hv76_.trans hsame_ | exact (hv76_.trans (congrFun qzr96_N2_ _)).trans hsame_
                  refine zw_aload_n (pc := 111) (n := 0) (x := 81) rfl d_M_multiplies_111 ?_
                  refine zr_getF (r := 97) (hf_N2_.w hW) (pc := 112) f_M_63 rfl (zh_97 (hf_N2_.w hW)).1 d_M_multiplies_112 ?_
                  refine zw_iload_n (pc := 115) (n := 1) (x := Int32.ofInt u1_) rfl d_M_multiplies_115 ?_
                  refine zr_laldn (pc := 116) (zh_97 (hf_N2_.w hW)).2 (by decide) (by (exact i4_)) (by (exact zo_70 hF27_ hu1_b i5_)) d_M_multiplies_116 (fun v77_ hv77_ hv77_a hv77_b => ?_)
                  rw [hf_N2_.jg (by decide) (by decide)] at hv77_
                  have hB116_ : v77_ = zg Mz 97 (u1_).toNat := hv77_
                  refine zr_lmul (pc := 117) d_M_multiplies_117 ?_
                  have hww_ : (ze N2_ 81 39 ≠ 0 ∧ ((v76_ * v77_) : Int) = 0) ∨ (ze N2_ 81 39 = 0 ∧ ((v76_ * v77_) : Int) = zg Mz 96 (u1_).toNat * zg Mz 97 (u1_).toNat) := by first | exact Or.inl ⟨by omega, rfl⟩ | exact Or.inr ⟨by (exact hc_98), by rw [hA110_, hB116_]⟩
                  refine zr_last (pc := 118) (zh_96 (hf_N2_.w hW)).2 (by decide) (by decide) (by (exact i4_)) (by (exact zo_70 hF27_ hu1_b i5_)) d_M_multiplies_118 (fun N78_ hN78_ hsN78_ => ?_)
                  have hf_N78_ : zFr [39] [96] Mz N78_ := hf_N2_.tr hsN78_ (by decide) (by decide)
                  have hb0_N78_ : zFr [39] [96] Mz N78_ := hs3_.tr hsN78_ (by decide) (by decide)
                  have e26_N78_ : ze N78_ 81 26 = ze N2_ 81 26 := hsN78_.e (by decide)
                  have e39_N78_ : ze N78_ 81 39 = ze N2_ 81 39 := hsN78_.e (by decide)
                  have hms_ := zMuI_s (P := N2_) (Q := N78_) hmi_ (by (exact i4_)) rfl rfl hxa_ hxb_ hgg_ (fun hM_ => p1_ hM_ (u1_).toNat (by (exact zo_73 hFc_ hc_7 hu1_b i4_ i5_))) (by first | exact fun k_ => rfl | exact fun k_ => congrFun qzr96_N2_ k_) hN78_ (by (exact e39_N78_)) hww_
                  refine zr_iinc (pc := 119) (i := 1) (a := u1_) (n := 1) (L2 := [some (.ref 81), some (.int (Int32.ofInt (u1_ + 1))), some (.long (Int64.ofInt v63_)), none, some (.long (Int64.ofInt v66_)), none]) rfl (by decide) rfl d_M_multiplies_119 ?_
                  refine zw_goto (pc := 122) (tgt := 2) (by decide) d_M_multiplies_122 ?_
                  refine zW_le [some (.ref 81), some (.int (Int32.ofInt (u1_ + 1))), none, none, none, none] (⟨rfl, rfl, trivial⟩) ?_
                  exact ih_2 (u1_ + 1) (by (exact zo_74 i4_)) (by (exact zo_75 hF27_ hu1_b i5_)) N78_ hb0_N78_ (show 0 ≤ (u1_ + 1) by first | with_reducible assumption | (exact zo_76 i4_) | assumption) (show (u1_ + 1) ≤ F_ by first | with_reducible assumption | (exact zo_77 hFc_ hc_7 hu1_b i5_) | assumption) (show zMuI F_ Mz N78_ (u1_ + 1) by exact hms_) (by (exact zo_78 hFc_ hc_7 hlt_2 hu1_b i5_))
                · skip
                  refine zw_lconst (pc := 101) (v := Int64.ofInt 0) (by decide) d_M_multiplies_101 ?_
                  refine zw_goto (pc := 102) (tgt := 118) (by decide) d_M_multiplies_102 ?_
                  have hww_ : (ze N2_ 81 39 ≠ 0 ∧ (0 : Int) = 0) ∨ (ze N2_ 81 39 = 0 ∧ (0 : Int) = zg Mz 96 (u1_).toNat * zg Mz 97 (u1_).toNat) := by first | exact Or.inl ⟨by (exact hc_98), rfl⟩ | exact Or.inr ⟨by omega, by rw [hA110_, hB116_]⟩
                  refine zr_last (pc := 118) (zh_96 (hf_N2_.w hW)).2 (by decide) (by decide) (by (exact i4_)) (by (exact zo_70 hF27_ hu1_b i5_)) d_M_multiplies_118 (fun N80_ hN80_ hsN80_ => ?_)
                  have hf_N80_ : zFr [39] [96] Mz N80_ := hf_N2_.tr hsN80_ (by decide) (by decide)
                  have hb0_N80_ : zFr [39] [96] Mz N80_ := hs3_.tr hsN80_ (by decide) (by decide)
                  have e26_N80_ : ze N80_ 81 26 = ze N2_ 81 26 := hsN80_.e (by decide)
                  have e39_N80_ : ze N80_ 81 39 = ze N2_ 81 39 := hsN80_.e (by decide)
                  have hms_ := zMuI_s (P := N2_) (Q := N80_) hmi_ (by (exact i4_)) rfl rfl hxa_ hxb_ hgg_ (fun hM_ => p1_ hM_ (u1_).toNat (by (exact zo_73 hFc_ hc_7 hu1_b i4_ i5_))) (by first | exact fun k_ => rfl | exact fun k_ => congrFun qzr96_N2_ k_) hN80_ (by (exact e39_N80_)) hww_
                  refine zr_iinc (pc := 119) (i := 1) (a := u1_) (n := 1) (L2 := [some (.ref 81), some (.int (Int32.ofInt (u1_ + 1))), some (.long (Int64.ofInt v63_)), none, some (.long (Int64.ofInt v66_)), none]) rfl (by decide) rfl d_M_multiplies_119 ?_
                  refine zw_goto (pc := 122) (tgt := 2) (by decide) d_M_multiplies_122 ?_
                  refine zW_le [some (.ref 81), some (.int (Int32.ofInt (u1_ + 1))), none, none, none, none] (⟨rfl, rfl, trivial⟩) ?_
                  exact ih_2 (u1_ + 1) (by (exact zo_74 i4_)) (by (exact zo_75 hF27_ hu1_b i5_)) N80_ hb0_N80_ (show 0 ≤ (u1_ + 1) by first | with_reducible assumption | (exact zo_76 i4_) | assumption) (show (u1_ + 1) ≤ F_ by first | with_reducible assumption | (exact zo_77 hFc_ hc_7 hu1_b i5_) | assumption) (show zMuI F_ Mz N80_ (u1_ + 1) by exact hms_) (by (exact zo_78 hFc_ hc_7 hlt_2 hu1_b i5_))
              · skip
                refine zw_aload_n (pc := 84) (n := 0) (x := 81) rfl (zdal_p dlC_M_multiplies_124 (i := 4) rfl) ?_
                refine zw_iconst (pc := 85) (v := Int32.ofInt 1) (by decide) (zdal_p dlC_M_multiplies_124 (i := 5) rfl) ?_
                refine zr_putI (hf_N2_.w hW) (pc := 86) f_M_275 rfl rfl ⟨by (decide), by (decide)⟩ (z_narB (by (decide))) (z_fitB (by (decide))) (zdal_p dlC_M_multiplies_124 (i := 6) rfl) (fun N82_ hsN82_ hvN82_ => ?_)
                have hf_N82_ : zFr [39] [96] Mz N82_ := hf_N2_.tr hsN82_ (by decide) (by decide)
                have hb0_N82_ : zFr [39] [96] Mz N82_ := hs3_.tr hsN82_ (by decide) (by decide)
                have e26_N82_ : ze N82_ 81 26 = ze N2_ 81 26 := hsN82_.e (by decide)
                have r39_N82_ := ze_r N82_ 81 39
                have qzr96_N82_ : zr96 N82_ = zr96 N2_ := zr96_f hsN82_ (by decide)
                have hgg_ : (ze N82_ 81 39 = 1 ∧ 1 ≤ v63_ ∧ zlquo 1000000000000 v63_ < v66_) ∨ (ze N82_ 81 39 = ze N2_ 81 39 ∧ (v63_ ≤ 0 ∨ v66_ ≤ zlquo 1000000000000 v63_)) := by omega
                refine zw_aload_n (pc := 89) (n := 0) (x := 81) rfl d_M_multiplies_89 ?_
                refine zr_getF (r := 96) (hf_N82_.w hW) (pc := 90) f_M_60 rfl (zh_96 (hf_N82_.w hW)).1 d_M_multiplies_90 ?_
                refine zw_iload_n (pc := 93) (n := 1) (x := Int32.ofInt u1_) rfl d_M_multiplies_93 ?_
                refine zw_aload_n (pc := 94) (n := 0) (x := 81) rfl d_M_multiplies_94 ?_
                refine zr_getI (hf_N82_.w hW) (pc := 95) f_M_275 rfl d_M_multiplies_95 ?_
                refine zr_if_eq (pc := 98) (tgt := 105) ⟨(ze_r N82_ 81 39).1, (ze_r N82_ 81 39).2⟩ (by decide) d_M_multiplies_98 (fun hc_98 => ?_) (fun hc_98 => ?_)
                · skip
                  refine zw_aload_n (pc := 105) (n := 0) (x := 81) rfl d_M_multiplies_105 ?_
                  refine zr_getF (r := 96) (hf_N82_.w hW) (pc := 106) f_M_60 rfl (zh_96 (hf_N82_.w hW)).1 d_M_multiplies_106 ?_
                  refine zw_iload_n (pc := 109) (n := 1) (x := Int32.ofInt u1_) rfl d_M_multiplies_109 ?_
                  refine zr_laldn (pc := 110) (zh_96 (hf_N82_.w hW)).2 (by decide) (by (exact i4_)) (by (exact zo_70 hF27_ hu1_b i5_)) d_M_multiplies_110 (fun v84_ hv84_ hv84_a hv84_b => ?_)
                  have hA110_ : v84_ = zg Mz 96 (u1_).toNat := by first | exact hv84_.trans hsame_ | exact (hv84_.trans (congrFun qzr96_N82_ _)).trans hsame_
                  refine zw_aload_n (pc := 111) (n := 0) (x := 81) rfl d_M_multiplies_111 ?_
                  refine zr_getF (r := 97) (hf_N82_.w hW) (pc := 112) f_M_63 rfl (zh_97 (hf_N82_.w hW)).1 d_M_multiplies_112 ?_
                  refine zw_iload_n (pc := 115) (n := 1) (x := Int32.ofInt u1_) rfl d_M_multiplies_115 ?_
                  refine zr_laldn (pc := 116) (zh_97 (hf_N82_.w hW)).2 (by decide) (by (exact i4_)) (by (exact zo_70 hF27_ hu1_b i5_)) d_M_multiplies_116 (fun v85_ hv85_ hv85_a hv85_b => ?_)
                  rw [hf_N82_.jg (by decide) (by decide)] at hv85_
                  have hB116_ : v85_ = zg Mz 97 (u1_).toNat := hv85_
                  refine zr_lmul (pc := 117) d_M_multiplies_117 ?_
                  have hww_ : (ze N82_ 81 39 ≠ 0 ∧ ((v84_ * v85_) : Int) = 0) ∨ (ze N82_ 81 39 = 0 ∧ ((v84_ * v85_) : Int) = zg Mz 96 (u1_).toNat * zg Mz 97 (u1_).toNat) := by first | exact Or.inl ⟨by (exact zo_83 hvN82_), rfl⟩ | exact Or.inr ⟨by (exact hc_98), by rw [hA110_, hB116_]⟩
                  refine zr_last (pc := 118) (zh_96 (hf_N82_.w hW)).2 (by decide) (by decide) (by (exact i4_)) (by (exact zo_70 hF27_ hu1_b i5_)) d_M_multiplies_118 (fun N86_ hN86_ hsN86_ => ?_)
                  have hf_N86_ : zFr [39] [96] Mz N86_ := hf_N82_.tr hsN86_ (by decide) (by decide)
                  have hb0_N86_ : zFr [39] [96] Mz N86_ := hb0_N82_.tr hsN86_ (by decide) (by decide)
                  have e26_N86_ : ze N86_ 81 26 = ze N82_ 81 26 := hsN86_.e (by decide)
                  have e39_N86_ : ze N86_ 81 39 = ze N82_ 81 39 := hsN86_.e (by decide)
                  have hms_ := zMuI_s (P := N82_) (Q := N86_) hmi_ (by (exact i4_)) rfl rfl hxa_ hxb_ hgg_ (fun hM_ => p1_ hM_ (u1_).toNat (by (exact zo_73 hFc_ hc_7 hu1_b i4_ i5_))) (by first | exact fun k_ => rfl | exact fun k_ => congrFun qzr96_N82_ k_) hN86_ (by (exact e39_N86_)) hww_
                  refine zr_iinc (pc := 119) (i := 1) (a := u1_) (n := 1) (L2 := [some (.ref 81), some (.int (Int32.ofInt (u1_ + 1))), some (.long (Int64.ofInt v63_)), none, some (.long (Int64.ofInt v66_)), none]) rfl (by decide) rfl d_M_multiplies_119 ?_
                  refine zw_goto (pc := 122) (tgt := 2) (by decide) d_M_multiplies_122 ?_
                  refine zW_le [some (.ref 81), some (.int (Int32.ofInt (u1_ + 1))), none, none, none, none] (⟨rfl, rfl, trivial⟩) ?_
                  exact ih_2 (u1_ + 1) (by (exact zo_74 i4_)) (by (exact zo_75 hF27_ hu1_b i5_)) N86_ hb0_N86_ (show 0 ≤ (u1_ + 1) by first | with_reducible assumption | (exact zo_76 i4_) | assumption) (show (u1_ + 1) ≤ F_ by first | with_reducible assumption | (exact zo_77 hFc_ hc_7 hu1_b i5_) | assumption) (show zMuI F_ Mz N86_ (u1_ + 1) by exact hms_) (by (exact zo_78 hFc_ hc_7 hlt_2 hu1_b i5_))
                · skip
                  refine zw_lconst (pc := 101) (v := Int64.ofInt 0) (by decide) d_M_multiplies_101 ?_
                  refine zw_goto (pc := 102) (tgt := 118) (by decide) d_M_multiplies_102 ?_
                  have hww_ : (ze N82_ 81 39 ≠ 0 ∧ (0 : Int) = 0) ∨ (ze N82_ 81 39 = 0 ∧ (0 : Int) = zg Mz 96 (u1_).toNat * zg Mz 97 (u1_).toNat) := by first | exact Or.inl ⟨by (exact hc_98), rfl⟩ | exact Or.inr ⟨by omega, by rw [hA110_, hB116_]⟩
                  refine zr_last (pc := 118) (zh_96 (hf_N82_.w hW)).2 (by decide) (by decide) (by (exact i4_)) (by (exact zo_70 hF27_ hu1_b i5_)) d_M_multiplies_118 (fun N88_ hN88_ hsN88_ => ?_)
                  have hf_N88_ : zFr [39] [96] Mz N88_ := hf_N82_.tr hsN88_ (by decide) (by decide)
                  have hb0_N88_ : zFr [39] [96] Mz N88_ := hb0_N82_.tr hsN88_ (by decide) (by decide)
                  have e26_N88_ : ze N88_ 81 26 = ze N82_ 81 26 := hsN88_.e (by decide)
                  have e39_N88_ : ze N88_ 81 39 = ze N82_ 81 39 := hsN88_.e (by decide)
                  have hms_ := zMuI_s (P := N82_) (Q := N88_) hmi_ (by (exact i4_)) rfl rfl hxa_ hxb_ hgg_ (fun hM_ => p1_ hM_ (u1_).toNat (by (exact zo_73 hFc_ hc_7 hu1_b i4_ i5_))) (by first | exact fun k_ => rfl | exact fun k_ => congrFun qzr96_N82_ k_) hN88_ (by (exact e39_N88_)) hww_
                  refine zr_iinc (pc := 119) (i := 1) (a := u1_) (n := 1) (L2 := [some (.ref 81), some (.int (Int32.ofInt (u1_ + 1))), some (.long (Int64.ofInt v63_)), none, some (.long (Int64.ofInt v66_)), none]) rfl (by decide) rfl d_M_multiplies_119 ?_
                  refine zw_goto (pc := 122) (tgt := 2) (by decide) d_M_multiplies_122 ?_
                  refine zW_le [some (.ref 81), some (.int (Int32.ofInt (u1_ + 1))), none, none, none, none] (⟨rfl, rfl, trivial⟩) ?_
                  exact ih_2 (u1_ + 1) (by (exact zo_74 i4_)) (by (exact zo_75 hF27_ hu1_b i5_)) N88_ hb0_N88_ (show 0 ≤ (u1_ + 1) by first | with_reducible assumption | (exact zo_76 i4_) | assumption) (show (u1_ + 1) ≤ F_ by first | with_reducible assumption | (exact zo_77 hFc_ hc_7 hu1_b i5_) | assumption) (show zMuI F_ Mz N88_ (u1_ + 1) by exact hms_) (by (exact zo_78 hFc_ hc_7 hlt_2 hu1_b i5_))
          · skip
            refine zw_aload_n (pc := 49) (n := 0) (x := 81) rfl (zdal_p dlC_M_multiplies_123 (i := 7) rfl) ?_
            refine zr_getF (r := 97) (hf_N2_.w hW) (pc := 50) f_M_63 rfl (zh_97 (hf_N2_.w hW)).1 (zdal_p dlC_M_multiplies_123 (i := 8) rfl) ?_
            refine zw_iload_n (pc := 53) (n := 1) (x := Int32.ofInt u1_) rfl (zdal_p dlC_M_multiplies_123 (i := 9) rfl) ?_
            refine zr_laldn (pc := 54) (zh_97 (hf_N2_.w hW)).2 (by decide) (by (exact i4_)) (by (exact zo_70 hF27_ hu1_b i5_)) (zdal_p dlC_M_multiplies_123 (i := 10) rfl) (fun v90_ hv90_ hv90_a hv90_b => ?_)
            rw [hf_N2_.jg (by decide) (by decide)] at hv90_
            have hB54_ : v90_ = zg Mz 97 (u1_).toNat := hv90_
            refine zr_lneg (pc := 55) (zdal_p dlC_M_multiplies_123 (i := 11) rfl) ?_
            refine zk_nmJ (fun v91_ hv91_ hv91_e => ?_)
            obtain ⟨hv91_a, hv91_b⟩ := hv91_
            have hnegb_ := hv91_e
            have hnrb_ : zn64 v91_ := ⟨by (exact hv91_a), by (exact hv91_b)⟩
            refine zw_goto (pc := 56) (tgt := 65) (by decide) (zdal_p dlC_M_multiplies_123 (i := 12) rfl) ?_
            refine zw_lstore (pc := 65) (i := 4) (L2 := [some (.ref 81), some (.int (Int32.ofInt u1_)), some (.long (Int64.ofInt v63_)), none, some (.long (Int64.ofInt v91_)), none]) (by decide) rfl (zdal_p dlC_M_multiplies_123 (i := 17) rfl) ?_
            have hxb_ : ze Mz 81 39 = 0 → (0 < zg Mz 97 (u1_).toNat ∧ v91_ = zg Mz 97 (u1_).toNat) ∨ (zg Mz 97 (u1_).toNat ≤ 0 ∧ v91_ = -(zg Mz 97 (u1_).toNat)) := fun q_ => by have hz_ := (p1_ q_ (u1_).toNat (by (exact zo_73 hFc_ hc_7 hu1_b i4_ i5_))).2; unfold zIn zLim at hz_; first | omega | (have hq_ := z64q hnrb_ ⟨by (exact zo_84 hv90_b), by omega⟩ hnegb_; omega)
            refine zw_lload_n (pc := 67) (n := 2) (x := Int64.ofInt v63_) rfl (zdal_p dlC_M_multiplies_123 (i := 18) rfl) ?_
            refine zw_lconst (pc := 68) (v := Int64.ofInt 0) (by decide) (zdal_p dlC_M_multiplies_123 (i := 19) rfl) ?_
            refine zr_lcmp (pc := 69) ⟨hv63_a, hv63_b⟩ ⟨(by decide), (by decide)⟩ (zdal_p dlC_M_multiplies_123 (i := 20) rfl) ?_
            have hr92_ := zcmp_s v63_ 0
            refine zr_if_le (pc := 70) (tgt := 89) ⟨(by (exact zo_71 hr92_)), (by (exact zo_72 hr92_))⟩ (by decide) (zdal_p dlC_M_multiplies_123 (i := 21) rfl) (fun hc_70 => ?_) (fun hc_70 => ?_)
            · skip
              have hgg_ : (ze N2_ 81 39 = 1 ∧ 1 ≤ v63_ ∧ zlquo 1000000000000 v63_ < v91_) ∨ (ze N2_ 81 39 = ze N2_ 81 39 ∧ (v63_ ≤ 0 ∨ v91_ ≤ zlquo 1000000000000 v63_)) := by omega
              refine zw_aload_n (pc := 89) (n := 0) (x := 81) rfl d_M_multiplies_89 ?_
              refine zr_getF (r := 96) (hf_N2_.w hW) (pc := 90) f_M_60 rfl (zh_96 (hf_N2_.w hW)).1 d_M_multiplies_90 ?_
              refine zw_iload_n (pc := 93) (n := 1) (x := Int32.ofInt u1_) rfl d_M_multiplies_93 ?_
              refine zw_aload_n (pc := 94) (n := 0) (x := 81) rfl d_M_multiplies_94 ?_
              refine zr_getI (hf_N2_.w hW) (pc := 95) f_M_275 rfl d_M_multiplies_95 ?_
              refine zr_if_eq (pc := 98) (tgt := 105) ⟨(ze_r N2_ 81 39).1, (ze_r N2_ 81 39).2⟩ (by decide) d_M_multiplies_98 (fun hc_98 => ?_) (fun hc_98 => ?_)
              · skip
                refine zw_aload_n (pc := 105) (n := 0) (x := 81) rfl d_M_multiplies_105 ?_
                refine zr_getF (r := 96) (hf_N2_.w hW) (pc := 106) f_M_60 rfl (zh_96 (hf_N2_.w hW)).1 d_M_multiplies_106 ?_
                refine zw_iload_n (pc := 109) (n := 1) (x := Int32.ofInt u1_) rfl d_M_multiplies_109 ?_
                refine zr_laldn (pc := 110) (zh_96 (hf_N2_.w hW)).2 (by decide) (by (exact i4_)) (by (exact zo_70 hF27_ hu1_b i5_)) d_M_multiplies_110 (fun v93_ hv93_ hv93_a hv93_b => ?_)
                have hA110_ : v93_ = zg Mz 96 (u1_).toNat := by first | exact hv93_.trans hsame_ | exact (hv93_.trans (congrFun qzr96_N2_ _)).trans hsame_
                refine zw_aload_n (pc := 111) (n := 0) (x := 81) rfl d_M_multiplies_111 ?_
                refine zr_getF (r := 97) (hf_N2_.w hW) (pc := 112) f_M_63 rfl (zh_97 (hf_N2_.w hW)).1 d_M_multiplies_112 ?_
                refine zw_iload_n (pc := 115) (n := 1) (x := Int32.ofInt u1_) rfl d_M_multiplies_115 ?_
                refine zr_laldn (pc := 116) (zh_97 (hf_N2_.w hW)).2 (by decide) (by (exact i4_)) (by (exact zo_70 hF27_ hu1_b i5_)) d_M_multiplies_116 (fun v94_ hv94_ hv94_a hv94_b => ?_)
                rw [hf_N2_.jg (by decide) (by decide)] at hv94_
                have hB116_ : v94_ = zg Mz 97 (u1_).toNat := hv94_
                refine zr_lmul (pc := 117) d_M_multiplies_117 ?_
                have hww_ : (ze N2_ 81 39 ≠ 0 ∧ ((v93_ * v94_) : Int) = 0) ∨ (ze N2_ 81 39 = 0 ∧ ((v93_ * v94_) : Int) = zg Mz 96 (u1_).toNat * zg Mz 97 (u1_).toNat) := by first | exact Or.inl ⟨by omega, rfl⟩ | exact Or.inr ⟨by (exact hc_98), by rw [hA110_, hB116_]⟩
                refine zr_last (pc := 118) (zh_96 (hf_N2_.w hW)).2 (by decide) (by decide) (by (exact i4_)) (by (exact zo_70 hF27_ hu1_b i5_)) d_M_multiplies_118 (fun N95_ hN95_ hsN95_ => ?_)
                have hf_N95_ : zFr [39] [96] Mz N95_ := hf_N2_.tr hsN95_ (by decide) (by decide)
                have hb0_N95_ : zFr [39] [96] Mz N95_ := hs3_.tr hsN95_ (by decide) (by decide)
                have e26_N95_ : ze N95_ 81 26 = ze N2_ 81 26 := hsN95_.e (by decide)
                have e39_N95_ : ze N95_ 81 39 = ze N2_ 81 39 := hsN95_.e (by decide)
                have hms_ := zMuI_s (P := N2_) (Q := N95_) hmi_ (by (exact i4_)) rfl rfl hxa_ hxb_ hgg_ (fun hM_ => p1_ hM_ (u1_).toNat (by (exact zo_73 hFc_ hc_7 hu1_b i4_ i5_))) (by first | exact fun k_ => rfl | exact fun k_ => congrFun qzr96_N2_ k_) hN95_ (by (exact e39_N95_)) hww_
                refine zr_iinc (pc := 119) (i := 1) (a := u1_) (n := 1) (L2 := [some (.ref 81), some (.int (Int32.ofInt (u1_ + 1))), some (.long (Int64.ofInt v63_)), none, some (.long (Int64.ofInt v91_)), none]) rfl (by decide) rfl d_M_multiplies_119 ?_
                refine zw_goto (pc := 122) (tgt := 2) (by decide) d_M_multiplies_122 ?_
                refine zW_le [some (.ref 81), some (.int (Int32.ofInt (u1_ + 1))), none, none, none, none] (⟨rfl, rfl, trivial⟩) ?_
                exact ih_2 (u1_ + 1) (by (exact zo_74 i4_)) (by (exact zo_75 hF27_ hu1_b i5_)) N95_ hb0_N95_ (show 0 ≤ (u1_ + 1) by first | with_reducible assumption | (exact zo_76 i4_) | assumption) (show (u1_ + 1) ≤ F_ by first | with_reducible assumption | (exact zo_77 hFc_ hc_7 hu1_b i5_) | assumption) (show zMuI F_ Mz N95_ (u1_ + 1) by exact hms_) (by (exact zo_78 hFc_ hc_7 hlt_2 hu1_b i5_))
              · skip
                refine zw_lconst (pc := 101) (v := Int64.ofInt 0) (by decide) d_M_multiplies_101 ?_
                refine zw_goto (pc := 102) (tgt := 118) (by decide) d_M_multiplies_102 ?_
                have hww_ : (ze N2_ 81 39 ≠ 0 ∧ (0 : Int) = 0) ∨ (ze N2_ 81 39 = 0 ∧ (0 : Int) = zg Mz 96 (u1_).toNat * zg Mz 97 (u1_).toNat) := by first | exact Or.inl ⟨by (exact hc_98), rfl⟩ | exact Or.inr ⟨by omega, by rw [hA110_, hB116_]⟩
                refine zr_last (pc := 118) (zh_96 (hf_N2_.w hW)).2 (by decide) (by decide) (by (exact i4_)) (by (exact zo_70 hF27_ hu1_b i5_)) d_M_multiplies_118 (fun N97_ hN97_ hsN97_ => ?_)
                have hf_N97_ : zFr [39] [96] Mz N97_ := hf_N2_.tr hsN97_ (by decide) (by decide)
                have hb0_N97_ : zFr [39] [96] Mz N97_ := hs3_.tr hsN97_ (by decide) (by decide)
                have e26_N97_ : ze N97_ 81 26 = ze N2_ 81 26 := hsN97_.e (by decide)
                have e39_N97_ : ze N97_ 81 39 = ze N2_ 81 39 := hsN97_.e (by decide)
                have hms_ := zMuI_s (P := N2_) (Q := N97_) hmi_ (by (exact i4_)) rfl rfl hxa_ hxb_ hgg_ (fun hM_ => p1_ hM_ (u1_).toNat (by (exact zo_73 hFc_ hc_7 hu1_b i4_ i5_))) (by first | exact fun k_ => rfl | exact fun k_ => congrFun qzr96_N2_ k_) hN97_ (by (exact e39_N97_)) hww_
                refine zr_iinc (pc := 119) (i := 1) (a := u1_) (n := 1) (L2 := [some (.ref 81), some (.int (Int32.ofInt (u1_ + 1))), some (.long (Int64.ofInt v63_)), none, some (.long (Int64.ofInt v91_)), none]) rfl (by decide) rfl d_M_multiplies_119 ?_
                refine zw_goto (pc := 122) (tgt := 2) (by decide) d_M_multiplies_122 ?_
                refine zW_le [some (.ref 81), some (.int (Int32.ofInt (u1_ + 1))), none, none, none, none] (⟨rfl, rfl, trivial⟩) ?_
                exact ih_2 (u1_ + 1) (by (exact zo_74 i4_)) (by (exact zo_75 hF27_ hu1_b i5_)) N97_ hb0_N97_ (show 0 ≤ (u1_ + 1) by first | with_reducible assumption | (exact zo_76 i4_) | assumption) (show (u1_ + 1) ≤ F_ by first | with_reducible assumption | (exact zo_77 hFc_ hc_7 hu1_b i5_) | assumption) (show zMuI F_ Mz N97_ (u1_ + 1) by exact hms_) (by (exact zo_78 hFc_ hc_7 hlt_2 hu1_b i5_))
            · skip
              refine zw_lload (pc := 73) (i := 4) (x := Int64.ofInt v91_) rfl (zdal_p dlC_M_multiplies_123 (i := 22) rfl) ?_
              refine zr_ldc2 (pc := 75) (n := 1000000000000) (by decide) k_M_262 (zdal_p dlC_M_multiplies_123 (i := 23) rfl) ?_
              refine zw_lload_n (pc := 78) (n := 2) (x := Int64.ofInt v63_) rfl (zdal_p dlC_M_multiplies_124 (i := 0) rfl) ?_
              refine zr_ldiv (pc := 79) ⟨by (exact hv63_a), by (exact hv63_b)⟩ (by omega) (zdal_p dlC_M_multiplies_124 (i := 1) rfl) ?_
              have hr99_ := zlquo_r 1000000000000 v63_
              refine zr_lcmp (pc := 80) ⟨hv91_a, hv91_b⟩ ⟨(by (exact zo_79 hr99_.1)), (by (exact zo_80 hr99_.2))⟩ (zdal_p dlC_M_multiplies_124 (i := 2) rfl) ?_
              have hr100_ := zcmp_s v91_ (zlquo 1000000000000 v63_)
              refine zr_if_le (pc := 81) (tgt := 89) ⟨(by (exact zo_81 hr100_)), (by (exact zo_82 hr100_))⟩ (by decide) (zdal_p dlC_M_multiplies_124 (i := 3) rfl) (fun hc_81 => ?_) (fun hc_81 => ?_)
              · skip
                have hgg_ : (ze N2_ 81 39 = 1 ∧ 1 ≤ v63_ ∧ zlquo 1000000000000 v63_ < v91_) ∨ (ze N2_ 81 39 = ze N2_ 81 39 ∧ (v63_ ≤ 0 ∨ v91_ ≤ zlquo 1000000000000 v63_)) := by omega
                refine zw_aload_n (pc := 89) (n := 0) (x := 81) rfl d_M_multiplies_89 ?_
                refine zr_getF (r := 96) (hf_N2_.w hW) (pc := 90) f_M_60 rfl (zh_96 (hf_N2_.w hW)).1 d_M_multiplies_90 ?_
                refine zw_iload_n (pc := 93) (n := 1) (x := Int32.ofInt u1_) rfl d_M_multiplies_93 ?_
                refine zw_aload_n (pc := 94) (n := 0) (x := 81) rfl d_M_multiplies_94 ?_
                refine zr_getI (hf_N2_.w hW) (pc := 95) f_M_275 rfl d_M_multiplies_95 ?_
                refine zr_if_eq (pc := 98) (tgt := 105) ⟨(ze_r N2_ 81 39).1, (ze_r N2_ 81 39).2⟩ (by decide) d_M_multiplies_98 (fun hc_98 => ?_) (fun hc_98 => ?_)
                · skip
                  refine zw_aload_n (pc := 105) (n := 0) (x := 81) rfl d_M_multiplies_105 ?_
                  refine zr_getF (r := 96) (hf_N2_.w hW) (pc := 106) f_M_60 rfl (zh_96 (hf_N2_.w hW)).1 d_M_multiplies_106 ?_
                  refine zw_iload_n (pc := 109) (n := 1) (x := Int32.ofInt u1_) rfl d_M_multiplies_109 ?_
                  refine zr_laldn (pc := 110) (zh_96 (hf_N2_.w hW)).2 (by decide) (by (exact i4_)) (by (exact zo_70 hF27_ hu1_b i5_)) d_M_multiplies_110 (fun v101_ hv101_ hv101_a hv101_b => ?_)
                  have hA110_ : v101_ = zg Mz 96 (u1_).toNat := by first | exact hv101_.trans hsame_ | exact (hv101_.trans (congrFun qzr96_N2_ _)).trans hsame_
                  refine zw_aload_n (pc := 111) (n := 0) (x := 81) rfl d_M_multiplies_111 ?_
                  refine zr_getF (r := 97) (hf_N2_.w hW) (pc := 112) f_M_63 rfl (zh_97 (hf_N2_.w hW)).1 d_M_multiplies_112 ?_
                  refine zw_iload_n (pc := 115) (n := 1) (x := Int32.ofInt u1_) rfl d_M_multiplies_115 ?_
                  refine zr_laldn (pc := 116) (zh_97 (hf_N2_.w hW)).2 (by decide) (by (exact i4_)) (by (exact zo_70 hF27_ hu1_b i5_)) d_M_multiplies_116 (fun v102_ hv102_ hv102_a hv102_b => ?_)
                  rw [hf_N2_.jg (by decide) (by decide)] at hv102_
                  have hB116_ : v102_ = zg Mz 97 (u1_).toNat := hv102_
                  refine zr_lmul (pc := 117) d_M_multiplies_117 ?_
                  have hww_ : (ze N2_ 81 39 ≠ 0 ∧ ((v101_ * v102_) : Int) = 0) ∨ (ze N2_ 81 39 = 0 ∧ ((v101_ * v102_) : Int) = zg Mz 96 (u1_).toNat * zg Mz 97 (u1_).toNat) := by first | exact Or.inl ⟨by omega, rfl⟩ | exact Or.inr ⟨by (exact hc_98), by rw [hA110_, hB116_]⟩
                  refine zr_last (pc := 118) (zh_96 (hf_N2_.w hW)).2 (by decide) (by decide) (by (exact i4_)) (by (exact zo_70 hF27_ hu1_b i5_)) d_M_multiplies_118 (fun N103_ hN103_ hsN103_ => ?_)
                  have hf_N103_ : zFr [39] [96] Mz N103_ := hf_N2_.tr hsN103_ (by decide) (by decide)
                  have hb0_N103_ : zFr [39] [96] Mz N103_ := hs3_.tr hsN103_ (by decide) (by decide)
                  have e26_N103_ : ze N103_ 81 26 = ze N2_ 81 26 := hsN103_.e (by decide)
                  have e39_N103_ : ze N103_ 81 39 = ze N2_ 81 39 := hsN103_.e (by decide)
                  have hms_ := zMuI_s (P := N2_) (Q := N103_) hmi_ (by (exact i4_)) rfl rfl hxa_ hxb_ hgg_ (fun hM_ => p1_ hM_ (u1_).toNat (by (exact zo_73 hFc_ hc_7 hu1_b i4_ i5_))) (by first | exact fun k_ => rfl | exact fun k_ => congrFun qzr96_N2_ k_) hN103_ (by (exact e39_N103_)) hww_
                  refine zr_iinc (pc := 119) (i := 1) (a := u1_) (n := 1) (L2 := [some (.ref 81), some (.int (Int32.ofInt (u1_ + 1))), some (.long (Int64.ofInt v63_)), none, some (.long (Int64.ofInt v91_)), none]) rfl (by decide) rfl d_M_multiplies_119 ?_
                  refine zw_goto (pc := 122) (tgt := 2) (by decide) d_M_multiplies_122 ?_
                  refine zW_le [some (.ref 81), some (.int (Int32.ofInt (u1_ + 1))), none, none, none, none] (⟨rfl, rfl, trivial⟩) ?_
                  exact ih_2 (u1_ + 1) (by (exact zo_74 i4_)) (by (exact zo_75 hF27_ hu1_b i5_)) N103_ hb0_N103_ (show 0 ≤ (u1_ + 1) by first | with_reducible assumption | (exact zo_76 i4_) | assumption) (show (u1_ + 1) ≤ F_ by first | with_reducible assumption | (exact zo_77 hFc_ hc_7 hu1_b i5_) | assumption) (show zMuI F_ Mz N103_ (u1_ + 1) by exact hms_) (by (exact zo_78 hFc_ hc_7 hlt_2 hu1_b i5_))
                · skip
                  refine zw_lconst (pc := 101) (v := Int64.ofInt 0) (by decide) d_M_multiplies_101 ?_
                  refine zw_goto (pc := 102) (tgt := 118) (by decide) d_M_multiplies_102 ?_
                  have hww_ : (ze N2_ 81 39 ≠ 0 ∧ (0 : Int) = 0) ∨ (ze N2_ 81 39 = 0 ∧ (0 : Int) = zg Mz 96 (u1_).toNat * zg Mz 97 (u1_).toNat) := by first | exact Or.inl ⟨by (exact hc_98), rfl⟩ | exact Or.inr ⟨by omega, by rw [hA110_, hB116_]⟩
                  refine zr_last (pc := 118) (zh_96 (hf_N2_.w hW)).2 (by decide) (by decide) (by (exact i4_)) (by (exact zo_70 hF27_ hu1_b i5_)) d_M_multiplies_118 (fun N105_ hN105_ hsN105_ => ?_)
                  have hf_N105_ : zFr [39] [96] Mz N105_ := hf_N2_.tr hsN105_ (by decide) (by decide)
                  have hb0_N105_ : zFr [39] [96] Mz N105_ := hs3_.tr hsN105_ (by decide) (by decide)
                  have e26_N105_ : ze N105_ 81 26 = ze N2_ 81 26 := hsN105_.e (by decide)
                  have e39_N105_ : ze N105_ 81 39 = ze N2_ 81 39 := hsN105_.e (by decide)
                  have hms_ := zMuI_s (P := N2_) (Q := N105_) hmi_ (by (exact i4_)) rfl rfl hxa_ hxb_ hgg_ (fun hM_ => p1_ hM_ (u1_).toNat (by (exact zo_73 hFc_ hc_7 hu1_b i4_ i5_))) (by first | exact fun k_ => rfl | exact fun k_ => congrFun qzr96_N2_ k_) hN105_ (by (exact e39_N105_)) hww_
                  refine zr_iinc (pc := 119) (i := 1) (a := u1_) (n := 1) (L2 := [some (.ref 81), some (.int (Int32.ofInt (u1_ + 1))), some (.long (Int64.ofInt v63_)), none, some (.long (Int64.ofInt v91_)), none]) rfl (by decide) rfl d_M_multiplies_119 ?_
                  refine zw_goto (pc := 122) (tgt := 2) (by decide) d_M_multiplies_122 ?_
                  refine zW_le [some (.ref 81), some (.int (Int32.ofInt (u1_ + 1))), none, none, none, none] (⟨rfl, rfl, trivial⟩) ?_
                  exact ih_2 (u1_ + 1) (by (exact zo_74 i4_)) (by (exact zo_75 hF27_ hu1_b i5_)) N105_ hb0_N105_ (show 0 ≤ (u1_ + 1) by first | with_reducible assumption | (exact zo_76 i4_) | assumption) (show (u1_ + 1) ≤ F_ by first | with_reducible assumption | (exact zo_77 hFc_ hc_7 hu1_b i5_) | assumption) (show zMuI F_ Mz N105_ (u1_ + 1) by exact hms_) (by (exact zo_78 hFc_ hc_7 hlt_2 hu1_b i5_))
              · skip
                refine zw_aload_n (pc := 84) (n := 0) (x := 81) rfl (zdal_p dlC_M_multiplies_124 (i := 4) rfl) ?_
                refine zw_iconst (pc := 85) (v := Int32.ofInt 1) (by decide) (zdal_p dlC_M_multiplies_124 (i := 5) rfl) ?_
                refine zr_putI (hf_N2_.w hW) (pc := 86) f_M_275 rfl rfl ⟨by (decide), by (decide)⟩ (z_narB (by (decide))) (z_fitB (by (decide))) (zdal_p dlC_M_multiplies_124 (i := 6) rfl) (fun N107_ hsN107_ hvN107_ => ?_)
                have hf_N107_ : zFr [39] [96] Mz N107_ := hf_N2_.tr hsN107_ (by decide) (by decide)
                have hb0_N107_ : zFr [39] [96] Mz N107_ := hs3_.tr hsN107_ (by decide) (by decide)
                have e26_N107_ : ze N107_ 81 26 = ze N2_ 81 26 := hsN107_.e (by decide)
                have r39_N107_ := ze_r N107_ 81 39
                have qzr96_N107_ : zr96 N107_ = zr96 N2_ := zr96_f hsN107_ (by decide)
                have hgg_ : (ze N107_ 81 39 = 1 ∧ 1 ≤ v63_ ∧ zlquo 1000000000000 v63_ < v91_) ∨ (ze N107_ 81 39 = ze N2_ 81 39 ∧ (v63_ ≤ 0 ∨ v91_ ≤ zlquo 1000000000000 v63_)) := by omega
                refine zw_aload_n (pc := 89) (n := 0) (x := 81) rfl d_M_multiplies_89 ?_
                refine zr_getF (r := 96) (hf_N107_.w hW) (pc := 90) f_M_60 rfl (zh_96 (hf_N107_.w hW)).1 d_M_multiplies_90 ?_
                refine zw_iload_n (pc := 93) (n := 1) (x := Int32.ofInt u1_) rfl d_M_multiplies_93 ?_
                refine zw_aload_n (pc := 94) (n := 0) (x := 81) rfl d_M_multiplies_94 ?_
                refine zr_getI (hf_N107_.w hW) (pc := 95) f_M_275 rfl d_M_multiplies_95 ?_
                refine zr_if_eq (pc := 98) (tgt := 105) ⟨(ze_r N107_ 81 39).1, (ze_r N107_ 81 39).2⟩ (by decide) d_M_multiplies_98 (fun hc_98 => ?_) (fun hc_98 => ?_)
                · skip
                  refine zw_aload_n (pc := 105) (n := 0) (x := 81) rfl d_M_multiplies_105 ?_
                  refine zr_getF (r := 96) (hf_N107_.w hW) (pc := 106) f_M_60 rfl (zh_96 (hf_N107_.w hW)).1 d_M_multiplies_106 ?_
                  refine zw_iload_n (pc := 109) (n := 1) (x := Int32.ofInt u1_) rfl d_M_multiplies_109 ?_
                  refine zr_laldn (pc := 110) (zh_96 (hf_N107_.w hW)).2 (by decide) (by (exact i4_)) (by (exact zo_70 hF27_ hu1_b i5_)) d_M_multiplies_110 (fun v109_ hv109_ hv109_a hv109_b => ?_)
                  have hA110_ : v109_ = zg Mz 96 (u1_).toNat := by first | exact hv109_.trans hsame_ | exact (hv109_.trans (congrFun qzr96_N107_ _)).trans hsame_
                  refine zw_aload_n (pc := 111) (n := 0) (x := 81) rfl d_M_multiplies_111 ?_
                  refine zr_getF (r := 97) (hf_N107_.w hW) (pc := 112) f_M_63 rfl (zh_97 (hf_N107_.w hW)).1 d_M_multiplies_112 ?_
                  refine zw_iload_n (pc := 115) (n := 1) (x := Int32.ofInt u1_) rfl d_M_multiplies_115 ?_
                  refine zr_laldn (pc := 116) (zh_97 (hf_N107_.w hW)).2 (by decide) (by (exact i4_)) (by (exact zo_70 hF27_ hu1_b i5_)) d_M_multiplies_116 (fun v110_ hv110_ hv110_a hv110_b => ?_)
                  rw [hf_N107_.jg (by decide) (by decide)] at hv110_
                  have hB116_ : v110_ = zg Mz 97 (u1_).toNat := hv110_
                  refine zr_lmul (pc := 117) d_M_multiplies_117 ?_
                  have hww_ : (ze N107_ 81 39 ≠ 0 ∧ ((v109_ * v110_) : Int) = 0) ∨ (ze N107_ 81 39 = 0 ∧ ((v109_ * v110_) : Int) = zg Mz 96 (u1_).toNat * zg Mz 97 (u1_).toNat) := by first | exact Or.inl ⟨by (exact zo_83 hvN107_), rfl⟩ | exact Or.inr ⟨by (exact hc_98), by rw [hA110_, hB116_]⟩
                  refine zr_last (pc := 118) (zh_96 (hf_N107_.w hW)).2 (by decide) (by decide) (by (exact i4_)) (by (exact zo_70 hF27_ hu1_b i5_)) d_M_multiplies_118 (fun N111_ hN111_ hsN111_ => ?_)
                  have hf_N111_ : zFr [39] [96] Mz N111_ := hf_N107_.tr hsN111_ (by decide) (by decide)
                  have hb0_N111_ : zFr [39] [96] Mz N111_ := hb0_N107_.tr hsN111_ (by decide) (by decide)
                  have e26_N111_ : ze N111_ 81 26 = ze N107_ 81 26 := hsN111_.e (by decide)
                  have e39_N111_ : ze N111_ 81 39 = ze N107_ 81 39 := hsN111_.e (by decide)
                  have hms_ := zMuI_s (P := N107_) (Q := N111_) hmi_ (by (exact i4_)) rfl rfl hxa_ hxb_ hgg_ (fun hM_ => p1_ hM_ (u1_).toNat (by (exact zo_73 hFc_ hc_7 hu1_b i4_ i5_))) (by first | exact fun k_ => rfl | exact fun k_ => congrFun qzr96_N107_ k_) hN111_ (by (exact e39_N111_)) hww_
                  refine zr_iinc (pc := 119) (i := 1) (a := u1_) (n := 1) (L2 := [some (.ref 81), some (.int (Int32.ofInt (u1_ + 1))), some (.long (Int64.ofInt v63_)), none, some (.long (Int64.ofInt v91_)), none]) rfl (by decide) rfl d_M_multiplies_119 ?_
                  refine zw_goto (pc := 122) (tgt := 2) (by decide) d_M_multiplies_122 ?_
                  refine zW_le [some (.ref 81), some (.int (Int32.ofInt (u1_ + 1))), none, none, none, none] (⟨rfl, rfl, trivial⟩) ?_
                  exact ih_2 (u1_ + 1) (by (exact zo_74 i4_)) (by (exact zo_75 hF27_ hu1_b i5_)) N111_ hb0_N111_ (show 0 ≤ (u1_ + 1) by first | with_reducible assumption | (exact zo_76 i4_) | assumption) (show (u1_ + 1) ≤ F_ by first | with_reducible assumption | (exact zo_77 hFc_ hc_7 hu1_b i5_) | assumption) (show zMuI F_ Mz N111_ (u1_ + 1) by exact hms_) (by (exact zo_78 hFc_ hc_7 hlt_2 hu1_b i5_))
                · skip
                  refine zw_lconst (pc := 101) (v := Int64.ofInt 0) (by decide) d_M_multiplies_101 ?_
                  refine zw_goto (pc := 102) (tgt := 118) (by decide) d_M_multiplies_102 ?_
                  have hww_ : (ze N107_ 81 39 ≠ 0 ∧ (0 : Int) = 0) ∨ (ze N107_ 81 39 = 0 ∧ (0 : Int) = zg Mz 96 (u1_).toNat * zg Mz 97 (u1_).toNat) := by first | exact Or.inl ⟨by (exact hc_98), rfl⟩ | exact Or.inr ⟨by omega, by rw [hA110_, hB116_]⟩
                  refine zr_last (pc := 118) (zh_96 (hf_N107_.w hW)).2 (by decide) (by decide) (by (exact i4_)) (by (exact zo_70 hF27_ hu1_b i5_)) d_M_multiplies_118 (fun N113_ hN113_ hsN113_ => ?_)
                  have hf_N113_ : zFr [39] [96] Mz N113_ := hf_N107_.tr hsN113_ (by decide) (by decide)
                  have hb0_N113_ : zFr [39] [96] Mz N113_ := hb0_N107_.tr hsN113_ (by decide) (by decide)
                  have e26_N113_ : ze N113_ 81 26 = ze N107_ 81 26 := hsN113_.e (by decide)
                  have e39_N113_ : ze N113_ 81 39 = ze N107_ 81 39 := hsN113_.e (by decide)
                  have hms_ := zMuI_s (P := N107_) (Q := N113_) hmi_ (by (exact i4_)) rfl rfl hxa_ hxb_ hgg_ (fun hM_ => p1_ hM_ (u1_).toNat (by (exact zo_73 hFc_ hc_7 hu1_b i4_ i5_))) (by first | exact fun k_ => rfl | exact fun k_ => congrFun qzr96_N107_ k_) hN113_ (by (exact e39_N113_)) hww_
                  refine zr_iinc (pc := 119) (i := 1) (a := u1_) (n := 1) (L2 := [some (.ref 81), some (.int (Int32.ofInt (u1_ + 1))), some (.long (Int64.ofInt v63_)), none, some (.long (Int64.ofInt v91_)), none]) rfl (by decide) rfl d_M_multiplies_119 ?_
                  refine zw_goto (pc := 122) (tgt := 2) (by decide) d_M_multiplies_122 ?_
                  refine zW_le [some (.ref 81), some (.int (Int32.ofInt (u1_ + 1))), none, none, none, none] (⟨rfl, rfl, trivial⟩) ?_
                  exact ih_2 (u1_ + 1) (by (exact zo_74 i4_)) (by (exact zo_75 hF27_ hu1_b i5_)) N113_ hb0_N113_ (show 0 ≤ (u1_ + 1) by first | with_reducible assumption | (exact zo_76 i4_) | assumption) (show (u1_ + 1) ≤ F_ by first | with_reducible assumption | (exact zo_77 hFc_ hc_7 hu1_b i5_) | assumption) (show zMuI F_ Mz N113_ (u1_ + 1) by exact hms_) (by (exact zo_78 hFc_ hc_7 hlt_2 hu1_b i5_))
  exact lp_2 _ 0 (by decide) (by decide) Mz zFr.rf (show 0 ≤ (0 : Int) by first | with_reducible assumption | (decide) | assumption) (show (0 : Int) ≤ F_ by first | with_reducible assumption | (exact zo_85) | assumption) (show zMuI F_ Mz Mz (0 : Int) by exact zMuI_0) (Nat.lt_succ_self _)
set_option maxHeartbeats 4000000 in
theorem c_M_timesTwoF (l : Launch) (Mz : zMem) (hW : zMt Mz) (F_ : Nat) (K_ : Nat → Nat → Int) (hA_ : zTA F_ K_) (p0_ : zRmk F_ K_ Mz) (p1_ : 2 ≤ ze Mz 81 38) (p2_ : ze Mz 81 38 ≤ 40) (p3_ : zFtR F_ K_ Mz) : zC l m_M_timesTwo 0 0 [.ref 81] Mz (zpV [38, 39] [95, 96, 97] Mz (fun N => ze N 81 38 = ze Mz 81 38 - 1 ∧ zAcc F_ (64 * (ze Mz 81 38 - 2)) (zprd F_ K_ (zrw F_ Mz 95 (64 * (ze Mz 81 38 - 2))) (zrw F_ Mz 95 (64 * (ze Mz 81 38 - 1)))) (zmok F_ K_ (zrw F_ Mz 95 (64 * (ze Mz 81 38 - 2))) (zrw F_ Mz 95 (64 * (ze Mz 81 38 - 1))) ∧ zfit F_ K_ (zprd F_ K_ (zrw F_ Mz 95 (64 * (ze Mz 81 38 - 2))) (zrw F_ Mz 95 (64 * (ze Mz 81 38 - 1))))) Mz N)) := by
  refine zC_of (L0 := [some (.ref 81)]) md_M_timesTwo (Nat.le_of_ble_eq_true rfl) rfl ?_ zQ0
  have hf : zFr [38, 39] [95, 96, 97] Mz Mz := zFr.rf
  have r_38 := ze_r Mz 81 38
  have r_39 := ze_r Mz 81 39
  obtain ⟨⟨hF1_, hF27_⟩, hAr_⟩ := id hA_
  obtain ⟨hFc_, hKt_⟩ := id p0_
  have hff_ : ze Mz 81 39 = 0 → zfit F_ K_ (zrw F_ Mz 95 (64 * (ze Mz 81 38 - 2))) ∧ zfit F_ K_ (zrw F_ Mz 95 (64 * (ze Mz 81 38 - 1))) := fun h_ => ⟨p3_ h_ _ (by (exact zo_86 p1_)) (by (exact zo_87)), p3_ h_ _ (by (exact zo_88 p1_)) (by (exact zo_89))⟩
  refine zw_aload_n (pc := 0) (n := 0) (x := 81) rfl (zdal_p dlC_M_timesTwo_136 (i := 0) rfl) ?_
  refine zw_aload_n (pc := 1) (n := 0) (x := 81) rfl (zdal_p dlC_M_timesTwo_136 (i := 1) rfl) ?_
  refine zr_getI (hf.w hW) (pc := 2) f_M_268 rfl (zdal_p dlC_M_timesTwo_136 (i := 2) rfl) ?_
  refine zw_iconst (pc := 5) (v := Int32.ofInt 2) (by decide) (zdal_p dlC_M_timesTwo_136 (i := 3) rfl) ?_
  refine zr_isub (pc := 6) (zdal_p dlC_M_timesTwo_136 (i := 4) rfl) ?_
  refine zw_aload_n (pc := 7) (n := 0) (x := 81) rfl (zdal_p dlC_M_timesTwo_136 (i := 5) rfl) ?_
  refine zr_getF (r := 96) (hf.w hW) (pc := 8) f_M_60 rfl (zh_96 (hf.w hW)).1 (zdal_p dlC_M_timesTwo_136 (i := 6) rfl) ?_
  refine zr_callV (hf.w hW) hf.x (pc := 11) [.int (Int32.ofInt ((ze Mz 81 38) - 2)), .ref 96] [] l_M_282 (c_M_marksOf_96F l Mz (hf.w hW) ((ze Mz 81 38) - 2) (by (exact zo_90 p1_)) (by (exact zo_91 p2_)) F_ K_ hA_ p0_ (show 0 ≤ ((ze Mz 81 38) - 2) by first | with_reducible assumption | (exact zo_86 p1_) | assumption) (show ((ze Mz 81 38) - 2) ≤ 39 by first | with_reducible assumption | (exact zo_92 p2_) | assumption)) rfl rfl rfl (by decide) (Nat.le_of_ble_eq_true rfl) (zdal_p dlC_M_timesTwo_136 (i := 7) rfl) ?_
  rintro _ N1_ ⟨rfl, hsN1_, hp0_N1_⟩
  replace hp0_N1_ : (∀ k : Nat, k < F_ → Int64.ofInt (zg N1_ 96 k) = Int64.ofInt (zmq F_ K_ (zrw F_ Mz 95 (64 * ((ze Mz 81 38) - 2))) k)) := hp0_N1_
  have hf_N1_ : zFr [38, 39] [95, 96, 97] Mz N1_ := hf.tr hsN1_ (by decide) (by decide)
  have e38_N1_ : ze N1_ 81 38 = ze Mz 81 38 := hsN1_.e (by decide)
  have e39_N1_ : ze N1_ 81 39 = ze Mz 81 39 := hsN1_.e (by decide)
  have qzr95_N1_ : zr95 N1_ = zr95 Mz := zr95_f hsN1_ (by decide)
  have c3_ : zRmk F_ K_ N1_ := zRmk.fr hsN1_ p0_ (by decide) (by decide)
  show zW l m_M_timesTwo (zn Mz + 0, zw Mz + 0) N1_ 14 [some (.ref 81)] [] _
  have hm1_ := hp0_N1_
  refine zw_aload_n (pc := 14) (n := 0) (x := 81) rfl (zdal_p dlC_M_timesTwo_136 (i := 8) rfl) ?_
  refine zw_aload_n (pc := 15) (n := 0) (x := 81) rfl (zdal_p dlC_M_timesTwo_136 (i := 9) rfl) ?_
  refine zr_getI (hf_N1_.w hW) (pc := 16) f_M_268 rfl (zdal_p dlC_M_timesTwo_136 (i := 10) rfl) ?_
  refine zw_iconst (pc := 19) (v := Int32.ofInt 1) (by decide) (zdal_p dlC_M_timesTwo_136 (i := 11) rfl) ?_
  refine zr_isub (pc := 20) (zdal_p dlC_M_timesTwo_136 (i := 12) rfl) ?_
  refine zw_aload_n (pc := 21) (n := 0) (x := 81) rfl (zdal_p dlC_M_timesTwo_136 (i := 13) rfl) ?_
  refine zr_getF (r := 97) (hf_N1_.w hW) (pc := 22) f_M_63 rfl (zh_97 (hf_N1_.w hW)).1 (zdal_p dlC_M_timesTwo_136 (i := 14) rfl) ?_
  refine zr_callV (hf_N1_.w hW) hf_N1_.x (pc := 25) [.int (Int32.ofInt ((ze N1_ 81 38) - 1)), .ref 97] [] l_M_282 (c_M_marksOf_97F l N1_ (hf_N1_.w hW) ((ze N1_ 81 38) - 1) (by (exact zo_93 e38_N1_ p1_)) (by (exact zo_94 e38_N1_ p2_)) F_ K_ hA_ c3_ (show 0 ≤ ((ze N1_ 81 38) - 1) by first | with_reducible assumption | (exact zo_95 e38_N1_ p1_) | assumption) (show ((ze N1_ 81 38) - 1) ≤ 39 by first | with_reducible assumption | (exact zo_96 e38_N1_ p2_) | assumption)) rfl rfl rfl (by decide) (Nat.le_of_ble_eq_true rfl) (zdal_p dlC_M_timesTwo_136 (i := 15) rfl) ?_
  rintro _ N4_ ⟨rfl, hsN4_, hp0_N4_⟩
  replace hp0_N4_ : (∀ k : Nat, k < F_ → Int64.ofInt (zg N4_ 97 k) = Int64.ofInt (zmq F_ K_ (zrw F_ N1_ 95 (64 * ((ze N1_ 81 38) - 1))) k)) := hp0_N4_
  have hf_N4_ : zFr [38, 39] [95, 96, 97] Mz N4_ := hf_N1_.tr hsN4_ (by decide) (by decide)
  have e38_N4_ : ze N4_ 81 38 = ze N1_ 81 38 := hsN4_.e (by decide)
  have e39_N4_ : ze N4_ 81 39 = ze N1_ 81 39 := hsN4_.e (by decide)
  have qzr95_N4_ : zr95 N4_ = zr95 N1_ := zr95_f hsN4_ (by decide)
  have c6_ : zRmk F_ K_ N4_ := zRmk.fr hsN4_ c3_ (by decide) (by decide)
  show zW l m_M_timesTwo (zn Mz + 0, zw Mz + 0) N4_ 28 [some (.ref 81)] [] _
  have hm2_ := hp0_N4_
  rw [show ze N1_ 81 38 = ze Mz 81 38 by (exact e38_N1_)] at hm2_
  rw [zrw_c (fun k_ _ => hsN1_.jg (by decide) (by decide) _) (N := N1_) (M := Mz) (F := F_) (q := 95) (r := 95) (e := 64 * (ze Mz 81 38 - 1)) (e' := 64 * (ze Mz 81 38 - 1))] at hm2_
  have hm3_ : ∀ k : Nat, k < F_ → Int64.ofInt (zg N4_ 96 k) = Int64.ofInt (zmq F_ K_ (zrw F_ Mz 95 (64 * (ze Mz 81 38 - 2))) k) := fun k hk => by rw [hsN4_.jg (by decide) (by decide)]; exact hm1_ k hk
  have hin_ : ze N4_ 81 39 = 0 → ∀ k : Nat, k < F_ → zIn (zg N4_ 96 k) ∧ zIn (zg N4_ 97 k) := fun h_ k hk => by obtain ⟨f1_, f2_⟩ := hff_ (by (exact zo_97 e39_N1_ e39_N4_ h_ r_39.1 r_39.2)); rw [zmq_x f1_ hk (zg_r _ _ _) (hm3_ k hk), zmq_x f2_ hk (zg_r _ _ _) (hm2_ k hk)]; exact ⟨(f1_ k hk).2, (f2_ k hk).2⟩
  refine zw_aload_n (pc := 28) (n := 0) (x := 81) rfl (zdal_p dlC_M_timesTwo_136 (i := 16) rfl) ?_
  refine zr_callV (hf_N4_.w hW) hf_N4_.x (pc := 29) [] [] l_M_286 (c_M_multipliesF l N4_ (hf_N4_.w hW) F_ K_ hA_ c6_ (show (ze N4_ 81 39 = 0 → ∀ k : Nat, k < F_ → zIn (zg N4_ 96 k) ∧ zIn (zg N4_ 97 k)) by exact hin_)) rfl rfl rfl (by decide) (Nat.le_of_ble_eq_true rfl) (zdal_p dlC_M_timesTwo_136 (i := 17) rfl) ?_
  rintro _ N7_ ⟨rfl, hsN7_, hp0_N7_⟩
  replace hp0_N7_ : zMuI F_ N4_ N7_ F_ := hp0_N7_
  have hf_N7_ : zFr [38, 39] [95, 96, 97] Mz N7_ := hf_N4_.tr hsN7_ (by decide) (by decide)
  have e38_N7_ : ze N7_ 81 38 = ze N4_ 81 38 := hsN7_.e (by decide)
  have r39_N7_ := ze_r N7_ 81 39
  have qzr95_N7_ : zr95 N7_ = zr95 N4_ := zr95_f hsN7_ (by decide)
  have c9_ : zRmk F_ K_ N7_ := zRmk.fr hsN7_ c6_ (by decide) (by decide)
  show zW l m_M_timesTwo (zn Mz + 0, zw Mz + 0) N7_ 32 [some (.ref 81)] [] _
  have hmu_ := hp0_N7_
  refine zw_aload_n (pc := 32) (n := 0) (x := 81) rfl (zdal_p dlC_M_timesTwo_136 (i := 18) rfl) ?_
  refine zw_dup (pc := 33) rfl (zdal_p dlC_M_timesTwo_136 (i := 19) rfl) ?_
  refine zr_getI (hf_N7_.w hW) (pc := 34) f_M_268 rfl (zdal_p dlC_M_timesTwo_136 (i := 20) rfl) ?_
  refine zw_iconst (pc := 37) (v := Int32.ofInt 1) (by decide) (zdal_p dlC_M_timesTwo_136 (i := 21) rfl) ?_
  refine zr_isub (pc := 38) (zdal_p dlC_M_timesTwo_136 (i := 22) rfl) ?_
  refine zr_putI (hf_N7_.w hW) (pc := 39) f_M_268 rfl rfl ⟨by (exact zo_98 e38_N1_ e38_N4_ e38_N7_ p1_), by (exact zo_99 e38_N1_ e38_N4_ e38_N7_ p2_)⟩ rfl rfl (zdal_p dlC_M_timesTwo_136 (i := 23) rfl) (fun N10_ hsN10_ hvN10_ => ?_)
  have hf_N10_ : zFr [38, 39] [95, 96, 97] Mz N10_ := hf_N7_.tr hsN10_ (by decide) (by decide)
  have r38_N10_ := ze_r N10_ 81 38
  have e39_N10_ : ze N10_ 81 39 = ze N7_ 81 39 := hsN10_.e (by decide)
  have qzr95_N10_ : zr95 N10_ = zr95 N7_ := zr95_f hsN10_ (by decide)
  have qzr96_N10_ : zr96 N10_ = zr96 N7_ := zr96_f hsN10_ (by decide)
  have c11_ : zRmk F_ K_ N10_ := zRmk.fr hsN10_ c9_ (by decide) (by decide)
  refine zw_aload_n (pc := 42) (n := 0) (x := 81) rfl (zdal_p dlC_M_timesTwo_137 (i := 0) rfl) ?_
  refine zw_aload_n (pc := 43) (n := 0) (x := 81) rfl (zdal_p dlC_M_timesTwo_137 (i := 1) rfl) ?_
  refine zr_getF (r := 96) (hf_N10_.w hW) (pc := 44) f_M_60 rfl (zh_96 (hf_N10_.w hW)).1 (zdal_p dlC_M_timesTwo_137 (i := 2) rfl) ?_
  refine zw_aload_n (pc := 47) (n := 0) (x := 81) rfl (zdal_p dlC_M_timesTwo_137 (i := 3) rfl) ?_
  refine zr_getF (r := 95) (hf_N10_.w hW) (pc := 48) f_M_56 rfl (zh_95 (hf_N10_.w hW)).1 (zdal_p dlC_M_timesTwo_137 (i := 4) rfl) ?_
  refine zw_bipush (pc := 51) (v := Int32.ofInt 64) (by decide) (zdal_p dlC_M_timesTwo_137 (i := 5) rfl) ?_
  refine zw_aload_n (pc := 53) (n := 0) (x := 81) rfl (zdal_p dlC_M_timesTwo_137 (i := 6) rfl) ?_
  refine zr_getI (hf_N10_.w hW) (pc := 54) f_M_268 rfl (zdal_p dlC_M_timesTwo_137 (i := 7) rfl) ?_
  refine zw_iconst (pc := 57) (v := Int32.ofInt 1) (by decide) (zdal_p dlC_M_timesTwo_137 (i := 8) rfl) ?_
  refine zr_isub (pc := 58) (zdal_p dlC_M_timesTwo_137 (i := 9) rfl) ?_
  refine zr_imul (pc := 59) (zdal_p dlC_M_timesTwo_137 (i := 10) rfl) ?_
  refine zr_callV (hf_N10_.w hW) hf_N10_.x (pc := 60) [.ref 96, .ref 95, .int (Int32.ofInt (64 * ((ze N10_ 81 38) - 1)))] [] l_M_289 (c_M_numbers_96_95F l N10_ (hf_N10_.w hW) (64 * ((ze N10_ 81 38) - 1)) (by (exact zo_100 e38_N1_ e38_N4_ e38_N7_ hvN10_ p1_ r38_N10_.1)) (by (exact zo_101 e38_N1_ e38_N4_ e38_N7_ hvN10_ p2_ r38_N10_.2)) F_ K_ hA_ c11_ (show 0 ≤ (64 * ((ze N10_ 81 38) - 1)) by first | with_reducible assumption | (exact zo_102 e38_N1_ e38_N4_ e38_N7_ hvN10_ p1_ r38_N10_.1) | assumption) (show (64 * ((ze N10_ 81 38) - 1)) ≤ 2496 by first | with_reducible assumption | (exact zo_103 e38_N1_ e38_N4_ e38_N7_ hvN10_ p2_ r38_N10_.2) | assumption)) rfl rfl rfl (by decide) (Nat.le_of_ble_eq_true rfl) (zdal_p dlC_M_timesTwo_137 (i := 11) rfl) ?_
  rintro _ N12_ ⟨rfl, hsN12_, hp0_N12_⟩
  replace hp0_N12_ : zNumR F_ K_ N10_ N12_ (64 * ((ze N10_ 81 38) - 1)) := hp0_N12_
  have hf_N12_ : zFr [38, 39] [95, 96, 97] Mz N12_ := hf_N10_.tr hsN12_ (by decide) (by decide)
  have e38_N12_ : ze N12_ 81 38 = ze N10_ 81 38 := hsN12_.e (by decide)
  have e39_N12_ : ze N12_ 81 39 = ze N10_ 81 39 := hsN12_.e (by decide)
  have c14_ : zRmk F_ K_ N12_ := zRmk.fr hsN12_ c11_ (by decide) (by decide)
  show zW l m_M_timesTwo (zn Mz + 0, zw Mz + 0) N12_ 63 [some (.ref 81)] [] _
  have hnum_ := hp0_N12_
  rw [show 64 * (ze N10_ 81 38 - 1) = (64 * (ze Mz 81 38 - 2)) by (exact zo_104 e38_N1_ e38_N4_ e38_N7_ hvN10_ p1_ p2_ r38_N10_.1 r38_N10_.2)] at hnum_
  refine zw_aload_n (pc := 63) (n := 0) (x := 81) rfl (zdal_p dlC_M_timesTwo_137 (i := 12) rfl) ?_
  refine zr_callV (hf_N12_.w hW) hf_N12_.x (pc := 64) [] [] l_M_279 (c_M_looksF l N12_ (hf_N12_.w hW) F_ K_ hA_ c14_ (show 1 ≤ ze N12_ 81 38 by first | with_reducible assumption | (exact zo_105 e38_N12_ e38_N1_ e38_N4_ e38_N7_ hvN10_ p1_ r38_N10_.1) | assumption) (show ze N12_ 81 38 ≤ 40 by first | with_reducible assumption | (exact zo_106 e38_N12_ e38_N1_ e38_N4_ e38_N7_ hvN10_ p2_ r38_N10_.2) | assumption)) rfl rfl rfl (by decide) (Nat.le_of_ble_eq_true rfl) (zdal_p dlC_M_timesTwo_137 (i := 13) rfl) ?_
  rintro _ N15_ ⟨rfl, hsN15_, hp0_N15_⟩
  replace hp0_N15_ : zLkd F_ K_ (64 * (ze N12_ 81 38 - 1)) N12_ N15_ := hp0_N15_
  have hf_N15_ : zFr [38, 39] [95, 96, 97] Mz N15_ := hf_N12_.tr hsN15_ (by decide) (by decide)
  have e38_N15_ : ze N15_ 81 38 = ze N12_ 81 38 := hsN15_.e (by decide)
  have r39_N15_ := ze_r N15_ 81 39
  show zW l m_M_timesTwo (zn Mz + 0, zw Mz + 0) N15_ 67 [some (.ref 81)] [] _
  have hlk_ := hp0_N15_
  rw [show 64 * (ze N12_ 81 38 - 1) = (64 * (ze Mz 81 38 - 2)) by (exact zo_107 e38_N12_ e38_N1_ e38_N4_ e38_N7_ hvN10_ p1_ p2_ r38_N10_.1 r38_N10_.2)] at hlk_
  have hac_ := zTw (N2 := N4_) (N3 := N7_) (N4 := N10_) (N5 := N12_) (N6 := N15_) hA_ (by (exact zo_108 p1_)) hff_ hm3_ hm2_ (by (exact zo_53 e39_N1_ e39_N4_)) hmu_ (fun k_ => congrFun qzr96_N10_ k_) (fun k_ => congrFun (qzr95_N10_.trans (qzr95_N7_.trans (qzr95_N4_.trans qzr95_N1_))) k_) (by (exact e39_N10_)) hnum_ (by (exact e39_N12_)) hlk_
  exact zr_vret (pc := 67) rfl hf_N15_ ⟨(show ze N15_ 81 38 = ze Mz 81 38 - 1 by first | with_reducible assumption | (exact zo_109 e38_N12_ e38_N15_ e38_N1_ e38_N4_ e38_N7_ hvN10_ p1_ p2_ r38_N10_.1 r38_N10_.2) | assumption), (show zAcc F_ (64 * (ze Mz 81 38 - 2)) (zprd F_ K_ (zrw F_ Mz 95 (64 * (ze Mz 81 38 - 2))) (zrw F_ Mz 95 (64 * (ze Mz 81 38 - 1)))) (zmok F_ K_ (zrw F_ Mz 95 (64 * (ze Mz 81 38 - 2))) (zrw F_ Mz 95 (64 * (ze Mz 81 38 - 1))) ∧ zfit F_ K_ (zprd F_ K_ (zrw F_ Mz 95 (64 * (ze Mz 81 38 - 2))) (zrw F_ Mz 95 (64 * (ze Mz 81 38 - 1))))) Mz N15_ by exact hac_)⟩ (zdal_p dlC_M_timesTwo_137 (i := 14) rfl)
set_option maxHeartbeats 4000000 in
theorem c_M_addsF (l : Launch) (Mz : zMem) (hW : zMt Mz) (a0_ : Int) (ha0_a : -2147483648 ≤ a0_) (ha0_b : a0_ < 2147483648) (F_ : Nat) (K_ : Nat → Nat → Int) (hA_ : zTA F_ K_) (p0_ : zRmk F_ K_ Mz) (p1_ : 2 ≤ ze Mz 81 38) (p2_ : ze Mz 81 38 ≤ 40) (p3_ : zFtR F_ K_ Mz) (p4_ : (a0_ = 1 ∨ a0_ = -1)) : zC l m_M_adds 0 0 [.ref 81, .int (Int32.ofInt a0_)] Mz (zpV [38, 39] [95] Mz (fun N => ze N 81 38 = ze Mz 81 38 - 1 ∧ zAcc F_ (64 * (ze Mz 81 38 - 2)) (fun k => (zrw F_ Mz 95 (64 * (ze Mz 81 38 - 2))) k + a0_ * (zrw F_ Mz 95 (64 * (ze Mz 81 38 - 1))) k) (zfit F_ K_ (fun k => (zrw F_ Mz 95 (64 * (ze Mz 81 38 - 2))) k + a0_ * (zrw F_ Mz 95 (64 * (ze Mz 81 38 - 1))) k)) Mz N)) := by
  refine zC_of (L0 := [some (.ref 81), some (.int (Int32.ofInt a0_)), none]) md_M_adds (Nat.le_of_ble_eq_true rfl) rfl ?_ zQ0
  have hf : zFr [38, 39] [95] Mz Mz := zFr.rf
  have r_26 := ze_r Mz 81 26
  have r_38 := ze_r Mz 81 38
  have r_39 := ze_r Mz 81 39
  obtain ⟨⟨hF1_, hF27_⟩, hAr_⟩ := id hA_
  obtain ⟨hFc_, hKt_⟩ := id p0_
  have hff_ : ze Mz 81 39 = 0 → zfit F_ K_ (zrw F_ Mz 95 (64 * (ze Mz 81 38 - 2))) ∧ zfit F_ K_ (zrw F_ Mz 95 (64 * (ze Mz 81 38 - 1))) := fun h_ => ⟨p3_ h_ _ (by (exact zo_86 p1_)) (by (exact zo_87)), p3_ h_ _ (by (exact zo_88 p1_)) (by (exact zo_89))⟩
  refine zw_iconst (pc := 0) (v := Int32.ofInt 0) (by decide) (zdal_p dlC_M_adds_138 (i := 0) rfl) ?_
  refine zw_istore_n (pc := 1) (i := 2) (L2 := [some (.ref 81), some (.int (Int32.ofInt a0_)), some (.int (Int32.ofInt 0))]) rfl (by decide) rfl (zdal_p dlC_M_adds_138 (i := 1) rfl) ?_
  have lp_2 : ∀ (n : Nat) (u1_ : Int) (hu1_a : -2147483648 ≤ u1_) (hu1_b : u1_ < 2147483648) (N2_ : zMem) (hs3_ : zFr [] [95] Mz N2_) (i4_ : 0 ≤ u1_) (i5_ : u1_ ≤ F_) (i6_ : (∀ x : Nat, (x : Int) < (64 * (ze Mz 81 38 - 2)) ∨ (64 * (ze Mz 81 38 - 2)) + u1_ ≤ x → zg N2_ 95 x = zg Mz 95 x)) (i7_ : (∀ k : Nat, (k : Int) < u1_ → Int64.ofInt (zg N2_ 95 ((64 * (ze Mz 81 38 - 2)).toNat + k)) = Int64.ofInt ((zrw F_ Mz 95 (64 * (ze Mz 81 38 - 2))) k + a0_ * (zrw F_ Mz 95 (64 * (ze Mz 81 38 - 1))) k))), (F_ - u1_).toNat < n → zW l m_M_adds (zn Mz + 0, zw Mz + 0) N2_ 2 [some (.ref 81), some (.int (Int32.ofInt a0_)), some (.int (Int32.ofInt u1_))] [] (zpV [38, 39] [95] Mz (fun N => ze N 81 38 = ze Mz 81 38 - 1 ∧ zAcc F_ (64 * (ze Mz 81 38 - 2)) (fun k => (zrw F_ Mz 95 (64 * (ze Mz 81 38 - 2))) k + a0_ * (zrw F_ Mz 95 (64 * (ze Mz 81 38 - 1))) k) (zfit F_ K_ (fun k => (zrw F_ Mz 95 (64 * (ze Mz 81 38 - 2))) k + a0_ * (zrw F_ Mz 95 (64 * (ze Mz 81 38 - 1))) k)) Mz N)) := by
    intro n
    induction n with
    | zero =>
      intro u1_ hu1_a hu1_b N2_ hs3_ i4_ i5_ i6_ i7_ h0
      exact absurd h0 (Nat.not_lt_zero _)
    | succ n ih_2 =>
      intro u1_ hu1_a hu1_b N2_ hs3_ i4_ i5_ i6_ i7_ hlt_2
      have hf_N2_ : zFr [38, 39] [95] Mz N2_ := hf.tr hs3_ (by decide) (by decide)
      have e26_N2_ : ze N2_ 81 26 = ze Mz 81 26 := hs3_.e (by decide)
      have e38_N2_ : ze N2_ 81 38 = ze Mz 81 38 := hs3_.e (by decide)
      have e39_N2_ : ze N2_ 81 39 = ze Mz 81 39 := hs3_.e (by decide)
      have c8_ : zRmk F_ K_ N2_ := zRmk.fr hs3_ p0_ (by decide) (by decide)
      have hai_ := (show (∀ x : Nat, (x : Int) < (64 * (ze Mz 81 38 - 2)) ∨ (64 * (ze Mz 81 38 - 2)) + u1_ ≤ x → zg N2_ 95 x = zg Mz 95 x) by first | with_reducible assumption | assumption)
      have hav_ := (show (∀ k : Nat, (k : Int) < u1_ → Int64.ofInt (zg N2_ 95 ((64 * (ze Mz 81 38 - 2)).toNat + k)) = Int64.ofInt ((zrw F_ Mz 95 (64 * (ze Mz 81 38 - 2))) k + a0_ * (zrw F_ Mz 95 (64 * (ze Mz 81 38 - 1))) k)) by first | with_reducible assumption | assumption)
      refine zw_iload_n (pc := 2) (n := 2) (x := Int32.ofInt u1_) rfl (zdal_p dlC_M_adds_138 (i := 2) rfl) ?_
      refine zw_aload_n (pc := 3) (n := 0) (x := 81) rfl (zdal_p dlC_M_adds_138 (i := 3) rfl) ?_
      refine zr_getI0 hf_N2_ hW (pc := 4) (by decide) f_M_235 rfl (zdal_p dlC_M_adds_138 (i := 4) rfl) ?_
      refine zr_icmp_ge (pc := 7) (tgt := 54) ⟨hu1_a, hu1_b⟩ ⟨(ze_r Mz 81 26).1, (ze_r Mz 81 26).2⟩ (by decide) (zdal_p dlC_M_adds_138 (i := 5) rfl) (fun hc_7 => ?_) (fun hc_7 => ?_)
      · skip
        refine zw_aload_n (pc := 54) (n := 0) (x := 81) rfl (zdal_p dlC_M_adds_139 (i := 12) rfl) ?_
        refine zw_dup (pc := 55) rfl (zdal_p dlC_M_adds_139 (i := 13) rfl) ?_
        refine zr_getI (hf_N2_.w hW) (pc := 56) f_M_268 rfl (zdal_p dlC_M_adds_139 (i := 14) rfl) ?_
        refine zw_iconst (pc := 59) (v := Int32.ofInt 1) (by decide) (zdal_p dlC_M_adds_139 (i := 15) rfl) ?_
        refine zr_isub (pc := 60) (zdal_p dlC_M_adds_139 (i := 16) rfl) ?_
        refine zr_putI (hf_N2_.w hW) (pc := 61) f_M_268 rfl rfl ⟨by (exact zo_93 e38_N2_ p1_), by (exact zo_94 e38_N2_ p2_)⟩ rfl rfl (zdal_p dlC_M_adds_139 (i := 17) rfl) (fun N9_ hsN9_ hvN9_ => ?_)
        have hf_N9_ : zFr [38, 39] [95] Mz N9_ := hf_N2_.tr hsN9_ (by decide) (by decide)
        have e26_N9_ : ze N9_ 81 26 = ze N2_ 81 26 := hsN9_.e (by decide)
        have r38_N9_ := ze_r N9_ 81 38
        have e39_N9_ : ze N9_ 81 39 = ze N2_ 81 39 := hsN9_.e (by decide)
        have qzr95_N9_ : zr95 N9_ = zr95 N2_ := zr95_f hsN9_ (by decide)
        have c10_ : zRmk F_ K_ N9_ := zRmk.fr hsN9_ c8_ (by decide) (by decide)
        have hta_ := zTad (F := F_) (K := K_) (M := Mz) (N := N9_) (e := (64 * (ze Mz 81 38 - 2))) p4_ hff_ (fun k hk => (congrArg Int64.ofInt (congrFun qzr95_N9_ _)).trans (hav_ k (by (exact zo_110 hF27_ hFc_ hc_7 hk i4_)))) (fun k hk => zrw_n hk) (fun k hk => zrw_n hk)
        have hlo_ : ∀ x : Nat, (x : Int) < (64 * (ze Mz 81 38 - 2)) → zg N9_ 95 x = zg Mz 95 x := fun x hx => (congrFun qzr95_N9_ x).trans (hai_ x (by (exact zo_111 hF27_ hu1_b hx i5_)))
        refine zw_aload_n (pc := 64) (n := 0) (x := 81) rfl (zdal_p dlC_M_adds_139 (i := 18) rfl) ?_
        refine zr_callV (hf_N9_.w hW) hf_N9_.x (pc := 65) [] [] l_M_279 (c_M_looksF l N9_ (hf_N9_.w hW) F_ K_ hA_ c10_ (show 1 ≤ ze N9_ 81 38 by first | with_reducible assumption | (exact zo_112 e38_N2_ hvN9_ p1_ r38_N9_.1) | assumption) (show ze N9_ 81 38 ≤ 40 by first | with_reducible assumption | (exact zo_113 e38_N2_ hvN9_ p2_ r38_N9_.2) | assumption)) rfl rfl rfl (by decide) (Nat.le_of_ble_eq_true rfl) (zdal_p dlC_M_adds_139 (i := 19) rfl) ?_
        rintro _ N11_ ⟨rfl, hsN11_, hp0_N11_⟩
        replace hp0_N11_ : zLkd F_ K_ (64 * (ze N9_ 81 38 - 1)) N9_ N11_ := hp0_N11_
        have hf_N11_ : zFr [38, 39] [95] Mz N11_ := hf_N9_.tr hsN11_ (by decide) (by decide)
        have e26_N11_ : ze N11_ 81 26 = ze N9_ 81 26 := hsN11_.e (by decide)
        have e38_N11_ : ze N11_ 81 38 = ze N9_ 81 38 := hsN11_.e (by decide)
        have r39_N11_ := ze_r N11_ 81 39
        show zW l m_M_adds (zn Mz + 0, zw Mz + 0) N11_ 68 [some (.ref 81), some (.int (Int32.ofInt a0_)), some (.int (Int32.ofInt u1_))] [] _
        have hlk_ := hp0_N11_
        rw [show 64 * (ze N9_ 81 38 - 1) = (64 * (ze Mz 81 38 - 2)) by (exact zo_114 e38_N2_ hvN9_ p1_ p2_ r38_N9_.1 r38_N9_.2)] at hlk_
        have hac_ := zAcc_l (F := F_) (K := K_) (M := Mz) (by (exact zo_108 p1_)) (by (exact zo_53 e39_N2_ e39_N9_)) hlo_ hta_ hlk_
        exact zr_vret (pc := 68) rfl hf_N11_ ⟨(show ze N11_ 81 38 = ze Mz 81 38 - 1 by first | with_reducible assumption | (exact zo_115 e38_N11_ e38_N2_ hvN9_ p1_ p2_ r38_N9_.1 r38_N9_.2) | assumption), (show zAcc F_ (64 * (ze Mz 81 38 - 2)) (fun k => (zrw F_ Mz 95 (64 * (ze Mz 81 38 - 2))) k + a0_ * (zrw F_ Mz 95 (64 * (ze Mz 81 38 - 1))) k) (zfit F_ K_ (fun k => (zrw F_ Mz 95 (64 * (ze Mz 81 38 - 2))) k + a0_ * (zrw F_ Mz 95 (64 * (ze Mz 81 38 - 1))) k)) Mz N11_ by exact hac_)⟩ (zdal_p dlC_M_adds_139 (i := 20) rfl)
      · skip
        refine zw_aload_n (pc := 10) (n := 0) (x := 81) rfl (zdal_p dlC_M_adds_138 (i := 6) rfl) ?_
        refine zr_getF (r := 95) (hf_N2_.w hW) (pc := 11) f_M_56 rfl (zh_95 (hf_N2_.w hW)).1 (zdal_p dlC_M_adds_138 (i := 7) rfl) ?_
        refine zw_bipush (pc := 14) (v := Int32.ofInt 64) (by decide) (zdal_p dlC_M_adds_138 (i := 8) rfl) ?_
        refine zw_aload_n (pc := 16) (n := 0) (x := 81) rfl (zdal_p dlC_M_adds_138 (i := 9) rfl) ?_
        refine zr_getI (hf_N2_.w hW) (pc := 17) f_M_268 rfl (zdal_p dlC_M_adds_138 (i := 10) rfl) ?_
        refine zw_iconst (pc := 20) (v := Int32.ofInt 2) (by decide) (zdal_p dlC_M_adds_138 (i := 11) rfl) ?_
        refine zr_isub (pc := 21) (zdal_p dlC_M_adds_138 (i := 12) rfl) ?_
        refine zr_imul (pc := 22) (zdal_p dlC_M_adds_138 (i := 13) rfl) ?_
        refine zw_iload_n (pc := 23) (n := 2) (x := Int32.ofInt u1_) rfl (zdal_p dlC_M_adds_138 (i := 14) rfl) ?_
        refine zr_iadd (pc := 24) (zdal_p dlC_M_adds_138 (i := 15) rfl) ?_
        refine zw_dup2 (pc := 25) rfl rfl (zdal_p dlC_M_adds_138 (i := 16) rfl) ?_
        refine zr_laldn (pc := 26) (zh_95 (hf_N2_.w hW)).2 (by decide) (by (exact zo_116 e38_N2_ i4_ p1_)) (by (exact zo_117 e38_N2_ hF27_ hu1_b i5_ p2_)) (zdal_p dlC_M_adds_138 (i := 17) rfl) (fun v14_ hv14_ hv14_a hv14_b => ?_)
        have hx_ := zrw_at (F := F_) (k := (u1_).toNat) (e := (64 * (ze Mz 81 38 - 2))) (M := Mz) (by (exact zo_73 hFc_ hc_7 hu1_b i4_ i5_)) (by (exact zo_108 p1_)) (hv14_.trans (hai_ _ (by (exact zo_118 e38_N2_ hF27_ hFc_ hc_7)))) (by (exact zo_119 e38_N2_ i4_ p1_))
        refine zw_iload_n (pc := 27) (n := 1) (x := Int32.ofInt a0_) rfl (zdal_p dlC_M_adds_138 (i := 18) rfl) ?_
        refine zr_i2l (pc := 28) ⟨ha0_a, ha0_b⟩ (zdal_p dlC_M_adds_138 (i := 19) rfl) ?_
        refine zw_aload_n (pc := 29) (n := 0) (x := 81) rfl (zdal_p dlC_M_adds_138 (i := 20) rfl) ?_
        refine zr_getF (r := 95) (hf_N2_.w hW) (pc := 30) f_M_56 rfl (zh_95 (hf_N2_.w hW)).1 (zdal_p dlC_M_adds_138 (i := 21) rfl) ?_
        refine zw_bipush (pc := 33) (v := Int32.ofInt 64) (by decide) (zdal_p dlC_M_adds_138 (i := 22) rfl) ?_
        refine zw_aload_n (pc := 35) (n := 0) (x := 81) rfl (zdal_p dlC_M_adds_138 (i := 23) rfl) ?_
        refine zr_getI (hf_N2_.w hW) (pc := 36) f_M_268 rfl (zdal_p dlC_M_adds_139 (i := 0) rfl) ?_
        refine zw_iconst (pc := 39) (v := Int32.ofInt 1) (by decide) (zdal_p dlC_M_adds_139 (i := 1) rfl) ?_
        refine zr_isub (pc := 40) (zdal_p dlC_M_adds_139 (i := 2) rfl) ?_
        refine zr_imul (pc := 41) (zdal_p dlC_M_adds_139 (i := 3) rfl) ?_
        refine zw_iload_n (pc := 42) (n := 2) (x := Int32.ofInt u1_) rfl (zdal_p dlC_M_adds_139 (i := 4) rfl) ?_
        refine zr_iadd (pc := 43) (zdal_p dlC_M_adds_139 (i := 5) rfl) ?_
        refine zr_laldn (pc := 44) (zh_95 (hf_N2_.w hW)).2 (by decide) (by (exact zo_120 e38_N2_ i4_ p1_)) (by (exact zo_121 e38_N2_ hF27_ hu1_b i5_ p2_)) (zdal_p dlC_M_adds_139 (i := 6) rfl) (fun v15_ hv15_ hv15_a hv15_b => ?_)
        have hy_ := zrw_at (F := F_) (k := (u1_).toNat) (e := 64 * (ze Mz 81 38 - 1)) (M := Mz) (by (exact zo_73 hFc_ hc_7 hu1_b i4_ i5_)) (by (exact zo_122 p1_)) (hv15_.trans (hai_ _ (by (exact zo_123 e38_N2_ hF27_ hu1_b i5_)))) (by (exact zo_124 e38_N2_ i4_ p1_))
        refine zr_lmul (pc := 45) (zdal_p dlC_M_adds_139 (i := 7) rfl) ?_
        refine zr_ladd (pc := 46) (zdal_p dlC_M_adds_139 (i := 8) rfl) ?_
        refine zk_nmJ (fun v16_ hv16_ hv16_e => ?_)
        obtain ⟨hv16_a, hv16_b⟩ := hv16_
        have hnn_ := hv16_e
        rw [hx_, hy_] at hnn_
        refine zr_last (pc := 47) (zh_95 (hf_N2_.w hW)).2 (by decide) (by decide) (by (exact zo_116 e38_N2_ i4_ p1_)) (by (exact zo_117 e38_N2_ hF27_ hu1_b i5_ p2_)) (zdal_p dlC_M_adds_139 (i := 9) rfl) (fun N17_ hN17_ hsN17_ => ?_)
        have hf_N17_ : zFr [38, 39] [95] Mz N17_ := hf_N2_.tr hsN17_ (by decide) (by decide)
        have hb0_N17_ : zFr [] [95] Mz N17_ := hs3_.tr hsN17_ (by decide) (by decide)
        have e26_N17_ : ze N17_ 81 26 = ze N2_ 81 26 := hsN17_.e (by decide)
        have e38_N17_ : ze N17_ 81 38 = ze N2_ 81 38 := hsN17_.e (by decide)
        have e39_N17_ : ze N17_ 81 39 = ze N2_ 81 39 := hsN17_.e (by decide)
        have hai2_ : ∀ x : Nat, (x : Int) < (64 * (ze Mz 81 38 - 2)) ∨ (64 * (ze Mz 81 38 - 2)) + (u1_ + 1) ≤ x → zg N17_ 95 x = zg Mz 95 x := fun x hx => by rw [zs_othJ hN17_ (by (exact zo_125 e38_N2_ i4_ p1_ hx))]; exact hai_ x (by (exact zo_126 hF27_ hu1_b i5_ hx))
        have hav2_ : ∀ k : Nat, (k : Int) < u1_ + 1 → Int64.ofInt (zg N17_ 95 ((64 * (ze Mz 81 38 - 2)).toNat + k)) = Int64.ofInt ((zrw F_ Mz 95 (64 * (ze Mz 81 38 - 2))) k + a0_ * (zrw F_ Mz 95 (64 * (ze Mz 81 38 - 1))) k) := fun k hk => by by_cases g_ : (k : Int) = u1_; rw [show (64 * (ze Mz 81 38 - 2)).toNat + k = (64 * (ze N2_ 81 38 - 2) + u1_).toNat by (exact zo_127 e38_N2_ g_ hF27_ hk hu1_b i4_ i5_ p1_), zs_getJ hN17_ ⟨by (exact hv16_a), by (exact hv16_b)⟩, show k = (u1_).toNat by (exact zo_128 g_ hF27_ hk hu1_b i4_ i5_), hnn_, Int.mul_comm]; rw [zs_othJ hN17_ (by (exact zo_129 e38_N2_ hk p1_ g_))]; exact hav_ k (by (exact zo_130 hk g_))
        refine zr_iinc (pc := 48) (i := 2) (a := u1_) (n := 1) (L2 := [some (.ref 81), some (.int (Int32.ofInt a0_)), some (.int (Int32.ofInt (u1_ + 1)))]) rfl (by decide) rfl (zdal_p dlC_M_adds_139 (i := 10) rfl) ?_
        refine zw_goto (pc := 51) (tgt := 2) (by decide) (zdal_p dlC_M_adds_139 (i := 11) rfl) ?_
        exact ih_2 (u1_ + 1) (by (exact zo_74 i4_)) (by (exact zo_75 hF27_ hu1_b i5_)) N17_ hb0_N17_ (show 0 ≤ (u1_ + 1) by first | with_reducible assumption | (exact zo_76 i4_) | assumption) (show (u1_ + 1) ≤ F_ by first | with_reducible assumption | (exact zo_77 hFc_ hc_7 hu1_b i5_) | assumption) (show (∀ x : Nat, (x : Int) < (64 * (ze Mz 81 38 - 2)) ∨ (64 * (ze Mz 81 38 - 2)) + (u1_ + 1) ≤ x → zg N17_ 95 x = zg Mz 95 x) by exact hai2_) (show (∀ k : Nat, (k : Int) < (u1_ + 1) → Int64.ofInt (zg N17_ 95 ((64 * (ze Mz 81 38 - 2)).toNat + k)) = Int64.ofInt ((zrw F_ Mz 95 (64 * (ze Mz 81 38 - 2))) k + a0_ * (zrw F_ Mz 95 (64 * (ze Mz 81 38 - 1))) k)) by exact hav2_) (by (exact zo_78 hFc_ hc_7 hlt_2 hu1_b i5_))
  exact lp_2 _ 0 (by decide) (by decide) Mz zFr.rf (show 0 ≤ (0 : Int) by first | with_reducible assumption | (decide) | assumption) (show (0 : Int) ≤ F_ by first | with_reducible assumption | (exact zo_85) | assumption) (show (∀ x : Nat, (x : Int) < (64 * (ze Mz 81 38 - 2)) ∨ (64 * (ze Mz 81 38 - 2)) + (0 : Int) ≤ x → zg Mz 95 x = zg Mz 95 x) by exact fun x _ => rfl) (show (∀ k : Nat, (k : Int) < (0 : Int) → Int64.ofInt (zg Mz 95 ((64 * (ze Mz 81 38 - 2)).toNat + k)) = Int64.ofInt ((zrw F_ Mz 95 (64 * (ze Mz 81 38 - 2))) k + a0_ * (zrw F_ Mz 95 (64 * (ze Mz 81 38 - 1))) k)) by exact fun k hk => absurd hk (by (exact zo_131))) (Nat.lt_succ_self _)
set_option maxHeartbeats 4000000 in
theorem c_M_powersF (l : Launch) (Mz : zMem) (hW : zMt Mz) (a0_ : Int) (ha0_a : -2147483648 ≤ a0_) (ha0_b : a0_ < 2147483648) (F_ : Nat) (K_ : Nat → Nat → Int) (hA_ : zTA F_ K_) (p0_ : zRmk F_ K_ Mz) (p1_ : 1 ≤ ze Mz 81 38) (p2_ : ze Mz 81 38 ≤ 40) (p3_ : zFtR F_ K_ Mz) (p4_ : 0 ≤ a0_) (p5_ : a0_ ≤ 9) : zC l m_M_powers 0 0 [.ref 81, .int (Int32.ofInt a0_)] Mz (zpV [39] [95, 96, 97] Mz (fun N => zPwE F_ K_ (zrw F_ Mz 95 (64 * (ze Mz 81 38 - 1))) (64 * (ze Mz 81 38 - 1)) Mz N a0_)) := by
  refine zC_of (L0 := [some (.ref 81), some (.int (Int32.ofInt a0_)), none]) md_M_powers (Nat.le_of_ble_eq_true rfl) rfl ?_ zQ0
  have hf : zFr [39] [95, 96, 97] Mz Mz := zFr.rf
  have r_26 := ze_r Mz 81 26
  have r_38 := ze_r Mz 81 38
  have r_39 := ze_r Mz 81 39
  obtain ⟨⟨hF1_, hF27_⟩, hAr_⟩ := id hA_
  obtain ⟨hFc_, hKt_⟩ := id p0_
  have hff_ : ze Mz 81 39 = 0 → zfit F_ K_ (zrw F_ Mz 95 (64 * (ze Mz 81 38 - 1))) := fun h_ => p3_ h_ _ (by (exact zo_132 p1_)) (by (exact zo_89))
  refine zw_aload_n (pc := 0) (n := 0) (x := 81) rfl (zdal_p dlC_M_powers_118 (i := 0) rfl) ?_
  refine zw_aload_n (pc := 1) (n := 0) (x := 81) rfl (zdal_p dlC_M_powers_118 (i := 1) rfl) ?_
  refine zr_getI0 hf hW (pc := 2) (by decide) f_M_268 rfl (zdal_p dlC_M_powers_118 (i := 2) rfl) ?_
  refine zw_iconst (pc := 5) (v := Int32.ofInt 1) (by decide) (zdal_p dlC_M_powers_118 (i := 3) rfl) ?_
  refine zr_isub (pc := 6) (zdal_p dlC_M_powers_118 (i := 4) rfl) ?_
  refine zw_aload_n (pc := 7) (n := 0) (x := 81) rfl (zdal_p dlC_M_powers_118 (i := 5) rfl) ?_
  refine zr_getF (r := 97) (hf.w hW) (pc := 8) f_M_63 rfl (zh_97 (hf.w hW)).1 (zdal_p dlC_M_powers_118 (i := 6) rfl) ?_
  refine zr_callV (hf.w hW) hf.x (pc := 11) [.int (Int32.ofInt ((ze Mz 81 38) - 1)), .ref 97] [] l_M_282 (c_M_marksOf_97F l Mz (hf.w hW) ((ze Mz 81 38) - 1) (by (exact zo_63 p1_)) (by (exact zo_133 p2_)) F_ K_ hA_ p0_ (show 0 ≤ ((ze Mz 81 38) - 1) by first | with_reducible assumption | (exact zo_132 p1_) | assumption) (show ((ze Mz 81 38) - 1) ≤ 39 by first | with_reducible assumption | (exact zo_134 p2_) | assumption)) rfl rfl rfl (by decide) (Nat.le_of_ble_eq_true rfl) (zdal_p dlC_M_powers_118 (i := 7) rfl) ?_
  rintro _ N1_ ⟨rfl, hsN1_, hp0_N1_⟩
  replace hp0_N1_ : (∀ k : Nat, k < F_ → Int64.ofInt (zg N1_ 97 k) = Int64.ofInt (zmq F_ K_ (zrw F_ Mz 95 (64 * ((ze Mz 81 38) - 1))) k)) := hp0_N1_
  have hf_N1_ : zFr [39] [95, 96, 97] Mz N1_ := hf.tr hsN1_ (by decide) (by decide)
  have e26_N1_ : ze N1_ 81 26 = ze Mz 81 26 := hsN1_.e (by decide)
  have e38_N1_ : ze N1_ 81 38 = ze Mz 81 38 := hsN1_.e (by decide)
  have e39_N1_ : ze N1_ 81 39 = ze Mz 81 39 := hsN1_.e (by decide)
  have qzr95_N1_ : zr95 N1_ = zr95 Mz := zr95_f hsN1_ (by decide)
  have c3_ : zRmk F_ K_ N1_ := zRmk.fr hsN1_ p0_ (by decide) (by decide)
  show zW l m_M_powers (zn Mz + 0, zw Mz + 0) N1_ 14 [some (.ref 81), some (.int (Int32.ofInt a0_)), none] [] _
  have hm1_ := hp0_N1_
  have hN1_ : zr95 N1_ = zr95 Mz := qzr95_N1_
  refine zw_iconst (pc := 14) (v := Int32.ofInt 0) (by decide) (zdal_p dlC_M_powers_118 (i := 8) rfl) ?_
  refine zw_istore_n (pc := 15) (i := 2) (L2 := [some (.ref 81), some (.int (Int32.ofInt a0_)), some (.int (Int32.ofInt 0))]) rfl (by decide) rfl (zdal_p dlC_M_powers_118 (i := 9) rfl) ?_
  have lp_16 : ∀ (n : Nat) (u4_ : Int) (hu4_a : -2147483648 ≤ u4_) (hu4_b : u4_ < 2147483648) (N5_ : zMem) (hs6_ : zFr [] [96] N1_ N5_) (i7_ : 0 ≤ u4_) (i8_ : u4_ ≤ F_) (i9_ : (∀ j : Nat, (j : Int) < u4_ → zg N5_ 96 j = 1)), (F_ - u4_).toNat < n → zW l m_M_powers (zn Mz + 0, zw Mz + 0) N5_ 16 [some (.ref 81), some (.int (Int32.ofInt a0_)), some (.int (Int32.ofInt u4_))] [] (zpV [39] [95, 96, 97] Mz (fun N => zPwE F_ K_ (zrw F_ Mz 95 (64 * (ze Mz 81 38 - 1))) (64 * (ze Mz 81 38 - 1)) Mz N a0_)) := by
    intro n
    induction n with
    | zero =>
      intro u4_ hu4_a hu4_b N5_ hs6_ i7_ i8_ i9_ h0
      exact absurd h0 (Nat.not_lt_zero _)
    | succ n ih_16 =>
      intro u4_ hu4_a hu4_b N5_ hs6_ i7_ i8_ i9_ hlt_16
      have hf_N5_ : zFr [39] [95, 96, 97] Mz N5_ := hf_N1_.tr hs6_ (by decide) (by decide)
      have e26_N5_ : ze N5_ 81 26 = ze N1_ 81 26 := hs6_.e (by decide)
      have e38_N5_ : ze N5_ 81 38 = ze N1_ 81 38 := hs6_.e (by decide)
      have e39_N5_ : ze N5_ 81 39 = ze N1_ 81 39 := hs6_.e (by decide)
      have qzr95_N5_ : zr95 N5_ = zr95 N1_ := zr95_f hs6_ (by decide)
      have qzr97_N5_ : zr97 N5_ = zr97 N1_ := zr97_f hs6_ (by decide)
      have c10_ : zRmk F_ K_ N5_ := zRmk.fr hs6_ c3_ (by decide) (by decide)
      have hone_ := (show (∀ j : Nat, (j : Int) < u4_ → zg N5_ 96 j = 1) by first | with_reducible assumption | assumption)
      refine zw_iload_n (pc := 16) (n := 2) (x := Int32.ofInt u4_) rfl (zdal_p dlC_M_powers_118 (i := 10) rfl) ?_
      refine zw_aload_n (pc := 17) (n := 0) (x := 81) rfl (zdal_p dlC_M_powers_118 (i := 11) rfl) ?_
      refine zr_getI0 hf_N5_ hW (pc := 18) (by decide) f_M_235 rfl (zdal_p dlC_M_powers_118 (i := 12) rfl) ?_
      refine zr_icmp_ge (pc := 21) (tgt := 37) ⟨hu4_a, hu4_b⟩ ⟨(ze_r Mz 81 26).1, (ze_r Mz 81 26).2⟩ (by decide) (zdal_p dlC_M_powers_118 (i := 13) rfl) (fun hc_21 => ?_) (fun hc_21 => ?_)
      · skip
        have hpw0_ : zPwR F_ K_ (zrw F_ Mz 95 (64 * (ze Mz 81 38 - 1))) (64 * (ze Mz 81 38 - 1)) Mz N5_ 0 := zPwR_0 hA_ (by (exact zo_53 e39_N1_ e39_N5_)) (fun y_ => by first | exact congrFun (qzr95_N5_.trans hN1_) y_ | exact congrFun hN1_ y_) hff_ (fun j_ hj_ => by first | exact (congrArg Int64.ofInt (congrFun qzr97_N5_ j_)).trans (hm1_ j_ hj_) | exact hm1_ j_ hj_) (fun j_ hj_ => hone_ j_ (by (exact zo_110 hF27_ hFc_ hc_21 hj_ i7_)))
        refine zw_iconst (pc := 37) (v := Int32.ofInt 0) (by decide) (zdal_p dlC_M_powers_118 (i := 21) rfl) ?_
        refine zw_istore_n (pc := 38) (i := 2) (L2 := [some (.ref 81), some (.int (Int32.ofInt a0_)), some (.int (Int32.ofInt 0))]) rfl (by decide) rfl (zdal_p dlC_M_powers_118 (i := 22) rfl) ?_
        have lp_39 : ∀ (n : Nat) (u11_ : Int) (hu11_a : -2147483648 ≤ u11_) (hu11_b : u11_ < 2147483648) (N12_ : zMem) (hs13_ : zFr [39] [95, 96] N5_ N12_) (i14_ : 0 ≤ u11_) (i15_ : u11_ ≤ a0_) (i16_ : zPwR F_ K_ (zrw F_ Mz 95 (64 * (ze Mz 81 38 - 1))) (64 * (ze Mz 81 38 - 1)) Mz N12_ u11_), (a0_ - u11_).toNat < n → zW l m_M_powers (zn Mz + 0, zw Mz + 0) N12_ 39 [some (.ref 81), some (.int (Int32.ofInt a0_)), some (.int (Int32.ofInt u11_))] [] (zpV [39] [95, 96, 97] Mz (fun N => zPwE F_ K_ (zrw F_ Mz 95 (64 * (ze Mz 81 38 - 1))) (64 * (ze Mz 81 38 - 1)) Mz N a0_)) := by
          intro n
          induction n with
          | zero =>
            intro u11_ hu11_a hu11_b N12_ hs13_ i14_ i15_ i16_ h0
            exact absurd h0 (Nat.not_lt_zero _)
          | succ n ih_39 =>
            intro u11_ hu11_a hu11_b N12_ hs13_ i14_ i15_ i16_ hlt_39
            have hf_N12_ : zFr [39] [95, 96, 97] Mz N12_ := hf_N5_.tr hs13_ (by decide) (by decide)
            have e26_N12_ : ze N12_ 81 26 = ze N5_ 81 26 := hs13_.e (by decide)
            have e38_N12_ : ze N12_ 81 38 = ze N5_ 81 38 := hs13_.e (by decide)
            have r39_N12_ := ze_r N12_ 81 39
            have c17_ : zRmk F_ K_ N12_ := zRmk.fr hs13_ c10_ (by decide) (by decide)
            have hpw_ := (show zPwR F_ K_ (zrw F_ Mz 95 (64 * (ze Mz 81 38 - 1))) (64 * (ze Mz 81 38 - 1)) Mz N12_ u11_ by first | with_reducible assumption | assumption)
            refine zw_iload_n (pc := 39) (n := 2) (x := Int32.ofInt u11_) rfl (zdal_p dlC_M_powers_118 (i := 23) rfl) ?_
            refine zw_iload_n (pc := 40) (n := 1) (x := Int32.ofInt a0_) rfl (zdal_p dlC_M_powers_119 (i := 0) rfl) ?_
            refine zr_icmp_ge (pc := 41) (tgt := 79) ⟨hu11_a, hu11_b⟩ ⟨ha0_a, ha0_b⟩ (by decide) (zdal_p dlC_M_powers_119 (i := 1) rfl) (fun hc_41 => ?_) (fun hc_41 => ?_)
            · skip
              have hpe_ := hpw_
              refine zw_iload_n (pc := 79) (n := 1) (x := Int32.ofInt a0_) rfl (zdal_p dlC_M_powers_119 (i := 20) rfl) ?_
              refine zr_if_ne (pc := 80) (tgt := 104) ⟨ha0_a, ha0_b⟩ (by decide) (zdal_p dlC_M_powers_119 (i := 21) rfl) (fun hc_80 => ?_) (fun hc_80 => ?_)
              · skip
                exact zr_vret (pc := 104) rfl hf_N12_ (show zPwE F_ K_ (zrw F_ Mz 95 (64 * (ze Mz 81 38 - 1))) (64 * (ze Mz 81 38 - 1)) Mz N12_ a0_ by first | exact zPwE_1 (by rw [show (a0_) = u11_ by (exact zo_135 hc_41 i15_)]; exact hpw_) (by (exact zo_136 p4_ hc_80)) | (have hz_ : u11_ = 0 := (by omega); rw [hz_] at hpw_; rw [show (a0_) = (0 : Int) by omega]; exact zPwE_0 hA_ (by omega) hpw_ hnum_ (by omega))) (zdal_p dlC_M_powers_120 (i := 10) rfl)
              · skip
                refine zw_aload_n (pc := 83) (n := 0) (x := 81) rfl (zdal_p dlC_M_powers_119 (i := 22) rfl) ?_
                refine zw_aload_n (pc := 84) (n := 0) (x := 81) rfl (zdal_p dlC_M_powers_119 (i := 23) rfl) ?_
                refine zr_getF (r := 96) (hf_N12_.w hW) (pc := 85) f_M_60 rfl (zh_96 (hf_N12_.w hW)).1 (zdal_p dlC_M_powers_120 (i := 0) rfl) ?_
                refine zw_aload_n (pc := 88) (n := 0) (x := 81) rfl (zdal_p dlC_M_powers_120 (i := 1) rfl) ?_
                refine zr_getF (r := 95) (hf_N12_.w hW) (pc := 89) f_M_56 rfl (zh_95 (hf_N12_.w hW)).1 (zdal_p dlC_M_powers_120 (i := 2) rfl) ?_
                refine zw_bipush (pc := 92) (v := Int32.ofInt 64) (by decide) (zdal_p dlC_M_powers_120 (i := 3) rfl) ?_
                refine zw_aload_n (pc := 94) (n := 0) (x := 81) rfl (zdal_p dlC_M_powers_120 (i := 4) rfl) ?_
                refine zr_getI0 hf_N12_ hW (pc := 95) (by decide) f_M_268 rfl (zdal_p dlC_M_powers_120 (i := 5) rfl) ?_
                refine zw_iconst (pc := 98) (v := Int32.ofInt 1) (by decide) (zdal_p dlC_M_powers_120 (i := 6) rfl) ?_
                refine zr_isub (pc := 99) (zdal_p dlC_M_powers_120 (i := 7) rfl) ?_
                refine zr_imul (pc := 100) (zdal_p dlC_M_powers_120 (i := 8) rfl) ?_
                refine zr_callV (hf_N12_.w hW) hf_N12_.x (pc := 101) [.ref 96, .ref 95, .int (Int32.ofInt (64 * ((ze Mz 81 38) - 1)))] [] l_M_289 (c_M_numbers_96_95F l N12_ (hf_N12_.w hW) (64 * ((ze Mz 81 38) - 1)) (by (exact zo_137 p1_)) (by (exact zo_138 p2_)) F_ K_ hA_ c17_ (show 0 ≤ (64 * ((ze Mz 81 38) - 1)) by first | with_reducible assumption | (exact zo_139 p1_) | assumption) (show (64 * ((ze Mz 81 38) - 1)) ≤ 2496 by first | with_reducible assumption | (exact zo_140 p2_) | assumption)) rfl rfl rfl (by decide) (Nat.le_of_ble_eq_true rfl) (zdal_p dlC_M_powers_120 (i := 9) rfl) ?_
                rintro _ N18_ ⟨rfl, hsN18_, hp0_N18_⟩
                replace hp0_N18_ : zNumR F_ K_ N12_ N18_ (64 * ((ze Mz 81 38) - 1)) := hp0_N18_
                have hf_N18_ : zFr [39] [95, 96, 97] Mz N18_ := hf_N12_.tr hsN18_ (by decide) (by decide)
                have e26_N18_ : ze N18_ 81 26 = ze N12_ 81 26 := hsN18_.e (by decide)
                have e38_N18_ : ze N18_ 81 38 = ze N12_ 81 38 := hsN18_.e (by decide)
                have e39_N18_ : ze N18_ 81 39 = ze N12_ 81 39 := hsN18_.e (by decide)
                show zW l m_M_powers (zn Mz + 0, zw Mz + 0) N18_ 104 [some (.ref 81), some (.int (Int32.ofInt a0_)), some (.int (Int32.ofInt u11_))] [] _
                have hnum_ := hp0_N18_
                first | rw [show 64 * (ze N12_ 81 38 - 1) = (64 * (ze Mz 81 38 - 1)) by omega] at hnum_ | skip
                exact zr_vret (pc := 104) rfl hf_N18_ (show zPwE F_ K_ (zrw F_ Mz 95 (64 * (ze Mz 81 38 - 1))) (64 * (ze Mz 81 38 - 1)) Mz N18_ a0_ by first | exact zPwE_1 (by rw [show (a0_) = u11_ by (exact zo_135 hc_41 i15_)]; exact hpw_) (by omega) | (have hz_ : u11_ = 0 := (by (exact zo_141 hc_80 i14_ i15_)); rw [hz_] at hpw_; rw [show (a0_) = (0 : Int) by (exact hc_80)]; exact zPwE_0 hA_ (by (exact zo_139 p1_)) hpw_ hnum_ (by (exact e39_N18_)))) (zdal_p dlC_M_powers_120 (i := 10) rfl)
            · skip
              have hin_ : ze N12_ 81 39 = 0 → ∀ k : Nat, k < F_ → zIn (zg N12_ 96 k) ∧ zIn (zg N12_ 97 k) := fun h_ => zPwR_b hpw_ hff_ h_ (fun q_ => by (exact zo_142 h_ q_ r_39.1 r_39.2))
              refine zw_aload_n (pc := 44) (n := 0) (x := 81) rfl (zdal_p dlC_M_powers_119 (i := 2) rfl) ?_
              refine zr_callV (hf_N12_.w hW) hf_N12_.x (pc := 45) [] [] l_M_286 (c_M_multipliesF l N12_ (hf_N12_.w hW) F_ K_ hA_ c17_ (show (ze N12_ 81 39 = 0 → ∀ k : Nat, k < F_ → zIn (zg N12_ 96 k) ∧ zIn (zg N12_ 97 k)) by exact hin_)) rfl rfl rfl (by decide) (Nat.le_of_ble_eq_true rfl) (zdal_p dlC_M_powers_119 (i := 3) rfl) ?_
              rintro _ N21_ ⟨rfl, hsN21_, hp0_N21_⟩
              replace hp0_N21_ : zMuI F_ N12_ N21_ F_ := hp0_N21_
              have hf_N21_ : zFr [39] [95, 96, 97] Mz N21_ := hf_N12_.tr hsN21_ (by decide) (by decide)
              have hb0_N21_ : zFr [39] [95, 96] N5_ N21_ := hs13_.tr hsN21_ (by decide) (by decide)
              have e26_N21_ : ze N21_ 81 26 = ze N12_ 81 26 := hsN21_.e (by decide)
              have e38_N21_ : ze N21_ 81 38 = ze N12_ 81 38 := hsN21_.e (by decide)
              have r39_N21_ := ze_r N21_ 81 39
              have qzr95_N21_ : zr95 N21_ = zr95 N12_ := zr95_f hsN21_ (by decide)
              have qzr97_N21_ : zr97 N21_ = zr97 N12_ := zr97_f hsN21_ (by decide)
              have c23_ : zRmk F_ K_ N21_ := zRmk.fr hsN21_ c17_ (by decide) (by decide)
              show zW l m_M_powers (zn Mz + 0, zw Mz + 0) N21_ 48 [some (.ref 81), some (.int (Int32.ofInt a0_)), some (.int (Int32.ofInt u11_))] [] _
              have hmu_ := hp0_N21_
              refine zw_aload_n (pc := 48) (n := 0) (x := 81) rfl (zdal_p dlC_M_powers_119 (i := 4) rfl) ?_
              refine zw_aload_n (pc := 49) (n := 0) (x := 81) rfl (zdal_p dlC_M_powers_119 (i := 5) rfl) ?_
              refine zr_getF (r := 96) (hf_N21_.w hW) (pc := 50) f_M_60 rfl (zh_96 (hf_N21_.w hW)).1 (zdal_p dlC_M_powers_119 (i := 6) rfl) ?_
              refine zw_aload_n (pc := 53) (n := 0) (x := 81) rfl (zdal_p dlC_M_powers_119 (i := 7) rfl) ?_
              refine zr_getF (r := 95) (hf_N21_.w hW) (pc := 54) f_M_56 rfl (zh_95 (hf_N21_.w hW)).1 (zdal_p dlC_M_powers_119 (i := 8) rfl) ?_
              refine zw_bipush (pc := 57) (v := Int32.ofInt 64) (by decide) (zdal_p dlC_M_powers_119 (i := 9) rfl) ?_
              refine zw_aload_n (pc := 59) (n := 0) (x := 81) rfl (zdal_p dlC_M_powers_119 (i := 10) rfl) ?_
              refine zr_getI0 hf_N21_ hW (pc := 60) (by decide) f_M_268 rfl (zdal_p dlC_M_powers_119 (i := 11) rfl) ?_
              refine zw_iconst (pc := 63) (v := Int32.ofInt 1) (by decide) (zdal_p dlC_M_powers_119 (i := 12) rfl) ?_
              refine zr_isub (pc := 64) (zdal_p dlC_M_powers_119 (i := 13) rfl) ?_
              refine zr_imul (pc := 65) (zdal_p dlC_M_powers_119 (i := 14) rfl) ?_
              refine zr_callV (hf_N21_.w hW) hf_N21_.x (pc := 66) [.ref 96, .ref 95, .int (Int32.ofInt (64 * ((ze Mz 81 38) - 1)))] [] l_M_289 (c_M_numbers_96_95F l N21_ (hf_N21_.w hW) (64 * ((ze Mz 81 38) - 1)) (by (exact zo_137 p1_)) (by (exact zo_138 p2_)) F_ K_ hA_ c23_ (show 0 ≤ (64 * ((ze Mz 81 38) - 1)) by first | with_reducible assumption | (exact zo_139 p1_) | assumption) (show (64 * ((ze Mz 81 38) - 1)) ≤ 2496 by first | with_reducible assumption | (exact zo_140 p2_) | assumption)) rfl rfl rfl (by decide) (Nat.le_of_ble_eq_true rfl) (zdal_p dlC_M_powers_119 (i := 15) rfl) ?_
              rintro _ N24_ ⟨rfl, hsN24_, hp0_N24_⟩
              replace hp0_N24_ : zNumR F_ K_ N21_ N24_ (64 * ((ze Mz 81 38) - 1)) := hp0_N24_
              have hf_N24_ : zFr [39] [95, 96, 97] Mz N24_ := hf_N21_.tr hsN24_ (by decide) (by decide)
              have hb0_N24_ : zFr [39] [95, 96] N5_ N24_ := hb0_N21_.tr hsN24_ (by decide) (by decide)
              have e26_N24_ : ze N24_ 81 26 = ze N21_ 81 26 := hsN24_.e (by decide)
              have e38_N24_ : ze N24_ 81 38 = ze N21_ 81 38 := hsN24_.e (by decide)
              have e39_N24_ : ze N24_ 81 39 = ze N21_ 81 39 := hsN24_.e (by decide)
              have qzr96_N24_ : zr96 N24_ = zr96 N21_ := zr96_f hsN24_ (by decide)
              have qzr97_N24_ : zr97 N24_ = zr97 N21_ := zr97_f hsN24_ (by decide)
              have c26_ : zRmk F_ K_ N24_ := zRmk.fr hsN24_ c23_ (by decide) (by decide)
              show zW l m_M_powers (zn Mz + 0, zw Mz + 0) N24_ 69 [some (.ref 81), some (.int (Int32.ofInt a0_)), some (.int (Int32.ofInt u11_))] [] _
              have hnum_ := hp0_N24_
              first | rw [show 64 * (ze N21_ 81 38 - 1) = (64 * (ze Mz 81 38 - 1)) by omega] at hnum_ | skip
              refine zw_aload_n (pc := 69) (n := 0) (x := 81) rfl (zdal_p dlC_M_powers_119 (i := 16) rfl) ?_
              refine zr_callV (hf_N24_.w hW) hf_N24_.x (pc := 70) [] [] l_M_279 (c_M_looksF l N24_ (hf_N24_.w hW) F_ K_ hA_ c26_ (show 1 ≤ ze N24_ 81 38 by first | with_reducible assumption | (exact zo_143 e38_N12_ e38_N1_ e38_N21_ e38_N24_ e38_N5_ p1_) | assumption) (show ze N24_ 81 38 ≤ 40 by first | with_reducible assumption | (exact zo_144 e38_N12_ e38_N1_ e38_N21_ e38_N24_ e38_N5_ p2_) | assumption)) rfl rfl rfl (by decide) (Nat.le_of_ble_eq_true rfl) (zdal_p dlC_M_powers_119 (i := 17) rfl) ?_
              rintro _ N27_ ⟨rfl, hsN27_, hp0_N27_⟩
              replace hp0_N27_ : zLkd F_ K_ (64 * (ze N24_ 81 38 - 1)) N24_ N27_ := hp0_N27_
              have hf_N27_ : zFr [39] [95, 96, 97] Mz N27_ := hf_N24_.tr hsN27_ (by decide) (by decide)
              have hb0_N27_ : zFr [39] [95, 96] N5_ N27_ := hb0_N24_.tr hsN27_ (by decide) (by decide)
              have e26_N27_ : ze N27_ 81 26 = ze N24_ 81 26 := hsN27_.e (by decide)
              have e38_N27_ : ze N27_ 81 38 = ze N24_ 81 38 := hsN27_.e (by decide)
              have r39_N27_ := ze_r N27_ 81 39
              have qzr96_N27_ : zr96 N27_ = zr96 N24_ := zr96_f hsN27_ (by decide)
              have qzr97_N27_ : zr97 N27_ = zr97 N24_ := zr97_f hsN27_ (by decide)
              show zW l m_M_powers (zn Mz + 0, zw Mz + 0) N27_ 73 [some (.ref 81), some (.int (Int32.ofInt a0_)), some (.int (Int32.ofInt u11_))] [] _
              have hlk_ := hp0_N27_
              first | rw [show 64 * (ze N24_ 81 38 - 1) = (64 * (ze Mz 81 38 - 1)) by (exact zo_145 e38_N12_ e38_N1_ e38_N21_ e38_N24_ e38_N5_)] at hlk_ | skip
              have hps_ := zPwR_s (N1 := N21_) (N2 := N24_) (N3 := N27_) hA_ (by (exact i14_)) (by (exact zo_139 p1_)) hff_ hpw_ hmu_ (fun j_ => congrFun qzr97_N21_ j_) (fun j_ => congrFun qzr95_N21_ j_) hnum_ (by (exact e39_N24_)) (fun j_ => congrFun qzr96_N24_ j_) (fun j_ => congrFun qzr97_N24_ j_) hlk_ (fun j_ => congrFun qzr96_N27_ j_) (fun j_ => congrFun qzr97_N27_ j_)
              refine zr_iinc (pc := 73) (i := 2) (a := u11_) (n := 1) (L2 := [some (.ref 81), some (.int (Int32.ofInt a0_)), some (.int (Int32.ofInt (u11_ + 1)))]) rfl (by decide) rfl (zdal_p dlC_M_powers_119 (i := 18) rfl) ?_
              refine zw_goto (pc := 76) (tgt := 39) (by decide) (zdal_p dlC_M_powers_119 (i := 19) rfl) ?_
              exact ih_39 (u11_ + 1) (by (exact zo_74 i14_)) (by (exact zo_146 hc_41 p5_)) N27_ hb0_N27_ (show 0 ≤ (u11_ + 1) by first | with_reducible assumption | (exact zo_76 i14_) | assumption) (show (u11_ + 1) ≤ a0_ by first | with_reducible assumption | assumption | omega) (show zPwR F_ K_ (zrw F_ Mz 95 (64 * (ze Mz 81 38 - 1))) (64 * (ze Mz 81 38 - 1)) Mz N27_ (u11_ + 1) by exact hps_) (by (exact zo_147 hc_41 hlt_39))
        exact lp_39 _ 0 (by decide) (by decide) N5_ zFr.rf (show 0 ≤ (0 : Int) by first | with_reducible assumption | (decide) | assumption) (show (0 : Int) ≤ a0_ by first | with_reducible assumption | assumption | omega) (show zPwR F_ K_ (zrw F_ Mz 95 (64 * (ze Mz 81 38 - 1))) (64 * (ze Mz 81 38 - 1)) Mz N5_ (0 : Int) by exact hpw0_) (Nat.lt_succ_self _)
      · skip
        refine zw_aload_n (pc := 24) (n := 0) (x := 81) rfl (zdal_p dlC_M_powers_118 (i := 14) rfl) ?_
        refine zr_getF (r := 96) (hf_N5_.w hW) (pc := 25) f_M_60 rfl (zh_96 (hf_N5_.w hW)).1 (zdal_p dlC_M_powers_118 (i := 15) rfl) ?_
        refine zw_iload_n (pc := 28) (n := 2) (x := Int32.ofInt u4_) rfl (zdal_p dlC_M_powers_118 (i := 16) rfl) ?_
        refine zw_lconst (pc := 29) (v := Int64.ofInt 1) (by decide) (zdal_p dlC_M_powers_118 (i := 17) rfl) ?_
        refine zr_last (pc := 30) (zh_96 (hf_N5_.w hW)).2 (by decide) (by decide) (by (exact i7_)) (by (exact zo_70 hF27_ hu4_b i8_)) (zdal_p dlC_M_powers_118 (i := 18) rfl) (fun N30_ hN30_ hsN30_ => ?_)
        have hf_N30_ : zFr [39] [95, 96, 97] Mz N30_ := hf_N5_.tr hsN30_ (by decide) (by decide)
        have hb0_N30_ : zFr [] [96] N1_ N30_ := hs6_.tr hsN30_ (by decide) (by decide)
        have e26_N30_ : ze N30_ 81 26 = ze N5_ 81 26 := hsN30_.e (by decide)
        have e38_N30_ : ze N30_ 81 38 = ze N5_ 81 38 := hsN30_.e (by decide)
        have e39_N30_ : ze N30_ 81 39 = ze N5_ 81 39 := hsN30_.e (by decide)
        have hone2_ : ∀ j : Nat, (j : Int) < u4_ + 1 → zg N30_ 96 j = 1 := fun j hj => by by_cases g_ : (j : Int) = u4_; rw [show j = (u4_).toNat by (exact zo_128 g_ hF27_ hj hu4_b i7_ i8_)]; exact zs_getJ hN30_ ⟨by decide, by decide⟩; rw [zs_othJ hN30_ (by (exact zo_148 i7_ g_))]; exact hone_ j (by (exact zo_130 hj g_))
        refine zr_iinc (pc := 31) (i := 2) (a := u4_) (n := 1) (L2 := [some (.ref 81), some (.int (Int32.ofInt a0_)), some (.int (Int32.ofInt (u4_ + 1)))]) rfl (by decide) rfl (zdal_p dlC_M_powers_118 (i := 19) rfl) ?_
        refine zw_goto (pc := 34) (tgt := 16) (by decide) (zdal_p dlC_M_powers_118 (i := 20) rfl) ?_
        exact ih_16 (u4_ + 1) (by (exact zo_74 i7_)) (by (exact zo_75 hF27_ hu4_b i8_)) N30_ hb0_N30_ (show 0 ≤ (u4_ + 1) by first | with_reducible assumption | (exact zo_76 i7_) | assumption) (show (u4_ + 1) ≤ F_ by first | with_reducible assumption | (exact zo_77 hFc_ hc_21 hu4_b i8_) | assumption) (show (∀ j : Nat, (j : Int) < (u4_ + 1) → zg N30_ 96 j = 1) by exact hone2_) (by (exact zo_78 hFc_ hc_21 hlt_16 hu4_b i8_))
  exact lp_16 _ 0 (by decide) (by decide) N1_ zFr.rf (show 0 ≤ (0 : Int) by first | with_reducible assumption | (decide) | assumption) (show (0 : Int) ≤ F_ by first | with_reducible assumption | (exact zo_85) | assumption) (show (∀ j : Nat, (j : Int) < (0 : Int) → zg N1_ 96 j = 1) by exact fun k hk => absurd hk (by (exact zo_131))) (Nat.lt_succ_self _)
set_option maxHeartbeats 4000000 in
theorem c_M_negatesF (l : Launch) (Mz : zMem) (hW : zMt Mz) (F_ : Nat) (K_ : Nat → Nat → Int) (hA_ : zTA F_ K_) (p0_ : zRmk F_ K_ Mz) (p1_ : 1 ≤ ze Mz 81 38) (p2_ : ze Mz 81 38 ≤ 40) : zC l m_M_negates 0 0 [.ref 81] Mz (zpV [] [95] Mz (fun N => (∀ x : Nat, (x : Int) < (64 * (ze Mz 81 38 - 1)) → zg N 95 x = zg Mz 95 x) ∧ (zfit F_ K_ (zrw F_ Mz 95 (64 * (ze Mz 81 38 - 1))) → zrw F_ N 95 (64 * (ze Mz 81 38 - 1)) = fun k => -((zrw F_ Mz 95 (64 * (ze Mz 81 38 - 1))) k)))) := by
  refine zC_of (L0 := [some (.ref 81), none]) md_M_negates (Nat.le_of_ble_eq_true rfl) rfl ?_ zQ0
  have hf : zFr [] [95] Mz Mz := zFr.rf
  have r_26 := ze_r Mz 81 26
  have r_38 := ze_r Mz 81 38
  obtain ⟨⟨hF1_, hF27_⟩, hAr_⟩ := id hA_
  obtain ⟨hFc_, hKt_⟩ := id p0_
  refine zw_iconst (pc := 0) (v := Int32.ofInt 0) (by decide) (zdal_p dlC_M_negates_129 (i := 0) rfl) ?_
  refine zw_istore_n (pc := 1) (i := 1) (L2 := [some (.ref 81), some (.int (Int32.ofInt 0))]) rfl (by decide) rfl (zdal_p dlC_M_negates_129 (i := 1) rfl) ?_
  have lp_2 : ∀ (n : Nat) (u1_ : Int) (hu1_a : -2147483648 ≤ u1_) (hu1_b : u1_ < 2147483648) (N2_ : zMem) (hs3_ : zFr [] [95] Mz N2_) (i4_ : 0 ≤ u1_) (i5_ : u1_ ≤ F_) (i6_ : (∀ x : Nat, (x : Int) < (64 * (ze Mz 81 38 - 1)) ∨ (64 * (ze Mz 81 38 - 1)) + u1_ ≤ x → zg N2_ 95 x = zg Mz 95 x)) (i7_ : (∀ k : Nat, (k : Int) < u1_ → Int64.ofInt (zg N2_ 95 ((64 * (ze Mz 81 38 - 1)).toNat + k)) = Int64.ofInt (-((zrw F_ Mz 95 (64 * (ze Mz 81 38 - 1))) k)))), (F_ - u1_).toNat < n → zW l m_M_negates (zn Mz + 0, zw Mz + 0) N2_ 2 [some (.ref 81), some (.int (Int32.ofInt u1_))] [] (zpV [] [95] Mz (fun N => (∀ x : Nat, (x : Int) < (64 * (ze Mz 81 38 - 1)) → zg N 95 x = zg Mz 95 x) ∧ (zfit F_ K_ (zrw F_ Mz 95 (64 * (ze Mz 81 38 - 1))) → zrw F_ N 95 (64 * (ze Mz 81 38 - 1)) = fun k => -((zrw F_ Mz 95 (64 * (ze Mz 81 38 - 1))) k)))) := by
    intro n
    induction n with
    | zero =>
      intro u1_ hu1_a hu1_b N2_ hs3_ i4_ i5_ i6_ i7_ h0
      exact absurd h0 (Nat.not_lt_zero _)
    | succ n ih_2 =>
      intro u1_ hu1_a hu1_b N2_ hs3_ i4_ i5_ i6_ i7_ hlt_2
      have hf_N2_ : zFr [] [95] Mz N2_ := hf.tr hs3_ (by decide) (by decide)
      have e26_N2_ : ze N2_ 81 26 = ze Mz 81 26 := hs3_.e (by decide)
      have e38_N2_ : ze N2_ 81 38 = ze Mz 81 38 := hs3_.e (by decide)
      have hai_ := (show (∀ x : Nat, (x : Int) < (64 * (ze Mz 81 38 - 1)) ∨ (64 * (ze Mz 81 38 - 1)) + u1_ ≤ x → zg N2_ 95 x = zg Mz 95 x) by first | with_reducible assumption | assumption)
      have hav_ := (show (∀ k : Nat, (k : Int) < u1_ → Int64.ofInt (zg N2_ 95 ((64 * (ze Mz 81 38 - 1)).toNat + k)) = Int64.ofInt (-((zrw F_ Mz 95 (64 * (ze Mz 81 38 - 1))) k))) by first | with_reducible assumption | assumption)
      refine zw_iload_n (pc := 2) (n := 1) (x := Int32.ofInt u1_) rfl (zdal_p dlC_M_negates_129 (i := 2) rfl) ?_
      refine zw_aload_n (pc := 3) (n := 0) (x := 81) rfl (zdal_p dlC_M_negates_129 (i := 3) rfl) ?_
      refine zr_getI0 hf_N2_ hW (pc := 4) (by decide) f_M_235 rfl (zdal_p dlC_M_negates_129 (i := 4) rfl) ?_
      refine zr_icmp_ge (pc := 7) (tgt := 49) ⟨hu1_a, hu1_b⟩ ⟨(ze_r Mz 81 26).1, (ze_r Mz 81 26).2⟩ (by decide) (zdal_p dlC_M_negates_129 (i := 5) rfl) (fun hc_7 => ?_) (fun hc_7 => ?_)
      · skip
        exact zr_vret (pc := 49) rfl hf_N2_ ⟨(show (∀ x : Nat, (x : Int) < (64 * (ze Mz 81 38 - 1)) → zg N2_ 95 x = zg Mz 95 x) by exact fun x hx => hai_ x (by (exact zo_149 hF27_ hu1_b hx i5_))), (show (zfit F_ K_ (zrw F_ Mz 95 (64 * (ze Mz 81 38 - 1))) → zrw F_ N2_ 95 (64 * (ze Mz 81 38 - 1)) = fun k => -((zrw F_ Mz 95 (64 * (ze Mz 81 38 - 1))) k)) by exact fun hf_ => zTng hf_ (fun k hk => hav_ k (by (exact zo_110 hF27_ hFc_ hc_7 hk i4_))) (fun k hk => zrw_n hk))⟩ (zdal_p dlC_M_negates_130 (i := 7) rfl)
      · skip
        refine zw_aload_n (pc := 10) (n := 0) (x := 81) rfl (zdal_p dlC_M_negates_129 (i := 6) rfl) ?_
        refine zr_getF (r := 95) (hf_N2_.w hW) (pc := 11) f_M_56 rfl (zh_95 (hf_N2_.w hW)).1 (zdal_p dlC_M_negates_129 (i := 7) rfl) ?_
        refine zw_bipush (pc := 14) (v := Int32.ofInt 64) (by decide) (zdal_p dlC_M_negates_129 (i := 8) rfl) ?_
        refine zw_aload_n (pc := 16) (n := 0) (x := 81) rfl (zdal_p dlC_M_negates_129 (i := 9) rfl) ?_
        refine zr_getI0 hf_N2_ hW (pc := 17) (by decide) f_M_268 rfl (zdal_p dlC_M_negates_129 (i := 10) rfl) ?_
        refine zw_iconst (pc := 20) (v := Int32.ofInt 1) (by decide) (zdal_p dlC_M_negates_129 (i := 11) rfl) ?_
        refine zr_isub (pc := 21) (zdal_p dlC_M_negates_129 (i := 12) rfl) ?_
        refine zr_imul (pc := 22) (zdal_p dlC_M_negates_129 (i := 13) rfl) ?_
        refine zw_iload_n (pc := 23) (n := 1) (x := Int32.ofInt u1_) rfl (zdal_p dlC_M_negates_129 (i := 14) rfl) ?_
        refine zr_iadd (pc := 24) (zdal_p dlC_M_negates_129 (i := 15) rfl) ?_
        refine zw_aload_n (pc := 25) (n := 0) (x := 81) rfl (zdal_p dlC_M_negates_129 (i := 16) rfl) ?_
        refine zr_getF (r := 95) (hf_N2_.w hW) (pc := 26) f_M_56 rfl (zh_95 (hf_N2_.w hW)).1 (zdal_p dlC_M_negates_129 (i := 17) rfl) ?_
        refine zw_bipush (pc := 29) (v := Int32.ofInt 64) (by decide) (zdal_p dlC_M_negates_129 (i := 18) rfl) ?_
        refine zw_aload_n (pc := 31) (n := 0) (x := 81) rfl (zdal_p dlC_M_negates_129 (i := 19) rfl) ?_
        refine zr_getI0 hf_N2_ hW (pc := 32) (by decide) f_M_268 rfl (zdal_p dlC_M_negates_129 (i := 20) rfl) ?_
        refine zw_iconst (pc := 35) (v := Int32.ofInt 1) (by decide) (zdal_p dlC_M_negates_129 (i := 21) rfl) ?_
        refine zr_isub (pc := 36) (zdal_p dlC_M_negates_129 (i := 22) rfl) ?_
        refine zr_imul (pc := 37) (zdal_p dlC_M_negates_129 (i := 23) rfl) ?_
        refine zw_iload_n (pc := 38) (n := 1) (x := Int32.ofInt u1_) rfl (zdal_p dlC_M_negates_130 (i := 0) rfl) ?_
        refine zr_iadd (pc := 39) (zdal_p dlC_M_negates_130 (i := 1) rfl) ?_
        refine zr_laldn (pc := 40) (zh_95 (hf_N2_.w hW)).2 (by decide) (by (exact zo_150 i4_ p1_)) (by (exact zo_151 hF27_ hu1_b i5_ p2_)) (zdal_p dlC_M_negates_130 (i := 2) rfl) (fun v9_ hv9_ hv9_a hv9_b => ?_)
        have hx_ := zrw_at (F := F_) (k := (u1_).toNat) (e := (64 * (ze Mz 81 38 - 1))) (M := Mz) (by (exact zo_73 hFc_ hc_7 hu1_b i4_ i5_)) (by (exact zo_139 p1_)) (hv9_.trans (hai_ _ (by (exact zo_152)))) (by (exact zo_153 i4_ p1_))
        refine zr_lneg (pc := 41) (zdal_p dlC_M_negates_130 (i := 3) rfl) ?_
        refine zk_nmJ (fun v10_ hv10_ hv10_e => ?_)
        obtain ⟨hv10_a, hv10_b⟩ := hv10_
        have hnn_ := hv10_e
        rw [hx_] at hnn_
        refine zr_last (pc := 42) (zh_95 (hf_N2_.w hW)).2 (by decide) (by decide) (by (exact zo_150 i4_ p1_)) (by (exact zo_151 hF27_ hu1_b i5_ p2_)) (zdal_p dlC_M_negates_130 (i := 4) rfl) (fun N11_ hN11_ hsN11_ => ?_)
        have hf_N11_ : zFr [] [95] Mz N11_ := hf_N2_.tr hsN11_ (by decide) (by decide)
        have hb0_N11_ : zFr [] [95] Mz N11_ := hs3_.tr hsN11_ (by decide) (by decide)
        have e26_N11_ : ze N11_ 81 26 = ze N2_ 81 26 := hsN11_.e (by decide)
        have e38_N11_ : ze N11_ 81 38 = ze N2_ 81 38 := hsN11_.e (by decide)
        have hai2_ : ∀ x : Nat, (x : Int) < (64 * (ze Mz 81 38 - 1)) ∨ (64 * (ze Mz 81 38 - 1)) + (u1_ + 1) ≤ x → zg N11_ 95 x = zg Mz 95 x := fun x hx => by rw [zs_othJ hN11_ (by (exact zo_154 i4_ p1_ hx))]; exact hai_ x (by (exact zo_155 hF27_ hu1_b i5_ hx))
        have hav2_ : ∀ k : Nat, (k : Int) < u1_ + 1 → Int64.ofInt (zg N11_ 95 ((64 * (ze Mz 81 38 - 1)).toNat + k)) = Int64.ofInt (-((zrw F_ Mz 95 (64 * (ze Mz 81 38 - 1))) k)) := fun k hk => by by_cases g_ : (k : Int) = u1_; rw [show (64 * (ze Mz 81 38 - 1)).toNat + k = ((64 * (ze Mz 81 38 - 1)) + u1_).toNat by (exact zo_156 g_ hF27_ hk hu1_b i4_ i5_ p1_), zs_getJ hN11_ ⟨by (exact hv10_a), by (exact hv10_b)⟩, show k = (u1_).toNat by (exact zo_128 g_ hF27_ hk hu1_b i4_ i5_)]; exact hnn_; rw [zs_othJ hN11_ (by (exact zo_157 i4_ p1_ g_))]; exact hav_ k (by (exact zo_130 hk g_))
        refine zr_iinc (pc := 43) (i := 1) (a := u1_) (n := 1) (L2 := [some (.ref 81), some (.int (Int32.ofInt (u1_ + 1)))]) rfl (by decide) rfl (zdal_p dlC_M_negates_130 (i := 5) rfl) ?_
        refine zw_goto (pc := 46) (tgt := 2) (by decide) (zdal_p dlC_M_negates_130 (i := 6) rfl) ?_
        exact ih_2 (u1_ + 1) (by (exact zo_74 i4_)) (by (exact zo_75 hF27_ hu1_b i5_)) N11_ hb0_N11_ (show 0 ≤ (u1_ + 1) by first | with_reducible assumption | (exact zo_76 i4_) | assumption) (show (u1_ + 1) ≤ F_ by first | with_reducible assumption | (exact zo_77 hFc_ hc_7 hu1_b i5_) | assumption) (show (∀ x : Nat, (x : Int) < (64 * (ze Mz 81 38 - 1)) ∨ (64 * (ze Mz 81 38 - 1)) + (u1_ + 1) ≤ x → zg N11_ 95 x = zg Mz 95 x) by exact hai2_) (show (∀ k : Nat, (k : Int) < (u1_ + 1) → Int64.ofInt (zg N11_ 95 ((64 * (ze Mz 81 38 - 1)).toNat + k)) = Int64.ofInt (-((zrw F_ Mz 95 (64 * (ze Mz 81 38 - 1))) k))) by exact hav2_) (by (exact zo_78 hFc_ hc_7 hlt_2 hu1_b i5_))
  exact lp_2 _ 0 (by decide) (by decide) Mz zFr.rf (show 0 ≤ (0 : Int) by first | with_reducible assumption | (decide) | assumption) (show (0 : Int) ≤ F_ by first | with_reducible assumption | (exact zo_85) | assumption) (show (∀ x : Nat, (x : Int) < (64 * (ze Mz 81 38 - 1)) ∨ (64 * (ze Mz 81 38 - 1)) + (0 : Int) ≤ x → zg Mz 95 x = zg Mz 95 x) by exact fun x _ => rfl) (show (∀ k : Nat, (k : Int) < (0 : Int) → Int64.ofInt (zg Mz 95 ((64 * (ze Mz 81 38 - 1)).toNat + k)) = Int64.ofInt (-((zrw F_ Mz 95 (64 * (ze Mz 81 38 - 1))) k))) by exact fun k hk => absurd hk (by (exact zo_131))) (Nat.lt_succ_self _)
def zrS (M : zMem) : List Nat := zlst (fun i => (ze M 100 i).toNat) (ze M 81 41).toNat
def zrV (F : Nat) (M : zMem) : List (Nat → Int) := zlst (fun i => zrw F M 95 (64 * (i : Int))) (ze M 81 38).toNat
def zrG (M : zMem) : Bool := decide (ze M 81 39 ≠ 0)
def zrW (F : Nat) (M : zMem) : List (Nat → Int) := if zrG M = true then [] else zrV F M
def zRst (ph F : Nat) (M : zMem) : zFst := (ph, (ze M 81 4).toNat, zrS M, zrW F M, (ze M 81 43).toNat, zrG M)
def zRI (F : Nat) (K : Nat → Nat → Int) (e : Int) (M : zMem) : Prop := 0 ≤ ze M 81 41 ∧ (∀ i : Nat, (i : Int) < ze M 81 41 → 0 ≤ ze M 100 i ∧ ze M 100 i ≤ 4) ∧ ze M 81 42 = (zdp (zrS M) : Nat) ∧ ze M 81 38 = (zbn (zrS M) : Nat) + e ∧ (ze M 81 39 = 0 ∨ ze M 81 39 = 1) ∧ zwf (zrS M) ∧ zdp (zrS M) ≤ 7 ∧ zFtR F K M
theorem zlst_u {α : Type} {f f' : Nat → α} {c c' : Int} {x : α} (c0 : 0 ≤ c) (hc : c' = c + 1) (h : ∀ i : Nat, (i : Int) < c → f' i = f i) (hx : f' c.toNat = x) : zlst f' c'.toNat = x :: zlst f c.toNat := by
  rw [zlst_p (c := c') (by omega), show (c' - 1).toNat = c.toNat by omega, hx]
  congr 1
  exact zlst_c _ (fun i hi => h i (by omega))
theorem zlst_d {α : Type} {f f' : Nat → α} {c c' : Int} (c1 : 1 ≤ c) (hc : c' = c - 1) (h : ∀ i : Nat, (i : Int) < c' → f' i = f i) : zlst f c.toNat = f (c - 1).toNat :: zlst f' c'.toNat := by
  rw [zlst_p c1, hc]
  congr 1
  exact (zlst_c _ (fun i hi => h i (by omega))).symm
section ZRI
variable {F n : Nat} {K : Nat → Nat → Int} {b : Nat → Int} {nm : List (Int × (Nat → Int))} {Mz Nz Pz Rz : zMem} {S C : List Nat} {e : Int} {u : Nat → Int}
theorem zrS_e (h : ze Nz 81 41 = ze Mz 81 41) (h2 : ∀ i : Nat, ze Nz 100 i = ze Mz 100 i) : zrS Nz = zrS Mz := by
  unfold zrS
  rw [h]
  exact zlst_c _ (fun i _ => by rw [h2])
theorem zrV_e (h : ze Nz 81 38 = ze Mz 81 38) (h2 : ∀ i : Nat, (i : Int) < ze Mz 81 38 → zrw F Nz 95 (64 * (i : Int)) = zrw F Mz 95 (64 * (i : Int))) : zrV F Nz = zrV F Mz := by
  unfold zrV
  rw [h]
  exact zlst_c _ (fun i hi => h2 i (by omega))
theorem zrG_e (h : ze Nz 81 39 = ze Mz 81 39) : zrG Nz = zrG Mz := by
  unfold zrG
  rw [h]
theorem zrW_e (h : ze Nz 81 39 = ze Mz 81 39) (h2 : zrV F Nz = zrV F Mz) : zrW F Nz = zrW F Mz := by
  unfold zrW
  rw [zrG_e h, h2]
theorem zrS_q (hf : zFr S C Mz Nz) (hd : 41 ∉ S ∧ 100 ∉ C) : zrS Nz = zrS Mz := zrS_e (hf.e hd.1) (fun i => hf.ie (by decide) hd.2 i)
theorem zrG_q (hf : zFr S C Mz Nz) (hd : 39 ∉ S) : zrG Nz = zrG Mz := zrG_e (hf.e hd)
theorem zrW_q (hf : zFr S C Mz Nz) (hd : 38 ∉ S ∧ 39 ∉ S ∧ 95 ∉ C) : zrW F Nz = zrW F Mz := zrW_e (hf.e hd.2.1) (zrV_e (hf.e hd.1) (fun i _ => zrw_c (fun k _ => hf.jg (by decide) hd.2.2 _)))
theorem zrw_lo {lo t : Int} (h : ∀ x : Nat, (x : Int) < lo → zg Nz 95 x = zg Mz 95 x) (hF : F ≤ 27) (t0 : 0 ≤ t) (ht : 64 * t + 64 ≤ lo) : zrw F Nz 95 (64 * t) = zrw F Mz 95 (64 * t) := zrw_c (fun k hk => h _ (by omega))
theorem zRI.fr (hf : zFr S C Mz Nz) (h : zRI F K e Mz) (hs : 38 ∉ S ∧ 39 ∉ S ∧ 41 ∉ S ∧ 42 ∉ S) (hc : 95 ∉ C ∧ 100 ∉ C) : zRI F K e Nz := by
  obtain ⟨a1, a2, a3, a4, a5, a6, a7, a8⟩ := h
  unfold zRI zFtR
  rw [zrS_q hf ⟨hs.2.2.1, hc.2⟩, hf.e hs.1, hf.e hs.2.1, hf.e hs.2.2.1, hf.e hs.2.2.2]
  refine ⟨a1, fun i hi => by rw [hf.ie (by decide) hc.2]; exact a2 i hi, a3, a4, a5, a6, a7, fun h0 t t0 t1 => ?_⟩
  rw [show zrw F Nz 95 (64 * t) = zrw F Mz 95 (64 * t) from zrw_c (fun k _ => hf.jg (by decide) hc.1 _)]
  exact a8 h0 t t0 t1
theorem zRI.bd (h : zRI F K e Mz) : ze Mz 81 41 = ((zrS Mz).length : Int) ∧ (zrS Mz).length ≤ 3 * zdp (zrS Mz) + 2 ∧ zbn (zrS Mz) + zdp (zrS Mz) = (zrS Mz).length ∧ (zrS Mz).length ≤ 23 := by
  have h1 := zwf_b h.2.2.2.2.2.1
  have h2 := zbd_l (zrS Mz)
  have h3 := h.2.2.2.2.2.2.1
  have h4 : (zrS Mz).length = (ze Mz 81 41).toNat := zlst_l _ _
  have h5 := h.1
  omega
theorem zRI_0 (h1 : ze Mz 81 41 = 0) (h2 : ze Mz 81 42 = 0) (h3 : ze Mz 81 38 = 0) (h4 : ze Mz 81 39 = 0) : zRI F K 0 Mz ∧ zrS Mz = [] ∧ zrW F Mz = [] ∧ zrG Mz = false := by
  have hS : zrS Mz = [] := by
    unfold zrS
    rw [h1]
    rfl
  have hG : zrG Mz = false := by
    unfold zrG
    rw [h4]
    rfl
  refine ⟨?_, hS, ?_, hG⟩
  · unfold zRI
    rw [hS, h1, h2, h3, h4]
    exact ⟨by omega, fun i hi => absurd hi (by omega), rfl, rfl, Or.inl rfl, trivial, by decide, fun _ t t0 t1 => absurd t1 (by omega)⟩
  · unfold zrW zrV
    rw [hG, h3]
    rfl
theorem zRI_ps {x e' : Int} (hI : zRI F K e Mz) (hx : 0 ≤ x ∧ x ≤ 4) (he : e' = (if 2 ≤ x then e - 1 else e)) (hw : ∀ y, (zrS Mz).head? = some y → zwp x.toNat y) (hd : x ≤ 1 → zdp (zrS Mz) ≤ 6) (h41 : ze Nz 81 41 = ze Mz 81 41 + 1) (hn : ze Nz 100 (ze Mz 81 41).toNat = x) (hc : ∀ i : Nat, (i : Int) < ze Mz 81 41 → ze Nz 100 i = ze Mz 100 i) (h42 : ze Nz 81 42 = ze Mz 81 42 + (if x ≤ 1 then 1 else 0)) (h38 : ze Nz 81 38 = ze Mz 81 38) (h39 : ze Nz 81 39 = ze Mz 81 39) (h95 : ∀ k : Nat, zg Nz 95 k = zg Mz 95 k) : zRI F K e' Nz ∧ zrS Nz = x.toNat :: zrS Mz ∧ zrW F Nz = zrW F Mz ∧ zrG Nz = zrG Mz := by
  have hb := hI.bd
  obtain ⟨a1, a2, a3, a4, a5, a6, a7, a8⟩ := hI
  have hS : zrS Nz = x.toNat :: zrS Mz := zlst_u (f := fun i => (ze Mz 100 i).toNat) (f' := fun i => (ze Nz 100 i).toNat) a1 h41 (fun i hi => by rw [hc i hi]) (by rw [hn])
  have hv : ∀ t : Int, zrw F Nz 95 t = zrw F Mz 95 t := fun t => zrw_c (fun k _ => h95 _)
  refine ⟨?_, hS, zrW_e h39 (zrV_e h38 (fun i _ => hv _)), zrG_e h39⟩
  unfold zRI zFtR
  rw [hS, zdp_c, zbn_c, h41, h42, h38, h39]
  refine ⟨by omega, fun i hi => ?_, ?_, ?_, a5, ⟨by omega, hw, a6⟩, ?_, fun h0 t t0 t1 => by rw [hv]; exact a8 h0 t t0 t1⟩
  · by_cases g : (i : Int) = ze Mz 81 41
    · rw [show i = (ze Mz 81 41).toNat by omega, hn]
      exact hx
    · rw [hc i (by omega)]
      exact a2 i (by omega)
  · by_cases g : x ≤ 1
    · rw [if_pos g, if_pos (by omega)]; omega
    · rw [if_neg g, if_neg (by omega)]; omega
  · by_cases g : 2 ≤ x
    · rw [he, if_pos g, if_pos (by omega)]; omega
    · rw [he, if_neg g, if_neg (by omega)]; omega
  · by_cases g : x ≤ 1
    · have := hd g
      rw [if_pos (by omega)]; omega
    · rw [if_neg (by omega)]; omega
theorem zRI_pv (hF : F ≤ 27) (hI : zRI F K 0 Mz) (h41 : ze Nz 81 41 = ze Mz 81 41) (hc : ∀ i : Nat, ze Nz 100 i = ze Mz 100 i) (h42 : ze Nz 81 42 = ze Mz 81 42) (h38 : ze Nz 81 38 = ze Mz 81 38 + 1) (h39 : ze Nz 81 39 = ze Mz 81 39) (hlo : ∀ x : Nat, (x : Int) < 64 * ze Mz 81 38 → zg Nz 95 x = zg Mz 95 x) (hu : ze Mz 81 39 = 0 → zrw F Nz 95 (64 * ze Mz 81 38) = u ∧ zfit F K u) : zRI F K 1 Nz ∧ zrS Nz = zrS Mz ∧ zrW F Nz = zpu (zrG Mz) u (zrW F Mz) ∧ zrG Nz = zrG Mz := by
  obtain ⟨a1, a2, a3, a4, a5, a6, a7, a8⟩ := hI
  have hS : zrS Nz = zrS Mz := zrS_e h41 hc
  have hv : ∀ t : Int, 0 ≤ t → t < ze Mz 81 38 → zrw F Nz 95 (64 * t) = zrw F Mz 95 (64 * t) := fun t t0 t1 => zrw_lo hlo hF t0 (by omega)
  have h0 : 0 ≤ ze Mz 81 38 := by omega
  refine ⟨?_, hS, ?_, zrG_e h39⟩
  · unfold zRI zFtR
    rw [hS, h41, h42, h38, h39]
    refine ⟨a1, fun i hi => by rw [hc]; exact a2 i hi, a3, by omega, a5, a6, a7, fun hM t t0 t1 => ?_⟩
    by_cases g : t = ze Mz 81 38
    · rw [g, (hu hM).1]
      exact (hu hM).2
    · rw [hv t t0 (by omega)]
      exact a8 hM t t0 (by omega)
  · unfold zrW zpu
    rw [zrG_e h39]
    cases hG : zrG Mz with
    | true => rfl
    | false =>
      have hM : ze Mz 81 39 = 0 := by
        unfold zrG at hG
        have := of_decide_eq_false hG
        omega
      show zrV F Nz = u :: zrV F Mz
      exact zlst_u (f := fun i => zrw F Mz 95 (64 * (i : Int))) (f' := fun i => zrw F Nz 95 (64 * (i : Int))) h0 h38 (fun i hi => hv i (by omega) hi) (by rw [Int.toNat_of_nonneg h0]; exact (hu hM).1)
theorem zRI_tv (hF : F ≤ 27) (hI : zRI F K 1 Mz) (hS : zrS Nz = zrS Mz ∨ (zrS Mz).head? = some 1 ∧ zrS Nz = (zrS Mz).tail ∨ (zrS Mz).head? = some 0 ∧ zrS Nz = (zrS Mz).tail) (h41 : ze Nz 81 41 = ((zrS Nz).length : Int)) (hc : ∀ i : Nat, ze Nz 100 i = ze Mz 100 i) (h42 : ze Nz 81 42 = (zdp (zrS Nz) : Nat)) (h38 : ze Nz 81 38 = ze Mz 81 38) (h39 : ze Nz 81 39 = ze Mz 81 39 ∨ ze Nz 81 39 = 1) (hlo : ∀ x : Nat, (x : Int) < 64 * (ze Mz 81 38 - 1) → zg Nz 95 x = zg Mz 95 x) (hu : ze Nz 81 39 = 0 → zfit F K (zrw F Nz 95 (64 * (ze Mz 81 38 - 1)))) : zRI F K 1 Nz := by
  have hb := hI.bd
  obtain ⟨a1, a2, a3, a4, a5, a6, a7, a8⟩ := hI
  have key : zwf (zrS Nz) ∧ zdp (zrS Nz) ≤ 7 ∧ zbn (zrS Nz) = zbn (zrS Mz) ∧ (zrS Nz).length ≤ (zrS Mz).length := by
    rcases hS with h | ⟨h, h2⟩ | ⟨h, h2⟩
    · rw [h]
      exact ⟨a6, a7, rfl, Nat.le_refl _⟩
    all_goals
      rw [h2]
      cases hs : zrS Mz with
      | nil => rw [hs] at h; cases h
      | cons y r =>
        rw [hs] at h a6 a7
        injection h with h
        subst h
        rw [zdp_c] at a7
        rw [zbn_c]
        exact ⟨a6.2.2, by show zdp r ≤ 7; omega, by show zbn r = _; simp, by show r.length ≤ _; rw [List.length_cons]; omega⟩
  unfold zRI zFtR
  rw [h38, key.2.2.1]
  refine ⟨by omega, fun i hi => by rw [hc]; exact a2 i (by omega), h42, a4, by omega, key.1, key.2.1, fun hM t t0 t1 => ?_⟩
  by_cases g : t = ze Mz 81 38 - 1
  · rw [g]
    exact hu hM
  · rw [zrw_lo hlo hF t0 (by omega)]
    exact a8 (by omega) t t0 t1
theorem zr0_o {c : Int} (h : zisg b n (ze Mz 81 4).toNat 45 ∨ zisg b n (ze Mz 81 4).toNat 40) (hz : zuo (zrS Mz) (ze Mz 81 43).toNat) (hc : (c = 1 ∧ b (ze Mz 81 4).toNat = 40) ∨ (c = 0 ∧ b (ze Mz 81 4).toNat ≠ 40)) (hS : zrS Nz = (if c = 0 then 1 else 0) :: zrS Mz) (hW : zrW F Nz = zrW F Mz) (hG : zrG Nz = zrG Mz) (hu : ze Nz 81 43 = ze Mz 81 43 + 1) (u0 : 0 ≤ ze Mz 81 43) (hp : (ze Nz 81 4).toNat = znx b n (ze Mz 81 4).toNat) : zfs b n F K nm (zRst 0 F Mz) = zRst 0 F Nz := by
  unfold zRst
  rw [zfs_0, zif_t h, zif_t hz, hS, hW, hG, hp, show (ze Nz 81 43).toNat = (ze Mz 81 43).toNat + 1 by omega]
  rcases hc with ⟨rfl, e⟩ | ⟨rfl, e⟩
  · rw [if_pos e]; rfl
  · rw [if_neg e]; rfl
theorem zr0_of (h : zisg b n (ze Mz 81 4).toNat 45 ∨ zisg b n (ze Mz 81 4).toNat 40) (hz : ¬ zuo (zrS Mz) (ze Mz 81 43).toNat) : zfs b n F K nm (zRst 0 F Mz) = zFt := by
  unfold zRst
  rw [zfs_0, zif_t h, zif_f hz]
theorem zr0_n (h : ¬ (zisg b n (ze Mz 81 4).toNat 45 ∨ zisg b n (ze Mz 81 4).toNat 40)) (h2 : zkd b n (ze Mz 81 4).toNat = 2) (hz : zuo (zrS Mz) (ze Mz 81 43).toNat) (hS : zrS Nz = zrS Mz) (hW : zrW F Nz = zpu (zrG Mz) (zone ((F : Int) - 1) (znu b n (ze Mz 81 4).toNat)) (zrW F Mz)) (hG : zrG Nz = zrG Mz) (hu : ze Nz 81 43 = ze Mz 81 43 + 1) (u0 : 0 ≤ ze Mz 81 43) (hp : (ze Nz 81 4).toNat = znx b n (ze Mz 81 4).toNat) : zfs b n F K nm (zRst 0 F Mz) = zRst 1 F Nz := by
  unfold zRst
  rw [zfs_0, zif_f h, zif_t h2, zif_t hz, hS, hW, hG, hp, show (ze Nz 81 43).toNat = (ze Mz 81 43).toNat + 1 by omega]
theorem zr0_nf (h : ¬ (zisg b n (ze Mz 81 4).toNat 45 ∨ zisg b n (ze Mz 81 4).toNat 40)) (h2 : zkd b n (ze Mz 81 4).toNat = 2) (hz : ¬ zuo (zrS Mz) (ze Mz 81 43).toNat) : zfs b n F K nm (zRst 0 F Mz) = zFt := by
  unfold zRst
  rw [zfs_0, zif_f h, zif_t h2, zif_f hz]
theorem zr0_s (h : ¬ (zisg b n (ze Mz 81 4).toNat 45 ∨ zisg b n (ze Mz 81 4).toNat 40)) (h2 : zkd b n (ze Mz 81 4).toNat ≠ 2) (h3 : zkd b n (ze Mz 81 4).toNat = 1 ∧ zkey b n (ze Mz 81 4).toNat = zkw 3) (hz : zuo (zrS Mz) (ze Mz 81 43).toNat) (h4 : zkd b n (znx b n (ze Mz 81 4).toNat) = 2 ∧ znu b n (znx b n (ze Mz 81 4).toNat) < F) (hS : zrS Nz = zrS Mz) (hW : zrW F Nz = zpu (zrG Mz) (zone (znu b n (znx b n (ze Mz 81 4).toNat)) 1) (zrW F Mz)) (hG : zrG Nz = zrG Mz) (hu : ze Nz 81 43 = ze Mz 81 43 + 1) (u0 : 0 ≤ ze Mz 81 43) (hp : (ze Nz 81 4).toNat = znx b n (znx b n (ze Mz 81 4).toNat)) : zfs b n F K nm (zRst 0 F Mz) = zRst 1 F Nz := by
  unfold zRst
  rw [zfs_0, zif_f h, zif_f h2, zif_t h3, zif_t ⟨hz, h4.1, h4.2⟩, hS, hW, hG, hp, show (ze Nz 81 43).toNat = (ze Mz 81 43).toNat + 1 by omega]
theorem zr0_sf (h : ¬ (zisg b n (ze Mz 81 4).toNat 45 ∨ zisg b n (ze Mz 81 4).toNat 40)) (h2 : zkd b n (ze Mz 81 4).toNat ≠ 2) (h3 : zkd b n (ze Mz 81 4).toNat = 1 ∧ zkey b n (ze Mz 81 4).toNat = zkw 3) (hz : ¬ (zuo (zrS Mz) (ze Mz 81 43).toNat ∧ zkd b n (znx b n (ze Mz 81 4).toNat) = 2 ∧ znu b n (znx b n (ze Mz 81 4).toNat) < F)) : zfs b n F K nm (zRst 0 F Mz) = zFt := by
  unfold zRst
  rw [zfs_0, zif_f h, zif_f h2, zif_t h3, zif_f hz]
theorem zr0_w (h : ¬ (zisg b n (ze Mz 81 4).toNat 45 ∨ zisg b n (ze Mz 81 4).toNat 40)) (h2 : zkd b n (ze Mz 81 4).toNat ≠ 2) (h3 : ¬ (zkd b n (ze Mz 81 4).toNat = 1 ∧ zkey b n (ze Mz 81 4).toNat = zkw 3)) (hz : zuo (zrS Mz) (ze Mz 81 43).toNat) (h4 : zisn b n (ze Mz 81 4).toNat) {v : Nat → Int} (h5 : zfd nm (zkey b n (ze Mz 81 4).toNat) = some v) (hS : zrS Nz = zrS Mz) (hW : zrW F Nz = zpu (zrG Mz) v (zrW F Mz)) (hG : zrG Nz = zrG Mz) (hu : ze Nz 81 43 = ze Mz 81 43 + 1) (u0 : 0 ≤ ze Mz 81 43) (hp : (ze Nz 81 4).toNat = znx b n (ze Mz 81 4).toNat) : zfs b n F K nm (zRst 0 F Mz) = zRst 1 F Nz := by
  unfold zRst
  rw [zfs_0, zif_f h, zif_f h2, zif_f h3, zif_t ⟨hz, h4⟩, h5, hS, hW, hG, hp, show (ze Nz 81 43).toNat = (ze Mz 81 43).toNat + 1 by omega]
theorem zr0_wf (h : ¬ (zisg b n (ze Mz 81 4).toNat 45 ∨ zisg b n (ze Mz 81 4).toNat 40)) (h2 : zkd b n (ze Mz 81 4).toNat ≠ 2) (h3 : ¬ (zkd b n (ze Mz 81 4).toNat = 1 ∧ zkey b n (ze Mz 81 4).toNat = zkw 3)) (hz : ¬ (zuo (zrS Mz) (ze Mz 81 43).toNat ∧ zisn b n (ze Mz 81 4).toNat)) : zfs b n F K nm (zRst 0 F Mz) = zFt := by
  unfold zRst
  rw [zfs_0, zif_f h, zif_f h2, zif_f h3, zif_f hz]
theorem zr0_wn (h : ¬ (zisg b n (ze Mz 81 4).toNat 45 ∨ zisg b n (ze Mz 81 4).toNat 40)) (h2 : zkd b n (ze Mz 81 4).toNat ≠ 2) (h3 : ¬ (zkd b n (ze Mz 81 4).toNat = 1 ∧ zkey b n (ze Mz 81 4).toNat = zkw 3)) (h5 : zfd nm (zkey b n (ze Mz 81 4).toNat) = none) : zfs b n F K nm (zRst 0 F Mz) = zFt := by
  unfold zRst
  rw [zfs_0, zif_f h, zif_f h2, zif_f h3]
  by_cases hz : zuo (zrS Mz) (ze Mz 81 43).toNat ∧ zisn b n (ze Mz 81 4).toNat
  · rw [zif_t hz, h5]
  · rw [zif_f hz]
theorem zr1_f (h : zisg b n (ze Mz 81 4).toNat 94) (h2 : ¬ (zkd b n (znx b n (ze Mz 81 4).toNat) = 2 ∧ znu b n (znx b n (ze Mz 81 4).toNat) ≤ 9)) : zfs b n F K nm (zRst 1 F Mz) = zFt := by
  unfold zRst
  rw [zfs_1, zif_t h, zif_f h2]
theorem zr2_c {c : Nat × Nat} (h : zisg b n (ze Mz 81 4).toNat 41) (h0 : 0 ∈ zrS Mz) (hR : (zrS Rz, zrW F Rz, zrG Rz) = zrk F K 2 (zrS Mz).length (zrS Mz, zrW F Mz, zrG Mz)) (hS : zrS Nz = (zrS Rz).tail) (hW : zrW F Nz = zrW F Rz) (hG : zrG Nz = zrG Rz) (hu : ze Nz 81 43 = ze Mz 81 43) (hp : (ze Nz 81 4).toNat = znx b n (ze Mz 81 4).toNat) : zfs b n F K nm (zRst 2 F Mz) = zRst 1 F Nz := by
  unfold zRst
  rw [zfs_2, zif_f (fun q => by have := q.2; have := h.2; omega), zif_f (fun q => by have := h.2; rcases q with q | q <;> (have := q.2; omega)), zif_t ⟨h, h0⟩, hS, hW, hG, hp, hu, ← hR]
theorem zr2_f (h4 : ¬ (zisg b n (ze Mz 81 4).toNat 42 ∨ zisg b n (ze Mz 81 4).toNat 43 ∨ zisg b n (ze Mz 81 4).toNat 45)) (h : ¬ (zisg b n (ze Mz 81 4).toNat 41 ∧ 0 ∈ zrS Mz)) (h0 : 0 ∈ zrS Mz) : zfs b n F K nm (zRst 2 F Mz) = zFt := by
  unfold zRst
  rw [zfs_2, zif_f (fun q => h4 (Or.inl q)), zif_f (fun q => h4 (Or.inr q)), zif_f h, zif_t h0]
theorem zr2_e (h4 : ¬ (zisg b n (ze Mz 81 4).toNat 42 ∨ zisg b n (ze Mz 81 4).toNat 43 ∨ zisg b n (ze Mz 81 4).toNat 45)) (h0 : ¬ 0 ∈ zrS Mz) (hR : (zrS Nz, zrW F Nz, zrG Nz) = zrk F K 2 (zrS Mz).length (zrS Mz, zrW F Mz, zrG Mz)) (hu : ze Nz 81 43 = ze Mz 81 43) (hp : ze Nz 81 4 = ze Mz 81 4) : zfs b n F K nm (zRst 2 F Mz) = zRst 3 F Nz := by
  unfold zRst
  rw [zfs_2, zif_f (fun q => h4 (Or.inl q)), zif_f (fun q => h4 (Or.inr q)), zif_f (fun q => h0 q.2), zif_f h0, hu, hp, ← hR]
theorem zr2_s {w : Nat} (hk : zkd b n (ze Mz 81 4).toNat = 3) (hw : (b (ze Mz 81 4).toNat = 42 ∧ w = 4) ∨ (b (ze Mz 81 4).toNat = 43 ∧ w = 2) ∨ (b (ze Mz 81 4).toNat = 45 ∧ w = 3)) (hS : zrS Nz = w :: (zrk F K (if w = 4 then 4 else 2 : Nat) (zrS Mz).length (zrS Mz, zrW F Mz, zrG Mz)).1) (hW : zrW F Nz = (zrk F K (if w = 4 then 4 else 2 : Nat) (zrS Mz).length (zrS Mz, zrW F Mz, zrG Mz)).2.1) (hG : zrG Nz = (zrk F K (if w = 4 then 4 else 2 : Nat) (zrS Mz).length (zrS Mz, zrW F Mz, zrG Mz)).2.2) (hu : ze Nz 81 43 = ze Mz 81 43) (hp : (ze Nz 81 4).toNat = znx b n (ze Mz 81 4).toNat) : zfs b n F K nm (zRst 2 F Mz) = zRst 0 F Nz := by
  unfold zRst
  rw [zfs_2, hS, hW, hG, hp, hu]
  rcases hw with ⟨hc, rfl⟩ | ⟨hc, rfl⟩ | ⟨hc, rfl⟩
  · rw [zif_t ⟨hk, hc⟩]
    rfl
  · rw [zif_f (fun q => by have := q.2; omega), zif_t (Or.inl ⟨hk, hc⟩), if_pos hc]
    rfl
  · rw [zif_f (fun q => by have := q.2; omega), zif_t (Or.inr ⟨hk, hc⟩), if_neg (by omega)]
    rfl
end ZRI
section ZRJ
variable {F n : Nat} {K : Nat → Nat → Int} {Mz Nz Pz : zMem}
theorem zrG_1 (h : ze Mz 81 39 ≠ 0) : zrG Mz = true := decide_eq_true h
theorem zrG_0 (h : ze Mz 81 39 = 0) : zrG Mz = false := by
  unfold zrG
  rw [h]
  rfl
theorem zrW_t (h : ze Mz 81 39 ≠ 0) : zrW F Mz = [] := by
  unfold zrW
  rw [zrG_1 h, if_pos rfl]
theorem zrW_c (h : ze Mz 81 39 = 0) (h1 : 1 ≤ ze Mz 81 38) : zrW F Mz = zrw F Mz 95 (64 * (ze Mz 81 38 - 1)) :: zlst (fun i => zrw F Mz 95 (64 * (i : Int))) (ze Mz 81 38 - 1).toNat := by
  unfold zrW
  rw [zrG_0 h, if_neg (by decide)]
  unfold zrV
  rw [zlst_p h1, Int.toNat_of_nonneg (by omega)]
theorem zRI_pw (hF : F ≤ 27) (hI : zRI F K 1 Mz) {k : Int} (h : zPwE F K (zrw F Mz 95 (64 * (ze Mz 81 38 - 1))) (64 * (ze Mz 81 38 - 1)) Mz Nz k) (h41 : ze Nz 81 41 = ze Mz 81 41) (hc : ∀ i : Nat, ze Nz 100 i = ze Mz 100 i) (h42 : ze Nz 81 42 = ze Mz 81 42) (h38 : ze Nz 81 38 = ze Mz 81 38) : zRI F K 1 Nz ∧ zrS Nz = zrS Mz ∧ zrW F Nz = (zpo F K k.toNat (zrW F Mz) (zrG Mz)).1 ∧ zrG Nz = (zpo F K k.toNat (zrW F Mz) (zrG Mz)).2 := by
  obtain ⟨p1, p2, p3⟩ := h
  have hS : zrS Nz = zrS Mz := zrS_e h41 hc
  have hb := hI.bd
  have a3 := hI.2.2.1
  have a4 := hI.2.2.2.1
  have hRI : zRI F K 1 Nz := zRI_tv hF hI (Or.inl hS) (by rw [hS]; omega) hc (by rw [hS]; omega) h38 p1 p2 (fun h0 => by
    rcases p3 (by omega) with ⟨u, c1, c2, c3, c4⟩ | ⟨c1, c2⟩
    · rw [c4]; exact c3
    · omega)
  have hlow : zlst (fun i => zrw F Nz 95 (64 * (i : Int))) (ze Mz 81 38 - 1).toNat = zlst (fun i => zrw F Mz 95 (64 * (i : Int))) (ze Mz 81 38 - 1).toNat := zlst_c _ (fun i hi => zrw_lo p2 hF (by omega) (by omega))
  refine ⟨hRI, hS, ?_, ?_⟩
  all_goals
    by_cases hM : ze Mz 81 39 = 0
    · rw [zrW_c hM (by omega), zrG_0 hM]
      rcases p3 hM with ⟨u, c1, c2, c3, c4⟩ | ⟨c1, c2⟩
      · rw [zpo_v c1]
        first
        | exact zrG_0 c2
        | (rw [zrW_c c2 (by omega), h38, c4, hlow])
      · rw [zpo_n c1]
        first
        | exact zrG_1 (by omega)
        | exact zrW_t (by omega)
    · rw [zrW_t hM, zrG_1 hM]
      first
      | exact zrG_1 (by omega)
      | exact zrW_t (by omega)
theorem zRI_ng (hF : F ≤ 27) (hI : zRI F K 1 Mz) (h1 : 1 ≤ ze Mz 81 41) (hx : ze Mz 100 (ze Mz 81 41 - 1).toNat = 1) (h41 : ze Nz 81 41 = ze Mz 81 41 - 1) (hc : ∀ i : Nat, ze Nz 100 i = ze Mz 100 i) (h42 : ze Nz 81 42 = ze Mz 81 42 - 1) (h38 : ze Nz 81 38 = ze Mz 81 38) (h39 : ze Nz 81 39 = ze Mz 81 39) (hlo : ∀ x : Nat, (x : Int) < 64 * (ze Mz 81 38 - 1) → zg Nz 95 x = zg Mz 95 x) (hv : zfit F K (zrw F Mz 95 (64 * (ze Mz 81 38 - 1))) → zrw F Nz 95 (64 * (ze Mz 81 38 - 1)) = fun k => -(zrw F Mz 95 (64 * (ze Mz 81 38 - 1)) k)) : zRI F K 1 Nz ∧ zng (zrS Mz) (zrW F Mz) = zng (zrS Nz) (zrW F Nz) ∧ zrG Nz = zrG Mz := by
  have hb := hI.bd
  have a3 := hI.2.2.1
  have a4 := hI.2.2.2.1
  have a8 := hI.2.2.2.2.2.2.2
  have hS : zrS Mz = 1 :: zrS Nz := by
    have := zlst_d (f := fun i => (ze Mz 100 i).toNat) (f' := fun i => (ze Nz 100 i).toNat) h1 h41 (fun i _ => by rw [hc])
    unfold zrS
    rw [this, hx]
    rfl
  have hl : (zrS Mz).length = (zrS Nz).length + 1 := by rw [hS, List.length_cons]
  have hd : zdp (zrS Mz) = zdp (zrS Nz) + 1 := by
    rw [hS, zdp_c]
    rfl
  have hRI : zRI F K 1 Nz := zRI_tv hF hI (Or.inr (Or.inl ⟨by rw [hS]; rfl, by rw [hS]; rfl⟩)) (by omega) hc (by omega) h38 (Or.inl h39) hlo (fun h0 => by
    have hf := a8 (by omega) (ze Mz 81 38 - 1) (by omega) (by omega)
    rw [hv hf]
    exact zneg_fit hf)
  refine ⟨hRI, ?_, zrG_e h39⟩
  rw [hS]
  by_cases hM : ze Mz 81 39 = 0
  · have hf := a8 hM (ze Mz 81 38 - 1) (by omega) (by omega)
    rw [zrW_c hM (by omega), zrW_c (Mz := Nz) (by omega) (by omega), h38, hv hf, zng_s]
    congr 2
    exact (zlst_c _ (fun i hi => zrw_lo hlo hF (by omega) (by omega))).symm
  · rw [zrW_t hM, zrW_t (by omega : ze Nz 81 39 ≠ 0), zng_s0]
theorem zRI_cl (hF : F ≤ 27) (hI : zRI F K 1 Mz) (hh : (zrS Mz).head? = some 0) (h41 : ze Nz 81 41 = ze Mz 81 41 - 1) (hc : ∀ i : Nat, ze Nz 100 i = ze Mz 100 i) (h42 : ze Nz 81 42 = ze Mz 81 42 - 1) (h38 : ze Nz 81 38 = ze Mz 81 38) (h39 : ze Nz 81 39 = ze Mz 81 39) (h95 : ∀ x : Nat, zg Nz 95 x = zg Mz 95 x) : zRI F K 1 Nz ∧ zrS Nz = (zrS Mz).tail ∧ zrW F Nz = zrW F Mz ∧ zrG Nz = zrG Mz := by
  have hb := hI.bd
  have a3 := hI.2.2.1
  have a8 := hI.2.2.2.2.2.2.2
  have h1 : 1 ≤ ze Mz 81 41 := by
    cases hs : zrS Mz with
    | nil => rw [hs] at hh; cases hh
    | cons y r => rw [hs, List.length_cons] at hb; omega
  have hS : zrS Nz = (zrS Mz).tail := by
    have := zlst_d (f := fun i => (ze Mz 100 i).toNat) (f' := fun i => (ze Nz 100 i).toNat) h1 h41 (fun i _ => by rw [hc])
    unfold zrS
    rw [this]
    rfl
  have hv : ∀ t : Int, zrw F Nz 95 t = zrw F Mz 95 t := fun t => zrw_c (fun k _ => h95 _)
  have hl : (zrS Mz).length = (zrS Nz).length + 1 ∧ zdp (zrS Mz) = zdp (zrS Nz) + 1 := by
    rw [hS]
    cases hs : zrS Mz with
    | nil => rw [hs] at hh; cases hh
    | cons y r =>
      rw [hs] at hh
      injection hh with hh
      rw [List.length_cons, zdp_c, hh]
      exact ⟨rfl, rfl⟩
  refine ⟨zRI_tv hF hI (Or.inr (Or.inr ⟨hh, hS⟩)) (by omega) hc (by omega) h38 (Or.inl h39) (fun x _ => h95 x) (fun h0 => ?_), hS, zrW_e h39 (zrV_e h38 (fun i _ => hv _)), zrG_e h39⟩
  rw [hv]
  exact a8 (by omega) _ (by have := hI.2.2.2.1; omega) (by omega)
theorem zRI_wk (hF : F ≤ 27) (hI : zRI F K 1 Mz) {x : Int} (h1 : 1 ≤ ze Mz 81 41) (hx : x = ze Mz 100 (ze Mz 81 41 - 1).toNat) (hx2 : 2 ≤ x) (h41 : ze Nz 81 41 = ze Mz 81 41 - 1) (hc : ∀ i : Nat, ze Nz 100 i = ze Mz 100 i) (h42 : ze Nz 81 42 = ze Mz 81 42) (h38 : ze Nz 81 38 = ze Mz 81 38 - 1) {r : Nat → Int} {ok : Prop} (hr : r = zop F K x.toNat (zrw F Mz 95 (64 * (ze Mz 81 38 - 2))) (zrw F Mz 95 (64 * (ze Mz 81 38 - 1)))) (hok : ok ↔ ((x.toNat = 4 → zmok F K (zrw F Mz 95 (64 * (ze Mz 81 38 - 2))) (zrw F Mz 95 (64 * (ze Mz 81 38 - 1)))) ∧ zfit F K r)) (ha : zAcc F (64 * (ze Mz 81 38 - 2)) r ok Mz Nz) : zRI F K 1 Nz ∧ zrS Mz = x.toNat :: zrS Nz ∧ (zrS Nz, zrW F Nz, zrG Nz) = zwk1 F K (zrS Mz, zrW F Mz, zrG Mz) ∧ (zrS Nz).head? ≠ some 1 ∧ 2 ≤ ze Mz 81 38 := by
  have hb := hI.bd
  obtain ⟨a1, a2, a3, a4, a5, a6, a7, a8⟩ := id hI
  obtain ⟨q1, q2, q3⟩ := ha
  have hxr := a2 (ze Mz 81 41 - 1).toNat (by omega)
  rw [← hx] at hxr
  have hS : zrS Mz = x.toNat :: zrS Nz := by
    have := zlst_d (f := fun i => (ze Mz 100 i).toNat) (f' := fun i => (ze Nz 100 i).toNat) h1 h41 (fun i _ => by rw [hc])
    unfold zrS
    rw [this, hx]
  rw [hS] at a3 a4 a6 a7
  rw [zdp_c, if_neg (by omega : ¬ x.toNat ≤ 1)] at a3 a7
  rw [zbn_c, if_pos (by omega : 2 ≤ x.toNat)] at a4
  have hlen : (zrS Mz).length = (zrS Nz).length + 1 := by rw [hS, List.length_cons]
  have hv : ∀ t : Int, 0 ≤ t → t < ze Mz 81 38 - 2 → zrw F Nz 95 (64 * t) = zrw F Mz 95 (64 * t) := fun t t0 t1 => zrw_lo q2 hF t0 (by omega)
  have h2 : 2 ≤ ze Mz 81 38 := by omega
  have hlow : zlst (fun i => zrw F Nz 95 (64 * (i : Int))) (ze Mz 81 38 - 2).toNat = zlst (fun i => zrw F Mz 95 (64 * (i : Int))) (ze Mz 81 38 - 2).toNat := zlst_c _ (fun i hi => hv i (by omega) (by omega))
  refine ⟨?_, hS, ?_, ?_, h2⟩
  · unfold zRI zFtR
    rw [h42, h38, h41]
    refine ⟨by omega, fun i hi => by rw [hc]; exact a2 i (by omega), by omega, by omega, by omega, a6.2.2, by omega, fun h0 t t0 t1 => ?_⟩
    have hM : ze Mz 81 39 = 0 := by omega
    by_cases g : t = ze Mz 81 38 - 2
    · rcases q3 hM with ⟨c1, c2, c3⟩ | ⟨c1, c2⟩
      · rw [g, c3]
        exact (hok.mp c1).2
      · omega
    · rw [hv t t0 (by omega)]
      exact a8 hM t t0 (by omega)
  · rw [hS]
    by_cases hM : ze Mz 81 39 = 0
    · have hW : zrW F Mz = zrw F Mz 95 (64 * (ze Mz 81 38 - 1)) :: zrw F Mz 95 (64 * (ze Mz 81 38 - 2)) :: zlst (fun i => zrw F Mz 95 (64 * (i : Int))) (ze Mz 81 38 - 2).toNat := by
        rw [zrW_c hM (by omega), zlst_p (c := ze Mz 81 38 - 1) (by omega), show ze Mz 81 38 - 1 - 1 = ze Mz 81 38 - 2 by omega, Int.toNat_of_nonneg (by omega)]
      rw [hW, zrG_0 hM]
      have hw1 : zwk1 F K (x.toNat :: zrS Nz, zrw F Mz 95 (64 * (ze Mz 81 38 - 1)) :: zrw F Mz 95 (64 * (ze Mz 81 38 - 2)) :: zlst (fun i => zrw F Mz 95 (64 * (i : Int))) (ze Mz 81 38 - 2).toNat, false) = zif ((x.toNat = 4 → zmok F K (zrw F Mz 95 (64 * (ze Mz 81 38 - 2))) (zrw F Mz 95 (64 * (ze Mz 81 38 - 1)))) ∧ zfit F K r) (zrS Nz, r :: zlst (fun i => zrw F Mz 95 (64 * (i : Int))) (ze Mz 81 38 - 2).toNat, false) (zrS Nz, [], true) := by
        rw [hr]
        rfl
      rw [hw1]
      rcases q3 hM with ⟨c1, c2, c3⟩ | ⟨c1, c2⟩
      · rw [zif_t (hok.mp c1), zrW_c c2 (by omega), zrG_0 c2, h38, show ze Mz 81 38 - 1 - 1 = ze Mz 81 38 - 2 by omega, c3, hlow]
      · rw [zif_f (fun q => c1 (hok.mpr q)), zrW_t (by omega), zrG_1 (by omega)]
    · rw [zrW_t hM, zrG_1 hM, zrW_t (by omega : ze Nz 81 39 ≠ 0), zrG_1 (by omega : ze Nz 81 39 ≠ 0)]
      rfl
  · intro hh
    have hw := a6.2.1 1 hh
    unfold zwp at hw
    have h4' := hw.1
    have h5' := hw.2
    have : x.toNat = 2 ∨ x.toNat = 3 ∨ x.toNat = 4 := by omega
    rcases this with g | g | g
    · exact absurd (h5' (Or.inl g)) (by decide)
    · exact absurd (h5' (Or.inr g)) (by decide)
    · exact (h4' g).1 rfl
theorem zrS_h (h1 : 1 ≤ ze Mz 81 41) : (zrS Mz).head? = some (ze Mz 100 (ze Mz 81 41 - 1).toNat).toNat := by
  unfold zrS
  rw [zlst_p h1]
  rfl
theorem zrS_z (h1 : ze Mz 81 41 ≤ 0) : zrS Mz = [] := by
  unfold zrS
  rw [show (ze Mz 81 41).toNat = 0 by omega]
  rfl
theorem zrS_m {x : Nat} : x ∈ zrS Mz ↔ ∃ i : Nat, (i : Int) < ze Mz 81 41 ∧ (ze Mz 100 i).toNat = x := by
  unfold zrS
  rw [zlst_m]
  constructor
  · rintro ⟨i, hi, h⟩
    exact ⟨i, by omega, h⟩
  · rintro ⟨i, hi, h⟩
    exact ⟨i, by omega, h⟩
end ZRJ
def zWrd (w g : Int) : Prop := ∃ b : Nat → Int, ∃ n p : Nat, zkd b n p = 1 ∧ w = zke8 b n p ∧ g = zkey b n p
theorem zWrd.k {b : Nat → Int} {n p : Nat} (h : zkd b n p = 1) : zWrd (zke8 b n p) (zkey b n p) := ⟨b, n, p, h, rfl, rfl⟩
theorem zWrd.i {w g w' g' : Int} (h : zWrd w g) (h' : zWrd w' g') : w = w' ↔ g = g' := by
  obtain ⟨b, n, p, h1, rfl, rfl⟩ := h
  obtain ⟨c, m, q, h2, rfl, rfl⟩ := h'
  obtain ⟨k1, k2, k3, k4, k5⟩ := zkd_1 h1
  obtain ⟨g1, g2, g3, g4, g5⟩ := zkd_1 h2
  unfold zke8 zkey
  exact (zw28 (fun j hj => k5 (p + j) (by omega) (by omega)) (fun j hj => g5 (q + j) (by omega) (by omega))).symm
def zRNm (nm : List (Int × (Nat → Int))) (F : Nat) (K : Nat → Nat → Int) (_ : Nat → Int) (_ : Nat) (M : zMem) : Prop := (0 ≤ ze M 81 14 ∧ ze M 81 14 ≤ 8) ∧ ∃ gk : Nat → Int, nm = zup (fun k => (gk k, zrw F M 102 (64 * (k : Int)))) (ze M 81 14).toNat 0 ∧ ∀ k : Nat, (k : Int) < ze M 81 14 → zWrd (zg M 101 k) (gk k) ∧ zfit F K (zrw F M 102 (64 * (k : Int)))
section ZRN
variable {F n : Nat} {K : Nat → Nat → Int} {b : Nat → Int} {nm : List (Int × (Nat → Int))} {S C : List Nat} {M N : zMem}
theorem zRNm.fr (hf : zFr S C M N) (h : zRNm nm F K b n M) (hs : 14 ∉ S) (hc : 101 ∉ C ∧ 102 ∉ C) : zRNm nm F K b n N := by
  obtain ⟨a1, gk, a2, a3⟩ := h
  have hv : ∀ t : Int, zrw F N 102 t = zrw F M 102 t := fun t => zrw_c (fun k _ => hf.jg (by decide) hc.2 _)
  unfold zRNm
  rw [hf.e hs]
  refine ⟨a1, gk, ?_, fun k hk => ?_⟩
  · rw [a2]
    exact zup_c _ _ (fun j _ _ => by rw [hv])
  · rw [hf.jg (by decide) hc.1, hv]
    exact a3 k hk
theorem zRNm.t {b' : Nat → Int} {n' : Nat} (h : zRNm nm F K b n M) : zRNm nm F K b' n' M := h
theorem zRNm.len (h : zRNm nm F K b n M) : (nm.length : Int) = ze M 81 14 := by
  obtain ⟨a1, gk, a2, -⟩ := h
  rw [a2, zup_l]
  omega
def zRsr (nm : List (Int × (Nat → Int))) (F : Nat) (_ : Nat → Int) (_ : Nat) (M : zMem) (x k : Int) : Prop := ∃ gk : Nat → Int, (∀ j : Nat, (j : Int) < ze M 81 14 → zWrd (zg M 101 j) (gk j)) ∧ zfd nm x = zfd (zup (fun j => (gk j, zrw F M 102 (64 * (j : Int)))) ((ze M 81 14).toNat - k.toNat) k.toNat) x
theorem zRsr_0 (h : zRNm nm F K b n M) {x : Int} : zRsr nm F b n M x 0 := by
  obtain ⟨a1, gk, a2, a3⟩ := h
  exact ⟨gk, fun j hj => (a3 j hj).1, by rw [a2]; rfl⟩
theorem zRsr_s {q : Nat} {k v : Int} (h : zRsr nm F b n M (zkey b n q) k) (hq : zkd b n q = 1) (k0 : 0 ≤ k) (k1 : k < ze M 81 14) (hv : v = zg M 101 k.toNat) (hne : v ≠ zke8 b n q) : zRsr nm F b n M (zkey b n q) (k + 1) := by
  obtain ⟨gk, a1, a2⟩ := h
  refine ⟨gk, a1, ?_⟩
  have hw := a1 k.toNat (by omega)
  rw [a2, show (ze M 81 14).toNat - k.toNat = (ze M 81 14).toNat - (k + 1).toNat + 1 by omega, show (k + 1).toNat = k.toNat + 1 by omega]
  show (if gk k.toNat = zkey b n q then _ else _) = _
  rw [if_neg (fun e => hne (by rw [hv]; exact (hw.i (zWrd.k hq)).mpr e))]
theorem zRsr_f {q : Nat} {k v : Int} (h : zRsr nm F b n M (zkey b n q) k) (hq : zkd b n q = 1) (k0 : 0 ≤ k) (k1 : k < ze M 81 14) (hv : v = zg M 101 k.toNat) (he : v = zke8 b n q) : zfd nm (zkey b n q) = some (zrw F M 102 (64 * k)) := by
  obtain ⟨gk, a1, a2⟩ := h
  have hw := a1 k.toNat (by omega)
  rw [a2, show (ze M 81 14).toNat - k.toNat = (ze M 81 14).toNat - k.toNat - 1 + 1 by omega]
  show (if gk k.toNat = zkey b n q then some (zrw F M 102 (64 * (k.toNat : Int))) else _) = _
  rw [if_pos ((hw.i (zWrd.k hq)).mp (by rw [← hv, he])), Int.toNat_of_nonneg k0]
theorem zRsr_n {x k : Int} (h : zRsr nm F b n M x k) (k1 : ze M 81 14 ≤ k) : zfd nm x = none := by
  obtain ⟨gk, a1, a2⟩ := h
  rw [a2, show (ze M 81 14).toNat - k.toNat = 0 by omega]
  rfl
end ZRN
section ZRK
variable {F n : Nat} {K : Nat → Nat → Int} {b : Nat → Int} {nm : List (Int × (Nat → Int))} {M N P Mz Nz : zMem} {S C : List Nat}
theorem zFtR.fr (hf : zFr S C M N) (h : zFtR F K M) (hs : 38 ∉ S ∧ 39 ∉ S) (hc : 95 ∉ C) : zFtR F K N := by
  unfold zFtR
  rw [hf.e hs.1, hf.e hs.2]
  intro h0 t t0 t1
  rw [show zrw F N 95 (64 * t) = zrw F M 95 (64 * t) from zrw_c (fun k _ => hf.jg (by decide) hc _)]
  exact h h0 t t0 t1
theorem zAcc.m {lo : Int} {v : Nat → Int} {ok : Prop} (h : zAcc F lo v ok N P) (h39 : ze N 81 39 = ze M 81 39) (h95 : ∀ x : Nat, zg N 95 x = zg M 95 x) : zAcc F lo v ok M P := by
  obtain ⟨a1, a2, a3⟩ := h
  rw [h39] at a1 a3
  exact ⟨a1, fun x hx => (a2 x hx).trans (h95 x), a3⟩
theorem zRI.two (hI : zRI F K 1 M) (h1 : 1 ≤ ze M 81 41) (hx : 2 ≤ ze M 100 (ze M 81 41 - 1).toNat) : 2 ≤ ze M 81 38 ∧ ze M 81 38 ≤ 40 := by
  have hb := hI.bd
  have h4 := hI.2.2.2.1
  have hh := zrS_h h1
  cases hs : zrS M with
  | nil => rw [hs] at hh; cases hh
  | cons y r =>
    rw [hs] at hh h4 hb
    injection hh with hh
    have h5 : zbn (y :: r) = zbn r + 1 := by rw [zbn_c, if_pos (by omega)]
    omega
theorem zRI.one (hI : zRI F K 1 M) : 1 ≤ ze M 81 38 ∧ ze M 81 38 ≤ 40 := by
  have hb := hI.bd
  have h4 := hI.2.2.2.1
  omega
theorem zRI.ft {e : Int} (hI : zRI F K e M) : zFtR F K M := hI.2.2.2.2.2.2.2
theorem zop_2 {v w : Nat → Int} : (fun k => v k + 1 * w k) = zop F K 2 v w := funext fun k => by
  show v k + 1 * w k = v k + w k
  rw [Int.one_mul]
theorem zop_3 {v w : Nat → Int} : (fun k => v k + -1 * w k) = zop F K 3 v w := funext fun k => by
  show v k + -1 * w k = v k - w k
  rw [Int.neg_one_mul]
  omega
theorem zRI_wkB (hF : F ≤ 27) (hI : zRI F K 1 Mz) {x : Int} (h1 : 1 ≤ ze Mz 81 41) (hx : x = ze Mz 100 (ze Mz 81 41 - 1).toNat) (hx4 : x = 4) (h41 : ze Nz 81 41 = ze Mz 81 41 - 1) (hc : ∀ i : Nat, ze Nz 100 i = ze Mz 100 i) (h42 : ze Nz 81 42 = ze Mz 81 42) (h38 : ze Nz 81 38 = ze Mz 81 38 - 1) (ha : zAcc F (64 * (ze Mz 81 38 - 2)) (zprd F K (zrw F Mz 95 (64 * (ze Mz 81 38 - 2))) (zrw F Mz 95 (64 * (ze Mz 81 38 - 1)))) (zmok F K (zrw F Mz 95 (64 * (ze Mz 81 38 - 2))) (zrw F Mz 95 (64 * (ze Mz 81 38 - 1))) ∧ zfit F K (zprd F K (zrw F Mz 95 (64 * (ze Mz 81 38 - 2))) (zrw F Mz 95 (64 * (ze Mz 81 38 - 1))))) Mz Nz) : zRI F K 1 Nz ∧ zrS Mz = x.toNat :: zrS Nz ∧ (zrS Nz, zrW F Nz, zrG Nz) = zwk1 F K (zrS Mz, zrW F Mz, zrG Mz) ∧ (zrS Nz).head? ≠ some 1 ∧ 2 ≤ ze Mz 81 38 := by
  subst hx4
  exact zRI_wk hF hI h1 hx (by omega) h41 hc h42 h38 rfl ⟨fun h => ⟨fun _ => h.1, h.2⟩, fun h => ⟨h.1 rfl, h.2⟩⟩ ha
theorem zRI_wkA (hF : F ≤ 27) (hI : zRI F K 1 Mz) {x s : Int} (h1 : 1 ≤ ze Mz 81 41) (hx : x = ze Mz 100 (ze Mz 81 41 - 1).toNat) (hs : (x = 2 ∧ s = 1) ∨ (x = 3 ∧ s = -1)) (h41 : ze Nz 81 41 = ze Mz 81 41 - 1) (hc : ∀ i : Nat, ze Nz 100 i = ze Mz 100 i) (h42 : ze Nz 81 42 = ze Mz 81 42) (h38 : ze Nz 81 38 = ze Mz 81 38 - 1) (ha : zAcc F (64 * (ze Mz 81 38 - 2)) (fun k => zrw F Mz 95 (64 * (ze Mz 81 38 - 2)) k + s * zrw F Mz 95 (64 * (ze Mz 81 38 - 1)) k) (zfit F K (fun k => zrw F Mz 95 (64 * (ze Mz 81 38 - 2)) k + s * zrw F Mz 95 (64 * (ze Mz 81 38 - 1)) k)) Mz Nz) : zRI F K 1 Nz ∧ zrS Mz = x.toNat :: zrS Nz ∧ (zrS Nz, zrW F Nz, zrG Nz) = zwk1 F K (zrS Mz, zrW F Mz, zrG Mz) ∧ (zrS Nz).head? ≠ some 1 ∧ 2 ≤ ze Mz 81 38 := by
  rcases hs with ⟨rfl, rfl⟩ | ⟨rfl, rfl⟩
  · exact zRI_wk hF hI h1 hx (by omega) h41 hc h42 h38 zop_2 ⟨fun h => ⟨fun q => absurd q (by decide), h⟩, fun h => h.2⟩ ha
  · exact zRI_wk hF hI h1 hx (by omega) h41 hc h42 h38 zop_3 ⟨fun h => ⟨fun q => absurd q (by decide), h⟩, fun h => h.2⟩ ha
def zWkI (F : Nat) (K : Nat → Nat → Int) (x : Nat) (M N : zMem) : Prop := zrk F K x (zrS M).length (zrS M, zrW F M, zrG M) = zrk F K x (zrS N).length (zrS N, zrW F N, zrG N)
theorem zWkI_s {x y : Nat} (h : zWkI F K x M N) (hS : zrS N = y :: zrS P) (hw : (zrS P, zrW F P, zrG P) = zwk1 F K (zrS N, zrW F N, zrG N)) (hy : x ≤ y) : zWkI F K x M P := by
  unfold zWkI at h ⊢
  rw [h, hw, hS, List.length_cons, zrk_s hy]
theorem zWkI_e {x : Nat} (h : zWkI F K x M N) (he : ∀ y, (zrS N).head? = some y → y < x) : (zrS N, zrW F N, zrG N) = zrk F K x (zrS M).length (zrS M, zrW F M, zrG M) := (h.trans (zrk_e (t := (zrS N, zrW F N, zrG N)) he _)).symm
theorem zwk1_t : ∀ t : zTr, (zwk1 F K t).1 = t.1.tail
  | ([], _, _) => rfl
  | (_ :: _, [], _) => rfl
  | (_ :: _, [_], _) => rfl
  | (_ :: _, _ :: _ :: _, true) => rfl
  | (x :: sg, w :: v :: vs, false) => by
    show (zif ((x = 4 → zmok F K v w) ∧ zfit F K (zop F K x v w)) (sg, zop F K x v w :: vs, false) (sg, [], true) : zTr).1 = sg
    by_cases h : (x = 4 → zmok F K v w) ∧ zfit F K (zop F K x v w)
    · rw [zif_t h]
    · rw [zif_f h]
theorem zrk_m {x : Nat} (hx : 1 ≤ x) : ∀ (k : Nat) (t : zTr), 0 ∈ (zrk F K x k t).1 ↔ 0 ∈ t.1
  | 0, _ => Iff.rfl
  | k + 1, ([], vs, g) => Iff.rfl
  | k + 1, (y :: r, vs, g) => by
    show 0 ∈ (if x ≤ y then zrk F K x k (zwk1 F K (y :: r, vs, g)) else (y :: r, vs, g)).1 ↔ _
    by_cases h : x ≤ y
    · rw [if_pos h, zrk_m hx k, zwk1_t]
      show 0 ∈ r ↔ 0 ∈ y :: r
      rw [List.mem_cons]
      exact ⟨Or.inr, fun q => q.elim (fun e => absurd e (by omega)) id⟩
    · rw [if_neg h]
theorem zhd_0 {l : List Nat} (hm : 0 ∈ l) (h1 : l.head? ≠ some 1) (h2 : ∀ y, l.head? = some y → y < 2) : l.head? = some 0 := by
  cases l with
  | nil => exact absurd hm List.not_mem_nil
  | cons y r =>
    have h3 := h2 y rfl
    have h4 : y ≠ 1 := fun e => h1 (by rw [e]; rfl)
    rw [show y = 0 by omega]
    rfl
theorem zhd_n {l : List Nat} (hm : ¬ 0 ∈ l) (h1 : l.head? ≠ some 1) (h2 : ∀ y, l.head? = some y → y < 2) : l = [] := by
  cases l with
  | nil => rfl
  | cons y r =>
    have h3 := h2 y rfl
    have h4 : y ≠ 1 := fun e => h1 (by rw [e]; rfl)
    exact absurd (by rw [show y = 0 by omega]; exact List.mem_cons_self) hm
theorem zRI_pz (hF : F ≤ 27) (hI : zRI F K 0 Mz) {u : Nat → Int} (hu : zfit F K u) (h41 : ze Nz 81 41 = ze Mz 81 41) (hc : ∀ i : Nat, ze Nz 100 i = ze Mz 100 i) (h42 : ze Nz 81 42 = ze Mz 81 42) (h38 : ze Nz 81 38 = ze Mz 81 38 + 1) (ha : zAcc F (64 * ze Mz 81 38) u (zfit F K u) Mz Nz) : zRI F K 1 Nz ∧ zrS Nz = zrS Mz ∧ zrW F Nz = zpu (zrG Mz) u (zrW F Mz) ∧ zrG Nz = zrG Mz := by
  obtain ⟨q1, q2, q3⟩ := ha
  have h5 := hI.2.2.2.2.1
  have h39 : ze Nz 81 39 = ze Mz 81 39 := by
    by_cases g : ze Mz 81 39 = 0
    · rcases q3 g with ⟨a, c, e⟩ | ⟨a, c⟩
      · omega
      · exact absurd hu a
    · omega
  refine zRI_pv hF hI h41 hc h42 h38 h39 q2 (fun g => ?_)
  rcases q3 g with ⟨a, c, e⟩ | ⟨a, c⟩
  · exact ⟨e, hu⟩
  · exact absurd hu a
theorem zr0_x {x : Int} (h : zisg b n (ze Mz 81 4).toNat 45 ∨ zisg b n (ze Mz 81 4).toNat 40) (hz : zuo (zrS Mz) (ze Mz 81 43).toNat) (hx : (x = 0 ∧ b (ze Mz 81 4).toNat = 40) ∨ (x = 1 ∧ b (ze Mz 81 4).toNat ≠ 40)) (hS : zrS Nz = x.toNat :: zrS Mz) (hW : zrW F Nz = zrW F Mz) (hG : zrG Nz = zrG Mz) (hu : ze Nz 81 43 = ze Mz 81 43 + 1) (u0 : 0 ≤ ze Mz 81 43) (hp : (ze Nz 81 4).toNat = znx b n (ze Mz 81 4).toNat) : zfs b n F K nm (zRst 0 F Mz) = zRst 0 F Nz := by
  rcases hx with ⟨rfl, e⟩ | ⟨rfl, e⟩
  · exact zr0_o (c := 1) h hz (Or.inl ⟨rfl, e⟩) hS hW hG hu u0 hp
  · exact zr0_o (c := 0) h hz (Or.inr ⟨rfl, e⟩) hS hW hG hu u0 hp
theorem zr2_x {x : Int} (hk : zkd b n (ze Mz 81 4).toNat = 3) (hw : (b (ze Mz 81 4).toNat = 42 ∧ x = 4) ∨ (b (ze Mz 81 4).toNat = 43 ∧ x = 2) ∨ (b (ze Mz 81 4).toNat = 45 ∧ x = 3)) (hS : zrS Nz = x.toNat :: (zrk F K (if x = 4 then 4 else 2 : Nat) (zrS Mz).length (zrS Mz, zrW F Mz, zrG Mz)).1) (hW : zrW F Nz = (zrk F K (if x = 4 then 4 else 2 : Nat) (zrS Mz).length (zrS Mz, zrW F Mz, zrG Mz)).2.1) (hG : zrG Nz = (zrk F K (if x = 4 then 4 else 2 : Nat) (zrS Mz).length (zrS Mz, zrW F Mz, zrG Mz)).2.2) (hu : ze Nz 81 43 = ze Mz 81 43) (hp : (ze Nz 81 4).toNat = znx b n (ze Mz 81 4).toNat) : zfs b n F K nm (zRst 2 F Mz) = zRst 0 F Nz := by
  rcases hw with ⟨hc, rfl⟩ | ⟨hc, rfl⟩ | ⟨hc, rfl⟩
  · exact zr2_s (w := 4) hk (Or.inl ⟨hc, rfl⟩) hS hW hG hu hp
  · exact zr2_s (w := 2) hk (Or.inr (Or.inl ⟨hc, rfl⟩)) hS hW hG hu hp
  · exact zr2_s (w := 3) hk (Or.inr (Or.inr ⟨hc, rfl⟩)) hS hW hG hu hp
def zClI (b : Nat → Int) (n F : Nat) (K : Nat → Nat → Int) (nm : List (Int × (Nat → Int))) (M N : zMem) : Prop := zfs b n F K nm (zRst 1 F M) = (2, (ze N 81 4).toNat, (zng (zrS N) (zrW F N)).1, (zng (zrS N) (zrW F N)).2, (ze N 81 43).toNat, zrG N)
theorem zClI_a (h : ¬ zisg b n (ze M 81 4).toNat 94) : zClI b n F K nm M M := by
  unfold zClI zRst
  rw [zfs_1, zif_f h]
theorem zClI_c {x : Int} (h : zisg b n (ze M 81 4).toNat 94) (h2 : zkd b n (znx b n (ze M 81 4).toNat) = 2 ∧ znu b n (znx b n (ze M 81 4).toNat) ≤ 9) (hx : x = znu b n (znx b n (ze M 81 4).toNat)) (hS : zrS N = zrS M) (hW : zrW F N = (zpo F K x.toNat (zrW F M) (zrG M)).1) (hG : zrG N = (zpo F K x.toNat (zrW F M) (zrG M)).2) (hu : ze N 81 43 = ze M 81 43) (hp : (ze N 81 4).toNat = znx b n (znx b n (ze M 81 4).toNat)) : zClI b n F K nm M N := by
  subst hx
  unfold zClI zRst
  rw [zfs_1, zif_t h, zif_t h2, hS, hW, hG, hp, hu]
theorem zClI_s (h : zClI b n F K nm M N) (hz : zng (zrS N) (zrW F N) = zng (zrS P) (zrW F P)) (hG : zrG P = zrG N) (hu : ze P 81 43 = ze N 81 43) (hp : ze P 81 4 = ze N 81 4) : zClI b n F K nm M P := by
  unfold zClI at h ⊢
  rw [h, hz, hG, hu, hp]
theorem zClI_e (h : zClI b n F K nm M N) (hh : (zrS N).head? ≠ some 1) : zfs b n F K nm (zRst 1 F M) = zRst 2 F N := by
  unfold zClI at h
  rw [h, zng_e hh]
  rfl
def zmF (n : Nat) (M : zMem) : Nat := if ze M 81 7 = 0 then (n - ze M 81 4).toNat + 1 else 0
theorem zmF_c (n : Nat) (M : zMem) : (ze M 81 7 = 0 ∧ zmF n M = (n - ze M 81 4).toNat + 1) ∨ (ze M 81 7 ≠ 0 ∧ zmF n M = 0) := by
  unfold zmF
  by_cases h : ze M 81 7 = 0
  · exact Or.inl ⟨h, if_pos h⟩
  · exact Or.inr ⟨h, if_neg h⟩
theorem zkd_n0 {s : Nat} (h : zkd b n s ≠ 0) : s < n := by
  by_cases g : s < n
  · exact g
  · exact absurd (zkd_0 (by omega)).1 h
theorem znx_g {s : Nat} (h : zkd b n s ≠ 0) : s < znx b n s := znx_gt (zkd_n0 h)
theorem znx_ge {s : Nat} : s ≤ znx b n s := Nat.le_trans zen_ge zru_ge
end ZRK
