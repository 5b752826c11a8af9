set_option maxHeartbeats 40000000 in
theorem c_M_readsN (l : Launch) (Mz : zMem) (hW : zMt Mz) (b_ : Nat → Int) (n_ : Nat) (p0_ : zRb b_ n_ Mz) (p1_ : zRt b_ n_ Mz) (p2_ : ze Mz 81 7 = 0) (p3_ : ze Mz 81 13 = 0) (p4_ : ze Mz 81 14 = 0) (p5_ : zB 83 24 0 5 Mz) (p6_ : zB 85 144 0 5 Mz) : zC l m_M_reads 0 0 [.ref 81] Mz (zpV [3, 4, 5, 6, 7, 8, 11, 12, 13, 14, 20, 25, 26, 38, 39, 41, 42, 43] [83, 85, 86, 87, 88, 89, 90, 91, 92, 93, 94, 95, 96, 97, 100, 101, 102] Mz (fun N => zRt b_ n_ N ∧ 0 ≤ ze N 81 13 ∧ ze N 81 13 ≤ 4 ∧ 0 ≤ ze N 81 14 ∧ ze N 81 14 ≤ 8 ∧ zB 83 24 0 5 N ∧ zB 85 144 0 5 N ∧ (((1 ≤ ze N 81 7 ∧ zTrB b_ n_ (ze Mz 81 4).toNat) ∨ (ze N 81 7 = 0 ∧ 1 ≤ ze N 81 12 ∧ ze N 81 12 ≤ 6 ∧ zPm N ∧ zFin N ∧ (∃ T : zGT, ∃ mv : List Nat, ∃ P : Nat, ∃ nm : List (Int × (Nat → Int)), T ∈ gTabs ∧ zGB T N ∧ zTrN b_ n_ (ze Mz 81 4).toNat P mv T nm ∧ zMvs N = mv ∧ ze N 81 12 = (P : Int) ∧ zCdS (P : Int) mv T N ∧ zRNm nm (gF T).length (gmkI T) b_ n_ N)))))) := by
  refine zC_of (L0 := [some (.ref 81)]) md_M_reads (Nat.le_of_ble_eq_true rfl) rfl ?_ zQ0
  have hf : zFr [3, 4, 5, 6, 7, 8, 11, 12, 13, 14, 20, 25, 26, 38, 39, 41, 42, 43] [83, 85, 86, 87, 88, 89, 90, 91, 92, 93, 94, 95, 96, 97, 100, 101, 102] Mz Mz := zFr.rf
  have r_3 := ze_r Mz 81 3
  have r_4 := ze_r Mz 81 4
  have r_5 := ze_r Mz 81 5
  have r_7 := ze_r Mz 81 7
  have r_12 := ze_r Mz 81 12
  have r_13 := ze_r Mz 81 13
  have r_14 := ze_r Mz 81 14
  have j_88 : ∀ (N1_ : zMem) (hs2_ : zFr [3, 4, 5, 6, 7, 8, 11, 12, 13, 14, 20, 25, 26, 38, 39, 41, 42, 43] [83, 85, 86, 87, 88, 89, 90, 91, 92, 93, 94, 95, 96, 97, 100, 101, 102] Mz N1_) (i3_ : zRt b_ n_ N1_) (i4_ : 0 ≤ ze N1_ 81 13) (i5_ : ze N1_ 81 13 ≤ 4) (i6_ : 0 ≤ ze N1_ 81 14) (i7_ : ze N1_ 81 14 ≤ 8) (i8_ : (1 ≤ ze N1_ 81 7 ∧ zTrB b_ n_ (ze Mz 81 4).toNat) ∨ (ze N1_ 81 7 = 0 ∧ 1 ≤ ze N1_ 81 12 ∧ ze N1_ 81 12 ≤ 6 ∧ zPm N1_ ∧ zFin N1_ ∧ (∃ T : zGT, ∃ mv : List Nat, ∃ P q q2 : Nat, ∃ nm : List (Int × (Nat → Int)), T ∈ gTabs ∧ zGB T N1_ ∧ zTm mv T ∧ zHd b_ n_ (ze Mz 81 4).toNat P q ∧ zRg (zbs b_ n_ P) (0, q, []) (1, q2, mv) ∧ zRg (zls b_ n_ (gF T).length (gmkI T)) (0, q2, []) (0, (ze N1_ 81 4).toNat, nm) ∧ zRNm nm (gF T).length (gmkI T) b_ n_ N1_ ∧ zMvs N1_ = mv ∧ ze N1_ 81 12 = (P : Int) ∧ zCdS (P : Int) mv T N1_) ∧ ¬ (zkd b_ n_ (ze N1_ 81 4).toNat = 1 ∧ zkey b_ n_ (ze N1_ 81 4).toNat = zkw 2))) (i9_ : zB 83 24 0 5 N1_) (i10_ : zB 85 144 0 5 N1_), zW l m_M_reads (zn Mz + 0, zw Mz + 0) N1_ 88 [some (.ref 81)] [] (zpV [3, 4, 5, 6, 7, 8, 11, 12, 13, 14, 20, 25, 26, 38, 39, 41, 42, 43] [83, 85, 86, 87, 88, 89, 90, 91, 92, 93, 94, 95, 96, 97, 100, 101, 102] Mz (fun N => zRt b_ n_ N ∧ 0 ≤ ze N 81 13 ∧ ze N 81 13 ≤ 4 ∧ 0 ≤ ze N 81 14 ∧ ze N 81 14 ≤ 8 ∧ zB 83 24 0 5 N ∧ zB 85 144 0 5 N ∧ (((1 ≤ ze N 81 7 ∧ zTrB b_ n_ (ze Mz 81 4).toNat) ∨ (ze N 81 7 = 0 ∧ 1 ≤ ze N 81 12 ∧ ze N 81 12 ≤ 6 ∧ zPm N ∧ zFin N ∧ (∃ T : zGT, ∃ mv : List Nat, ∃ P : Nat, ∃ nm : List (Int × (Nat → Int)), T ∈ gTabs ∧ zGB T N ∧ zTrN b_ n_ (ze Mz 81 4).toNat P mv T nm ∧ zMvs N = mv ∧ ze N 81 12 = (P : Int) ∧ zCdS (P : Int) mv T N ∧ zRNm nm (gF T).length (gmkI T) b_ n_ N)))))) := by
    intro N1_ hs2_ i3_ i4_ i5_ i6_ i7_ i8_ i9_ i10_
    have hf_N1_ := hf.tr hs2_ (by decide +kernel) (by decide +kernel)
    have r3_N1_ := ze_r N1_ 81 3
    have r4_N1_ := ze_r N1_ 81 4
    have r5_N1_ := ze_r N1_ 81 5
    have r7_N1_ := ze_r N1_ 81 7
    have r12_N1_ := ze_r N1_ 81 12
    have r13_N1_ := ze_r N1_ 81 13
    have r14_N1_ := ze_r N1_ 81 14
    rcases i8_ with ⟨hl88_0_i8_, hl88_1_i8_⟩ | ⟨hl88_0_i8_, hl88_1_i8_, hl88_2_i8_, hl88_3_i8_, hl88_4_i8_, hl88_5_i8_, hl88_6_i8_⟩
    · refine zw_aload_n (pc := 88) (n := 0) (x := 81) rfl (zdal_p dlC_M_reads_72 (i := 16) rfl) ?_
      refine zr_callV (hf_N1_.w hW) hf_N1_.x (pc := 89) [] [] l_M_183 (c_M_isGood l N1_ (hf_N1_.w hW) ) rfl rfl rfl (by decide) (Nat.le_of_ble_eq_true rfl) (zdal_p dlC_M_reads_72 (i := 17) rfl) ?_
      rintro _ N12_ ⟨v13_, rfl, ⟨hv13_a, hv13_b⟩, hsN12_, hp0_N12_⟩
      obtain rfl := hsN12_.eq.symm
      replace hp0_N12_ : ((v13_ = 1 ∧ ze N1_ 81 7 = 0) ∨ (v13_ = 0 ∧ ze N1_ 81 7 ≠ 0)) := hp0_N12_
      rcases hp0_N12_ with ⟨rfl, ha89_0_hp0_N12_⟩ | ⟨rfl, ha89_0_hp0_N12_⟩
      · exfalso; (exact zo_281 ha89_0_hp0_N12_ hl88_0_i8_)
      · show zW l m_M_reads (zn Mz + 0, zw Mz + 0) N1_ 92 [some (.ref 81)] [.int (Int32.ofInt 0)] _
        refine zr_if_eq (pc := 92) (tgt := 107) ⟨(by decide), (by decide)⟩ (by decide) (zdal_p dlC_M_reads_72 (i := 18) rfl) (fun hc_92 => ?_) (fun hc_92 => ?_)
        · exact zr_vret (pc := 107) rfl hf_N1_ ⟨i3_, (show 0 ≤ ze N1_ 81 13 by first | (exact i4_) | assumption), (show ze N1_ 81 13 ≤ 4 by first | (exact i5_) | assumption), (show 0 ≤ ze N1_ 81 14 by first | (exact i6_) | assumption), (show ze N1_ 81 14 ≤ 8 by first | (exact i7_) | assumption), i9_, i10_, (show ((1 ≤ ze N1_ 81 7 ∧ zTrB b_ n_ (ze Mz 81 4).toNat) ∨ (ze N1_ 81 7 = 0 ∧ 1 ≤ ze N1_ 81 12 ∧ ze N1_ 81 12 ≤ 6 ∧ zPm N1_ ∧ zFin N1_ ∧ (∃ T : zGT, ∃ mv : List Nat, ∃ P : Nat, ∃ nm : List (Int × (Nat → Int)), T ∈ gTabs ∧ zGB T N1_ ∧ zTrN b_ n_ (ze Mz 81 4).toNat P mv T nm ∧ zMvs N1_ = mv ∧ ze N1_ 81 12 = (P : Int) ∧ zCdS (P : Int) mv T N1_ ∧ zRNm nm (gF T).length (gmkI T) b_ n_ N1_))) from Or.inl (⟨(show 1 ≤ ze N1_ 81 7 by first | (exact hl88_0_i8_) | assumption | exact hrt_), (show zTrB b_ n_ (ze Mz 81 4).toNat by first | (exact hl88_1_i8_) | assumption | exact hrt_)⟩))⟩ (zdal_p dlC_M_reads_73 (i := 1) rfl)
        · exact absurd hc_92 (by decide)
    · as_aux_lemma =>
        have hPm_ := hl88_3_i8_
        have hFn_ := hl88_4_i8_
        have hLT_ := hl88_5_i8_
        have hnk_ := hl88_6_i8_
        have h5_ := i3_.2.2.1
        refine zw_aload_n (pc := 88) (n := 0) (x := 81) rfl (zdal_p dlC_M_reads_72 (i := 16) rfl) ?_
        refine zr_callV (hf_N1_.w hW) hf_N1_.x (pc := 89) [] [] l_M_183 (c_M_isGood l N1_ (hf_N1_.w hW) ) rfl rfl rfl (by decide) (Nat.le_of_ble_eq_true rfl) (zdal_p dlC_M_reads_72 (i := 17) rfl) ?_
        rintro _ N14_ ⟨v15_, rfl, ⟨hv15_a, hv15_b⟩, hsN14_, hp0_N14_⟩
        obtain rfl := hsN14_.eq.symm
        replace hp0_N14_ : ((v15_ = 1 ∧ ze N1_ 81 7 = 0) ∨ (v15_ = 0 ∧ ze N1_ 81 7 ≠ 0)) := hp0_N14_
        rcases hp0_N14_ with ⟨rfl, ha89_0_hp0_N14_⟩ | ⟨rfl, ha89_0_hp0_N14_⟩
        · as_aux_lemma =>
            show zW l m_M_reads (zn Mz + 0, zw Mz + 0) N1_ 92 [some (.ref 81)] [.int (Int32.ofInt 1)] _
            refine zr_if_eq (pc := 92) (tgt := 107) ⟨(by decide), (by decide)⟩ (by decide) (zdal_p dlC_M_reads_72 (i := 18) rfl) (fun hc_92 => ?_) (fun hc_92 => ?_)
            · exact absurd hc_92 (by decide)
            · as_aux_lemma =>
                refine zw_aload_n (pc := 95) (n := 0) (x := 81) rfl (zdal_p dlC_M_reads_72 (i := 19) rfl) ?_
                refine zr_getI (hf_N1_.w hW) (pc := 96) f_M_155 rfl (zdal_p dlC_M_reads_72 (i := 20) rfl) ?_
                refine zr_if_eq (pc := 99) (tgt := 107) ⟨(ze_r N1_ 81 5).1, (ze_r N1_ 81 5).2⟩ (by decide) (zdal_p dlC_M_reads_72 (i := 21) rfl) (fun hc_99 => ?_) (fun hc_99 => ?_)
                · have hok_ : (∃ T : zGT, ∃ mv : List Nat, ∃ P : Nat, ∃ nm : List (Int × (Nat → Int)), T ∈ gTabs ∧ zGB T N1_ ∧ zTrN b_ n_ (ze Mz 81 4).toNat P mv T nm ∧ zMvs N1_ = mv ∧ ze N1_ 81 12 = (P : Int) ∧ zCdS (P : Int) mv T N1_ ∧ zRNm nm (gF T).length (gmkI T) b_ n_ N1_) := by obtain ⟨T, mv_, P_, q_, q2_, nm_, hTt, hGB, hTm_, hHd_, hrb_, hrl_, hnm_, hmq_, hPq_, hCd_⟩ := id hLT_; exact ⟨T, mv_, P_, nm_, hTt, hGB, ⟨q_, q2_, (ze N1_ 81 4).toNat, hHd_, hrb_, hTt, hTm_, hrl_.tr (zRg.st (zls_e hnk_ (by (exact zo_805 h5_ hc_99))))⟩, hmq_, hPq_, hCd_, hnm_⟩
                  exact zr_vret (pc := 107) rfl hf_N1_ ⟨i3_, (show 0 ≤ ze N1_ 81 13 by first | (exact i4_) | assumption), (show ze N1_ 81 13 ≤ 4 by first | (exact i5_) | assumption), (show 0 ≤ ze N1_ 81 14 by first | (exact i6_) | assumption), (show ze N1_ 81 14 ≤ 8 by first | (exact i7_) | assumption), i9_, i10_, (show ((1 ≤ ze N1_ 81 7 ∧ zTrB b_ n_ (ze Mz 81 4).toNat) ∨ (ze N1_ 81 7 = 0 ∧ 1 ≤ ze N1_ 81 12 ∧ ze N1_ 81 12 ≤ 6 ∧ zPm N1_ ∧ zFin N1_ ∧ (∃ T : zGT, ∃ mv : List Nat, ∃ P : Nat, ∃ nm : List (Int × (Nat → Int)), T ∈ gTabs ∧ zGB T N1_ ∧ zTrN b_ n_ (ze Mz 81 4).toNat P mv T nm ∧ zMvs N1_ = mv ∧ ze N1_ 81 12 = (P : Int) ∧ zCdS (P : Int) mv T N1_ ∧ zRNm nm (gF T).length (gmkI T) b_ n_ N1_))) from Or.inr (⟨(show ze N1_ 81 7 = 0 by first | (exact hl88_0_i8_) | assumption | exact hok_), (show 1 ≤ ze N1_ 81 12 by first | (exact hl88_1_i8_) | assumption | exact hok_), (show ze N1_ 81 12 ≤ 6 by first | (exact hl88_2_i8_) | assumption | exact hok_), (show zPm N1_ by first | (exact hl88_3_i8_) | assumption | exact hok_), (show zFin N1_ by first | (exact hl88_4_i8_) | assumption | exact hok_), (show (∃ T : zGT, ∃ mv : List Nat, ∃ P : Nat, ∃ nm : List (Int × (Nat → Int)), T ∈ gTabs ∧ zGB T N1_ ∧ zTrN b_ n_ (ze Mz 81 4).toNat P mv T nm ∧ zMvs N1_ = mv ∧ ze N1_ 81 12 = (P : Int) ∧ zCdS (P : Int) mv T N1_ ∧ zRNm nm (gF T).length (gmkI T) b_ n_ N1_) by first | (exact hok_) | assumption | exact hok_)⟩))⟩ (zdal_p dlC_M_reads_73 (i := 1) rfl)
                · as_aux_lemma =>
                    have hrt_ : zTrB b_ n_ (ze Mz 81 4).toNat := by obtain ⟨T, mv_, P_, q_, q2_, nm_, hTt, hGB, hTm_, hHd_, hrb_, hrl_, hnm_, hmq_, hPq_, hCd_⟩ := id hLT_; exact Or.inr (Or.inr ⟨P_, q_, q2_, mv_, T, hHd_, hrb_, hTt, hTm_, hrl_.tr (zRg.st (zls_ef hnk_ (by (exact zo_806 h5_ hc_99))))⟩)
                    refine zw_aload_n (pc := 102) (n := 0) (x := 81) rfl (zdal_p dlC_M_reads_72 (i := 22) rfl) ?_
                    refine zw_iconst (pc := 103) (v := Int32.ofInt 2) (by decide) (zdal_p dlC_M_reads_72 (i := 23) rfl) ?_
                    refine zr_callV (hf_N1_.w hW) hf_N1_.x (pc := 104) [.int (Int32.ofInt 2)] [] l_M_190 (c_M_wrongF l N1_ (hf_N1_.w hW) 2 (by decide) (by decide) (show 1 ≤ 2 by first | (decide) | assumption)) rfl rfl rfl (by decide) (Nat.le_of_ble_eq_true rfl) (zdal_p dlC_M_reads_73 (i := 0) rfl) ?_
                    rintro _ N16_ ⟨rfl, hsN16_, hp0_N16_⟩
                    replace hp0_N16_ : 1 ≤ ze N16_ 81 7 := hp0_N16_
                    have hf_N16_ := hf_N1_.tr hsN16_ (by decide +kernel) (by decide +kernel)
                    have e3_N16_ : ze N16_ 81 3 = ze N1_ 81 3 := hsN16_.e (by decide)
                    have e4_N16_ : ze N16_ 81 4 = ze N1_ 81 4 := hsN16_.e (by decide)
                    have e5_N16_ : ze N16_ 81 5 = ze N1_ 81 5 := hsN16_.e (by decide)
                    have r7_N16_ := ze_r N16_ 81 7
                    have e12_N16_ : ze N16_ 81 12 = ze N1_ 81 12 := hsN16_.e (by decide)
                    have e13_N16_ : ze N16_ 81 13 = ze N1_ 81 13 := hsN16_.e (by decide)
                    have e14_N16_ : ze N16_ 81 14 = ze N1_ 81 14 := hsN16_.e (by decide)
                    have c19_ : zRt b_ n_ N16_ := zRt.fr hsN16_ i3_ (by decide +kernel) (by decide +kernel)
                    have c20_ : zB 83 24 0 5 N16_ := zB.fr hsN16_ i9_ (by decide +kernel) (by decide +kernel)
                    have c21_ : zB 85 144 0 5 N16_ := zB.fr hsN16_ i10_ (by decide +kernel) (by decide +kernel)
                    show zW l m_M_reads (zn Mz + 0, zw Mz + 0) N16_ 107 [some (.ref 81)] [] _
                    exact zr_vret (pc := 107) rfl hf_N16_ ⟨c19_, (show 0 ≤ ze N16_ 81 13 by first | (exact zo_720 e13_N16_ i4_) | assumption), (show ze N16_ 81 13 ≤ 4 by first | (exact zo_807 e13_N16_ i5_) | assumption), (show 0 ≤ ze N16_ 81 14 by first | (exact zo_720 e14_N16_ i6_) | assumption), (show ze N16_ 81 14 ≤ 8 by first | (exact zo_808 e14_N16_ i7_) | assumption), c20_, c21_, (show ((1 ≤ ze N16_ 81 7 ∧ zTrB b_ n_ (ze Mz 81 4).toNat) ∨ (ze N16_ 81 7 = 0 ∧ 1 ≤ ze N16_ 81 12 ∧ ze N16_ 81 12 ≤ 6 ∧ zPm N16_ ∧ zFin N16_ ∧ (∃ T : zGT, ∃ mv : List Nat, ∃ P : Nat, ∃ nm : List (Int × (Nat → Int)), T ∈ gTabs ∧ zGB T N16_ ∧ zTrN b_ n_ (ze Mz 81 4).toNat P mv T nm ∧ zMvs N16_ = mv ∧ ze N16_ 81 12 = (P : Int) ∧ zCdS (P : Int) mv T N16_ ∧ zRNm nm (gF T).length (gmkI T) b_ n_ N16_))) from Or.inl (⟨(show 1 ≤ ze N16_ 81 7 by first | (exact hp0_N16_) | assumption | exact hrt_), (show zTrB b_ n_ (ze Mz 81 4).toNat by first | (exact hrt_) | assumption | exact hrt_)⟩))⟩ (zdal_p dlC_M_reads_73 (i := 1) rfl)
        · exfalso; (exact zo_260 hl88_0_i8_ ha89_0_hp0_N14_)
  have j_60 : ∀ (N22_ : zMem) (hs23_ : zFr [3, 4, 5, 6, 7, 8, 11, 12, 13, 20] [83, 85, 86, 87, 88] Mz N22_) (i24_ : zRt b_ n_ N22_) (i25_ : 0 ≤ ze N22_ 81 13) (i26_ : ze N22_ 81 13 ≤ 4) (i27_ : ze N22_ 81 14 = 0) (i28_ : (1 ≤ ze N22_ 81 7 ∧ zTrB b_ n_ (ze Mz 81 4).toNat) ∨ (ze N22_ 81 7 = 0 ∧ 1 ≤ ze N22_ 81 12 ∧ ze N22_ 81 12 ≤ 6 ∧ zPm N22_ ∧ zFin N22_ ∧ (∃ q : Nat, zHd b_ n_ (ze Mz 81 4).toNat (ze N22_ 81 12).toNat q ∧ zRg (zbs b_ n_ (ze N22_ 81 12).toNat) (0, q, []) (1, (ze N22_ 81 4).toNat, zMvs N22_)))) (i29_ : zB 83 24 0 5 N22_) (i30_ : zB 85 144 0 5 N22_), zW l m_M_reads (zn Mz + 0, zw Mz + 0) N22_ 60 [some (.ref 81)] [] (zpV [3, 4, 5, 6, 7, 8, 11, 12, 13, 14, 20, 25, 26, 38, 39, 41, 42, 43] [83, 85, 86, 87, 88, 89, 90, 91, 92, 93, 94, 95, 96, 97, 100, 101, 102] Mz (fun N => zRt b_ n_ N ∧ 0 ≤ ze N 81 13 ∧ ze N 81 13 ≤ 4 ∧ 0 ≤ ze N 81 14 ∧ ze N 81 14 ≤ 8 ∧ zB 83 24 0 5 N ∧ zB 85 144 0 5 N ∧ (((1 ≤ ze N 81 7 ∧ zTrB b_ n_ (ze Mz 81 4).toNat) ∨ (ze N 81 7 = 0 ∧ 1 ≤ ze N 81 12 ∧ ze N 81 12 ≤ 6 ∧ zPm N ∧ zFin N ∧ (∃ T : zGT, ∃ mv : List Nat, ∃ P : Nat, ∃ nm : List (Int × (Nat → Int)), T ∈ gTabs ∧ zGB T N ∧ zTrN b_ n_ (ze Mz 81 4).toNat P mv T nm ∧ zMvs N = mv ∧ ze N 81 12 = (P : Int) ∧ zCdS (P : Int) mv T N ∧ zRNm nm (gF T).length (gmkI T) b_ n_ N)))))) := by
    intro N22_ hs23_ i24_ i25_ i26_ i27_ i28_ i29_ i30_
    have hf_N22_ := hf.tr hs23_ (by decide +kernel) (by decide +kernel)
    have hb0_N22_ : zFr [3, 4, 5, 6, 7, 8, 11, 12, 13, 14, 20, 25, 26, 38, 39, 41, 42, 43] [83, 85, 86, 87, 88, 89, 90, 91, 92, 93, 94, 95, 96, 97, 100, 101, 102] Mz N22_ := zFr.rf.tr hs23_ (by decide +kernel) (by decide +kernel)
    have r3_N22_ := ze_r N22_ 81 3
    have r4_N22_ := ze_r N22_ 81 4
    have r5_N22_ := ze_r N22_ 81 5
    have r7_N22_ := ze_r N22_ 81 7
    have r12_N22_ := ze_r N22_ 81 12
    have r13_N22_ := ze_r N22_ 81 13
    have e14_N22_ : ze N22_ 81 14 = ze Mz 81 14 := hs23_.e (by decide)
    have c31_ : zRb b_ n_ N22_ := zRb.fr hs23_ p0_ (by decide +kernel) (by decide +kernel)
    rcases i28_ with ⟨hl60_0_i28_, hl60_1_i28_⟩ | ⟨hl60_0_i28_, hl60_1_i28_, hl60_2_i28_, hl60_3_i28_, hl60_4_i28_, hl60_5_i28_⟩
    · as_aux_lemma =>
        refine zw_aload_n (pc := 60) (n := 0) (x := 81) rfl (zdal_p dlC_M_reads_72 (i := 4) rfl) ?_
        refine zr_callV (hf_N22_.w hW) hf_N22_.x (pc := 61) [] [] l_M_183 (c_M_isGood l N22_ (hf_N22_.w hW) ) rfl rfl rfl (by decide) (Nat.le_of_ble_eq_true rfl) (zdal_p dlC_M_reads_72 (i := 5) rfl) ?_
        rintro _ N32_ ⟨v33_, rfl, ⟨hv33_a, hv33_b⟩, hsN32_, hp0_N32_⟩
        obtain rfl := hsN32_.eq.symm
        replace hp0_N32_ : ((v33_ = 1 ∧ ze N22_ 81 7 = 0) ∨ (v33_ = 0 ∧ ze N22_ 81 7 ≠ 0)) := hp0_N32_
        rcases hp0_N32_ with ⟨rfl, ha61_0_hp0_N32_⟩ | ⟨rfl, ha61_0_hp0_N32_⟩
        · exfalso; (exact zo_281 ha61_0_hp0_N32_ hl60_0_i28_)
        · as_aux_lemma =>
            show zW l m_M_reads (zn Mz + 0, zw Mz + 0) N22_ 64 [some (.ref 81)] [.int (Int32.ofInt 0)] _
            refine zr_if_eq (pc := 64) (tgt := 71) ⟨(by decide), (by decide)⟩ (by decide) (zdal_p dlC_M_reads_72 (i := 6) rfl) (fun hc_64 => ?_) (fun hc_64 => ?_)
            · as_aux_lemma =>
                have lp_71 : ∀ (n : Nat) (N34_ : zMem) (hs35_ : zFr [3, 4, 5, 6, 7, 8, 11, 14, 38, 39, 41, 42, 43] [95, 96, 97, 100, 101, 102] N22_ N34_) (i36_ : zRt b_ n_ N34_) (i37_ : 0 ≤ ze N34_ 81 13) (i38_ : ze N34_ 81 13 ≤ 4) (i39_ : 0 ≤ ze N34_ 81 14) (i40_ : ze N34_ 81 14 ≤ 8) (i41_ : (1 ≤ ze N34_ 81 7 ∧ zTrB b_ n_ (ze Mz 81 4).toNat) ∨ (ze N34_ 81 7 = 0 ∧ 1 ≤ ze N34_ 81 12 ∧ ze N34_ 81 12 ≤ 6 ∧ zPm N34_ ∧ zFin N34_ ∧ (∃ T : zGT, ∃ mv : List Nat, ∃ P q q2 : Nat, ∃ nm : List (Int × (Nat → Int)), T ∈ gTabs ∧ zGB T N34_ ∧ zTm mv T ∧ zHd b_ n_ (ze Mz 81 4).toNat P q ∧ zRg (zbs b_ n_ P) (0, q, []) (1, q2, mv) ∧ zRg (zls b_ n_ (gF T).length (gmkI T)) (0, q2, []) (0, (ze N34_ 81 4).toNat, nm) ∧ zRNm nm (gF T).length (gmkI T) b_ n_ N34_ ∧ zMvs N34_ = mv ∧ ze N34_ 81 12 = (P : Int) ∧ zCdS (P : Int) mv T N34_))), zmF n_ N34_ < n → zW l m_M_reads (zn Mz + 0, zw Mz + 0) N34_ 71 [some (.ref 81)] [] (zpV [3, 4, 5, 6, 7, 8, 11, 12, 13, 14, 20, 25, 26, 38, 39, 41, 42, 43] [83, 85, 86, 87, 88, 89, 90, 91, 92, 93, 94, 95, 96, 97, 100, 101, 102] Mz (fun N => zRt b_ n_ N ∧ 0 ≤ ze N 81 13 ∧ ze N 81 13 ≤ 4 ∧ 0 ≤ ze N 81 14 ∧ ze N 81 14 ≤ 8 ∧ zB 83 24 0 5 N ∧ zB 85 144 0 5 N ∧ (((1 ≤ ze N 81 7 ∧ zTrB b_ n_ (ze Mz 81 4).toNat) ∨ (ze N 81 7 = 0 ∧ 1 ≤ ze N 81 12 ∧ ze N 81 12 ≤ 6 ∧ zPm N ∧ zFin N ∧ (∃ T : zGT, ∃ mv : List Nat, ∃ P : Nat, ∃ nm : List (Int × (Nat → Int)), T ∈ gTabs ∧ zGB T N ∧ zTrN b_ n_ (ze Mz 81 4).toNat P mv T nm ∧ zMvs N = mv ∧ ze N 81 12 = (P : Int) ∧ zCdS (P : Int) mv T N ∧ zRNm nm (gF T).length (gmkI T) b_ n_ N)))))) := by
                  clear hv33_a hv33_b
                  intro n
                  induction n with
                  | zero =>
                    intro N34_ hs35_ i36_ i37_ i38_ i39_ i40_ i41_ h0
                    exact absurd h0 (Nat.not_lt_zero _)
                  | succ n ih_71 =>
                    intro N34_ hs35_ i36_ i37_ i38_ i39_ i40_ i41_ hlt_71
                    have hf_N34_ := hf_N22_.tr hs35_ (by decide +kernel) (by decide +kernel)
                    have hb0_N34_ := hb0_N22_.tr hs35_ (by decide +kernel) (by decide +kernel)
                    have r3_N34_ := ze_r N34_ 81 3
                    have r4_N34_ := ze_r N34_ 81 4
                    have r5_N34_ := ze_r N34_ 81 5
                    have r7_N34_ := ze_r N34_ 81 7
                    have e12_N34_ : ze N34_ 81 12 = ze N22_ 81 12 := hs35_.e (by decide)
                    have e13_N34_ : ze N34_ 81 13 = ze N22_ 81 13 := hs35_.e (by decide)
                    have r14_N34_ := ze_r N34_ 81 14
                    have c42_ : zRb b_ n_ N34_ := zRb.fr hs35_ c31_ (by decide +kernel) (by decide +kernel)
                    have c43_ : zB 83 24 0 5 N34_ := zB.fr hs35_ i29_ (by decide +kernel) (by decide +kernel)
                    have c44_ : zB 85 144 0 5 N34_ := zB.fr hs35_ i30_ (by decide +kernel) (by decide +kernel)
                    rcases i41_ with ⟨hl71_0_i41_, hl71_1_i41_⟩ | ⟨hl71_0_i41_, hl71_1_i41_, hl71_2_i41_, hl71_3_i41_, hl71_4_i41_, hl71_5_i41_⟩
                    · refine zw_aload_n (pc := 71) (n := 0) (x := 81) rfl (zdal_p dlC_M_reads_72 (i := 9) rfl) ?_
                      refine zr_ldc2 (pc := 72) (n := 7103860) (by decide) k_M_179 (zdal_p dlC_M_reads_72 (i := 10) rfl) ?_
                      refine zr_callV (hf_N34_.w hW) hf_N34_.x (pc := 75) [.long (Int64.ofInt 7103860)] [] l_M_312 (c_M_isWordF l N34_ (hf_N34_.w hW) 7103860 (by decide) (by decide) b_ n_ i36_) rfl rfl rfl (by decide) (Nat.le_of_ble_eq_true rfl) (zdal_p dlC_M_reads_72 (i := 11) rfl) ?_
                      rintro _ N45_ ⟨v46_, rfl, ⟨hv46_a, hv46_b⟩, hsN45_, hp0_N45_⟩
                      obtain rfl := hsN45_.eq.symm
                      replace hp0_N45_ : ((v46_ = 1 ∧ ze N34_ 81 7 = 0 ∧ zkd b_ n_ (ze N34_ 81 4).toNat = 1 ∧ zke8 b_ n_ (ze N34_ 81 4).toNat = 7103860) ∨ (v46_ = 0 ∧ (ze N34_ 81 7 = 0 → ¬ (zkd b_ n_ (ze N34_ 81 4).toNat = 1 ∧ zke8 b_ n_ (ze N34_ 81 4).toNat = 7103860)))) := hp0_N45_
                      rcases hp0_N45_ with ⟨rfl, ha75_0_hp0_N45_, ha75_1_hp0_N45_, ha75_2_hp0_N45_⟩ | ⟨rfl, ha75_0_hp0_N45_⟩
                      · exfalso; (exact zo_281 ha75_0_hp0_N45_ hl71_0_i41_)
                      · show zW l m_M_reads (zn Mz + 0, zw Mz + 0) N34_ 78 [some (.ref 81)] [.int (Int32.ofInt 0)] _
                        refine zr_if_eq (pc := 78) (tgt := 88) ⟨(by decide), (by decide)⟩ (by decide) d_M_reads_78 (fun hc_78 => ?_) (fun hc_78 => ?_)
                        · exact j_88 N34_ hb0_N34_ i36_ (show 0 ≤ ze N34_ 81 13 by first | (exact i37_) | assumption) (show ze N34_ 81 13 ≤ 4 by first | (exact i38_) | assumption) (show 0 ≤ ze N34_ 81 14 by first | (exact i39_) | assumption) (show ze N34_ 81 14 ≤ 8 by first | (exact i40_) | assumption) (show (1 ≤ ze N34_ 81 7 ∧ zTrB b_ n_ (ze Mz 81 4).toNat) ∨ (ze N34_ 81 7 = 0 ∧ 1 ≤ ze N34_ 81 12 ∧ ze N34_ 81 12 ≤ 6 ∧ zPm N34_ ∧ zFin N34_ ∧ (∃ T : zGT, ∃ mv : List Nat, ∃ P q q2 : Nat, ∃ nm : List (Int × (Nat → Int)), T ∈ gTabs ∧ zGB T N34_ ∧ zTm mv T ∧ zHd b_ n_ (ze Mz 81 4).toNat P q ∧ zRg (zbs b_ n_ P) (0, q, []) (1, q2, mv) ∧ zRg (zls b_ n_ (gF T).length (gmkI T)) (0, q2, []) (0, (ze N34_ 81 4).toNat, nm) ∧ zRNm nm (gF T).length (gmkI T) b_ n_ N34_ ∧ zMvs N34_ = mv ∧ ze N34_ 81 12 = (P : Int) ∧ zCdS (P : Int) mv T N34_) ∧ ¬ (zkd b_ n_ (ze N34_ 81 4).toNat = 1 ∧ zkey b_ n_ (ze N34_ 81 4).toNat = zkw 2)) from Or.inl (⟨(show 1 ≤ ze N34_ 81 7 by first | (exact hl71_0_i41_) | assumption | exact hrt_ | exact hrt2_ | exact hmx_ | exact hPm_ | exact hFn_ | exact hLT2_ | exact hnk_), (show zTrB b_ n_ (ze Mz 81 4).toNat by first | (exact hl60_1_i28_) | assumption | exact hrt_ | exact hrt2_ | exact hmx_ | exact hPm_ | exact hFn_ | exact hLT2_ | exact hnk_)⟩)) c43_ c44_
                        · exact absurd hc_78 (by decide)
                    · as_aux_lemma =>
                        have hPm_ := hl71_3_i41_
                        have hFn_ := hl71_4_i41_
                        have hLT_ := hl71_5_i41_
                        obtain ⟨T, mv_, P_, q_, q2_, nm_, hTt, hGB, hTm_, hHd_, hrb_, hrl_, hnm_, hmq_, hPq_, hCd_⟩ := id hLT_
                        have hB85_ : zB 85 144 0 5 N34_ := hGB.2.1
                        have hRm_ := hGB.rm
                        refine zw_aload_n (pc := 71) (n := 0) (x := 81) rfl (zdal_p dlC_M_reads_72 (i := 9) rfl) ?_
                        refine zr_ldc2 (pc := 72) (n := 7103860) (by decide) k_M_179 (zdal_p dlC_M_reads_72 (i := 10) rfl) ?_
                        refine zr_callV (hf_N34_.w hW) hf_N34_.x (pc := 75) [.long (Int64.ofInt 7103860)] [] l_M_312 (c_M_isWordF l N34_ (hf_N34_.w hW) 7103860 (by decide) (by decide) b_ n_ i36_) rfl rfl rfl (by decide) (Nat.le_of_ble_eq_true rfl) (zdal_p dlC_M_reads_72 (i := 11) rfl) ?_
                        rintro _ N47_ ⟨v48_, rfl, ⟨hv48_a, hv48_b⟩, hsN47_, hp0_N47_⟩
                        obtain rfl := hsN47_.eq.symm
                        replace hp0_N47_ : ((v48_ = 1 ∧ ze N34_ 81 7 = 0 ∧ zkd b_ n_ (ze N34_ 81 4).toNat = 1 ∧ zke8 b_ n_ (ze N34_ 81 4).toNat = 7103860) ∨ (v48_ = 0 ∧ (ze N34_ 81 7 = 0 → ¬ (zkd b_ n_ (ze N34_ 81 4).toNat = 1 ∧ zke8 b_ n_ (ze N34_ 81 4).toNat = 7103860)))) := hp0_N47_
                        rcases hp0_N47_ with ⟨rfl, ha75_0_hp0_N47_, ha75_1_hp0_N47_, ha75_2_hp0_N47_⟩ | ⟨rfl, ha75_0_hp0_N47_⟩
                        · as_aux_lemma =>
                            have hk1_ := ha75_1_hp0_N47_
                            have hks_ := (zke8_w hk1_ (i := 2) (by decide)).mp ha75_2_hp0_N47_
                            show zW l m_M_reads (zn Mz + 0, zw Mz + 0) N34_ 78 [some (.ref 81)] [.int (Int32.ofInt 1)] _
                            refine zr_if_eq (pc := 78) (tgt := 88) ⟨(by decide), (by decide)⟩ (by decide) d_M_reads_78 (fun hc_78 => ?_) (fun hc_78 => ?_)
                            · exact absurd hc_78 (by decide)
                            · as_aux_lemma =>
                                refine zw_aload_n (pc := 81) (n := 0) (x := 81) rfl (zdal_p dlC_M_reads_72 (i := 13) rfl) ?_
                                refine zr_callV (hf_N34_.w hW) hf_N34_.x (pc := 82) [] [] l_M_364 (c_M_letLineF l N34_ (hf_N34_.w hW) (gF T).length (gmkI T) (gT_zTA hTt) b_ n_ nm_ hRm_ c42_ i36_ hnm_ (show ze N34_ 81 7 = 0 by first | (exact hl71_0_i41_) | assumption) (show zkd b_ n_ (ze N34_ 81 4).toNat = 1 by first | (exact ha75_1_hp0_N47_) | assumption) (show zkey b_ n_ (ze N34_ 81 4).toNat = zkw 2 by first | (exact hks_) | assumption)) rfl rfl rfl (by decide) (Nat.le_of_ble_eq_true rfl) (zdal_p dlC_M_reads_72 (i := 14) rfl) ?_
                                rintro _ N49_ ⟨rfl, hsN49_, ⟨hp0_N49_, hp1_N49_, hp2_N49_, hp3_N49_⟩⟩
                                have hf_N49_ := hf_N34_.tr hsN49_ (by decide +kernel) (by decide +kernel)
                                have hb0_N49_ := hb0_N34_.tr hsN49_ (by decide +kernel) (by decide +kernel)
                                have hb1_N49_ := hs35_.tr hsN49_ (by decide +kernel) (by decide +kernel)
                                have r3_N49_ := ze_r N49_ 81 3
                                have r4_N49_ := ze_r N49_ 81 4
                                have r5_N49_ := ze_r N49_ 81 5
                                have r7_N49_ := ze_r N49_ 81 7
                                have e12_N49_ : ze N49_ 81 12 = ze N34_ 81 12 := hsN49_.e (by decide)
                                have e13_N49_ : ze N49_ 81 13 = ze N34_ 81 13 := hsN49_.e (by decide)
                                have r14_N49_ := ze_r N49_ 81 14
                                have c54_ : zPm N49_ := zPm.fr hsN49_ hPm_ (by decide +kernel) (by decide +kernel)
                                have c55_ : zFin N49_ := zFin.fr hsN49_ hFn_ (by decide +kernel) (by decide +kernel)
                                have c56_ : zGB T N49_ := zGB.fr hsN49_ hGB (by decide +kernel) (by decide +kernel)
                                have c58_ : zCdS (P_ : Int) mv_ T N49_ := zCdS.fr hsN49_ hCd_ (by decide +kernel) (by decide +kernel)
                                rcases hp3_N49_ with ⟨ha82_0_hp3_N49_, ha82_1_hp3_N49_⟩ | ⟨ha82_0_hp3_N49_, ha82_1_hp3_N49_, ha82_2_hp3_N49_⟩
                                · have hrt_ : zTrB b_ n_ (ze Mz 81 4).toNat := Or.inr (Or.inr ⟨P_, q_, q2_, mv_, T, hHd_, hrb_, hTt, hTm_, hrl_.tr (zRg.st ha82_1_hp3_N49_)⟩)
                                  show zW l m_M_reads (zn Mz + 0, zw Mz + 0) N49_ 85 [some (.ref 81)] [] _
                                  refine zw_goto (pc := 85) (tgt := 71) (by decide) (zdal_p dlC_M_reads_72 (i := 15) rfl) ?_
                                  exact ih_71 N49_ hb1_N49_ hp0_N49_ (show 0 ≤ ze N49_ 81 13 by first | (exact zo_720 e13_N49_ i37_) | assumption) (show ze N49_ 81 13 ≤ 4 by first | (exact zo_807 e13_N49_ i38_) | assumption) (show 0 ≤ ze N49_ 81 14 by first | (exact hp1_N49_) | assumption) (show ze N49_ 81 14 ≤ 8 by first | (exact hp2_N49_) | assumption) (show (1 ≤ ze N49_ 81 7 ∧ zTrB b_ n_ (ze Mz 81 4).toNat) ∨ (ze N49_ 81 7 = 0 ∧ 1 ≤ ze N49_ 81 12 ∧ ze N49_ 81 12 ≤ 6 ∧ zPm N49_ ∧ zFin N49_ ∧ (∃ T : zGT, ∃ mv : List Nat, ∃ P q q2 : Nat, ∃ nm : List (Int × (Nat → Int)), T ∈ gTabs ∧ zGB T N49_ ∧ zTm mv T ∧ zHd b_ n_ (ze Mz 81 4).toNat P q ∧ zRg (zbs b_ n_ P) (0, q, []) (1, q2, mv) ∧ zRg (zls b_ n_ (gF T).length (gmkI T)) (0, q2, []) (0, (ze N49_ 81 4).toNat, nm) ∧ zRNm nm (gF T).length (gmkI T) b_ n_ N49_ ∧ zMvs N49_ = mv ∧ ze N49_ 81 12 = (P : Int) ∧ zCdS (P : Int) mv T N49_)) from Or.inl (⟨(show 1 ≤ ze N49_ 81 7 by first | (exact ha82_0_hp3_N49_) | assumption | exact hrt_ | exact hmv2_ | exact hPm2_ | exact hFn2_ | exact hLT3_ | exact hPb_ | exact hFb_), (show zTrB b_ n_ (ze Mz 81 4).toNat by first | (exact hl60_1_i28_) | assumption | exact hrt_ | exact hmv2_ | exact hPm2_ | exact hFn2_ | exact hLT3_ | exact hPb_ | exact hFb_)⟩)) (by have m1_ := zmF_c n_ N49_; have m2_ := zmF_c n_ N34_; have m3_ := hp0_N49_.x; omega)
                                · obtain ⟨nm2_, hls_, hnm2_⟩ := id ha82_1_hp3_N49_
                                  have hlt2_ := ha82_2_hp3_N49_
                                  have hLT3_ : (∃ T : zGT, ∃ mv : List Nat, ∃ P q q2 : Nat, ∃ nm : List (Int × (Nat → Int)), T ∈ gTabs ∧ zGB T N49_ ∧ zTm mv T ∧ zHd b_ n_ (ze Mz 81 4).toNat P q ∧ zRg (zbs b_ n_ P) (0, q, []) (1, q2, mv) ∧ zRg (zls b_ n_ (gF T).length (gmkI T)) (0, q2, []) (0, (ze N49_ 81 4).toNat, nm) ∧ zRNm nm (gF T).length (gmkI T) b_ n_ N49_ ∧ zMvs N49_ = mv ∧ ze N49_ 81 12 = (P : Int) ∧ zCdS (P : Int) mv T N49_) := ⟨T, mv_, P_, q_, q2_, nm2_, hTt, c56_, hTm_, hHd_, hrb_, hrl_.tr (zRg.st hls_), hnm2_, (zMvs_f hsN49_ (by decide +kernel) (by decide +kernel)).trans hmq_, by (exact zo_809 e12_N49_ hPq_ hl71_2_i41_), c58_⟩
                                  have hln_ := hnm2_.1
                                  have hPb_ : zPm N49_ := c54_
                                  have hFb_ : zFin N49_ := c55_
                                  show zW l m_M_reads (zn Mz + 0, zw Mz + 0) N49_ 85 [some (.ref 81)] [] _
                                  refine zw_goto (pc := 85) (tgt := 71) (by decide) (zdal_p dlC_M_reads_72 (i := 15) rfl) ?_
                                  exact ih_71 N49_ hb1_N49_ hp0_N49_ (show 0 ≤ ze N49_ 81 13 by first | (exact zo_720 e13_N49_ i37_) | assumption) (show ze N49_ 81 13 ≤ 4 by first | (exact zo_807 e13_N49_ i38_) | assumption) (show 0 ≤ ze N49_ 81 14 by first | (exact hp1_N49_) | assumption) (show ze N49_ 81 14 ≤ 8 by first | (exact hp2_N49_) | assumption) (show (1 ≤ ze N49_ 81 7 ∧ zTrB b_ n_ (ze Mz 81 4).toNat) ∨ (ze N49_ 81 7 = 0 ∧ 1 ≤ ze N49_ 81 12 ∧ ze N49_ 81 12 ≤ 6 ∧ zPm N49_ ∧ zFin N49_ ∧ (∃ T : zGT, ∃ mv : List Nat, ∃ P q q2 : Nat, ∃ nm : List (Int × (Nat → Int)), T ∈ gTabs ∧ zGB T N49_ ∧ zTm mv T ∧ zHd b_ n_ (ze Mz 81 4).toNat P q ∧ zRg (zbs b_ n_ P) (0, q, []) (1, q2, mv) ∧ zRg (zls b_ n_ (gF T).length (gmkI T)) (0, q2, []) (0, (ze N49_ 81 4).toNat, nm) ∧ zRNm nm (gF T).length (gmkI T) b_ n_ N49_ ∧ zMvs N49_ = mv ∧ ze N49_ 81 12 = (P : Int) ∧ zCdS (P : Int) mv T N49_)) from Or.inr (⟨(show ze N49_ 81 7 = 0 by first | (exact ha82_0_hp3_N49_) | assumption | exact hrt_ | exact hmv2_ | exact hPm2_ | exact hFn2_ | exact hLT3_ | exact hPb_ | exact hFb_), (show 1 ≤ ze N49_ 81 12 by first | (exact zo_533 e12_N49_ hl71_1_i41_) | assumption | exact hrt_ | exact hmv2_ | exact hPm2_ | exact hFn2_ | exact hLT3_ | exact hPb_ | exact hFb_), (show ze N49_ 81 12 ≤ 6 by first | (exact zo_810 e12_N49_ hl71_2_i41_) | assumption | exact hrt_ | exact hmv2_ | exact hPm2_ | exact hFn2_ | exact hLT3_ | exact hPb_ | exact hFb_), (show zPm N49_ by first | (exact c54_) | assumption | exact hrt_ | exact hmv2_ | exact hPm2_ | exact hFn2_ | exact hLT3_ | exact hPb_ | exact hFb_), (show zFin N49_ by first | (exact c55_) | assumption | exact hrt_ | exact hmv2_ | exact hPm2_ | exact hFn2_ | exact hLT3_ | exact hPb_ | exact hFb_), (show (∃ T : zGT, ∃ mv : List Nat, ∃ P q q2 : Nat, ∃ nm : List (Int × (Nat → Int)), T ∈ gTabs ∧ zGB T N49_ ∧ zTm mv T ∧ zHd b_ n_ (ze Mz 81 4).toNat P q ∧ zRg (zbs b_ n_ P) (0, q, []) (1, q2, mv) ∧ zRg (zls b_ n_ (gF T).length (gmkI T)) (0, q2, []) (0, (ze N49_ 81 4).toNat, nm) ∧ zRNm nm (gF T).length (gmkI T) b_ n_ N49_ ∧ zMvs N49_ = mv ∧ ze N49_ 81 12 = (P : Int) ∧ zCdS (P : Int) mv T N49_) by first | (exact hLT3_) | assumption | exact hrt_ | exact hmv2_ | exact hPm2_ | exact hFn2_ | exact hLT3_ | exact hPb_ | exact hFb_)⟩)) (by have m1_ := zmF_c n_ N49_; have m2_ := zmF_c n_ N34_; have m3_ := hp0_N49_.x; omega)
                        · have hnk_ : ¬ (zkd b_ n_ (ze N34_ 81 4).toNat = 1 ∧ zkey b_ n_ (ze N34_ 81 4).toNat = zkw 2) := fun q_ => ha75_0_hp0_N47_ (by (exact hl71_0_i41_)) ⟨q_.1, (zke8_w q_.1 (i := 2) (by decide)).mpr q_.2⟩
                          have hLT2_ := hLT_
                          show zW l m_M_reads (zn Mz + 0, zw Mz + 0) N34_ 78 [some (.ref 81)] [.int (Int32.ofInt 0)] _
                          refine zr_if_eq (pc := 78) (tgt := 88) ⟨(by decide), (by decide)⟩ (by decide) d_M_reads_78 (fun hc_78 => ?_) (fun hc_78 => ?_)
                          · exact j_88 N34_ hb0_N34_ i36_ (show 0 ≤ ze N34_ 81 13 by first | (exact i37_) | assumption) (show ze N34_ 81 13 ≤ 4 by first | (exact i38_) | assumption) (show 0 ≤ ze N34_ 81 14 by first | (exact i39_) | assumption) (show ze N34_ 81 14 ≤ 8 by first | (exact i40_) | assumption) (show (1 ≤ ze N34_ 81 7 ∧ zTrB b_ n_ (ze Mz 81 4).toNat) ∨ (ze N34_ 81 7 = 0 ∧ 1 ≤ ze N34_ 81 12 ∧ ze N34_ 81 12 ≤ 6 ∧ zPm N34_ ∧ zFin N34_ ∧ (∃ T : zGT, ∃ mv : List Nat, ∃ P q q2 : Nat, ∃ nm : List (Int × (Nat → Int)), T ∈ gTabs ∧ zGB T N34_ ∧ zTm mv T ∧ zHd b_ n_ (ze Mz 81 4).toNat P q ∧ zRg (zbs b_ n_ P) (0, q, []) (1, q2, mv) ∧ zRg (zls b_ n_ (gF T).length (gmkI T)) (0, q2, []) (0, (ze N34_ 81 4).toNat, nm) ∧ zRNm nm (gF T).length (gmkI T) b_ n_ N34_ ∧ zMvs N34_ = mv ∧ ze N34_ 81 12 = (P : Int) ∧ zCdS (P : Int) mv T N34_) ∧ ¬ (zkd b_ n_ (ze N34_ 81 4).toNat = 1 ∧ zkey b_ n_ (ze N34_ 81 4).toNat = zkw 2)) from Or.inr (⟨(show ze N34_ 81 7 = 0 by first | (exact hl71_0_i41_) | assumption | exact hrt_ | exact hrt2_ | exact hmx_ | exact hPm_ | exact hFn_ | exact hLT2_ | exact hnk_), (show 1 ≤ ze N34_ 81 12 by first | (exact hl71_1_i41_) | assumption | exact hrt_ | exact hrt2_ | exact hmx_ | exact hPm_ | exact hFn_ | exact hLT2_ | exact hnk_), (show ze N34_ 81 12 ≤ 6 by first | (exact hl71_2_i41_) | assumption | exact hrt_ | exact hrt2_ | exact hmx_ | exact hPm_ | exact hFn_ | exact hLT2_ | exact hnk_), (show zPm N34_ by first | (exact hl71_3_i41_) | assumption | exact hrt_ | exact hrt2_ | exact hmx_ | exact hPm_ | exact hFn_ | exact hLT2_ | exact hnk_), (show zFin N34_ by first | (exact hl71_4_i41_) | assumption | exact hrt_ | exact hrt2_ | exact hmx_ | exact hPm_ | exact hFn_ | exact hLT2_ | exact hnk_), (show (∃ T : zGT, ∃ mv : List Nat, ∃ P q q2 : Nat, ∃ nm : List (Int × (Nat → Int)), T ∈ gTabs ∧ zGB T N34_ ∧ zTm mv T ∧ zHd b_ n_ (ze Mz 81 4).toNat P q ∧ zRg (zbs b_ n_ P) (0, q, []) (1, q2, mv) ∧ zRg (zls b_ n_ (gF T).length (gmkI T)) (0, q2, []) (0, (ze N34_ 81 4).toNat, nm) ∧ zRNm nm (gF T).length (gmkI T) b_ n_ N34_ ∧ zMvs N34_ = mv ∧ ze N34_ 81 12 = (P : Int) ∧ zCdS (P : Int) mv T N34_) by first | (exact hl71_5_i41_) | assumption | exact hrt_ | exact hrt2_ | exact hmx_ | exact hPm_ | exact hFn_ | exact hLT2_ | exact hnk_), (show ¬ (zkd b_ n_ (ze N34_ 81 4).toNat = 1 ∧ zkey b_ n_ (ze N34_ 81 4).toNat = zkw 2) by first | (exact hnk_) | assumption | exact hrt_ | exact hrt2_ | exact hmx_ | exact hPm_ | exact hFn_ | exact hLT2_ | exact hnk_)⟩)) c43_ hB85_
                          · exact absurd hc_78 (by decide)
                exact lp_71 _ N22_ zFr.rf i24_ (show 0 ≤ ze N22_ 81 13 by first | (exact i25_) | assumption) (show ze N22_ 81 13 ≤ 4 by first | (exact i26_) | assumption) (show 0 ≤ ze N22_ 81 14 by first | (exact zo_718 i27_) | assumption) (show ze N22_ 81 14 ≤ 8 by first | (exact zo_811 i27_) | assumption) (show (1 ≤ ze N22_ 81 7 ∧ zTrB b_ n_ (ze Mz 81 4).toNat) ∨ (ze N22_ 81 7 = 0 ∧ 1 ≤ ze N22_ 81 12 ∧ ze N22_ 81 12 ≤ 6 ∧ zPm N22_ ∧ zFin N22_ ∧ (∃ T : zGT, ∃ mv : List Nat, ∃ P q q2 : Nat, ∃ nm : List (Int × (Nat → Int)), T ∈ gTabs ∧ zGB T N22_ ∧ zTm mv T ∧ zHd b_ n_ (ze Mz 81 4).toNat P q ∧ zRg (zbs b_ n_ P) (0, q, []) (1, q2, mv) ∧ zRg (zls b_ n_ (gF T).length (gmkI T)) (0, q2, []) (0, (ze N22_ 81 4).toNat, nm) ∧ zRNm nm (gF T).length (gmkI T) b_ n_ N22_ ∧ zMvs N22_ = mv ∧ ze N22_ 81 12 = (P : Int) ∧ zCdS (P : Int) mv T N22_)) from Or.inl (⟨(show 1 ≤ ze N22_ 81 7 by first | (exact hl60_0_i28_) | assumption | exact hrt_ | exact hrt2_ | exact hmv0_ | exact hP0_ | exact hF0_ | exact hLT0_ | exact hPb_ | exact hFb_), (show zTrB b_ n_ (ze Mz 81 4).toNat by first | (exact hl60_1_i28_) | assumption | exact hrt_ | exact hrt2_ | exact hmv0_ | exact hP0_ | exact hF0_ | exact hLT0_ | exact hPb_ | exact hFb_)⟩)) (Nat.lt_succ_self _)
            · exact absurd hc_64 (by decide)
    · as_aux_lemma =>
        have hPm_ := hl60_3_i28_
        have hFn_ := hl60_4_i28_
        have hmx_ := hl60_5_i28_
        refine zw_aload_n (pc := 60) (n := 0) (x := 81) rfl (zdal_p dlC_M_reads_72 (i := 4) rfl) ?_
        refine zr_callV (hf_N22_.w hW) hf_N22_.x (pc := 61) [] [] l_M_183 (c_M_isGood l N22_ (hf_N22_.w hW) ) rfl rfl rfl (by decide) (Nat.le_of_ble_eq_true rfl) (zdal_p dlC_M_reads_72 (i := 5) rfl) ?_
        rintro _ N59_ ⟨v60_, rfl, ⟨hv60_a, hv60_b⟩, hsN59_, hp0_N59_⟩
        obtain rfl := hsN59_.eq.symm
        replace hp0_N59_ : ((v60_ = 1 ∧ ze N22_ 81 7 = 0) ∨ (v60_ = 0 ∧ ze N22_ 81 7 ≠ 0)) := hp0_N59_
        rcases hp0_N59_ with ⟨rfl, ha61_0_hp0_N59_⟩ | ⟨rfl, ha61_0_hp0_N59_⟩
        · as_aux_lemma =>
            show zW l m_M_reads (zn Mz + 0, zw Mz + 0) N22_ 64 [some (.ref 81)] [.int (Int32.ofInt 1)] _
            refine zr_if_eq (pc := 64) (tgt := 71) ⟨(by decide), (by decide)⟩ (by decide) (zdal_p dlC_M_reads_72 (i := 6) rfl) (fun hc_64 => ?_) (fun hc_64 => ?_)
            · exact absurd hc_64 (by decide)
            · as_aux_lemma =>
                refine zw_aload_n (pc := 67) (n := 0) (x := 81) rfl (zdal_p dlC_M_reads_72 (i := 7) rfl) ?_
                refine zr_callV (hf_N22_.w hW) hf_N22_.x (pc := 68) [] [] l_M_118 (c_M_buildsF l N22_ (hf_N22_.w hW) (show 1 ≤ ze N22_ 81 12 by first | (exact hl60_1_i28_) | assumption) (show ze N22_ 81 12 ≤ 6 by first | (exact hl60_2_i28_) | assumption) (show 0 ≤ ze N22_ 81 13 by first | (exact i25_) | assumption) (show ze N22_ 81 13 ≤ 4 by first | (exact i26_) | assumption) hPm_ hFn_ i29_ i30_) rfl rfl rfl (by decide) (Nat.le_of_ble_eq_true rfl) (zdal_p dlC_M_reads_72 (i := 8) rfl) ?_
                rintro _ N61_ ⟨rfl, hsN61_, hp0_N61_⟩
                replace hp0_N61_ : ∃ T : zGT, T ∈ gTabs ∧ zGB T N61_ ∧ zTm (zMvs N22_) T ∧ zCdS (ze N22_ 81 12) (zMvs N22_) T N61_ := hp0_N61_
                have hf_N61_ := hf_N22_.tr hsN61_ (by decide +kernel) (by decide +kernel)
                have hb0_N61_ := hb0_N22_.tr hsN61_ (by decide +kernel) (by decide +kernel)
                have e3_N61_ : ze N61_ 81 3 = ze N22_ 81 3 := hsN61_.e (by decide)
                have e4_N61_ : ze N61_ 81 4 = ze N22_ 81 4 := hsN61_.e (by decide)
                have e5_N61_ : ze N61_ 81 5 = ze N22_ 81 5 := hsN61_.e (by decide)
                have e7_N61_ : ze N61_ 81 7 = ze N22_ 81 7 := hsN61_.e (by decide)
                have e12_N61_ : ze N61_ 81 12 = ze N22_ 81 12 := hsN61_.e (by decide)
                have e13_N61_ : ze N61_ 81 13 = ze N22_ 81 13 := hsN61_.e (by decide)
                have e14_N61_ : ze N61_ 81 14 = ze N22_ 81 14 := hsN61_.e (by decide)
                have c63_ : zRb b_ n_ N61_ := zRb.fr hsN61_ c31_ (by decide +kernel) (by decide +kernel)
                have c64_ : zRt b_ n_ N61_ := zRt.fr hsN61_ i24_ (by decide +kernel) (by decide +kernel)
                have c65_ : zB 83 24 0 5 N61_ := zB.fr hsN61_ i29_ (by decide +kernel) (by decide +kernel)
                have c66_ : zPm N61_ := zPm.fr hsN61_ hPm_ (by decide +kernel) (by decide +kernel)
                have c67_ : zFin N61_ := zFin.fr hsN61_ hFn_ (by decide +kernel) (by decide +kernel)
                show zW l m_M_reads (zn Mz + 0, zw Mz + 0) N61_ 71 [some (.ref 81)] [] _
                obtain ⟨T, hTt, hGB, hTm_, hCd_⟩ := id hp0_N61_
                have hB85_ : zB 85 144 0 5 N61_ := hGB.2.1
                have hRm_ := hGB.rm
                have hLT0_ : (∃ T : zGT, ∃ mv : List Nat, ∃ P q q2 : Nat, ∃ nm : List (Int × (Nat → Int)), T ∈ gTabs ∧ zGB T N61_ ∧ zTm mv T ∧ zHd b_ n_ (ze Mz 81 4).toNat P q ∧ zRg (zbs b_ n_ P) (0, q, []) (1, q2, mv) ∧ zRg (zls b_ n_ (gF T).length (gmkI T)) (0, q2, []) (0, (ze N61_ 81 4).toNat, nm) ∧ zRNm nm (gF T).length (gmkI T) b_ n_ N61_ ∧ zMvs N61_ = mv ∧ ze N61_ 81 12 = (P : Int) ∧ zCdS (P : Int) mv T N61_) := by obtain ⟨q_, h1_, h2_⟩ := id hmx_; exact ⟨T, _, _, q_, _, [], hTt, hGB, hTm_, h1_, h2_, (by rw [show ze N61_ 81 4 = ze N22_ 81 4 by (exact e4_N61_)]; exact zRg.rf), ⟨by (exact zo_812 e14_N61_ i27_), fun _ => 0, by rw [show (ze N61_ 81 14).toNat = 0 by (exact zo_599 e14_N61_ i27_)]; rfl, fun k_ hk_ => absurd hk_ (by (exact zo_813 e14_N61_ i27_))⟩, zMvs_f hsN61_ (by decide) (by decide), by (exact zo_814 e12_N61_ hl60_1_i28_), hCd_.p (by (exact zo_815 hl60_1_i28_))⟩
                have hPb_ : zPm N61_ := c66_
                have hFb_ : zFin N61_ := c67_
                have lp_71 : ∀ (n : Nat) (N68_ : zMem) (hs69_ : zFr [3, 4, 5, 6, 7, 8, 11, 14, 38, 39, 41, 42, 43] [95, 96, 97, 100, 101, 102] N61_ N68_) (i70_ : zRt b_ n_ N68_) (i71_ : 0 ≤ ze N68_ 81 13) (i72_ : ze N68_ 81 13 ≤ 4) (i73_ : 0 ≤ ze N68_ 81 14) (i74_ : ze N68_ 81 14 ≤ 8) (i75_ : (1 ≤ ze N68_ 81 7 ∧ zTrB b_ n_ (ze Mz 81 4).toNat) ∨ (ze N68_ 81 7 = 0 ∧ 1 ≤ ze N68_ 81 12 ∧ ze N68_ 81 12 ≤ 6 ∧ zPm N68_ ∧ zFin N68_ ∧ (∃ T : zGT, ∃ mv : List Nat, ∃ P q q2 : Nat, ∃ nm : List (Int × (Nat → Int)), T ∈ gTabs ∧ zGB T N68_ ∧ zTm mv T ∧ zHd b_ n_ (ze Mz 81 4).toNat P q ∧ zRg (zbs b_ n_ P) (0, q, []) (1, q2, mv) ∧ zRg (zls b_ n_ (gF T).length (gmkI T)) (0, q2, []) (0, (ze N68_ 81 4).toNat, nm) ∧ zRNm nm (gF T).length (gmkI T) b_ n_ N68_ ∧ zMvs N68_ = mv ∧ ze N68_ 81 12 = (P : Int) ∧ zCdS (P : Int) mv T N68_))), zmF n_ N68_ < n → zW l m_M_reads (zn Mz + 0, zw Mz + 0) N68_ 71 [some (.ref 81)] [] (zpV [3, 4, 5, 6, 7, 8, 11, 12, 13, 14, 20, 25, 26, 38, 39, 41, 42, 43] [83, 85, 86, 87, 88, 89, 90, 91, 92, 93, 94, 95, 96, 97, 100, 101, 102] Mz (fun N => zRt b_ n_ N ∧ 0 ≤ ze N 81 13 ∧ ze N 81 13 ≤ 4 ∧ 0 ≤ ze N 81 14 ∧ ze N 81 14 ≤ 8 ∧ zB 83 24 0 5 N ∧ zB 85 144 0 5 N ∧ (((1 ≤ ze N 81 7 ∧ zTrB b_ n_ (ze Mz 81 4).toNat) ∨ (ze N 81 7 = 0 ∧ 1 ≤ ze N 81 12 ∧ ze N 81 12 ≤ 6 ∧ zPm N ∧ zFin N ∧ (∃ T : zGT, ∃ mv : List Nat, ∃ P : Nat, ∃ nm : List (Int × (Nat → Int)), T ∈ gTabs ∧ zGB T N ∧ zTrN b_ n_ (ze Mz 81 4).toNat P mv T nm ∧ zMvs N = mv ∧ ze N 81 12 = (P : Int) ∧ zCdS (P : Int) mv T N ∧ zRNm nm (gF T).length (gmkI T) b_ n_ N)))))) := by
                  clear hs23_ i24_ i25_ i26_ i27_ i29_ i30_ hf_N22_ hb0_N22_ r3_N22_ r4_N22_ r5_N22_ r7_N22_ r12_N22_ r13_N22_ e14_N22_ c31_ hl60_0_i28_ hl60_1_i28_ hl60_2_i28_ hl60_3_i28_ hl60_4_i28_ hl60_5_i28_ hv60_a hv60_b ha61_0_hp0_N59_ hsN61_ hp0_N61_ e3_N61_ e4_N61_ e5_N61_ e7_N61_ e12_N61_ e13_N61_ e14_N61_
                  intro n
                  induction n with
                  | zero =>
                    intro N68_ hs69_ i70_ i71_ i72_ i73_ i74_ i75_ h0
                    exact absurd h0 (Nat.not_lt_zero _)
                  | succ n ih_71 =>
                    intro N68_ hs69_ i70_ i71_ i72_ i73_ i74_ i75_ hlt_71
                    have hf_N68_ := hf_N61_.tr hs69_ (by decide +kernel) (by decide +kernel)
                    have hb0_N68_ := hb0_N61_.tr hs69_ (by decide +kernel) (by decide +kernel)
                    have r3_N68_ := ze_r N68_ 81 3
                    have r4_N68_ := ze_r N68_ 81 4
                    have r5_N68_ := ze_r N68_ 81 5
                    have r7_N68_ := ze_r N68_ 81 7
                    have e12_N68_ : ze N68_ 81 12 = ze N61_ 81 12 := hs69_.e (by decide)
                    have e13_N68_ : ze N68_ 81 13 = ze N61_ 81 13 := hs69_.e (by decide)
                    have r14_N68_ := ze_r N68_ 81 14
                    have c76_ : zRb b_ n_ N68_ := zRb.fr hs69_ c63_ (by decide +kernel) (by decide +kernel)
                    have c77_ : zB 83 24 0 5 N68_ := zB.fr hs69_ c65_ (by decide +kernel) (by decide +kernel)
                    have c78_ : zPm N68_ := zPm.fr hs69_ c66_ (by decide +kernel) (by decide +kernel)
                    have c79_ : zFin N68_ := zFin.fr hs69_ c67_ (by decide +kernel) (by decide +kernel)
                    have c80_ : zB 85 144 0 5 N68_ := zB.fr hs69_ hB85_ (by decide +kernel) (by decide +kernel)
                    have c81_ : zGB T N68_ := zGB.fr hs69_ hGB (by decide +kernel) (by decide +kernel)
                    rcases i75_ with ⟨hl71_0_i75_, hl71_1_i75_⟩ | ⟨hl71_0_i75_, hl71_1_i75_, hl71_2_i75_, hl71_3_i75_, hl71_4_i75_, hl71_5_i75_⟩
                    · refine zw_aload_n (pc := 71) (n := 0) (x := 81) rfl (zdal_p dlC_M_reads_72 (i := 9) rfl) ?_
                      refine zr_ldc2 (pc := 72) (n := 7103860) (by decide) k_M_179 (zdal_p dlC_M_reads_72 (i := 10) rfl) ?_
                      refine zr_callV (hf_N68_.w hW) hf_N68_.x (pc := 75) [.long (Int64.ofInt 7103860)] [] l_M_312 (c_M_isWordF l N68_ (hf_N68_.w hW) 7103860 (by decide) (by decide) b_ n_ i70_) rfl rfl rfl (by decide) (Nat.le_of_ble_eq_true rfl) (zdal_p dlC_M_reads_72 (i := 11) rfl) ?_
                      rintro _ N83_ ⟨v84_, rfl, ⟨hv84_a, hv84_b⟩, hsN83_, hp0_N83_⟩
                      obtain rfl := hsN83_.eq.symm
                      replace hp0_N83_ : ((v84_ = 1 ∧ ze N68_ 81 7 = 0 ∧ zkd b_ n_ (ze N68_ 81 4).toNat = 1 ∧ zke8 b_ n_ (ze N68_ 81 4).toNat = 7103860) ∨ (v84_ = 0 ∧ (ze N68_ 81 7 = 0 → ¬ (zkd b_ n_ (ze N68_ 81 4).toNat = 1 ∧ zke8 b_ n_ (ze N68_ 81 4).toNat = 7103860)))) := hp0_N83_
                      rcases hp0_N83_ with ⟨rfl, ha75_0_hp0_N83_, ha75_1_hp0_N83_, ha75_2_hp0_N83_⟩ | ⟨rfl, ha75_0_hp0_N83_⟩
                      · exfalso; (exact zo_281 ha75_0_hp0_N83_ hl71_0_i75_)
                      · show zW l m_M_reads (zn Mz + 0, zw Mz + 0) N68_ 78 [some (.ref 81)] [.int (Int32.ofInt 0)] _
                        refine zr_if_eq (pc := 78) (tgt := 88) ⟨(by decide), (by decide)⟩ (by decide) d_M_reads_78 (fun hc_78 => ?_) (fun hc_78 => ?_)
                        · exact j_88 N68_ hb0_N68_ i70_ (show 0 ≤ ze N68_ 81 13 by first | (exact i71_) | assumption) (show ze N68_ 81 13 ≤ 4 by first | (exact i72_) | assumption) (show 0 ≤ ze N68_ 81 14 by first | (exact i73_) | assumption) (show ze N68_ 81 14 ≤ 8 by first | (exact i74_) | assumption) (show (1 ≤ ze N68_ 81 7 ∧ zTrB b_ n_ (ze Mz 81 4).toNat) ∨ (ze N68_ 81 7 = 0 ∧ 1 ≤ ze N68_ 81 12 ∧ ze N68_ 81 12 ≤ 6 ∧ zPm N68_ ∧ zFin N68_ ∧ (∃ T : zGT, ∃ mv : List Nat, ∃ P q q2 : Nat, ∃ nm : List (Int × (Nat → Int)), T ∈ gTabs ∧ zGB T N68_ ∧ zTm mv T ∧ zHd b_ n_ (ze Mz 81 4).toNat P q ∧ zRg (zbs b_ n_ P) (0, q, []) (1, q2, mv) ∧ zRg (zls b_ n_ (gF T).length (gmkI T)) (0, q2, []) (0, (ze N68_ 81 4).toNat, nm) ∧ zRNm nm (gF T).length (gmkI T) b_ n_ N68_ ∧ zMvs N68_ = mv ∧ ze N68_ 81 12 = (P : Int) ∧ zCdS (P : Int) mv T N68_) ∧ ¬ (zkd b_ n_ (ze N68_ 81 4).toNat = 1 ∧ zkey b_ n_ (ze N68_ 81 4).toNat = zkw 2)) from Or.inl (⟨(show 1 ≤ ze N68_ 81 7 by first | (exact hl71_0_i75_) | assumption | exact hrt_ | exact hrt2_ | exact hmx_ | exact hPm_ | exact hFn_ | exact hLT2_ | exact hnk_), (show zTrB b_ n_ (ze Mz 81 4).toNat by first | (exact hl71_1_i75_) | assumption | exact hrt_ | exact hrt2_ | exact hmx_ | exact hPm_ | exact hFn_ | exact hLT2_ | exact hnk_)⟩)) c77_ c80_
                        · exact absurd hc_78 (by decide)
                    · as_aux_lemma =>
                        have hPm_ := hl71_3_i75_
                        have hFn_ := hl71_4_i75_
                        have hLT_ := hl71_5_i75_
                        obtain ⟨T, mv_, P_, q_, q2_, nm_, hTt, hGB, hTm_, hHd_, hrb_, hrl_, hnm_, hmq_, hPq_, hCd_⟩ := id hLT_
                        have hB85_ : zB 85 144 0 5 N68_ := hGB.2.1
                        have hRm_ := hGB.rm
                        refine zw_aload_n (pc := 71) (n := 0) (x := 81) rfl (zdal_p dlC_M_reads_72 (i := 9) rfl) ?_
                        refine zr_ldc2 (pc := 72) (n := 7103860) (by decide) k_M_179 (zdal_p dlC_M_reads_72 (i := 10) rfl) ?_
                        refine zr_callV (hf_N68_.w hW) hf_N68_.x (pc := 75) [.long (Int64.ofInt 7103860)] [] l_M_312 (c_M_isWordF l N68_ (hf_N68_.w hW) 7103860 (by decide) (by decide) b_ n_ i70_) rfl rfl rfl (by decide) (Nat.le_of_ble_eq_true rfl) (zdal_p dlC_M_reads_72 (i := 11) rfl) ?_
                        rintro _ N85_ ⟨v86_, rfl, ⟨hv86_a, hv86_b⟩, hsN85_, hp0_N85_⟩
                        obtain rfl := hsN85_.eq.symm
                        replace hp0_N85_ : ((v86_ = 1 ∧ ze N68_ 81 7 = 0 ∧ zkd b_ n_ (ze N68_ 81 4).toNat = 1 ∧ zke8 b_ n_ (ze N68_ 81 4).toNat = 7103860) ∨ (v86_ = 0 ∧ (ze N68_ 81 7 = 0 → ¬ (zkd b_ n_ (ze N68_ 81 4).toNat = 1 ∧ zke8 b_ n_ (ze N68_ 81 4).toNat = 7103860)))) := hp0_N85_
                        rcases hp0_N85_ with ⟨rfl, ha75_0_hp0_N85_, ha75_1_hp0_N85_, ha75_2_hp0_N85_⟩ | ⟨rfl, ha75_0_hp0_N85_⟩
                        · as_aux_lemma =>
                            have hk1_ := ha75_1_hp0_N85_
                            have hks_ := (zke8_w hk1_ (i := 2) (by decide)).mp ha75_2_hp0_N85_
                            show zW l m_M_reads (zn Mz + 0, zw Mz + 0) N68_ 78 [some (.ref 81)] [.int (Int32.ofInt 1)] _
                            refine zr_if_eq (pc := 78) (tgt := 88) ⟨(by decide), (by decide)⟩ (by decide) d_M_reads_78 (fun hc_78 => ?_) (fun hc_78 => ?_)
                            · exact absurd hc_78 (by decide)
                            · as_aux_lemma =>
                                refine zw_aload_n (pc := 81) (n := 0) (x := 81) rfl (zdal_p dlC_M_reads_72 (i := 13) rfl) ?_
                                refine zr_callV (hf_N68_.w hW) hf_N68_.x (pc := 82) [] [] l_M_364 (c_M_letLineF l N68_ (hf_N68_.w hW) (gF T).length (gmkI T) (gT_zTA hTt) b_ n_ nm_ hRm_ c76_ i70_ hnm_ (show ze N68_ 81 7 = 0 by first | (exact hl71_0_i75_) | assumption) (show zkd b_ n_ (ze N68_ 81 4).toNat = 1 by first | (exact ha75_1_hp0_N85_) | assumption) (show zkey b_ n_ (ze N68_ 81 4).toNat = zkw 2 by first | (exact hks_) | assumption)) rfl rfl rfl (by decide) (Nat.le_of_ble_eq_true rfl) (zdal_p dlC_M_reads_72 (i := 14) rfl) ?_
                                rintro _ N87_ ⟨rfl, hsN87_, ⟨hp0_N87_, hp1_N87_, hp2_N87_, hp3_N87_⟩⟩
                                have hf_N87_ := hf_N68_.tr hsN87_ (by decide +kernel) (by decide +kernel)
                                have hb0_N87_ := hb0_N68_.tr hsN87_ (by decide +kernel) (by decide +kernel)
                                have hb1_N87_ := hs69_.tr hsN87_ (by decide +kernel) (by decide +kernel)
                                have r3_N87_ := ze_r N87_ 81 3
                                have r4_N87_ := ze_r N87_ 81 4
                                have r5_N87_ := ze_r N87_ 81 5
                                have r7_N87_ := ze_r N87_ 81 7
                                have e12_N87_ : ze N87_ 81 12 = ze N68_ 81 12 := hsN87_.e (by decide)
                                have e13_N87_ : ze N87_ 81 13 = ze N68_ 81 13 := hsN87_.e (by decide)
                                have r14_N87_ := ze_r N87_ 81 14
                                have c91_ : zPm N87_ := zPm.fr hsN87_ hPm_ (by decide +kernel) (by decide +kernel)
                                have c92_ : zFin N87_ := zFin.fr hsN87_ hFn_ (by decide +kernel) (by decide +kernel)
                                have c94_ : zGB T N87_ := zGB.fr hsN87_ hGB (by decide +kernel) (by decide +kernel)
                                have c96_ : zCdS (P_ : Int) mv_ T N87_ := zCdS.fr hsN87_ hCd_ (by decide +kernel) (by decide +kernel)
                                rcases hp3_N87_ with ⟨ha82_0_hp3_N87_, ha82_1_hp3_N87_⟩ | ⟨ha82_0_hp3_N87_, ha82_1_hp3_N87_, ha82_2_hp3_N87_⟩
                                · have hrt_ : zTrB b_ n_ (ze Mz 81 4).toNat := Or.inr (Or.inr ⟨P_, q_, q2_, mv_, T, hHd_, hrb_, hTt, hTm_, hrl_.tr (zRg.st ha82_1_hp3_N87_)⟩)
                                  show zW l m_M_reads (zn Mz + 0, zw Mz + 0) N87_ 85 [some (.ref 81)] [] _
                                  refine zw_goto (pc := 85) (tgt := 71) (by decide) (zdal_p dlC_M_reads_72 (i := 15) rfl) ?_
                                  exact ih_71 N87_ hb1_N87_ hp0_N87_ (show 0 ≤ ze N87_ 81 13 by first | (exact zo_720 e13_N87_ i71_) | assumption) (show ze N87_ 81 13 ≤ 4 by first | (exact zo_807 e13_N87_ i72_) | assumption) (show 0 ≤ ze N87_ 81 14 by first | (exact hp1_N87_) | assumption) (show ze N87_ 81 14 ≤ 8 by first | (exact hp2_N87_) | assumption) (show (1 ≤ ze N87_ 81 7 ∧ zTrB b_ n_ (ze Mz 81 4).toNat) ∨ (ze N87_ 81 7 = 0 ∧ 1 ≤ ze N87_ 81 12 ∧ ze N87_ 81 12 ≤ 6 ∧ zPm N87_ ∧ zFin N87_ ∧ (∃ T : zGT, ∃ mv : List Nat, ∃ P q q2 : Nat, ∃ nm : List (Int × (Nat → Int)), T ∈ gTabs ∧ zGB T N87_ ∧ zTm mv T ∧ zHd b_ n_ (ze Mz 81 4).toNat P q ∧ zRg (zbs b_ n_ P) (0, q, []) (1, q2, mv) ∧ zRg (zls b_ n_ (gF T).length (gmkI T)) (0, q2, []) (0, (ze N87_ 81 4).toNat, nm) ∧ zRNm nm (gF T).length (gmkI T) b_ n_ N87_ ∧ zMvs N87_ = mv ∧ ze N87_ 81 12 = (P : Int) ∧ zCdS (P : Int) mv T N87_)) from Or.inl (⟨(show 1 ≤ ze N87_ 81 7 by first | (exact ha82_0_hp3_N87_) | assumption | exact hrt_ | exact hmv2_ | exact hPm2_ | exact hFn2_ | exact hLT3_ | exact hPb_ | exact hFb_), (show zTrB b_ n_ (ze Mz 81 4).toNat by first | (exact hrt_) | assumption | exact hrt_ | exact hmv2_ | exact hPm2_ | exact hFn2_ | exact hLT3_ | exact hPb_ | exact hFb_)⟩)) (by have m1_ := zmF_c n_ N87_; have m2_ := zmF_c n_ N68_; have m3_ := hp0_N87_.x; omega)
                                · obtain ⟨nm2_, hls_, hnm2_⟩ := id ha82_1_hp3_N87_
                                  have hlt2_ := ha82_2_hp3_N87_
                                  have hLT3_ : (∃ T : zGT, ∃ mv : List Nat, ∃ P q q2 : Nat, ∃ nm : List (Int × (Nat → Int)), T ∈ gTabs ∧ zGB T N87_ ∧ zTm mv T ∧ zHd b_ n_ (ze Mz 81 4).toNat P q ∧ zRg (zbs b_ n_ P) (0, q, []) (1, q2, mv) ∧ zRg (zls b_ n_ (gF T).length (gmkI T)) (0, q2, []) (0, (ze N87_ 81 4).toNat, nm) ∧ zRNm nm (gF T).length (gmkI T) b_ n_ N87_ ∧ zMvs N87_ = mv ∧ ze N87_ 81 12 = (P : Int) ∧ zCdS (P : Int) mv T N87_) := ⟨T, mv_, P_, q_, q2_, nm2_, hTt, c94_, hTm_, hHd_, hrb_, hrl_.tr (zRg.st hls_), hnm2_, (zMvs_f hsN87_ (by decide +kernel) (by decide +kernel)).trans hmq_, by (exact zo_809 e12_N87_ hPq_ hl71_2_i75_), c96_⟩
                                  have hln_ := hnm2_.1
                                  have hPb_ : zPm N87_ := c91_
                                  have hFb_ : zFin N87_ := c92_
                                  show zW l m_M_reads (zn Mz + 0, zw Mz + 0) N87_ 85 [some (.ref 81)] [] _
                                  refine zw_goto (pc := 85) (tgt := 71) (by decide) (zdal_p dlC_M_reads_72 (i := 15) rfl) ?_
                                  exact ih_71 N87_ hb1_N87_ hp0_N87_ (show 0 ≤ ze N87_ 81 13 by first | (exact zo_720 e13_N87_ i71_) | assumption) (show ze N87_ 81 13 ≤ 4 by first | (exact zo_807 e13_N87_ i72_) | assumption) (show 0 ≤ ze N87_ 81 14 by first | (exact hp1_N87_) | assumption) (show ze N87_ 81 14 ≤ 8 by first | (exact hp2_N87_) | assumption) (show (1 ≤ ze N87_ 81 7 ∧ zTrB b_ n_ (ze Mz 81 4).toNat) ∨ (ze N87_ 81 7 = 0 ∧ 1 ≤ ze N87_ 81 12 ∧ ze N87_ 81 12 ≤ 6 ∧ zPm N87_ ∧ zFin N87_ ∧ (∃ T : zGT, ∃ mv : List Nat, ∃ P q q2 : Nat, ∃ nm : List (Int × (Nat → Int)), T ∈ gTabs ∧ zGB T N87_ ∧ zTm mv T ∧ zHd b_ n_ (ze Mz 81 4).toNat P q ∧ zRg (zbs b_ n_ P) (0, q, []) (1, q2, mv) ∧ zRg (zls b_ n_ (gF T).length (gmkI T)) (0, q2, []) (0, (ze N87_ 81 4).toNat, nm) ∧ zRNm nm (gF T).length (gmkI T) b_ n_ N87_ ∧ zMvs N87_ = mv ∧ ze N87_ 81 12 = (P : Int) ∧ zCdS (P : Int) mv T N87_)) from Or.inr (⟨(show ze N87_ 81 7 = 0 by first | (exact ha82_0_hp3_N87_) | assumption | exact hrt_ | exact hmv2_ | exact hPm2_ | exact hFn2_ | exact hLT3_ | exact hPb_ | exact hFb_), (show 1 ≤ ze N87_ 81 12 by first | (exact zo_533 e12_N87_ hl71_1_i75_) | assumption | exact hrt_ | exact hmv2_ | exact hPm2_ | exact hFn2_ | exact hLT3_ | exact hPb_ | exact hFb_), (show ze N87_ 81 12 ≤ 6 by first | (exact zo_810 e12_N87_ hl71_2_i75_) | assumption | exact hrt_ | exact hmv2_ | exact hPm2_ | exact hFn2_ | exact hLT3_ | exact hPb_ | exact hFb_), (show zPm N87_ by first | (exact c91_) | assumption | exact hrt_ | exact hmv2_ | exact hPm2_ | exact hFn2_ | exact hLT3_ | exact hPb_ | exact hFb_), (show zFin N87_ by first | (exact c92_) | assumption | exact hrt_ | exact hmv2_ | exact hPm2_ | exact hFn2_ | exact hLT3_ | exact hPb_ | exact hFb_), (show (∃ T : zGT, ∃ mv : List Nat, ∃ P q q2 : Nat, ∃ nm : List (Int × (Nat → Int)), T ∈ gTabs ∧ zGB T N87_ ∧ zTm mv T ∧ zHd b_ n_ (ze Mz 81 4).toNat P q ∧ zRg (zbs b_ n_ P) (0, q, []) (1, q2, mv) ∧ zRg (zls b_ n_ (gF T).length (gmkI T)) (0, q2, []) (0, (ze N87_ 81 4).toNat, nm) ∧ zRNm nm (gF T).length (gmkI T) b_ n_ N87_ ∧ zMvs N87_ = mv ∧ ze N87_ 81 12 = (P : Int) ∧ zCdS (P : Int) mv T N87_) by first | (exact hLT3_) | assumption | exact hrt_ | exact hmv2_ | exact hPm2_ | exact hFn2_ | exact hLT3_ | exact hPb_ | exact hFb_)⟩)) (by have m1_ := zmF_c n_ N87_; have m2_ := zmF_c n_ N68_; have m3_ := hp0_N87_.x; omega)
                        · have hnk_ : ¬ (zkd b_ n_ (ze N68_ 81 4).toNat = 1 ∧ zkey b_ n_ (ze N68_ 81 4).toNat = zkw 2) := fun q_ => ha75_0_hp0_N85_ (by (exact hl71_0_i75_)) ⟨q_.1, (zke8_w q_.1 (i := 2) (by decide)).mpr q_.2⟩
                          have hLT2_ := hLT_
                          show zW l m_M_reads (zn Mz + 0, zw Mz + 0) N68_ 78 [some (.ref 81)] [.int (Int32.ofInt 0)] _
                          refine zr_if_eq (pc := 78) (tgt := 88) ⟨(by decide), (by decide)⟩ (by decide) d_M_reads_78 (fun hc_78 => ?_) (fun hc_78 => ?_)
                          · exact j_88 N68_ hb0_N68_ i70_ (show 0 ≤ ze N68_ 81 13 by first | (exact i71_) | assumption) (show ze N68_ 81 13 ≤ 4 by first | (exact i72_) | assumption) (show 0 ≤ ze N68_ 81 14 by first | (exact i73_) | assumption) (show ze N68_ 81 14 ≤ 8 by first | (exact i74_) | assumption) (show (1 ≤ ze N68_ 81 7 ∧ zTrB b_ n_ (ze Mz 81 4).toNat) ∨ (ze N68_ 81 7 = 0 ∧ 1 ≤ ze N68_ 81 12 ∧ ze N68_ 81 12 ≤ 6 ∧ zPm N68_ ∧ zFin N68_ ∧ (∃ T : zGT, ∃ mv : List Nat, ∃ P q q2 : Nat, ∃ nm : List (Int × (Nat → Int)), T ∈ gTabs ∧ zGB T N68_ ∧ zTm mv T ∧ zHd b_ n_ (ze Mz 81 4).toNat P q ∧ zRg (zbs b_ n_ P) (0, q, []) (1, q2, mv) ∧ zRg (zls b_ n_ (gF T).length (gmkI T)) (0, q2, []) (0, (ze N68_ 81 4).toNat, nm) ∧ zRNm nm (gF T).length (gmkI T) b_ n_ N68_ ∧ zMvs N68_ = mv ∧ ze N68_ 81 12 = (P : Int) ∧ zCdS (P : Int) mv T N68_) ∧ ¬ (zkd b_ n_ (ze N68_ 81 4).toNat = 1 ∧ zkey b_ n_ (ze N68_ 81 4).toNat = zkw 2)) from Or.inr (⟨(show ze N68_ 81 7 = 0 by first | (exact hl71_0_i75_) | assumption | exact hrt_ | exact hrt2_ | exact hmx_ | exact hPm_ | exact hFn_ | exact hLT2_ | exact hnk_), (show 1 ≤ ze N68_ 81 12 by first | (exact hl71_1_i75_) | assumption | exact hrt_ | exact hrt2_ | exact hmx_ | exact hPm_ | exact hFn_ | exact hLT2_ | exact hnk_), (show ze N68_ 81 12 ≤ 6 by first | (exact hl71_2_i75_) | assumption | exact hrt_ | exact hrt2_ | exact hmx_ | exact hPm_ | exact hFn_ | exact hLT2_ | exact hnk_), (show zPm N68_ by first | (exact c78_) | assumption | exact hrt_ | exact hrt2_ | exact hmx_ | exact hPm_ | exact hFn_ | exact hLT2_ | exact hnk_), (show zFin N68_ by first | (exact c79_) | assumption | exact hrt_ | exact hrt2_ | exact hmx_ | exact hPm_ | exact hFn_ | exact hLT2_ | exact hnk_), (show (∃ T : zGT, ∃ mv : List Nat, ∃ P q q2 : Nat, ∃ nm : List (Int × (Nat → Int)), T ∈ gTabs ∧ zGB T N68_ ∧ zTm mv T ∧ zHd b_ n_ (ze Mz 81 4).toNat P q ∧ zRg (zbs b_ n_ P) (0, q, []) (1, q2, mv) ∧ zRg (zls b_ n_ (gF T).length (gmkI T)) (0, q2, []) (0, (ze N68_ 81 4).toNat, nm) ∧ zRNm nm (gF T).length (gmkI T) b_ n_ N68_ ∧ zMvs N68_ = mv ∧ ze N68_ 81 12 = (P : Int) ∧ zCdS (P : Int) mv T N68_) by first | (exact hl71_5_i75_) | assumption | exact hrt_ | exact hrt2_ | exact hmx_ | exact hPm_ | exact hFn_ | exact hLT2_ | exact hnk_), (show ¬ (zkd b_ n_ (ze N68_ 81 4).toNat = 1 ∧ zkey b_ n_ (ze N68_ 81 4).toNat = zkw 2) by first | (exact hnk_) | assumption | exact hrt_ | exact hrt2_ | exact hmx_ | exact hPm_ | exact hFn_ | exact hLT2_ | exact hnk_)⟩)) c77_ hB85_
                          · exact absurd hc_78 (by decide)
                exact lp_71 _ N61_ zFr.rf c64_ (show 0 ≤ ze N61_ 81 13 by first | (exact zo_720 e13_N61_ i25_) | assumption) (show ze N61_ 81 13 ≤ 4 by first | (exact zo_807 e13_N61_ i26_) | assumption) (show 0 ≤ ze N61_ 81 14 by first | (exact zo_631 e14_N61_ i27_) | assumption) (show ze N61_ 81 14 ≤ 8 by first | (exact zo_816 e14_N61_ i27_) | assumption) (show (1 ≤ ze N61_ 81 7 ∧ zTrB b_ n_ (ze Mz 81 4).toNat) ∨ (ze N61_ 81 7 = 0 ∧ 1 ≤ ze N61_ 81 12 ∧ ze N61_ 81 12 ≤ 6 ∧ zPm N61_ ∧ zFin N61_ ∧ (∃ T : zGT, ∃ mv : List Nat, ∃ P q q2 : Nat, ∃ nm : List (Int × (Nat → Int)), T ∈ gTabs ∧ zGB T N61_ ∧ zTm mv T ∧ zHd b_ n_ (ze Mz 81 4).toNat P q ∧ zRg (zbs b_ n_ P) (0, q, []) (1, q2, mv) ∧ zRg (zls b_ n_ (gF T).length (gmkI T)) (0, q2, []) (0, (ze N61_ 81 4).toNat, nm) ∧ zRNm nm (gF T).length (gmkI T) b_ n_ N61_ ∧ zMvs N61_ = mv ∧ ze N61_ 81 12 = (P : Int) ∧ zCdS (P : Int) mv T N61_)) from Or.inr (⟨(show ze N61_ 81 7 = 0 by first | (exact zo_610 e7_N61_ hl60_0_i28_) | assumption | exact hrt_ | exact hrt2_ | exact hmv0_ | exact hP0_ | exact hF0_ | exact hLT0_ | exact hPb_ | exact hFb_), (show 1 ≤ ze N61_ 81 12 by first | (exact zo_533 e12_N61_ hl60_1_i28_) | assumption | exact hrt_ | exact hrt2_ | exact hmv0_ | exact hP0_ | exact hF0_ | exact hLT0_ | exact hPb_ | exact hFb_), (show ze N61_ 81 12 ≤ 6 by first | (exact zo_810 e12_N61_ hl60_2_i28_) | assumption | exact hrt_ | exact hrt2_ | exact hmv0_ | exact hP0_ | exact hF0_ | exact hLT0_ | exact hPb_ | exact hFb_), (show zPm N61_ by first | (exact c66_) | assumption | exact hrt_ | exact hrt2_ | exact hmv0_ | exact hP0_ | exact hF0_ | exact hLT0_ | exact hPb_ | exact hFb_), (show zFin N61_ by first | (exact c67_) | assumption | exact hrt_ | exact hrt2_ | exact hmv0_ | exact hP0_ | exact hF0_ | exact hLT0_ | exact hPb_ | exact hFb_), (show (∃ T : zGT, ∃ mv : List Nat, ∃ P q q2 : Nat, ∃ nm : List (Int × (Nat → Int)), T ∈ gTabs ∧ zGB T N61_ ∧ zTm mv T ∧ zHd b_ n_ (ze Mz 81 4).toNat P q ∧ zRg (zbs b_ n_ P) (0, q, []) (1, q2, mv) ∧ zRg (zls b_ n_ (gF T).length (gmkI T)) (0, q2, []) (0, (ze N61_ 81 4).toNat, nm) ∧ zRNm nm (gF T).length (gmkI T) b_ n_ N61_ ∧ zMvs N61_ = mv ∧ ze N61_ 81 12 = (P : Int) ∧ zCdS (P : Int) mv T N61_) by first | (exact hLT0_) | assumption | exact hrt_ | exact hrt2_ | exact hmv0_ | exact hP0_ | exact hF0_ | exact hLT0_ | exact hPb_ | exact hFb_)⟩)) (Nat.lt_succ_self _)
        · exfalso; (exact zo_260 hl60_0_i28_ ha61_0_hp0_N59_)
  have j_37 : ∀ (N97_ : zMem) (hs98_ : zFr [3, 4, 5, 6, 7, 8, 11, 12] [] Mz N97_) (i99_ : zRt b_ n_ N97_) (i100_ : ze N97_ 81 13 = 0) (i101_ : ze N97_ 81 14 = 0) (i102_ : (1 ≤ ze N97_ 81 7 ∧ zTrB b_ n_ (ze Mz 81 4).toNat) ∨ (ze N97_ 81 7 = 0 ∧ zkd b_ n_ (ze Mz 81 4).toNat = 1 ∧ zkey b_ n_ (ze Mz 81 4).toNat = zkw 0 ∧ zkd b_ n_ (znx b_ n_ (ze Mz 81 4).toNat) = 2 ∧ znu b_ n_ (znx b_ n_ (ze Mz 81 4).toNat) = ze N97_ 81 12 ∧ 1 ≤ ze N97_ 81 12 ∧ ze N97_ 81 12 ≤ 6 ∧ (ze N97_ 81 4).toNat = znx b_ n_ (znx b_ n_ (ze Mz 81 4).toNat))), zW l m_M_reads (zn Mz + 0, zw Mz + 0) N97_ 37 [some (.ref 81)] [] (zpV [3, 4, 5, 6, 7, 8, 11, 12, 13, 14, 20, 25, 26, 38, 39, 41, 42, 43] [83, 85, 86, 87, 88, 89, 90, 91, 92, 93, 94, 95, 96, 97, 100, 101, 102] Mz (fun N => zRt b_ n_ N ∧ 0 ≤ ze N 81 13 ∧ ze N 81 13 ≤ 4 ∧ 0 ≤ ze N 81 14 ∧ ze N 81 14 ≤ 8 ∧ zB 83 24 0 5 N ∧ zB 85 144 0 5 N ∧ (((1 ≤ ze N 81 7 ∧ zTrB b_ n_ (ze Mz 81 4).toNat) ∨ (ze N 81 7 = 0 ∧ 1 ≤ ze N 81 12 ∧ ze N 81 12 ≤ 6 ∧ zPm N ∧ zFin N ∧ (∃ T : zGT, ∃ mv : List Nat, ∃ P : Nat, ∃ nm : List (Int × (Nat → Int)), T ∈ gTabs ∧ zGB T N ∧ zTrN b_ n_ (ze Mz 81 4).toNat P mv T nm ∧ zMvs N = mv ∧ ze N 81 12 = (P : Int) ∧ zCdS (P : Int) mv T N ∧ zRNm nm (gF T).length (gmkI T) b_ n_ N)))))) := by
    intro N97_ hs98_ i99_ i100_ i101_ i102_
    have hf_N97_ := hf.tr hs98_ (by decide +kernel) (by decide +kernel)
    have hb0_N97_ : zFr [3, 4, 5, 6, 7, 8, 11, 12, 13, 14, 20, 25, 26, 38, 39, 41, 42, 43] [83, 85, 86, 87, 88, 89, 90, 91, 92, 93, 94, 95, 96, 97, 100, 101, 102] Mz N97_ := zFr.rf.tr hs98_ (by decide +kernel) (by decide +kernel)
    have hb1_N97_ : zFr [3, 4, 5, 6, 7, 8, 11, 12, 13, 20] [83, 85, 86, 87, 88] Mz N97_ := zFr.rf.tr hs98_ (by decide +kernel) (by decide +kernel)
    have r3_N97_ := ze_r N97_ 81 3
    have r4_N97_ := ze_r N97_ 81 4
    have r5_N97_ := ze_r N97_ 81 5
    have r7_N97_ := ze_r N97_ 81 7
    have r12_N97_ := ze_r N97_ 81 12
    have e13_N97_ : ze N97_ 81 13 = ze Mz 81 13 := hs98_.e (by decide)
    have e14_N97_ : ze N97_ 81 14 = ze Mz 81 14 := hs98_.e (by decide)
    have c103_ : zRb b_ n_ N97_ := zRb.fr hs98_ p0_ (by decide +kernel) (by decide +kernel)
    have c104_ : zB 83 24 0 5 N97_ := zB.fr hs98_ p5_ (by decide +kernel) (by decide +kernel)
    have c105_ : zB 85 144 0 5 N97_ := zB.fr hs98_ p6_ (by decide +kernel) (by decide +kernel)
    rcases i102_ with ⟨hl37_0_i102_, hl37_1_i102_⟩ | ⟨hl37_0_i102_, hl37_1_i102_, hl37_2_i102_, hl37_3_i102_, hl37_4_i102_, hl37_5_i102_, hl37_6_i102_, hl37_7_i102_⟩
    · as_aux_lemma =>
        refine zw_aload_n (pc := 37) (n := 0) (x := 81) rfl (zdal_p dlC_M_reads_71 (i := 18) rfl) ?_
        refine zw_bipush (pc := 38) (v := Int32.ofInt 59) (by decide) (zdal_p dlC_M_reads_71 (i := 19) rfl) ?_
        refine zr_callV (hf_N97_.w hW) hf_N97_.x (pc := 40) [.int (Int32.ofInt 59)] [] l_M_355 (c_M_mustF l N97_ (hf_N97_.w hW) 59 (by decide) (by decide) b_ n_ c103_ i99_ (show 0 ≤ ze N97_ 81 7 by first | (exact zo_564 hl37_0_i102_) | assumption)) rfl rfl rfl (by decide) (Nat.le_of_ble_eq_true rfl) (zdal_p dlC_M_reads_71 (i := 20) rfl) ?_
        rintro _ N106_ ⟨rfl, hsN106_, ⟨hp0_N106_, hp1_N106_⟩⟩
        have hf_N106_ := hf_N97_.tr hsN106_ (by decide +kernel) (by decide +kernel)
        have hb0_N106_ := hb0_N97_.tr hsN106_ (by decide +kernel) (by decide +kernel)
        have hb1_N106_ := hb1_N97_.tr hsN106_ (by decide +kernel) (by decide +kernel)
        have r3_N106_ := ze_r N106_ 81 3
        have r4_N106_ := ze_r N106_ 81 4
        have r5_N106_ := ze_r N106_ 81 5
        have r7_N106_ := ze_r N106_ 81 7
        have e12_N106_ : ze N106_ 81 12 = ze N97_ 81 12 := hsN106_.e (by decide)
        have e13_N106_ : ze N106_ 81 13 = ze N97_ 81 13 := hsN106_.e (by decide)
        have e14_N106_ : ze N106_ 81 14 = ze N97_ 81 14 := hsN106_.e (by decide)
        have c108_ : zRb b_ n_ N106_ := zRb.fr hsN106_ c103_ (by decide +kernel) (by decide +kernel)
        have c109_ : zB 83 24 0 5 N106_ := zB.fr hsN106_ c104_ (by decide +kernel) (by decide +kernel)
        have c110_ : zB 85 144 0 5 N106_ := zB.fr hsN106_ c105_ (by decide +kernel) (by decide +kernel)
        rcases hp1_N106_ with ⟨ha40_0_hp1_N106_, ha40_1_hp1_N106_⟩ | ⟨ha40_0_hp1_N106_, ha40_1_hp1_N106_, ha40_2_hp1_N106_, ha40_3_hp1_N106_⟩
        · as_aux_lemma =>
            have hrt_ : zTrB b_ n_ (ze Mz 81 4).toNat := by first | with_reducible assumption | assumption | exact Or.inl (fun ⟨P_, q_, h_⟩ => ha40_1_hp1_N106_ (by omega) (by rw [hx2_]; exact h_.2.2.1))
            show zW l m_M_reads (zn Mz + 0, zw Mz + 0) N106_ 43 [some (.ref 81)] [] _
            have lp_43 : ∀ (n : Nat) (N111_ : zMem) (hs112_ : zFr [3, 4, 5, 6, 7, 8, 11, 13, 20] [83, 85, 86, 87, 88] N106_ N111_) (i113_ : zRt b_ n_ N111_) (i114_ : 0 ≤ ze N111_ 81 13) (i115_ : ze N111_ 81 13 ≤ 4) (i116_ : ze N111_ 81 14 = 0) (i117_ : (1 ≤ ze N111_ 81 7 ∧ zTrB b_ n_ (ze Mz 81 4).toNat) ∨ (ze N111_ 81 7 = 0 ∧ 1 ≤ ze N111_ 81 12 ∧ ze N111_ 81 12 ≤ 6 ∧ zPm N111_ ∧ zFin N111_ ∧ (∃ q : Nat, zHd b_ n_ (ze Mz 81 4).toNat (ze N111_ 81 12).toNat q ∧ zRg (zbs b_ n_ (ze N111_ 81 12).toNat) (0, q, []) (0, (ze N111_ 81 4).toNat, zMvs N111_)))) (i118_ : zB 83 24 0 5 N111_) (i119_ : zB 85 144 0 5 N111_), zmF n_ N111_ < n → zW l m_M_reads (zn Mz + 0, zw Mz + 0) N111_ 43 [some (.ref 81)] [] (zpV [3, 4, 5, 6, 7, 8, 11, 12, 13, 14, 20, 25, 26, 38, 39, 41, 42, 43] [83, 85, 86, 87, 88, 89, 90, 91, 92, 93, 94, 95, 96, 97, 100, 101, 102] Mz (fun N => zRt b_ n_ N ∧ 0 ≤ ze N 81 13 ∧ ze N 81 13 ≤ 4 ∧ 0 ≤ ze N 81 14 ∧ ze N 81 14 ≤ 8 ∧ zB 83 24 0 5 N ∧ zB 85 144 0 5 N ∧ (((1 ≤ ze N 81 7 ∧ zTrB b_ n_ (ze Mz 81 4).toNat) ∨ (ze N 81 7 = 0 ∧ 1 ≤ ze N 81 12 ∧ ze N 81 12 ≤ 6 ∧ zPm N ∧ zFin N ∧ (∃ T : zGT, ∃ mv : List Nat, ∃ P : Nat, ∃ nm : List (Int × (Nat → Int)), T ∈ gTabs ∧ zGB T N ∧ zTrN b_ n_ (ze Mz 81 4).toNat P mv T nm ∧ zMvs N = mv ∧ ze N 81 12 = (P : Int) ∧ zCdS (P : Int) mv T N ∧ zRNm nm (gF T).length (gmkI T) b_ n_ N)))))) := by
              clear hs98_ i99_ i100_ i101_ hf_N97_ hb0_N97_ hb1_N97_ r3_N97_ r4_N97_ r5_N97_ r7_N97_ r12_N97_ e13_N97_ e14_N97_ c103_ c104_ c105_ hl37_0_i102_ hsN106_ e12_N106_ e13_N106_ e14_N106_ ha40_1_hp1_N106_
              intro n
              induction n with
              | zero =>
                intro N111_ hs112_ i113_ i114_ i115_ i116_ i117_ i118_ i119_ h0
                exact absurd h0 (Nat.not_lt_zero _)
              | succ n ih_43 =>
                intro N111_ hs112_ i113_ i114_ i115_ i116_ i117_ i118_ i119_ hlt_43
                have hf_N111_ := hf_N106_.tr hs112_ (by decide +kernel) (by decide +kernel)
                have hb0_N111_ := hb0_N106_.tr hs112_ (by decide +kernel) (by decide +kernel)
                have hb1_N111_ := hb1_N106_.tr hs112_ (by decide +kernel) (by decide +kernel)
                have r3_N111_ := ze_r N111_ 81 3
                have r4_N111_ := ze_r N111_ 81 4
                have r5_N111_ := ze_r N111_ 81 5
                have r7_N111_ := ze_r N111_ 81 7
                have e12_N111_ : ze N111_ 81 12 = ze N106_ 81 12 := hs112_.e (by decide)
                have r13_N111_ := ze_r N111_ 81 13
                have e14_N111_ : ze N111_ 81 14 = ze N106_ 81 14 := hs112_.e (by decide)
                have c120_ : zRb b_ n_ N111_ := zRb.fr hs112_ c108_ (by decide +kernel) (by decide +kernel)
                rcases i117_ with ⟨hl43_0_i117_, hl43_1_i117_⟩ | ⟨hl43_0_i117_, hl43_1_i117_, hl43_2_i117_, hl43_3_i117_, hl43_4_i117_, hl43_5_i117_⟩
                · refine zw_aload_n (pc := 43) (n := 0) (x := 81) rfl d_M_reads_43 ?_
                  refine zr_ldc2 (pc := 44) (n := 1836021349) (by decide) k_M_177 d_M_reads_44 ?_
                  refine zr_callV (hf_N111_.w hW) hf_N111_.x (pc := 47) [.long (Int64.ofInt 1836021349)] [] l_M_312 (c_M_isWordF l N111_ (hf_N111_.w hW) 1836021349 (by decide) (by decide) b_ n_ i113_) rfl rfl rfl (by decide) (Nat.le_of_ble_eq_true rfl) d_M_reads_47 ?_
                  rintro _ N121_ ⟨v122_, rfl, ⟨hv122_a, hv122_b⟩, hsN121_, hp0_N121_⟩
                  obtain rfl := hsN121_.eq.symm
                  replace hp0_N121_ : ((v122_ = 1 ∧ ze N111_ 81 7 = 0 ∧ zkd b_ n_ (ze N111_ 81 4).toNat = 1 ∧ zke8 b_ n_ (ze N111_ 81 4).toNat = 1836021349) ∨ (v122_ = 0 ∧ (ze N111_ 81 7 = 0 → ¬ (zkd b_ n_ (ze N111_ 81 4).toNat = 1 ∧ zke8 b_ n_ (ze N111_ 81 4).toNat = 1836021349)))) := hp0_N121_
                  rcases hp0_N121_ with ⟨rfl, ha47_0_hp0_N121_, ha47_1_hp0_N121_, ha47_2_hp0_N121_⟩ | ⟨rfl, ha47_0_hp0_N121_⟩
                  · exfalso; (exact zo_281 ha47_0_hp0_N121_ hl43_0_i117_)
                  · show zW l m_M_reads (zn Mz + 0, zw Mz + 0) N111_ 50 [some (.ref 81)] [.int (Int32.ofInt 0)] _
                    refine zr_if_eq (pc := 50) (tgt := 60) ⟨(by decide), (by decide)⟩ (by decide) d_M_reads_50 (fun hc_50 => ?_) (fun hc_50 => ?_)
                    · exact j_60 N111_ hb1_N111_ i113_ (show 0 ≤ ze N111_ 81 13 by first | (exact i114_) | assumption) (show ze N111_ 81 13 ≤ 4 by first | (exact i115_) | assumption) (show ze N111_ 81 14 = 0 by first | (exact i116_) | assumption) (show (1 ≤ ze N111_ 81 7 ∧ zTrB b_ n_ (ze Mz 81 4).toNat) ∨ (ze N111_ 81 7 = 0 ∧ 1 ≤ ze N111_ 81 12 ∧ ze N111_ 81 12 ≤ 6 ∧ zPm N111_ ∧ zFin N111_ ∧ (∃ q : Nat, zHd b_ n_ (ze Mz 81 4).toNat (ze N111_ 81 12).toNat q ∧ zRg (zbs b_ n_ (ze N111_ 81 12).toNat) (0, q, []) (1, (ze N111_ 81 4).toNat, zMvs N111_))) from Or.inl (⟨(show 1 ≤ ze N111_ 81 7 by first | (exact hl43_0_i117_) | assumption | exact hrt_ | exact hrt2_ | exact hmx_ | exact hPm_ | exact hFn_ | exact hLT2_ | exact hnk_), (show zTrB b_ n_ (ze Mz 81 4).toNat by first | (exact hl37_1_i102_) | assumption | exact hrt_ | exact hrt2_ | exact hmx_ | exact hPm_ | exact hFn_ | exact hLT2_ | exact hnk_)⟩)) i118_ i119_
                    · exact absurd hc_50 (by decide)
                · as_aux_lemma =>
                    have hPm_ := hl43_3_i117_
                    have hFn_ := hl43_4_i117_
                    have hmv_ := hl43_5_i117_
                    refine zw_aload_n (pc := 43) (n := 0) (x := 81) rfl d_M_reads_43 ?_
                    refine zr_ldc2 (pc := 44) (n := 1836021349) (by decide) k_M_177 d_M_reads_44 ?_
                    refine zr_callV (hf_N111_.w hW) hf_N111_.x (pc := 47) [.long (Int64.ofInt 1836021349)] [] l_M_312 (c_M_isWordF l N111_ (hf_N111_.w hW) 1836021349 (by decide) (by decide) b_ n_ i113_) rfl rfl rfl (by decide) (Nat.le_of_ble_eq_true rfl) d_M_reads_47 ?_
                    rintro _ N123_ ⟨v124_, rfl, ⟨hv124_a, hv124_b⟩, hsN123_, hp0_N123_⟩
                    obtain rfl := hsN123_.eq.symm
                    replace hp0_N123_ : ((v124_ = 1 ∧ ze N111_ 81 7 = 0 ∧ zkd b_ n_ (ze N111_ 81 4).toNat = 1 ∧ zke8 b_ n_ (ze N111_ 81 4).toNat = 1836021349) ∨ (v124_ = 0 ∧ (ze N111_ 81 7 = 0 → ¬ (zkd b_ n_ (ze N111_ 81 4).toNat = 1 ∧ zke8 b_ n_ (ze N111_ 81 4).toNat = 1836021349)))) := hp0_N123_
                    rcases hp0_N123_ with ⟨rfl, ha47_0_hp0_N123_, ha47_1_hp0_N123_, ha47_2_hp0_N123_⟩ | ⟨rfl, ha47_0_hp0_N123_⟩
                    · as_aux_lemma =>
                        have hk1_ := ha47_1_hp0_N123_
                        have hks_ := (zke8_w hk1_ (i := 1) (by decide)).mp ha47_2_hp0_N123_
                        show zW l m_M_reads (zn Mz + 0, zw Mz + 0) N111_ 50 [some (.ref 81)] [.int (Int32.ofInt 1)] _
                        refine zr_if_eq (pc := 50) (tgt := 60) ⟨(by decide), (by decide)⟩ (by decide) d_M_reads_50 (fun hc_50 => ?_) (fun hc_50 => ?_)
                        · exact absurd hc_50 (by decide)
                        · as_aux_lemma =>
                            refine zw_aload_n (pc := 53) (n := 0) (x := 81) rfl (zdal_p dlC_M_reads_72 (i := 1) rfl) ?_
                            refine zr_callV (hf_N111_.w hW) hf_N111_.x (pc := 54) [] [] l_M_361 (c_M_moveLineF l N111_ (hf_N111_.w hW) b_ n_ c120_ i113_ (show ze N111_ 81 7 = 0 by first | (exact hl43_0_i117_) | assumption) (show zkd b_ n_ (ze N111_ 81 4).toNat = 1 by first | (exact ha47_1_hp0_N123_) | assumption) (show zkey b_ n_ (ze N111_ 81 4).toNat = zkw 1 by first | (exact hks_) | assumption) (show 1 ≤ ze N111_ 81 12 by first | (exact hl43_1_i117_) | assumption) (show ze N111_ 81 12 ≤ 6 by first | (exact hl43_2_i117_) | assumption) (show 0 ≤ ze N111_ 81 13 by first | (exact i114_) | assumption) (show ze N111_ 81 13 ≤ 4 by first | (exact i115_) | assumption) hPm_ i118_ i119_) rfl rfl rfl (by decide) (Nat.le_of_ble_eq_true rfl) (zdal_p dlC_M_reads_72 (i := 2) rfl) ?_
                            rintro _ N125_ ⟨rfl, hsN125_, ⟨hp0_N125_, hp1_N125_, hp2_N125_, hp3_N125_, hp4_N125_, hp5_N125_⟩⟩
                            have hf_N125_ := hf_N111_.tr hsN125_ (by decide +kernel) (by decide +kernel)
                            have hb0_N125_ := hb0_N111_.tr hsN125_ (by decide +kernel) (by decide +kernel)
                            have hb1_N125_ := hb1_N111_.tr hsN125_ (by decide +kernel) (by decide +kernel)
                            have hb2_N125_ := hs112_.tr hsN125_ (by decide +kernel) (by decide +kernel)
                            have r3_N125_ := ze_r N125_ 81 3
                            have r4_N125_ := ze_r N125_ 81 4
                            have r5_N125_ := ze_r N125_ 81 5
                            have r7_N125_ := ze_r N125_ 81 7
                            have e12_N125_ : ze N125_ 81 12 = ze N111_ 81 12 := hsN125_.e (by decide)
                            have r13_N125_ := ze_r N125_ 81 13
                            have e14_N125_ : ze N125_ 81 14 = ze N111_ 81 14 := hsN125_.e (by decide)
                            rcases hp5_N125_ with ⟨ha54_0_hp5_N125_, ha54_1_hp5_N125_⟩ | ⟨ha54_0_hp5_N125_, ha54_1_hp5_N125_, ha54_2_hp5_N125_, ha54_3_hp5_N125_, ha54_4_hp5_N125_⟩
                            · have hrt_ : zTrB b_ n_ (ze Mz 81 4).toNat := by obtain ⟨q_, h1_, h2_⟩ := id hmv_; exact Or.inr (Or.inl ⟨_, q_, h1_, h2_.tr (zRg.st ha54_1_hp5_N125_)⟩)
                              show zW l m_M_reads (zn Mz + 0, zw Mz + 0) N125_ 57 [some (.ref 81)] [] _
                              refine zw_goto (pc := 57) (tgt := 43) (by decide) d_M_reads_57 ?_
                              exact ih_43 N125_ hb2_N125_ hp0_N125_ (show 0 ≤ ze N125_ 81 13 by first | (exact hp1_N125_) | assumption) (show ze N125_ 81 13 ≤ 4 by first | (exact hp2_N125_) | assumption) (show ze N125_ 81 14 = 0 by first | (exact zo_610 e14_N125_ i116_) | assumption) (show (1 ≤ ze N125_ 81 7 ∧ zTrB b_ n_ (ze Mz 81 4).toNat) ∨ (ze N125_ 81 7 = 0 ∧ 1 ≤ ze N125_ 81 12 ∧ ze N125_ 81 12 ≤ 6 ∧ zPm N125_ ∧ zFin N125_ ∧ (∃ q : Nat, zHd b_ n_ (ze Mz 81 4).toNat (ze N125_ 81 12).toNat q ∧ zRg (zbs b_ n_ (ze N125_ 81 12).toNat) (0, q, []) (0, (ze N125_ 81 4).toNat, zMvs N125_))) from Or.inl (⟨(show 1 ≤ ze N125_ 81 7 by first | (exact ha54_0_hp5_N125_) | assumption | exact hrt_ | exact hmv2_ | exact hPm2_ | exact hFn2_ | exact hLT3_ | exact hPb_ | exact hFb_), (show zTrB b_ n_ (ze Mz 81 4).toNat by first | (exact hl37_1_i102_) | assumption | exact hrt_ | exact hmv2_ | exact hPm2_ | exact hFn2_ | exact hLT3_ | exact hPb_ | exact hFb_)⟩)) hp3_N125_ hp4_N125_ (by have m1_ := zmF_c n_ N125_; have m2_ := zmF_c n_ N111_; have m3_ := hp0_N125_.x; omega)
                            · have hmv2_ : (∃ q : Nat, zHd b_ n_ (ze Mz 81 4).toNat (ze N125_ 81 12).toNat q ∧ zRg (zbs b_ n_ (ze N125_ 81 12).toNat) (0, q, []) (0, (ze N125_ 81 4).toNat, zMvs N125_)) := by obtain ⟨q_, h1_, h2_⟩ := id hmv_; rw [show ze N125_ 81 12 = ze N111_ 81 12 by (exact e12_N125_)]; exact ⟨q_, h1_, h2_.tr (zRg.st ha54_1_hp5_N125_)⟩
                              have hPm2_ := ha54_2_hp5_N125_
                              have hFn2_ := ha54_3_hp5_N125_
                              have hlt2_ := ha54_4_hp5_N125_
                              show zW l m_M_reads (zn Mz + 0, zw Mz + 0) N125_ 57 [some (.ref 81)] [] _
                              refine zw_goto (pc := 57) (tgt := 43) (by decide) d_M_reads_57 ?_
                              exact ih_43 N125_ hb2_N125_ hp0_N125_ (show 0 ≤ ze N125_ 81 13 by first | (exact hp1_N125_) | assumption) (show ze N125_ 81 13 ≤ 4 by first | (exact hp2_N125_) | assumption) (show ze N125_ 81 14 = 0 by first | (exact zo_610 e14_N125_ i116_) | assumption) (show (1 ≤ ze N125_ 81 7 ∧ zTrB b_ n_ (ze Mz 81 4).toNat) ∨ (ze N125_ 81 7 = 0 ∧ 1 ≤ ze N125_ 81 12 ∧ ze N125_ 81 12 ≤ 6 ∧ zPm N125_ ∧ zFin N125_ ∧ (∃ q : Nat, zHd b_ n_ (ze Mz 81 4).toNat (ze N125_ 81 12).toNat q ∧ zRg (zbs b_ n_ (ze N125_ 81 12).toNat) (0, q, []) (0, (ze N125_ 81 4).toNat, zMvs N125_))) from Or.inr (⟨(show ze N125_ 81 7 = 0 by first | (exact ha54_0_hp5_N125_) | assumption | exact hrt_ | exact hmv2_ | exact hPm2_ | exact hFn2_ | exact hLT3_ | exact hPb_ | exact hFb_), (show 1 ≤ ze N125_ 81 12 by first | (exact zo_533 e12_N125_ hl43_1_i117_) | assumption | exact hrt_ | exact hmv2_ | exact hPm2_ | exact hFn2_ | exact hLT3_ | exact hPb_ | exact hFb_), (show ze N125_ 81 12 ≤ 6 by first | (exact zo_810 e12_N125_ hl43_2_i117_) | assumption | exact hrt_ | exact hmv2_ | exact hPm2_ | exact hFn2_ | exact hLT3_ | exact hPb_ | exact hFb_), (show zPm N125_ by first | (exact ha54_2_hp5_N125_) | assumption | exact hrt_ | exact hmv2_ | exact hPm2_ | exact hFn2_ | exact hLT3_ | exact hPb_ | exact hFb_), (show zFin N125_ by first | (exact ha54_3_hp5_N125_) | assumption | exact hrt_ | exact hmv2_ | exact hPm2_ | exact hFn2_ | exact hLT3_ | exact hPb_ | exact hFb_), (show (∃ q : Nat, zHd b_ n_ (ze Mz 81 4).toNat (ze N125_ 81 12).toNat q ∧ zRg (zbs b_ n_ (ze N125_ 81 12).toNat) (0, q, []) (0, (ze N125_ 81 4).toNat, zMvs N125_)) by first | (exact hmv2_) | assumption | exact hrt_ | exact hmv2_ | exact hPm2_ | exact hFn2_ | exact hLT3_ | exact hPb_ | exact hFb_)⟩)) hp3_N125_ hp4_N125_ (by have m1_ := zmF_c n_ N125_; have m2_ := zmF_c n_ N111_; have m3_ := hp0_N125_.x; omega)
                    · have hnm2_ : ¬ (zkd b_ n_ (ze N111_ 81 4).toNat = 1 ∧ zkey b_ n_ (ze N111_ 81 4).toNat = zkw 1) := fun q_ => ha47_0_hp0_N123_ (by (exact hl43_0_i117_)) ⟨q_.1, (zke8_w q_.1 (i := 1) (by decide)).mpr q_.2⟩
                      have hmx_ : (∃ q : Nat, zHd b_ n_ (ze Mz 81 4).toNat (ze N111_ 81 12).toNat q ∧ zRg (zbs b_ n_ (ze N111_ 81 12).toNat) (0, q, []) (1, (ze N111_ 81 4).toNat, zMvs N111_)) := by obtain ⟨q_, h1_, h2_⟩ := id hmv_; exact ⟨q_, h1_, h2_.tr (zRg.st (zbs_e hnm2_))⟩
                      show zW l m_M_reads (zn Mz + 0, zw Mz + 0) N111_ 50 [some (.ref 81)] [.int (Int32.ofInt 0)] _
                      refine zr_if_eq (pc := 50) (tgt := 60) ⟨(by decide), (by decide)⟩ (by decide) d_M_reads_50 (fun hc_50 => ?_) (fun hc_50 => ?_)
                      · exact j_60 N111_ hb1_N111_ i113_ (show 0 ≤ ze N111_ 81 13 by first | (exact i114_) | assumption) (show ze N111_ 81 13 ≤ 4 by first | (exact i115_) | assumption) (show ze N111_ 81 14 = 0 by first | (exact i116_) | assumption) (show (1 ≤ ze N111_ 81 7 ∧ zTrB b_ n_ (ze Mz 81 4).toNat) ∨ (ze N111_ 81 7 = 0 ∧ 1 ≤ ze N111_ 81 12 ∧ ze N111_ 81 12 ≤ 6 ∧ zPm N111_ ∧ zFin N111_ ∧ (∃ q : Nat, zHd b_ n_ (ze Mz 81 4).toNat (ze N111_ 81 12).toNat q ∧ zRg (zbs b_ n_ (ze N111_ 81 12).toNat) (0, q, []) (1, (ze N111_ 81 4).toNat, zMvs N111_))) from Or.inr (⟨(show ze N111_ 81 7 = 0 by first | (exact hl43_0_i117_) | assumption | exact hrt_ | exact hrt2_ | exact hmx_ | exact hPm_ | exact hFn_ | exact hLT2_ | exact hnk_), (show 1 ≤ ze N111_ 81 12 by first | (exact hl43_1_i117_) | assumption | exact hrt_ | exact hrt2_ | exact hmx_ | exact hPm_ | exact hFn_ | exact hLT2_ | exact hnk_), (show ze N111_ 81 12 ≤ 6 by first | (exact hl43_2_i117_) | assumption | exact hrt_ | exact hrt2_ | exact hmx_ | exact hPm_ | exact hFn_ | exact hLT2_ | exact hnk_), (show zPm N111_ by first | (exact hl43_3_i117_) | assumption | exact hrt_ | exact hrt2_ | exact hmx_ | exact hPm_ | exact hFn_ | exact hLT2_ | exact hnk_), (show zFin N111_ by first | (exact hl43_4_i117_) | assumption | exact hrt_ | exact hrt2_ | exact hmx_ | exact hPm_ | exact hFn_ | exact hLT2_ | exact hnk_), (show (∃ q : Nat, zHd b_ n_ (ze Mz 81 4).toNat (ze N111_ 81 12).toNat q ∧ zRg (zbs b_ n_ (ze N111_ 81 12).toNat) (0, q, []) (1, (ze N111_ 81 4).toNat, zMvs N111_)) by first | (exact hmx_) | assumption | exact hrt_ | exact hrt2_ | exact hmx_ | exact hPm_ | exact hFn_ | exact hLT2_ | exact hnk_)⟩)) i118_ i119_
                      · exact absurd hc_50 (by decide)
            exact lp_43 _ N106_ zFr.rf hp0_N106_ (show 0 ≤ ze N106_ 81 13 by first | (exact zo_631 e13_N106_ i100_) | assumption) (show ze N106_ 81 13 ≤ 4 by first | (exact zo_817 e13_N106_ i100_) | assumption) (show ze N106_ 81 14 = 0 by first | (exact zo_610 e14_N106_ i101_) | assumption) (show (1 ≤ ze N106_ 81 7 ∧ zTrB b_ n_ (ze Mz 81 4).toNat) ∨ (ze N106_ 81 7 = 0 ∧ 1 ≤ ze N106_ 81 12 ∧ ze N106_ 81 12 ≤ 6 ∧ zPm N106_ ∧ zFin N106_ ∧ (∃ q : Nat, zHd b_ n_ (ze Mz 81 4).toNat (ze N106_ 81 12).toNat q ∧ zRg (zbs b_ n_ (ze N106_ 81 12).toNat) (0, q, []) (0, (ze N106_ 81 4).toNat, zMvs N106_))) from Or.inl (⟨(show 1 ≤ ze N106_ 81 7 by first | (exact ha40_0_hp1_N106_) | assumption | exact hrt_ | exact hrt2_ | exact hmv0_ | exact hP0_ | exact hF0_ | exact hLT0_ | exact hPb_ | exact hFb_), (show zTrB b_ n_ (ze Mz 81 4).toNat by first | (exact hl37_1_i102_) | assumption | exact hrt_ | exact hrt2_ | exact hmv0_ | exact hP0_ | exact hF0_ | exact hLT0_ | exact hPb_ | exact hFb_)⟩)) c109_ c110_ (Nat.lt_succ_self _)
        · exfalso; (exact zo_281 ha40_1_hp1_N106_ hl37_0_i102_)
    · as_aux_lemma =>
        have hk1_ := hl37_1_i102_
        have hks_ := hl37_2_i102_
        have hk2_ := hl37_3_i102_
        have hnu_ := hl37_4_i102_
        have hx2_ := hl37_7_i102_
        refine zw_aload_n (pc := 37) (n := 0) (x := 81) rfl (zdal_p dlC_M_reads_71 (i := 18) rfl) ?_
        refine zw_bipush (pc := 38) (v := Int32.ofInt 59) (by decide) (zdal_p dlC_M_reads_71 (i := 19) rfl) ?_
        refine zr_callV (hf_N97_.w hW) hf_N97_.x (pc := 40) [.int (Int32.ofInt 59)] [] l_M_355 (c_M_mustF l N97_ (hf_N97_.w hW) 59 (by decide) (by decide) b_ n_ c103_ i99_ (show 0 ≤ ze N97_ 81 7 by first | (exact zo_718 hl37_0_i102_) | assumption)) rfl rfl rfl (by decide) (Nat.le_of_ble_eq_true rfl) (zdal_p dlC_M_reads_71 (i := 20) rfl) ?_
        rintro _ N128_ ⟨rfl, hsN128_, ⟨hp0_N128_, hp1_N128_⟩⟩
        have hf_N128_ := hf_N97_.tr hsN128_ (by decide +kernel) (by decide +kernel)
        have hb0_N128_ := hb0_N97_.tr hsN128_ (by decide +kernel) (by decide +kernel)
        have hb1_N128_ := hb1_N97_.tr hsN128_ (by decide +kernel) (by decide +kernel)
        have r3_N128_ := ze_r N128_ 81 3
        have r4_N128_ := ze_r N128_ 81 4
        have r5_N128_ := ze_r N128_ 81 5
        have r7_N128_ := ze_r N128_ 81 7
        have e12_N128_ : ze N128_ 81 12 = ze N97_ 81 12 := hsN128_.e (by decide)
        have e13_N128_ : ze N128_ 81 13 = ze N97_ 81 13 := hsN128_.e (by decide)
        have e14_N128_ : ze N128_ 81 14 = ze N97_ 81 14 := hsN128_.e (by decide)
        have c130_ : zRb b_ n_ N128_ := zRb.fr hsN128_ c103_ (by decide +kernel) (by decide +kernel)
        have c131_ : zB 83 24 0 5 N128_ := zB.fr hsN128_ c104_ (by decide +kernel) (by decide +kernel)
        have c132_ : zB 85 144 0 5 N128_ := zB.fr hsN128_ c105_ (by decide +kernel) (by decide +kernel)
        rcases hp1_N128_ with ⟨ha40_0_hp1_N128_, ha40_1_hp1_N128_⟩ | ⟨ha40_0_hp1_N128_, ha40_1_hp1_N128_, ha40_2_hp1_N128_, ha40_3_hp1_N128_⟩
        · as_aux_lemma =>
            have hrt_ : zTrB b_ n_ (ze Mz 81 4).toNat := by first | with_reducible assumption | exact Or.inl (fun ⟨P_, q_, h_⟩ => ha40_1_hp1_N128_ (by (exact hl37_0_i102_)) (by rw [hx2_]; exact h_.2.2.1)) | assumption
            show zW l m_M_reads (zn Mz + 0, zw Mz + 0) N128_ 43 [some (.ref 81)] [] _
            have lp_43 : ∀ (n : Nat) (N133_ : zMem) (hs134_ : zFr [3, 4, 5, 6, 7, 8, 11, 13, 20] [83, 85, 86, 87, 88] N128_ N133_) (i135_ : zRt b_ n_ N133_) (i136_ : 0 ≤ ze N133_ 81 13) (i137_ : ze N133_ 81 13 ≤ 4) (i138_ : ze N133_ 81 14 = 0) (i139_ : (1 ≤ ze N133_ 81 7 ∧ zTrB b_ n_ (ze Mz 81 4).toNat) ∨ (ze N133_ 81 7 = 0 ∧ 1 ≤ ze N133_ 81 12 ∧ ze N133_ 81 12 ≤ 6 ∧ zPm N133_ ∧ zFin N133_ ∧ (∃ q : Nat, zHd b_ n_ (ze Mz 81 4).toNat (ze N133_ 81 12).toNat q ∧ zRg (zbs b_ n_ (ze N133_ 81 12).toNat) (0, q, []) (0, (ze N133_ 81 4).toNat, zMvs N133_)))) (i140_ : zB 83 24 0 5 N133_) (i141_ : zB 85 144 0 5 N133_), zmF n_ N133_ < n → zW l m_M_reads (zn Mz + 0, zw Mz + 0) N133_ 43 [some (.ref 81)] [] (zpV [3, 4, 5, 6, 7, 8, 11, 12, 13, 14, 20, 25, 26, 38, 39, 41, 42, 43] [83, 85, 86, 87, 88, 89, 90, 91, 92, 93, 94, 95, 96, 97, 100, 101, 102] Mz (fun N => zRt b_ n_ N ∧ 0 ≤ ze N 81 13 ∧ ze N 81 13 ≤ 4 ∧ 0 ≤ ze N 81 14 ∧ ze N 81 14 ≤ 8 ∧ zB 83 24 0 5 N ∧ zB 85 144 0 5 N ∧ (((1 ≤ ze N 81 7 ∧ zTrB b_ n_ (ze Mz 81 4).toNat) ∨ (ze N 81 7 = 0 ∧ 1 ≤ ze N 81 12 ∧ ze N 81 12 ≤ 6 ∧ zPm N ∧ zFin N ∧ (∃ T : zGT, ∃ mv : List Nat, ∃ P : Nat, ∃ nm : List (Int × (Nat → Int)), T ∈ gTabs ∧ zGB T N ∧ zTrN b_ n_ (ze Mz 81 4).toNat P mv T nm ∧ zMvs N = mv ∧ ze N 81 12 = (P : Int) ∧ zCdS (P : Int) mv T N ∧ zRNm nm (gF T).length (gmkI T) b_ n_ N)))))) := by
              clear hs98_ i99_ i100_ i101_ hf_N97_ hb0_N97_ hb1_N97_ r3_N97_ r4_N97_ r5_N97_ r7_N97_ r12_N97_ e13_N97_ e14_N97_ c103_ c104_ c105_ hl37_0_i102_ hl37_4_i102_ hl37_5_i102_ hl37_6_i102_ hl37_7_i102_ hsN128_ e12_N128_ e13_N128_ e14_N128_ ha40_1_hp1_N128_
              intro n
              induction n with
              | zero =>
                intro N133_ hs134_ i135_ i136_ i137_ i138_ i139_ i140_ i141_ h0
                exact absurd h0 (Nat.not_lt_zero _)
              | succ n ih_43 =>
                intro N133_ hs134_ i135_ i136_ i137_ i138_ i139_ i140_ i141_ hlt_43
                have hf_N133_ := hf_N128_.tr hs134_ (by decide +kernel) (by decide +kernel)
                have hb0_N133_ := hb0_N128_.tr hs134_ (by decide +kernel) (by decide +kernel)
                have hb1_N133_ := hb1_N128_.tr hs134_ (by decide +kernel) (by decide +kernel)
                have r3_N133_ := ze_r N133_ 81 3
                have r4_N133_ := ze_r N133_ 81 4
                have r5_N133_ := ze_r N133_ 81 5
                have r7_N133_ := ze_r N133_ 81 7
                have e12_N133_ : ze N133_ 81 12 = ze N128_ 81 12 := hs134_.e (by decide)
                have r13_N133_ := ze_r N133_ 81 13
                have e14_N133_ : ze N133_ 81 14 = ze N128_ 81 14 := hs134_.e (by decide)
                have c142_ : zRb b_ n_ N133_ := zRb.fr hs134_ c130_ (by decide +kernel) (by decide +kernel)
                rcases i139_ with ⟨hl43_0_i139_, hl43_1_i139_⟩ | ⟨hl43_0_i139_, hl43_1_i139_, hl43_2_i139_, hl43_3_i139_, hl43_4_i139_, hl43_5_i139_⟩
                · refine zw_aload_n (pc := 43) (n := 0) (x := 81) rfl d_M_reads_43 ?_
                  refine zr_ldc2 (pc := 44) (n := 1836021349) (by decide) k_M_177 d_M_reads_44 ?_
                  refine zr_callV (hf_N133_.w hW) hf_N133_.x (pc := 47) [.long (Int64.ofInt 1836021349)] [] l_M_312 (c_M_isWordF l N133_ (hf_N133_.w hW) 1836021349 (by decide) (by decide) b_ n_ i135_) rfl rfl rfl (by decide) (Nat.le_of_ble_eq_true rfl) d_M_reads_47 ?_
                  rintro _ N143_ ⟨v144_, rfl, ⟨hv144_a, hv144_b⟩, hsN143_, hp0_N143_⟩
                  obtain rfl := hsN143_.eq.symm
                  replace hp0_N143_ : ((v144_ = 1 ∧ ze N133_ 81 7 = 0 ∧ zkd b_ n_ (ze N133_ 81 4).toNat = 1 ∧ zke8 b_ n_ (ze N133_ 81 4).toNat = 1836021349) ∨ (v144_ = 0 ∧ (ze N133_ 81 7 = 0 → ¬ (zkd b_ n_ (ze N133_ 81 4).toNat = 1 ∧ zke8 b_ n_ (ze N133_ 81 4).toNat = 1836021349)))) := hp0_N143_
                  rcases hp0_N143_ with ⟨rfl, ha47_0_hp0_N143_, ha47_1_hp0_N143_, ha47_2_hp0_N143_⟩ | ⟨rfl, ha47_0_hp0_N143_⟩
                  · exfalso; (exact zo_281 ha47_0_hp0_N143_ hl43_0_i139_)
                  · show zW l m_M_reads (zn Mz + 0, zw Mz + 0) N133_ 50 [some (.ref 81)] [.int (Int32.ofInt 0)] _
                    refine zr_if_eq (pc := 50) (tgt := 60) ⟨(by decide), (by decide)⟩ (by decide) d_M_reads_50 (fun hc_50 => ?_) (fun hc_50 => ?_)
                    · exact j_60 N133_ hb1_N133_ i135_ (show 0 ≤ ze N133_ 81 13 by first | (exact i136_) | assumption) (show ze N133_ 81 13 ≤ 4 by first | (exact i137_) | assumption) (show ze N133_ 81 14 = 0 by first | (exact i138_) | assumption) (show (1 ≤ ze N133_ 81 7 ∧ zTrB b_ n_ (ze Mz 81 4).toNat) ∨ (ze N133_ 81 7 = 0 ∧ 1 ≤ ze N133_ 81 12 ∧ ze N133_ 81 12 ≤ 6 ∧ zPm N133_ ∧ zFin N133_ ∧ (∃ q : Nat, zHd b_ n_ (ze Mz 81 4).toNat (ze N133_ 81 12).toNat q ∧ zRg (zbs b_ n_ (ze N133_ 81 12).toNat) (0, q, []) (1, (ze N133_ 81 4).toNat, zMvs N133_))) from Or.inl (⟨(show 1 ≤ ze N133_ 81 7 by first | (exact hl43_0_i139_) | assumption | exact hrt_ | exact hrt2_ | exact hmx_ | exact hPm_ | exact hFn_ | exact hLT2_ | exact hnk_), (show zTrB b_ n_ (ze Mz 81 4).toNat by first | (exact hrt_) | assumption | exact hrt_ | exact hrt2_ | exact hmx_ | exact hPm_ | exact hFn_ | exact hLT2_ | exact hnk_)⟩)) i140_ i141_
                    · exact absurd hc_50 (by decide)
                · as_aux_lemma =>
                    have hPm_ := hl43_3_i139_
                    have hFn_ := hl43_4_i139_
                    have hmv_ := hl43_5_i139_
                    refine zw_aload_n (pc := 43) (n := 0) (x := 81) rfl d_M_reads_43 ?_
                    refine zr_ldc2 (pc := 44) (n := 1836021349) (by decide) k_M_177 d_M_reads_44 ?_
                    refine zr_callV (hf_N133_.w hW) hf_N133_.x (pc := 47) [.long (Int64.ofInt 1836021349)] [] l_M_312 (c_M_isWordF l N133_ (hf_N133_.w hW) 1836021349 (by decide) (by decide) b_ n_ i135_) rfl rfl rfl (by decide) (Nat.le_of_ble_eq_true rfl) d_M_reads_47 ?_
                    rintro _ N145_ ⟨v146_, rfl, ⟨hv146_a, hv146_b⟩, hsN145_, hp0_N145_⟩
                    obtain rfl := hsN145_.eq.symm
                    replace hp0_N145_ : ((v146_ = 1 ∧ ze N133_ 81 7 = 0 ∧ zkd b_ n_ (ze N133_ 81 4).toNat = 1 ∧ zke8 b_ n_ (ze N133_ 81 4).toNat = 1836021349) ∨ (v146_ = 0 ∧ (ze N133_ 81 7 = 0 → ¬ (zkd b_ n_ (ze N133_ 81 4).toNat = 1 ∧ zke8 b_ n_ (ze N133_ 81 4).toNat = 1836021349)))) := hp0_N145_
                    rcases hp0_N145_ with ⟨rfl, ha47_0_hp0_N145_, ha47_1_hp0_N145_, ha47_2_hp0_N145_⟩ | ⟨rfl, ha47_0_hp0_N145_⟩
                    · as_aux_lemma =>
                        have hk1_ := ha47_1_hp0_N145_
                        have hks_ := (zke8_w hk1_ (i := 1) (by decide)).mp ha47_2_hp0_N145_
                        show zW l m_M_reads (zn Mz + 0, zw Mz + 0) N133_ 50 [some (.ref 81)] [.int (Int32.ofInt 1)] _
                        refine zr_if_eq (pc := 50) (tgt := 60) ⟨(by decide), (by decide)⟩ (by decide) d_M_reads_50 (fun hc_50 => ?_) (fun hc_50 => ?_)
                        · exact absurd hc_50 (by decide)
                        · as_aux_lemma =>
                            refine zw_aload_n (pc := 53) (n := 0) (x := 81) rfl (zdal_p dlC_M_reads_72 (i := 1) rfl) ?_
                            refine zr_callV (hf_N133_.w hW) hf_N133_.x (pc := 54) [] [] l_M_361 (c_M_moveLineF l N133_ (hf_N133_.w hW) b_ n_ c142_ i135_ (show ze N133_ 81 7 = 0 by first | (exact hl43_0_i139_) | assumption) (show zkd b_ n_ (ze N133_ 81 4).toNat = 1 by first | (exact ha47_1_hp0_N145_) | assumption) (show zkey b_ n_ (ze N133_ 81 4).toNat = zkw 1 by first | (exact hks_) | assumption) (show 1 ≤ ze N133_ 81 12 by first | (exact hl43_1_i139_) | assumption) (show ze N133_ 81 12 ≤ 6 by first | (exact hl43_2_i139_) | assumption) (show 0 ≤ ze N133_ 81 13 by first | (exact i136_) | assumption) (show ze N133_ 81 13 ≤ 4 by first | (exact i137_) | assumption) hPm_ i140_ i141_) rfl rfl rfl (by decide) (Nat.le_of_ble_eq_true rfl) (zdal_p dlC_M_reads_72 (i := 2) rfl) ?_
                            rintro _ N147_ ⟨rfl, hsN147_, ⟨hp0_N147_, hp1_N147_, hp2_N147_, hp3_N147_, hp4_N147_, hp5_N147_⟩⟩
                            have hf_N147_ := hf_N133_.tr hsN147_ (by decide +kernel) (by decide +kernel)
                            have hb0_N147_ := hb0_N133_.tr hsN147_ (by decide +kernel) (by decide +kernel)
                            have hb1_N147_ := hb1_N133_.tr hsN147_ (by decide +kernel) (by decide +kernel)
                            have hb2_N147_ := hs134_.tr hsN147_ (by decide +kernel) (by decide +kernel)
                            have r3_N147_ := ze_r N147_ 81 3
                            have r4_N147_ := ze_r N147_ 81 4
                            have r5_N147_ := ze_r N147_ 81 5
                            have r7_N147_ := ze_r N147_ 81 7
                            have e12_N147_ : ze N147_ 81 12 = ze N133_ 81 12 := hsN147_.e (by decide)
                            have r13_N147_ := ze_r N147_ 81 13
                            have e14_N147_ : ze N147_ 81 14 = ze N133_ 81 14 := hsN147_.e (by decide)
                            rcases hp5_N147_ with ⟨ha54_0_hp5_N147_, ha54_1_hp5_N147_⟩ | ⟨ha54_0_hp5_N147_, ha54_1_hp5_N147_, ha54_2_hp5_N147_, ha54_3_hp5_N147_, ha54_4_hp5_N147_⟩
                            · have hrt_ : zTrB b_ n_ (ze Mz 81 4).toNat := by obtain ⟨q_, h1_, h2_⟩ := id hmv_; exact Or.inr (Or.inl ⟨_, q_, h1_, h2_.tr (zRg.st ha54_1_hp5_N147_)⟩)
                              show zW l m_M_reads (zn Mz + 0, zw Mz + 0) N147_ 57 [some (.ref 81)] [] _
                              refine zw_goto (pc := 57) (tgt := 43) (by decide) d_M_reads_57 ?_
                              exact ih_43 N147_ hb2_N147_ hp0_N147_ (show 0 ≤ ze N147_ 81 13 by first | (exact hp1_N147_) | assumption) (show ze N147_ 81 13 ≤ 4 by first | (exact hp2_N147_) | assumption) (show ze N147_ 81 14 = 0 by first | (exact zo_610 e14_N147_ i138_) | assumption) (show (1 ≤ ze N147_ 81 7 ∧ zTrB b_ n_ (ze Mz 81 4).toNat) ∨ (ze N147_ 81 7 = 0 ∧ 1 ≤ ze N147_ 81 12 ∧ ze N147_ 81 12 ≤ 6 ∧ zPm N147_ ∧ zFin N147_ ∧ (∃ q : Nat, zHd b_ n_ (ze Mz 81 4).toNat (ze N147_ 81 12).toNat q ∧ zRg (zbs b_ n_ (ze N147_ 81 12).toNat) (0, q, []) (0, (ze N147_ 81 4).toNat, zMvs N147_))) from Or.inl (⟨(show 1 ≤ ze N147_ 81 7 by first | (exact ha54_0_hp5_N147_) | assumption | exact hrt_ | exact hmv2_ | exact hPm2_ | exact hFn2_ | exact hLT3_ | exact hPb_ | exact hFb_), (show zTrB b_ n_ (ze Mz 81 4).toNat by first | (exact hrt_) | assumption | exact hrt_ | exact hmv2_ | exact hPm2_ | exact hFn2_ | exact hLT3_ | exact hPb_ | exact hFb_)⟩)) hp3_N147_ hp4_N147_ (by have m1_ := zmF_c n_ N147_; have m2_ := zmF_c n_ N133_; have m3_ := hp0_N147_.x; omega)
                            · have hmv2_ : (∃ q : Nat, zHd b_ n_ (ze Mz 81 4).toNat (ze N147_ 81 12).toNat q ∧ zRg (zbs b_ n_ (ze N147_ 81 12).toNat) (0, q, []) (0, (ze N147_ 81 4).toNat, zMvs N147_)) := by obtain ⟨q_, h1_, h2_⟩ := id hmv_; rw [show ze N147_ 81 12 = ze N133_ 81 12 by (exact e12_N147_)]; exact ⟨q_, h1_, h2_.tr (zRg.st ha54_1_hp5_N147_)⟩
                              have hPm2_ := ha54_2_hp5_N147_
                              have hFn2_ := ha54_3_hp5_N147_
                              have hlt2_ := ha54_4_hp5_N147_
                              show zW l m_M_reads (zn Mz + 0, zw Mz + 0) N147_ 57 [some (.ref 81)] [] _
                              refine zw_goto (pc := 57) (tgt := 43) (by decide) d_M_reads_57 ?_
                              exact ih_43 N147_ hb2_N147_ hp0_N147_ (show 0 ≤ ze N147_ 81 13 by first | (exact hp1_N147_) | assumption) (show ze N147_ 81 13 ≤ 4 by first | (exact hp2_N147_) | assumption) (show ze N147_ 81 14 = 0 by first | (exact zo_610 e14_N147_ i138_) | assumption) (show (1 ≤ ze N147_ 81 7 ∧ zTrB b_ n_ (ze Mz 81 4).toNat) ∨ (ze N147_ 81 7 = 0 ∧ 1 ≤ ze N147_ 81 12 ∧ ze N147_ 81 12 ≤ 6 ∧ zPm N147_ ∧ zFin N147_ ∧ (∃ q : Nat, zHd b_ n_ (ze Mz 81 4).toNat (ze N147_ 81 12).toNat q ∧ zRg (zbs b_ n_ (ze N147_ 81 12).toNat) (0, q, []) (0, (ze N147_ 81 4).toNat, zMvs N147_))) from Or.inr (⟨(show ze N147_ 81 7 = 0 by first | (exact ha54_0_hp5_N147_) | assumption | exact hrt_ | exact hmv2_ | exact hPm2_ | exact hFn2_ | exact hLT3_ | exact hPb_ | exact hFb_), (show 1 ≤ ze N147_ 81 12 by first | (exact zo_533 e12_N147_ hl43_1_i139_) | assumption | exact hrt_ | exact hmv2_ | exact hPm2_ | exact hFn2_ | exact hLT3_ | exact hPb_ | exact hFb_), (show ze N147_ 81 12 ≤ 6 by first | (exact zo_810 e12_N147_ hl43_2_i139_) | assumption | exact hrt_ | exact hmv2_ | exact hPm2_ | exact hFn2_ | exact hLT3_ | exact hPb_ | exact hFb_), (show zPm N147_ by first | (exact ha54_2_hp5_N147_) | assumption | exact hrt_ | exact hmv2_ | exact hPm2_ | exact hFn2_ | exact hLT3_ | exact hPb_ | exact hFb_), (show zFin N147_ by first | (exact ha54_3_hp5_N147_) | assumption | exact hrt_ | exact hmv2_ | exact hPm2_ | exact hFn2_ | exact hLT3_ | exact hPb_ | exact hFb_), (show (∃ q : Nat, zHd b_ n_ (ze Mz 81 4).toNat (ze N147_ 81 12).toNat q ∧ zRg (zbs b_ n_ (ze N147_ 81 12).toNat) (0, q, []) (0, (ze N147_ 81 4).toNat, zMvs N147_)) by first | (exact hmv2_) | assumption | exact hrt_ | exact hmv2_ | exact hPm2_ | exact hFn2_ | exact hLT3_ | exact hPb_ | exact hFb_)⟩)) hp3_N147_ hp4_N147_ (by have m1_ := zmF_c n_ N147_; have m2_ := zmF_c n_ N133_; have m3_ := hp0_N147_.x; omega)
                    · have hnm2_ : ¬ (zkd b_ n_ (ze N133_ 81 4).toNat = 1 ∧ zkey b_ n_ (ze N133_ 81 4).toNat = zkw 1) := fun q_ => ha47_0_hp0_N145_ (by (exact hl43_0_i139_)) ⟨q_.1, (zke8_w q_.1 (i := 1) (by decide)).mpr q_.2⟩
                      have hmx_ : (∃ q : Nat, zHd b_ n_ (ze Mz 81 4).toNat (ze N133_ 81 12).toNat q ∧ zRg (zbs b_ n_ (ze N133_ 81 12).toNat) (0, q, []) (1, (ze N133_ 81 4).toNat, zMvs N133_)) := by obtain ⟨q_, h1_, h2_⟩ := id hmv_; exact ⟨q_, h1_, h2_.tr (zRg.st (zbs_e hnm2_))⟩
                      show zW l m_M_reads (zn Mz + 0, zw Mz + 0) N133_ 50 [some (.ref 81)] [.int (Int32.ofInt 0)] _
                      refine zr_if_eq (pc := 50) (tgt := 60) ⟨(by decide), (by decide)⟩ (by decide) d_M_reads_50 (fun hc_50 => ?_) (fun hc_50 => ?_)
                      · exact j_60 N133_ hb1_N133_ i135_ (show 0 ≤ ze N133_ 81 13 by first | (exact i136_) | assumption) (show ze N133_ 81 13 ≤ 4 by first | (exact i137_) | assumption) (show ze N133_ 81 14 = 0 by first | (exact i138_) | assumption) (show (1 ≤ ze N133_ 81 7 ∧ zTrB b_ n_ (ze Mz 81 4).toNat) ∨ (ze N133_ 81 7 = 0 ∧ 1 ≤ ze N133_ 81 12 ∧ ze N133_ 81 12 ≤ 6 ∧ zPm N133_ ∧ zFin N133_ ∧ (∃ q : Nat, zHd b_ n_ (ze Mz 81 4).toNat (ze N133_ 81 12).toNat q ∧ zRg (zbs b_ n_ (ze N133_ 81 12).toNat) (0, q, []) (1, (ze N133_ 81 4).toNat, zMvs N133_))) from Or.inr (⟨(show ze N133_ 81 7 = 0 by first | (exact hl43_0_i139_) | assumption | exact hrt_ | exact hrt2_ | exact hmx_ | exact hPm_ | exact hFn_ | exact hLT2_ | exact hnk_), (show 1 ≤ ze N133_ 81 12 by first | (exact hl43_1_i139_) | assumption | exact hrt_ | exact hrt2_ | exact hmx_ | exact hPm_ | exact hFn_ | exact hLT2_ | exact hnk_), (show ze N133_ 81 12 ≤ 6 by first | (exact hl43_2_i139_) | assumption | exact hrt_ | exact hrt2_ | exact hmx_ | exact hPm_ | exact hFn_ | exact hLT2_ | exact hnk_), (show zPm N133_ by first | (exact hl43_3_i139_) | assumption | exact hrt_ | exact hrt2_ | exact hmx_ | exact hPm_ | exact hFn_ | exact hLT2_ | exact hnk_), (show zFin N133_ by first | (exact hl43_4_i139_) | assumption | exact hrt_ | exact hrt2_ | exact hmx_ | exact hPm_ | exact hFn_ | exact hLT2_ | exact hnk_), (show (∃ q : Nat, zHd b_ n_ (ze Mz 81 4).toNat (ze N133_ 81 12).toNat q ∧ zRg (zbs b_ n_ (ze N133_ 81 12).toNat) (0, q, []) (1, (ze N133_ 81 4).toNat, zMvs N133_)) by first | (exact hmx_) | assumption | exact hrt_ | exact hrt2_ | exact hmx_ | exact hPm_ | exact hFn_ | exact hLT2_ | exact hnk_)⟩)) i140_ i141_
                      · exact absurd hc_50 (by decide)
            exact lp_43 _ N128_ zFr.rf hp0_N128_ (show 0 ≤ ze N128_ 81 13 by first | (exact zo_631 e13_N128_ i100_) | assumption) (show ze N128_ 81 13 ≤ 4 by first | (exact zo_817 e13_N128_ i100_) | assumption) (show ze N128_ 81 14 = 0 by first | (exact zo_610 e14_N128_ i101_) | assumption) (show (1 ≤ ze N128_ 81 7 ∧ zTrB b_ n_ (ze Mz 81 4).toNat) ∨ (ze N128_ 81 7 = 0 ∧ 1 ≤ ze N128_ 81 12 ∧ ze N128_ 81 12 ≤ 6 ∧ zPm N128_ ∧ zFin N128_ ∧ (∃ q : Nat, zHd b_ n_ (ze Mz 81 4).toNat (ze N128_ 81 12).toNat q ∧ zRg (zbs b_ n_ (ze N128_ 81 12).toNat) (0, q, []) (0, (ze N128_ 81 4).toNat, zMvs N128_))) from Or.inl (⟨(show 1 ≤ ze N128_ 81 7 by first | (exact ha40_0_hp1_N128_) | assumption | exact hrt_ | exact hrt2_ | exact hmv0_ | exact hP0_ | exact hF0_ | exact hLT0_ | exact hPb_ | exact hFb_), (show zTrB b_ n_ (ze Mz 81 4).toNat by first | (exact hrt_) | assumption | exact hrt_ | exact hrt2_ | exact hmv0_ | exact hP0_ | exact hF0_ | exact hLT0_ | exact hPb_ | exact hFb_)⟩)) c131_ c132_ (Nat.lt_succ_self _)
        · as_aux_lemma =>
            have hsg_ := ha40_2_hp1_N128_
            have hx3_ := ha40_3_hp1_N128_
            rw [hx2_] at hsg_ hx3_
            have hPn_ : (ze N128_ 81 12) = ze N97_ 81 12 := by (exact e12_N128_)
            have hHd_ : zHd b_ n_ (ze Mz 81 4).toNat (ze N128_ 81 12).toNat (ze N128_ 81 4).toNat := ⟨⟨hk1_, hks_⟩, ⟨hk2_, by (exact zo_818 e12_N128_ hl37_4_i102_ hl37_5_i102_ hl37_6_i102_), by (exact zo_819 e12_N128_ hl37_5_i102_), by (exact zo_820 e12_N128_ hl37_5_i102_ hl37_6_i102_)⟩, hsg_, hx3_⟩
            have hmv0_ : (∃ q : Nat, zHd b_ n_ (ze Mz 81 4).toNat (ze N128_ 81 12).toNat q ∧ zRg (zbs b_ n_ (ze N128_ 81 12).toNat) (0, q, []) (0, (ze N128_ 81 4).toNat, zMvs N128_)) := ⟨_, hHd_, by rw [show zMvs N128_ = [] by unfold zMvs; rw [show (ze N128_ 81 13).toNat = 0 by (exact zo_599 e13_N128_ i100_)]; rfl]; exact zRg.rf⟩
            have hP0_ : zPm N128_ := zPm_0 (by (exact zo_610 e13_N128_ i100_))
            have hF0_ : zFin N128_ := zFin_0 (by (exact zo_610 e13_N128_ i100_))
            show zW l m_M_reads (zn Mz + 0, zw Mz + 0) N128_ 43 [some (.ref 81)] [] _
            have lp_43 : ∀ (n : Nat) (N150_ : zMem) (hs151_ : zFr [3, 4, 5, 6, 7, 8, 11, 13, 20] [83, 85, 86, 87, 88] N128_ N150_) (i152_ : zRt b_ n_ N150_) (i153_ : 0 ≤ ze N150_ 81 13) (i154_ : ze N150_ 81 13 ≤ 4) (i155_ : ze N150_ 81 14 = 0) (i156_ : (1 ≤ ze N150_ 81 7 ∧ zTrB b_ n_ (ze Mz 81 4).toNat) ∨ (ze N150_ 81 7 = 0 ∧ 1 ≤ ze N150_ 81 12 ∧ ze N150_ 81 12 ≤ 6 ∧ zPm N150_ ∧ zFin N150_ ∧ (∃ q : Nat, zHd b_ n_ (ze Mz 81 4).toNat (ze N150_ 81 12).toNat q ∧ zRg (zbs b_ n_ (ze N150_ 81 12).toNat) (0, q, []) (0, (ze N150_ 81 4).toNat, zMvs N150_)))) (i157_ : zB 83 24 0 5 N150_) (i158_ : zB 85 144 0 5 N150_), zmF n_ N150_ < n → zW l m_M_reads (zn Mz + 0, zw Mz + 0) N150_ 43 [some (.ref 81)] [] (zpV [3, 4, 5, 6, 7, 8, 11, 12, 13, 14, 20, 25, 26, 38, 39, 41, 42, 43] [83, 85, 86, 87, 88, 89, 90, 91, 92, 93, 94, 95, 96, 97, 100, 101, 102] Mz (fun N => zRt b_ n_ N ∧ 0 ≤ ze N 81 13 ∧ ze N 81 13 ≤ 4 ∧ 0 ≤ ze N 81 14 ∧ ze N 81 14 ≤ 8 ∧ zB 83 24 0 5 N ∧ zB 85 144 0 5 N ∧ (((1 ≤ ze N 81 7 ∧ zTrB b_ n_ (ze Mz 81 4).toNat) ∨ (ze N 81 7 = 0 ∧ 1 ≤ ze N 81 12 ∧ ze N 81 12 ≤ 6 ∧ zPm N ∧ zFin N ∧ (∃ T : zGT, ∃ mv : List Nat, ∃ P : Nat, ∃ nm : List (Int × (Nat → Int)), T ∈ gTabs ∧ zGB T N ∧ zTrN b_ n_ (ze Mz 81 4).toNat P mv T nm ∧ zMvs N = mv ∧ ze N 81 12 = (P : Int) ∧ zCdS (P : Int) mv T N ∧ zRNm nm (gF T).length (gmkI T) b_ n_ N)))))) := by
              clear hs98_ i99_ i100_ i101_ hf_N97_ hb0_N97_ hb1_N97_ r3_N97_ r4_N97_ r5_N97_ r7_N97_ r12_N97_ e13_N97_ e14_N97_ c103_ c104_ c105_ hl37_0_i102_ hl37_4_i102_ hl37_5_i102_ hl37_6_i102_ hl37_7_i102_ hsN128_ e12_N128_ e13_N128_ e14_N128_ ha40_1_hp1_N128_ ha40_2_hp1_N128_ ha40_3_hp1_N128_ hPn_
              intro n
              induction n with
              | zero =>
                intro N150_ hs151_ i152_ i153_ i154_ i155_ i156_ i157_ i158_ h0
                exact absurd h0 (Nat.not_lt_zero _)
              | succ n ih_43 =>
                intro N150_ hs151_ i152_ i153_ i154_ i155_ i156_ i157_ i158_ hlt_43
                have hf_N150_ := hf_N128_.tr hs151_ (by decide +kernel) (by decide +kernel)
                have hb0_N150_ := hb0_N128_.tr hs151_ (by decide +kernel) (by decide +kernel)
                have hb1_N150_ := hb1_N128_.tr hs151_ (by decide +kernel) (by decide +kernel)
                have r3_N150_ := ze_r N150_ 81 3
                have r4_N150_ := ze_r N150_ 81 4
                have r5_N150_ := ze_r N150_ 81 5
                have r7_N150_ := ze_r N150_ 81 7
                have e12_N150_ : ze N150_ 81 12 = ze N128_ 81 12 := hs151_.e (by decide)
                have r13_N150_ := ze_r N150_ 81 13
                have e14_N150_ : ze N150_ 81 14 = ze N128_ 81 14 := hs151_.e (by decide)
                have c159_ : zRb b_ n_ N150_ := zRb.fr hs151_ c130_ (by decide +kernel) (by decide +kernel)
                rcases i156_ with ⟨hl43_0_i156_, hl43_1_i156_⟩ | ⟨hl43_0_i156_, hl43_1_i156_, hl43_2_i156_, hl43_3_i156_, hl43_4_i156_, hl43_5_i156_⟩
                · refine zw_aload_n (pc := 43) (n := 0) (x := 81) rfl d_M_reads_43 ?_
                  refine zr_ldc2 (pc := 44) (n := 1836021349) (by decide) k_M_177 d_M_reads_44 ?_
                  refine zr_callV (hf_N150_.w hW) hf_N150_.x (pc := 47) [.long (Int64.ofInt 1836021349)] [] l_M_312 (c_M_isWordF l N150_ (hf_N150_.w hW) 1836021349 (by decide) (by decide) b_ n_ i152_) rfl rfl rfl (by decide) (Nat.le_of_ble_eq_true rfl) d_M_reads_47 ?_
                  rintro _ N160_ ⟨v161_, rfl, ⟨hv161_a, hv161_b⟩, hsN160_, hp0_N160_⟩
                  obtain rfl := hsN160_.eq.symm
                  replace hp0_N160_ : ((v161_ = 1 ∧ ze N150_ 81 7 = 0 ∧ zkd b_ n_ (ze N150_ 81 4).toNat = 1 ∧ zke8 b_ n_ (ze N150_ 81 4).toNat = 1836021349) ∨ (v161_ = 0 ∧ (ze N150_ 81 7 = 0 → ¬ (zkd b_ n_ (ze N150_ 81 4).toNat = 1 ∧ zke8 b_ n_ (ze N150_ 81 4).toNat = 1836021349)))) := hp0_N160_
                  rcases hp0_N160_ with ⟨rfl, ha47_0_hp0_N160_, ha47_1_hp0_N160_, ha47_2_hp0_N160_⟩ | ⟨rfl, ha47_0_hp0_N160_⟩
                  · exfalso; (exact zo_281 ha47_0_hp0_N160_ hl43_0_i156_)
                  · show zW l m_M_reads (zn Mz + 0, zw Mz + 0) N150_ 50 [some (.ref 81)] [.int (Int32.ofInt 0)] _
                    refine zr_if_eq (pc := 50) (tgt := 60) ⟨(by decide), (by decide)⟩ (by decide) d_M_reads_50 (fun hc_50 => ?_) (fun hc_50 => ?_)
                    · exact j_60 N150_ hb1_N150_ i152_ (show 0 ≤ ze N150_ 81 13 by first | (exact i153_) | assumption) (show ze N150_ 81 13 ≤ 4 by first | (exact i154_) | assumption) (show ze N150_ 81 14 = 0 by first | (exact i155_) | assumption) (show (1 ≤ ze N150_ 81 7 ∧ zTrB b_ n_ (ze Mz 81 4).toNat) ∨ (ze N150_ 81 7 = 0 ∧ 1 ≤ ze N150_ 81 12 ∧ ze N150_ 81 12 ≤ 6 ∧ zPm N150_ ∧ zFin N150_ ∧ (∃ q : Nat, zHd b_ n_ (ze Mz 81 4).toNat (ze N150_ 81 12).toNat q ∧ zRg (zbs b_ n_ (ze N150_ 81 12).toNat) (0, q, []) (1, (ze N150_ 81 4).toNat, zMvs N150_))) from Or.inl (⟨(show 1 ≤ ze N150_ 81 7 by first | (exact hl43_0_i156_) | assumption | exact hrt_ | exact hrt2_ | exact hmx_ | exact hPm_ | exact hFn_ | exact hLT2_ | exact hnk_), (show zTrB b_ n_ (ze Mz 81 4).toNat by first | (exact hl43_1_i156_) | assumption | exact hrt_ | exact hrt2_ | exact hmx_ | exact hPm_ | exact hFn_ | exact hLT2_ | exact hnk_)⟩)) i157_ i158_
                    · exact absurd hc_50 (by decide)
                · as_aux_lemma =>
                    have hPm_ := hl43_3_i156_
                    have hFn_ := hl43_4_i156_
                    have hmv_ := hl43_5_i156_
                    refine zw_aload_n (pc := 43) (n := 0) (x := 81) rfl d_M_reads_43 ?_
                    refine zr_ldc2 (pc := 44) (n := 1836021349) (by decide) k_M_177 d_M_reads_44 ?_
                    refine zr_callV (hf_N150_.w hW) hf_N150_.x (pc := 47) [.long (Int64.ofInt 1836021349)] [] l_M_312 (c_M_isWordF l N150_ (hf_N150_.w hW) 1836021349 (by decide) (by decide) b_ n_ i152_) rfl rfl rfl (by decide) (Nat.le_of_ble_eq_true rfl) d_M_reads_47 ?_
                    rintro _ N162_ ⟨v163_, rfl, ⟨hv163_a, hv163_b⟩, hsN162_, hp0_N162_⟩
                    obtain rfl := hsN162_.eq.symm
                    replace hp0_N162_ : ((v163_ = 1 ∧ ze N150_ 81 7 = 0 ∧ zkd b_ n_ (ze N150_ 81 4).toNat = 1 ∧ zke8 b_ n_ (ze N150_ 81 4).toNat = 1836021349) ∨ (v163_ = 0 ∧ (ze N150_ 81 7 = 0 → ¬ (zkd b_ n_ (ze N150_ 81 4).toNat = 1 ∧ zke8 b_ n_ (ze N150_ 81 4).toNat = 1836021349)))) := hp0_N162_
                    rcases hp0_N162_ with ⟨rfl, ha47_0_hp0_N162_, ha47_1_hp0_N162_, ha47_2_hp0_N162_⟩ | ⟨rfl, ha47_0_hp0_N162_⟩
                    · as_aux_lemma =>
                        have hk1_ := ha47_1_hp0_N162_
                        have hks_ := (zke8_w hk1_ (i := 1) (by decide)).mp ha47_2_hp0_N162_
                        show zW l m_M_reads (zn Mz + 0, zw Mz + 0) N150_ 50 [some (.ref 81)] [.int (Int32.ofInt 1)] _
                        refine zr_if_eq (pc := 50) (tgt := 60) ⟨(by decide), (by decide)⟩ (by decide) d_M_reads_50 (fun hc_50 => ?_) (fun hc_50 => ?_)
                        · exact absurd hc_50 (by decide)
                        · as_aux_lemma =>
                            refine zw_aload_n (pc := 53) (n := 0) (x := 81) rfl (zdal_p dlC_M_reads_72 (i := 1) rfl) ?_
                            refine zr_callV (hf_N150_.w hW) hf_N150_.x (pc := 54) [] [] l_M_361 (c_M_moveLineF l N150_ (hf_N150_.w hW) b_ n_ c159_ i152_ (show ze N150_ 81 7 = 0 by first | (exact hl43_0_i156_) | assumption) (show zkd b_ n_ (ze N150_ 81 4).toNat = 1 by first | (exact ha47_1_hp0_N162_) | assumption) (show zkey b_ n_ (ze N150_ 81 4).toNat = zkw 1 by first | (exact hks_) | assumption) (show 1 ≤ ze N150_ 81 12 by first | (exact hl43_1_i156_) | assumption) (show ze N150_ 81 12 ≤ 6 by first | (exact hl43_2_i156_) | assumption) (show 0 ≤ ze N150_ 81 13 by first | (exact i153_) | assumption) (show ze N150_ 81 13 ≤ 4 by first | (exact i154_) | assumption) hPm_ i157_ i158_) rfl rfl rfl (by decide) (Nat.le_of_ble_eq_true rfl) (zdal_p dlC_M_reads_72 (i := 2) rfl) ?_
                            rintro _ N164_ ⟨rfl, hsN164_, ⟨hp0_N164_, hp1_N164_, hp2_N164_, hp3_N164_, hp4_N164_, hp5_N164_⟩⟩
                            have hf_N164_ := hf_N150_.tr hsN164_ (by decide +kernel) (by decide +kernel)
                            have hb0_N164_ := hb0_N150_.tr hsN164_ (by decide +kernel) (by decide +kernel)
                            have hb1_N164_ := hb1_N150_.tr hsN164_ (by decide +kernel) (by decide +kernel)
                            have hb2_N164_ := hs151_.tr hsN164_ (by decide +kernel) (by decide +kernel)
                            have r3_N164_ := ze_r N164_ 81 3
                            have r4_N164_ := ze_r N164_ 81 4
                            have r5_N164_ := ze_r N164_ 81 5
                            have r7_N164_ := ze_r N164_ 81 7
                            have e12_N164_ : ze N164_ 81 12 = ze N150_ 81 12 := hsN164_.e (by decide)
                            have r13_N164_ := ze_r N164_ 81 13
                            have e14_N164_ : ze N164_ 81 14 = ze N150_ 81 14 := hsN164_.e (by decide)
                            rcases hp5_N164_ with ⟨ha54_0_hp5_N164_, ha54_1_hp5_N164_⟩ | ⟨ha54_0_hp5_N164_, ha54_1_hp5_N164_, ha54_2_hp5_N164_, ha54_3_hp5_N164_, ha54_4_hp5_N164_⟩
                            · have hrt_ : zTrB b_ n_ (ze Mz 81 4).toNat := by obtain ⟨q_, h1_, h2_⟩ := id hmv_; exact Or.inr (Or.inl ⟨_, q_, h1_, h2_.tr (zRg.st ha54_1_hp5_N164_)⟩)
                              show zW l m_M_reads (zn Mz + 0, zw Mz + 0) N164_ 57 [some (.ref 81)] [] _
                              refine zw_goto (pc := 57) (tgt := 43) (by decide) d_M_reads_57 ?_
                              exact ih_43 N164_ hb2_N164_ hp0_N164_ (show 0 ≤ ze N164_ 81 13 by first | (exact hp1_N164_) | assumption) (show ze N164_ 81 13 ≤ 4 by first | (exact hp2_N164_) | assumption) (show ze N164_ 81 14 = 0 by first | (exact zo_610 e14_N164_ i155_) | assumption) (show (1 ≤ ze N164_ 81 7 ∧ zTrB b_ n_ (ze Mz 81 4).toNat) ∨ (ze N164_ 81 7 = 0 ∧ 1 ≤ ze N164_ 81 12 ∧ ze N164_ 81 12 ≤ 6 ∧ zPm N164_ ∧ zFin N164_ ∧ (∃ q : Nat, zHd b_ n_ (ze Mz 81 4).toNat (ze N164_ 81 12).toNat q ∧ zRg (zbs b_ n_ (ze N164_ 81 12).toNat) (0, q, []) (0, (ze N164_ 81 4).toNat, zMvs N164_))) from Or.inl (⟨(show 1 ≤ ze N164_ 81 7 by first | (exact ha54_0_hp5_N164_) | assumption | exact hrt_ | exact hmv2_ | exact hPm2_ | exact hFn2_ | exact hLT3_ | exact hPb_ | exact hFb_), (show zTrB b_ n_ (ze Mz 81 4).toNat by first | (exact hrt_) | assumption | exact hrt_ | exact hmv2_ | exact hPm2_ | exact hFn2_ | exact hLT3_ | exact hPb_ | exact hFb_)⟩)) hp3_N164_ hp4_N164_ (by have m1_ := zmF_c n_ N164_; have m2_ := zmF_c n_ N150_; have m3_ := hp0_N164_.x; omega)
                            · have hmv2_ : (∃ q : Nat, zHd b_ n_ (ze Mz 81 4).toNat (ze N164_ 81 12).toNat q ∧ zRg (zbs b_ n_ (ze N164_ 81 12).toNat) (0, q, []) (0, (ze N164_ 81 4).toNat, zMvs N164_)) := by obtain ⟨q_, h1_, h2_⟩ := id hmv_; rw [show ze N164_ 81 12 = ze N150_ 81 12 by (exact e12_N164_)]; exact ⟨q_, h1_, h2_.tr (zRg.st ha54_1_hp5_N164_)⟩
                              have hPm2_ := ha54_2_hp5_N164_
                              have hFn2_ := ha54_3_hp5_N164_
                              have hlt2_ := ha54_4_hp5_N164_
                              show zW l m_M_reads (zn Mz + 0, zw Mz + 0) N164_ 57 [some (.ref 81)] [] _
                              refine zw_goto (pc := 57) (tgt := 43) (by decide) d_M_reads_57 ?_
                              exact ih_43 N164_ hb2_N164_ hp0_N164_ (show 0 ≤ ze N164_ 81 13 by first | (exact hp1_N164_) | assumption) (show ze N164_ 81 13 ≤ 4 by first | (exact hp2_N164_) | assumption) (show ze N164_ 81 14 = 0 by first | (exact zo_610 e14_N164_ i155_) | assumption) (show (1 ≤ ze N164_ 81 7 ∧ zTrB b_ n_ (ze Mz 81 4).toNat) ∨ (ze N164_ 81 7 = 0 ∧ 1 ≤ ze N164_ 81 12 ∧ ze N164_ 81 12 ≤ 6 ∧ zPm N164_ ∧ zFin N164_ ∧ (∃ q : Nat, zHd b_ n_ (ze Mz 81 4).toNat (ze N164_ 81 12).toNat q ∧ zRg (zbs b_ n_ (ze N164_ 81 12).toNat) (0, q, []) (0, (ze N164_ 81 4).toNat, zMvs N164_))) from Or.inr (⟨(show ze N164_ 81 7 = 0 by first | (exact ha54_0_hp5_N164_) | assumption | exact hrt_ | exact hmv2_ | exact hPm2_ | exact hFn2_ | exact hLT3_ | exact hPb_ | exact hFb_), (show 1 ≤ ze N164_ 81 12 by first | (exact zo_533 e12_N164_ hl43_1_i156_) | assumption | exact hrt_ | exact hmv2_ | exact hPm2_ | exact hFn2_ | exact hLT3_ | exact hPb_ | exact hFb_), (show ze N164_ 81 12 ≤ 6 by first | (exact zo_810 e12_N164_ hl43_2_i156_) | assumption | exact hrt_ | exact hmv2_ | exact hPm2_ | exact hFn2_ | exact hLT3_ | exact hPb_ | exact hFb_), (show zPm N164_ by first | (exact ha54_2_hp5_N164_) | assumption | exact hrt_ | exact hmv2_ | exact hPm2_ | exact hFn2_ | exact hLT3_ | exact hPb_ | exact hFb_), (show zFin N164_ by first | (exact ha54_3_hp5_N164_) | assumption | exact hrt_ | exact hmv2_ | exact hPm2_ | exact hFn2_ | exact hLT3_ | exact hPb_ | exact hFb_), (show (∃ q : Nat, zHd b_ n_ (ze Mz 81 4).toNat (ze N164_ 81 12).toNat q ∧ zRg (zbs b_ n_ (ze N164_ 81 12).toNat) (0, q, []) (0, (ze N164_ 81 4).toNat, zMvs N164_)) by first | (exact hmv2_) | assumption | exact hrt_ | exact hmv2_ | exact hPm2_ | exact hFn2_ | exact hLT3_ | exact hPb_ | exact hFb_)⟩)) hp3_N164_ hp4_N164_ (by have m1_ := zmF_c n_ N164_; have m2_ := zmF_c n_ N150_; have m3_ := hp0_N164_.x; omega)
                    · have hnm2_ : ¬ (zkd b_ n_ (ze N150_ 81 4).toNat = 1 ∧ zkey b_ n_ (ze N150_ 81 4).toNat = zkw 1) := fun q_ => ha47_0_hp0_N162_ (by (exact hl43_0_i156_)) ⟨q_.1, (zke8_w q_.1 (i := 1) (by decide)).mpr q_.2⟩
                      have hmx_ : (∃ q : Nat, zHd b_ n_ (ze Mz 81 4).toNat (ze N150_ 81 12).toNat q ∧ zRg (zbs b_ n_ (ze N150_ 81 12).toNat) (0, q, []) (1, (ze N150_ 81 4).toNat, zMvs N150_)) := by obtain ⟨q_, h1_, h2_⟩ := id hmv_; exact ⟨q_, h1_, h2_.tr (zRg.st (zbs_e hnm2_))⟩
                      show zW l m_M_reads (zn Mz + 0, zw Mz + 0) N150_ 50 [some (.ref 81)] [.int (Int32.ofInt 0)] _
                      refine zr_if_eq (pc := 50) (tgt := 60) ⟨(by decide), (by decide)⟩ (by decide) d_M_reads_50 (fun hc_50 => ?_) (fun hc_50 => ?_)
                      · exact j_60 N150_ hb1_N150_ i152_ (show 0 ≤ ze N150_ 81 13 by first | (exact i153_) | assumption) (show ze N150_ 81 13 ≤ 4 by first | (exact i154_) | assumption) (show ze N150_ 81 14 = 0 by first | (exact i155_) | assumption) (show (1 ≤ ze N150_ 81 7 ∧ zTrB b_ n_ (ze Mz 81 4).toNat) ∨ (ze N150_ 81 7 = 0 ∧ 1 ≤ ze N150_ 81 12 ∧ ze N150_ 81 12 ≤ 6 ∧ zPm N150_ ∧ zFin N150_ ∧ (∃ q : Nat, zHd b_ n_ (ze Mz 81 4).toNat (ze N150_ 81 12).toNat q ∧ zRg (zbs b_ n_ (ze N150_ 81 12).toNat) (0, q, []) (1, (ze N150_ 81 4).toNat, zMvs N150_))) from Or.inr (⟨(show ze N150_ 81 7 = 0 by first | (exact hl43_0_i156_) | assumption | exact hrt_ | exact hrt2_ | exact hmx_ | exact hPm_ | exact hFn_ | exact hLT2_ | exact hnk_), (show 1 ≤ ze N150_ 81 12 by first | (exact hl43_1_i156_) | assumption | exact hrt_ | exact hrt2_ | exact hmx_ | exact hPm_ | exact hFn_ | exact hLT2_ | exact hnk_), (show ze N150_ 81 12 ≤ 6 by first | (exact hl43_2_i156_) | assumption | exact hrt_ | exact hrt2_ | exact hmx_ | exact hPm_ | exact hFn_ | exact hLT2_ | exact hnk_), (show zPm N150_ by first | (exact hl43_3_i156_) | assumption | exact hrt_ | exact hrt2_ | exact hmx_ | exact hPm_ | exact hFn_ | exact hLT2_ | exact hnk_), (show zFin N150_ by first | (exact hl43_4_i156_) | assumption | exact hrt_ | exact hrt2_ | exact hmx_ | exact hPm_ | exact hFn_ | exact hLT2_ | exact hnk_), (show (∃ q : Nat, zHd b_ n_ (ze Mz 81 4).toNat (ze N150_ 81 12).toNat q ∧ zRg (zbs b_ n_ (ze N150_ 81 12).toNat) (0, q, []) (1, (ze N150_ 81 4).toNat, zMvs N150_)) by first | (exact hmx_) | assumption | exact hrt_ | exact hrt2_ | exact hmx_ | exact hPm_ | exact hFn_ | exact hLT2_ | exact hnk_)⟩)) i157_ i158_
                      · exact absurd hc_50 (by decide)
            exact lp_43 _ N128_ zFr.rf hp0_N128_ (show 0 ≤ ze N128_ 81 13 by first | (exact zo_631 e13_N128_ i100_) | assumption) (show ze N128_ 81 13 ≤ 4 by first | (exact zo_817 e13_N128_ i100_) | assumption) (show ze N128_ 81 14 = 0 by first | (exact zo_610 e14_N128_ i101_) | assumption) (show (1 ≤ ze N128_ 81 7 ∧ zTrB b_ n_ (ze Mz 81 4).toNat) ∨ (ze N128_ 81 7 = 0 ∧ 1 ≤ ze N128_ 81 12 ∧ ze N128_ 81 12 ≤ 6 ∧ zPm N128_ ∧ zFin N128_ ∧ (∃ q : Nat, zHd b_ n_ (ze Mz 81 4).toNat (ze N128_ 81 12).toNat q ∧ zRg (zbs b_ n_ (ze N128_ 81 12).toNat) (0, q, []) (0, (ze N128_ 81 4).toNat, zMvs N128_))) from Or.inr (⟨(show ze N128_ 81 7 = 0 by first | (exact ha40_0_hp1_N128_) | assumption | exact hrt_ | exact hrt2_ | exact hmv0_ | exact hP0_ | exact hF0_ | exact hLT0_ | exact hPb_ | exact hFb_), (show 1 ≤ ze N128_ 81 12 by first | (exact zo_533 e12_N128_ hl37_5_i102_) | assumption | exact hrt_ | exact hrt2_ | exact hmv0_ | exact hP0_ | exact hF0_ | exact hLT0_ | exact hPb_ | exact hFb_), (show ze N128_ 81 12 ≤ 6 by first | (exact zo_810 e12_N128_ hl37_6_i102_) | assumption | exact hrt_ | exact hrt2_ | exact hmv0_ | exact hP0_ | exact hF0_ | exact hLT0_ | exact hPb_ | exact hFb_), (show zPm N128_ by first | (exact hP0_) | assumption | exact hrt_ | exact hrt2_ | exact hmv0_ | exact hP0_ | exact hF0_ | exact hLT0_ | exact hPb_ | exact hFb_), (show zFin N128_ by first | (exact hF0_) | assumption | exact hrt_ | exact hrt2_ | exact hmv0_ | exact hP0_ | exact hF0_ | exact hLT0_ | exact hPb_ | exact hFb_), (show (∃ q : Nat, zHd b_ n_ (ze Mz 81 4).toNat (ze N128_ 81 12).toNat q ∧ zRg (zbs b_ n_ (ze N128_ 81 12).toNat) (0, q, []) (0, (ze N128_ 81 4).toNat, zMvs N128_)) by first | (exact hmv0_) | assumption | exact hrt_ | exact hrt2_ | exact hmv0_ | exact hP0_ | exact hF0_ | exact hLT0_ | exact hPb_ | exact hFb_)⟩)) c131_ c132_ (Nat.lt_succ_self _)
  refine zw_aload_n (pc := 0) (n := 0) (x := 81) rfl (zdal_p dlC_M_reads_71 (i := 0) rfl) ?_
  refine zr_ldc2 (pc := 1) (n := 123610792682867) (by decide) k_M_175 (zdal_p dlC_M_reads_71 (i := 1) rfl) ?_
  refine zr_callV (hf.w hW) hf.x (pc := 4) [.long (Int64.ofInt 123610792682867)] [] l_M_312 (c_M_isWordF l Mz (hf.w hW) 123610792682867 (by decide) (by decide) b_ n_ p1_) rfl rfl rfl (by decide) (Nat.le_of_ble_eq_true rfl) (zdal_p dlC_M_reads_71 (i := 2) rfl) ?_
  rintro _ N167_ ⟨v168_, rfl, ⟨hv168_a, hv168_b⟩, hsN167_, hp0_N167_⟩
  obtain rfl := hsN167_.eq.symm
  replace hp0_N167_ : ((v168_ = 1 ∧ ze Mz 81 7 = 0 ∧ zkd b_ n_ (ze Mz 81 4).toNat = 1 ∧ zke8 b_ n_ (ze Mz 81 4).toNat = 123610792682867) ∨ (v168_ = 0 ∧ (ze Mz 81 7 = 0 → ¬ (zkd b_ n_ (ze Mz 81 4).toNat = 1 ∧ zke8 b_ n_ (ze Mz 81 4).toNat = 123610792682867)))) := hp0_N167_
  rcases hp0_N167_ with ⟨rfl, ha4_0_hp0_N167_, ha4_1_hp0_N167_, ha4_2_hp0_N167_⟩ | ⟨rfl, ha4_0_hp0_N167_⟩
  · as_aux_lemma =>
      have hk1_ := ha4_1_hp0_N167_
      have hks_ := (zke8_w hk1_ (i := 0) (by decide)).mp ha4_2_hp0_N167_
      show zW l m_M_reads (zn Mz + 0, zw Mz + 0) Mz 7 [some (.ref 81)] [.int (Int32.ofInt 1)] _
      refine zr_if_ne (pc := 7) (tgt := 15) ⟨(by decide), (by decide)⟩ (by decide) (zdal_p dlC_M_reads_71 (i := 3) rfl) (fun hc_7 => ?_) (fun hc_7 => ?_)
      · as_aux_lemma =>
          refine zw_aload_n (pc := 15) (n := 0) (x := 81) rfl (zdal_p dlC_M_reads_71 (i := 7) rfl) ?_
          refine zr_callV (hf.w hW) hf.x (pc := 16) [] [] l_M_183 (c_M_isGood l Mz (hf.w hW) ) rfl rfl rfl (by decide) (Nat.le_of_ble_eq_true rfl) (zdal_p dlC_M_reads_71 (i := 8) rfl) ?_
          rintro _ N169_ ⟨v170_, rfl, ⟨hv170_a, hv170_b⟩, hsN169_, hp0_N169_⟩
          obtain rfl := hsN169_.eq.symm
          replace hp0_N169_ : ((v170_ = 1 ∧ ze Mz 81 7 = 0) ∨ (v170_ = 0 ∧ ze Mz 81 7 ≠ 0)) := hp0_N169_
          rcases hp0_N169_ with ⟨rfl, ha16_0_hp0_N169_⟩ | ⟨rfl, ha16_0_hp0_N169_⟩
          · as_aux_lemma =>
              show zW l m_M_reads (zn Mz + 0, zw Mz + 0) Mz 19 [some (.ref 81)] [.int (Int32.ofInt 1)] _
              refine zr_if_eq (pc := 19) (tgt := 26) ⟨(by decide), (by decide)⟩ (by decide) (zdal_p dlC_M_reads_71 (i := 9) rfl) (fun hc_19 => ?_) (fun hc_19 => ?_)
              · exact absurd hc_19 (by decide)
              · as_aux_lemma =>
                  have hyt_ := p1_
                  have hyx_ := hyt_.x
                  refine zw_aload_n (pc := 22) (n := 0) (x := 81) rfl (zdal_p dlC_M_reads_71 (i := 10) rfl) ?_
                  refine zr_callV (hf.w hW) hf.x (pc := 23) [] [] l_M_193 (c_M_goOnF l Mz (hf.w hW) b_ n_ p0_ (show 0 ≤ ze Mz 81 3 by first | (exact zo_57 hyx_.2.1) | assumption) (show ze Mz 81 3 ≤ n_ by first | (exact zo_277 hyx_.2.2 r_3.2) | assumption)) rfl rfl rfl (by decide) (Nat.le_of_ble_eq_true rfl) (zdal_p dlC_M_reads_71 (i := 11) rfl) ?_
                  rintro _ N171_ ⟨rfl, hsN171_, ⟨hp0_N171_, hp1_N171_⟩⟩
                  have hf_N171_ := hf.tr hsN171_ (by decide +kernel) (by decide +kernel)
                  have hb0_N171_ : zFr [3, 4, 5, 6, 7, 8, 11, 12, 13, 14, 20, 25, 26, 38, 39, 41, 42, 43] [83, 85, 86, 87, 88, 89, 90, 91, 92, 93, 94, 95, 96, 97, 100, 101, 102] Mz N171_ := zFr.rf.tr hsN171_ (by decide +kernel) (by decide +kernel)
                  have hb1_N171_ : zFr [3, 4, 5, 6, 7, 8, 11, 12, 13, 20] [83, 85, 86, 87, 88] Mz N171_ := zFr.rf.tr hsN171_ (by decide +kernel) (by decide +kernel)
                  have hb2_N171_ : zFr [3, 4, 5, 6, 7, 8, 11, 12] [] Mz N171_ := zFr.rf.tr hsN171_ (by decide +kernel) (by decide +kernel)
                  have r3_N171_ := ze_r N171_ 81 3
                  have r4_N171_ := ze_r N171_ 81 4
                  have r5_N171_ := ze_r N171_ 81 5
                  have e7_N171_ : ze N171_ 81 7 = ze Mz 81 7 := hsN171_.e (by decide)
                  have e12_N171_ : ze N171_ 81 12 = ze Mz 81 12 := hsN171_.e (by decide)
                  have e13_N171_ : ze N171_ 81 13 = ze Mz 81 13 := hsN171_.e (by decide)
                  have e14_N171_ : ze N171_ 81 14 = ze Mz 81 14 := hsN171_.e (by decide)
                  have c173_ : zRb b_ n_ N171_ := zRb.fr hsN171_ p0_ (by decide +kernel) (by decide +kernel)
                  show zW l m_M_reads (zn Mz + 0, zw Mz + 0) N171_ 26 [some (.ref 81)] [] _
                  have hnn_ := hyt_.nx hp0_N171_
                  have hx1_ := hnn_.2
                  have hg1_ := znx_g (b := b_) (n := n_) (s := (ze Mz 81 4).toNat) (by (exact zo_83 ha4_1_hp0_N167_))
                  refine zw_aload_n (pc := 26) (n := 0) (x := 81) rfl (zdal_p dlC_M_reads_71 (i := 12) rfl) ?_
                  refine zw_aload_n (pc := 27) (n := 0) (x := 81) rfl (zdal_p dlC_M_reads_71 (i := 13) rfl) ?_
                  refine zw_iconst (pc := 28) (v := Int32.ofInt 1) (by decide) (zdal_p dlC_M_reads_71 (i := 14) rfl) ?_
                  refine zw_bipush (pc := 29) (v := Int32.ofInt 6) (by decide) (zdal_p dlC_M_reads_71 (i := 15) rfl) ?_
                  refine zr_callV (hf_N171_.w hW) hf_N171_.x (pc := 31) [.int (Int32.ofInt 1), .int (Int32.ofInt 6)] [.ref 81] l_M_322 (c_M_numberF l N171_ (hf_N171_.w hW) 1 (by decide) (by decide) 6 (by decide) (by decide) b_ n_ c173_ hp1_N171_ (show 0 ≤ ze N171_ 81 7 by first | (exact zo_631 e7_N171_ p2_) | assumption)) rfl rfl rfl (by decide) (Nat.le_of_ble_eq_true rfl) (zdal_p dlC_M_reads_71 (i := 16) rfl) ?_
                  rintro _ N176_ ⟨v177_, rfl, ⟨hv177_a, hv177_b⟩, hsN176_, ⟨hp0_N176_, hp1_N176_⟩⟩
                  have hf_N176_ := hf_N171_.tr hsN176_ (by decide +kernel) (by decide +kernel)
                  have hb0_N176_ := hb0_N171_.tr hsN176_ (by decide +kernel) (by decide +kernel)
                  have hb1_N176_ := hb1_N171_.tr hsN176_ (by decide +kernel) (by decide +kernel)
                  have hb2_N176_ := hb2_N171_.tr hsN176_ (by decide +kernel) (by decide +kernel)
                  have r3_N176_ := ze_r N176_ 81 3
                  have r4_N176_ := ze_r N176_ 81 4
                  have r5_N176_ := ze_r N176_ 81 5
                  have r7_N176_ := ze_r N176_ 81 7
                  have e12_N176_ : ze N176_ 81 12 = ze N171_ 81 12 := hsN176_.e (by decide)
                  have e13_N176_ : ze N176_ 81 13 = ze N171_ 81 13 := hsN176_.e (by decide)
                  have e14_N176_ : ze N176_ 81 14 = ze N171_ 81 14 := hsN176_.e (by decide)
                  as_aux_lemma =>
                    rcases hp1_N176_ with ⟨ha31_0_hp1_N176_, ha31_1_hp1_N176_⟩ | ⟨ha31_0_hp1_N176_, ha31_1_hp1_N176_, ha31_2_hp1_N176_, ha31_3_hp1_N176_, ha31_4_hp1_N176_⟩
                    · have hrt2_ : zTrB b_ n_ (ze Mz 81 4).toNat := by first | exact hrt_ | exact Or.inl (fun ⟨P_, q_, h_⟩ => ha31_1_hp1_N176_ (by (exact zo_610 e7_N171_ p2_)) (by rw [hx1_]; have h1_ := h_.2.1; exact ⟨h1_.1, by (exact zo_821 h1_.2.1 h1_.2.2.1), by (exact zo_822 h1_.2.1 h1_.2.2.2)⟩))
                      show zW l m_M_reads (zn Mz + 0, zw Mz + 0) N176_ 34 [some (.ref 81)] [.int (Int32.ofInt v177_), .ref 81] _
                      refine zr_putI (hf_N176_.w hW) (pc := 34) f_M_115 rfl rfl ⟨by (exact hv177_a), by (exact hv177_b)⟩ rfl rfl (zdal_p dlC_M_reads_71 (i := 17) rfl) (fun N181_ hsN181_ hvN181_ => ?_)
                      have hf_N181_ := hf_N176_.tr hsN181_ (by decide +kernel) (by decide +kernel)
                      have hb0_N181_ := hb0_N176_.tr hsN181_ (by decide +kernel) (by decide +kernel)
                      have hb1_N181_ := hb1_N176_.tr hsN181_ (by decide +kernel) (by decide +kernel)
                      have hb2_N181_ := hb2_N176_.tr hsN181_ (by decide +kernel) (by decide +kernel)
                      have e3_N181_ : ze N181_ 81 3 = ze N176_ 81 3 := hsN181_.e (by decide)
                      have e4_N181_ : ze N181_ 81 4 = ze N176_ 81 4 := hsN181_.e (by decide)
                      have e5_N181_ : ze N181_ 81 5 = ze N176_ 81 5 := hsN181_.e (by decide)
                      have e7_N181_ : ze N181_ 81 7 = ze N176_ 81 7 := hsN181_.e (by decide)
                      have r12_N181_ := ze_r N181_ 81 12
                      have e13_N181_ : ze N181_ 81 13 = ze N176_ 81 13 := hsN181_.e (by decide)
                      have e14_N181_ : ze N181_ 81 14 = ze N176_ 81 14 := hsN181_.e (by decide)
                      have c185_ : zRt b_ n_ N181_ := zRt.fr hsN181_ hp0_N176_ (by decide +kernel) (by decide +kernel)
                      exact j_37 N181_ hb2_N181_ c185_ (show ze N181_ 81 13 = 0 by first | (exact zo_595 e13_N171_ e13_N176_ e13_N181_ p3_) | assumption) (show ze N181_ 81 14 = 0 by first | (exact zo_595 e14_N171_ e14_N176_ e14_N181_ p4_) | assumption) (show (1 ≤ ze N181_ 81 7 ∧ zTrB b_ n_ (ze Mz 81 4).toNat) ∨ (ze N181_ 81 7 = 0 ∧ zkd b_ n_ (ze Mz 81 4).toNat = 1 ∧ zkey b_ n_ (ze Mz 81 4).toNat = zkw 0 ∧ zkd b_ n_ (znx b_ n_ (ze Mz 81 4).toNat) = 2 ∧ znu b_ n_ (znx b_ n_ (ze Mz 81 4).toNat) = ze N181_ 81 12 ∧ 1 ≤ ze N181_ 81 12 ∧ ze N181_ 81 12 ≤ 6 ∧ (ze N181_ 81 4).toNat = znx b_ n_ (znx b_ n_ (ze Mz 81 4).toNat)) from Or.inl (⟨(show 1 ≤ ze N181_ 81 7 by first | (exact zo_533 e7_N181_ ha31_0_hp1_N176_) | assumption | exact hrt_ | exact hrt2_ | exact hmx_ | exact hPm_ | exact hFn_ | exact hLT2_ | exact hnk_), (show zTrB b_ n_ (ze Mz 81 4).toNat by first | (exact hrt2_) | assumption | exact hrt_ | exact hrt2_ | exact hmx_ | exact hPm_ | exact hFn_ | exact hLT2_ | exact hnk_)⟩))
                    · as_aux_lemma =>
                        have hnu_ := ha31_2_hp1_N176_
                        have hnv_ := ha31_3_hp1_N176_
                        have hx2_ := ha31_4_hp1_N176_
                        rw [hx1_] at hnu_ hnv_ hx2_
                        obtain ⟨hk2_, hlo_, hhi_⟩ := hnu_
                        show zW l m_M_reads (zn Mz + 0, zw Mz + 0) N176_ 34 [some (.ref 81)] [.int (Int32.ofInt v177_), .ref 81] _
                        refine zr_putI (hf_N176_.w hW) (pc := 34) f_M_115 rfl rfl ⟨by (exact hv177_a), by (exact hv177_b)⟩ rfl rfl (zdal_p dlC_M_reads_71 (i := 17) rfl) (fun N186_ hsN186_ hvN186_ => ?_)
                        have hf_N186_ := hf_N176_.tr hsN186_ (by decide +kernel) (by decide +kernel)
                        have hb0_N186_ := hb0_N176_.tr hsN186_ (by decide +kernel) (by decide +kernel)
                        have hb1_N186_ := hb1_N176_.tr hsN186_ (by decide +kernel) (by decide +kernel)
                        have hb2_N186_ := hb2_N176_.tr hsN186_ (by decide +kernel) (by decide +kernel)
                        have e3_N186_ : ze N186_ 81 3 = ze N176_ 81 3 := hsN186_.e (by decide)
                        have e4_N186_ : ze N186_ 81 4 = ze N176_ 81 4 := hsN186_.e (by decide)
                        have e5_N186_ : ze N186_ 81 5 = ze N176_ 81 5 := hsN186_.e (by decide)
                        have e7_N186_ : ze N186_ 81 7 = ze N176_ 81 7 := hsN186_.e (by decide)
                        have r12_N186_ := ze_r N186_ 81 12
                        have e13_N186_ : ze N186_ 81 13 = ze N176_ 81 13 := hsN186_.e (by decide)
                        have e14_N186_ : ze N186_ 81 14 = ze N176_ 81 14 := hsN186_.e (by decide)
                        have c190_ : zRt b_ n_ N186_ := zRt.fr hsN186_ hp0_N176_ (by decide +kernel) (by decide +kernel)
                        exact j_37 N186_ hb2_N186_ c190_ (show ze N186_ 81 13 = 0 by first | (exact zo_595 e13_N171_ e13_N176_ e13_N186_ p3_) | assumption) (show ze N186_ 81 14 = 0 by first | (exact zo_595 e14_N171_ e14_N176_ e14_N186_ p4_) | assumption) (show (1 ≤ ze N186_ 81 7 ∧ zTrB b_ n_ (ze Mz 81 4).toNat) ∨ (ze N186_ 81 7 = 0 ∧ zkd b_ n_ (ze Mz 81 4).toNat = 1 ∧ zkey b_ n_ (ze Mz 81 4).toNat = zkw 0 ∧ zkd b_ n_ (znx b_ n_ (ze Mz 81 4).toNat) = 2 ∧ znu b_ n_ (znx b_ n_ (ze Mz 81 4).toNat) = ze N186_ 81 12 ∧ 1 ≤ ze N186_ 81 12 ∧ ze N186_ 81 12 ≤ 6 ∧ (ze N186_ 81 4).toNat = znx b_ n_ (znx b_ n_ (ze Mz 81 4).toNat)) from Or.inr (⟨(show ze N186_ 81 7 = 0 by first | (exact zo_610 e7_N186_ ha31_0_hp1_N176_) | assumption | exact hrt_ | exact hrt2_ | exact hmx_ | exact hPm_ | exact hFn_ | exact hLT2_ | exact hnk_), (show zkd b_ n_ (ze Mz 81 4).toNat = 1 by first | (exact ha4_1_hp0_N167_) | assumption | exact hrt_ | exact hrt2_ | exact hmx_ | exact hPm_ | exact hFn_ | exact hLT2_ | exact hnk_), (show zkey b_ n_ (ze Mz 81 4).toNat = zkw 0 by first | (exact hks_) | assumption | exact hrt_ | exact hrt2_ | exact hmx_ | exact hPm_ | exact hFn_ | exact hLT2_ | exact hnk_), (show zkd b_ n_ (znx b_ n_ (ze Mz 81 4).toNat) = 2 by first | (exact hk2_) | assumption | exact hrt_ | exact hrt2_ | exact hmx_ | exact hPm_ | exact hFn_ | exact hLT2_ | exact hnk_), (show znu b_ n_ (znx b_ n_ (ze Mz 81 4).toNat) = ze N186_ 81 12 by first | (exact zo_823 hhi_ hlo_ hnv_ hvN186_ r12_N186_.1 r12_N186_.2) | assumption | exact hrt_ | exact hrt2_ | exact hmx_ | exact hPm_ | exact hFn_ | exact hLT2_ | exact hnk_), (show 1 ≤ ze N186_ 81 12 by first | (exact zo_824 hlo_ hnv_ hvN186_ r12_N186_.1) | assumption | exact hrt_ | exact hrt2_ | exact hmx_ | exact hPm_ | exact hFn_ | exact hLT2_ | exact hnk_), (show ze N186_ 81 12 ≤ 6 by first | (exact zo_825 hhi_ hnv_ hvN186_ r12_N186_.2) | assumption | exact hrt_ | exact hrt2_ | exact hmx_ | exact hPm_ | exact hFn_ | exact hLT2_ | exact hnk_), (show (ze N186_ 81 4).toNat = znx b_ n_ (znx b_ n_ (ze Mz 81 4).toNat) by first | omega | assumption | exact hrt_ | exact hrt2_ | exact hmx_ | exact hPm_ | exact hFn_ | exact hLT2_ | exact hnk_)⟩))
          · exfalso; (exact zo_260 p2_ ha16_0_hp0_N169_)
      · exact absurd hc_7 (by decide)
  · as_aux_lemma =>
      have hng_ : ¬ (zkd b_ n_ (ze Mz 81 4).toNat = 1 ∧ zkey b_ n_ (ze Mz 81 4).toNat = zkw 0) := fun q_ => ha4_0_hp0_N167_ p2_ ⟨q_.1, (zke8_w q_.1 (i := 0) (by decide)).mpr q_.2⟩
      have hrt_ : zTrB b_ n_ (ze Mz 81 4).toNat := Or.inl (fun ⟨P_, q_, h_⟩ => hng_ h_.1)
      show zW l m_M_reads (zn Mz + 0, zw Mz + 0) Mz 7 [some (.ref 81)] [.int (Int32.ofInt 0)] _
      refine zr_if_ne (pc := 7) (tgt := 15) ⟨(by decide), (by decide)⟩ (by decide) (zdal_p dlC_M_reads_71 (i := 3) rfl) (fun hc_7 => ?_) (fun hc_7 => ?_)
      · exact absurd hc_7 (by decide)
      · as_aux_lemma =>
          refine zw_aload_n (pc := 10) (n := 0) (x := 81) rfl (zdal_p dlC_M_reads_71 (i := 4) rfl) ?_
          refine zw_iconst (pc := 11) (v := Int32.ofInt 2) (by decide) (zdal_p dlC_M_reads_71 (i := 5) rfl) ?_
          refine zr_callV (hf.w hW) hf.x (pc := 12) [.int (Int32.ofInt 2)] [] l_M_190 (c_M_wrongF l Mz (hf.w hW) 2 (by decide) (by decide) (show 1 ≤ 2 by first | (decide) | assumption)) rfl rfl rfl (by decide) (Nat.le_of_ble_eq_true rfl) (zdal_p dlC_M_reads_71 (i := 6) rfl) ?_
          rintro _ N191_ ⟨rfl, hsN191_, hp0_N191_⟩
          replace hp0_N191_ : 1 ≤ ze N191_ 81 7 := hp0_N191_
          have hf_N191_ := hf.tr hsN191_ (by decide +kernel) (by decide +kernel)
          have hb0_N191_ : zFr [3, 4, 5, 6, 7, 8, 11, 12, 13, 14, 20, 25, 26, 38, 39, 41, 42, 43] [83, 85, 86, 87, 88, 89, 90, 91, 92, 93, 94, 95, 96, 97, 100, 101, 102] Mz N191_ := zFr.rf.tr hsN191_ (by decide +kernel) (by decide +kernel)
          have hb1_N191_ : zFr [3, 4, 5, 6, 7, 8, 11, 12, 13, 20] [83, 85, 86, 87, 88] Mz N191_ := zFr.rf.tr hsN191_ (by decide +kernel) (by decide +kernel)
          have hb2_N191_ : zFr [3, 4, 5, 6, 7, 8, 11, 12] [] Mz N191_ := zFr.rf.tr hsN191_ (by decide +kernel) (by decide +kernel)
          have e3_N191_ : ze N191_ 81 3 = ze Mz 81 3 := hsN191_.e (by decide)
          have e4_N191_ : ze N191_ 81 4 = ze Mz 81 4 := hsN191_.e (by decide)
          have e5_N191_ : ze N191_ 81 5 = ze Mz 81 5 := hsN191_.e (by decide)
          have r7_N191_ := ze_r N191_ 81 7
          have e12_N191_ : ze N191_ 81 12 = ze Mz 81 12 := hsN191_.e (by decide)
          have e13_N191_ : ze N191_ 81 13 = ze Mz 81 13 := hsN191_.e (by decide)
          have e14_N191_ : ze N191_ 81 14 = ze Mz 81 14 := hsN191_.e (by decide)
          have c193_ : zRb b_ n_ N191_ := zRb.fr hsN191_ p0_ (by decide +kernel) (by decide +kernel)
          have c194_ : zRt b_ n_ N191_ := zRt.fr hsN191_ p1_ (by decide +kernel) (by decide +kernel)
          show zW l m_M_reads (zn Mz + 0, zw Mz + 0) N191_ 15 [some (.ref 81)] [] _
          refine zw_aload_n (pc := 15) (n := 0) (x := 81) rfl (zdal_p dlC_M_reads_71 (i := 7) rfl) ?_
          refine zr_callV (hf_N191_.w hW) hf_N191_.x (pc := 16) [] [] l_M_183 (c_M_isGood l N191_ (hf_N191_.w hW) ) rfl rfl rfl (by decide) (Nat.le_of_ble_eq_true rfl) (zdal_p dlC_M_reads_71 (i := 8) rfl) ?_
          rintro _ N197_ ⟨v198_, rfl, ⟨hv198_a, hv198_b⟩, hsN197_, hp0_N197_⟩
          obtain rfl := hsN197_.eq.symm
          replace hp0_N197_ : ((v198_ = 1 ∧ ze N191_ 81 7 = 0) ∨ (v198_ = 0 ∧ ze N191_ 81 7 ≠ 0)) := hp0_N197_
          rcases hp0_N197_ with ⟨rfl, ha16_0_hp0_N197_⟩ | ⟨rfl, ha16_0_hp0_N197_⟩
          · exfalso; (exact zo_281 ha16_0_hp0_N197_ hp0_N191_)
          · as_aux_lemma =>
              show zW l m_M_reads (zn Mz + 0, zw Mz + 0) N191_ 19 [some (.ref 81)] [.int (Int32.ofInt 0)] _
              refine zr_if_eq (pc := 19) (tgt := 26) ⟨(by decide), (by decide)⟩ (by decide) (zdal_p dlC_M_reads_71 (i := 9) rfl) (fun hc_19 => ?_) (fun hc_19 => ?_)
              · as_aux_lemma =>
                  refine zw_aload_n (pc := 26) (n := 0) (x := 81) rfl (zdal_p dlC_M_reads_71 (i := 12) rfl) ?_
                  refine zw_aload_n (pc := 27) (n := 0) (x := 81) rfl (zdal_p dlC_M_reads_71 (i := 13) rfl) ?_
                  refine zw_iconst (pc := 28) (v := Int32.ofInt 1) (by decide) (zdal_p dlC_M_reads_71 (i := 14) rfl) ?_
                  refine zw_bipush (pc := 29) (v := Int32.ofInt 6) (by decide) (zdal_p dlC_M_reads_71 (i := 15) rfl) ?_
                  refine zr_callV (hf_N191_.w hW) hf_N191_.x (pc := 31) [.int (Int32.ofInt 1), .int (Int32.ofInt 6)] [.ref 81] l_M_322 (c_M_numberF l N191_ (hf_N191_.w hW) 1 (by decide) (by decide) 6 (by decide) (by decide) b_ n_ c193_ c194_ (show 0 ≤ ze N191_ 81 7 by first | (exact zo_564 hp0_N191_) | assumption)) rfl rfl rfl (by decide) (Nat.le_of_ble_eq_true rfl) (zdal_p dlC_M_reads_71 (i := 16) rfl) ?_
                  rintro _ N199_ ⟨v200_, rfl, ⟨hv200_a, hv200_b⟩, hsN199_, ⟨hp0_N199_, hp1_N199_⟩⟩
                  have hf_N199_ := hf_N191_.tr hsN199_ (by decide +kernel) (by decide +kernel)
                  have hb0_N199_ := hb0_N191_.tr hsN199_ (by decide +kernel) (by decide +kernel)
                  have hb1_N199_ := hb1_N191_.tr hsN199_ (by decide +kernel) (by decide +kernel)
                  have hb2_N199_ := hb2_N191_.tr hsN199_ (by decide +kernel) (by decide +kernel)
                  have r3_N199_ := ze_r N199_ 81 3
                  have r4_N199_ := ze_r N199_ 81 4
                  have r5_N199_ := ze_r N199_ 81 5
                  have r7_N199_ := ze_r N199_ 81 7
                  have e12_N199_ : ze N199_ 81 12 = ze N191_ 81 12 := hsN199_.e (by decide)
                  have e13_N199_ : ze N199_ 81 13 = ze N191_ 81 13 := hsN199_.e (by decide)
                  have e14_N199_ : ze N199_ 81 14 = ze N191_ 81 14 := hsN199_.e (by decide)
                  rcases hp1_N199_ with ⟨ha31_0_hp1_N199_, ha31_1_hp1_N199_⟩ | ⟨ha31_0_hp1_N199_, ha31_1_hp1_N199_, ha31_2_hp1_N199_, ha31_3_hp1_N199_, ha31_4_hp1_N199_⟩
                  · have hrt2_ : zTrB b_ n_ (ze Mz 81 4).toNat := by first | exact hrt_ | exact Or.inl (fun ⟨P_, q_, h_⟩ => ha31_1_hp1_N199_ (by omega) (by rw [hx1_]; have h1_ := h_.2.1; exact ⟨h1_.1, by omega, by omega⟩))
                    show zW l m_M_reads (zn Mz + 0, zw Mz + 0) N199_ 34 [some (.ref 81)] [.int (Int32.ofInt v200_), .ref 81] _
                    refine zr_putI (hf_N199_.w hW) (pc := 34) f_M_115 rfl rfl ⟨by (exact hv200_a), by (exact hv200_b)⟩ rfl rfl (zdal_p dlC_M_reads_71 (i := 17) rfl) (fun N204_ hsN204_ hvN204_ => ?_)
                    have hf_N204_ := hf_N199_.tr hsN204_ (by decide +kernel) (by decide +kernel)
                    have hb0_N204_ := hb0_N199_.tr hsN204_ (by decide +kernel) (by decide +kernel)
                    have hb1_N204_ := hb1_N199_.tr hsN204_ (by decide +kernel) (by decide +kernel)
                    have hb2_N204_ := hb2_N199_.tr hsN204_ (by decide +kernel) (by decide +kernel)
                    have e3_N204_ : ze N204_ 81 3 = ze N199_ 81 3 := hsN204_.e (by decide)
                    have e4_N204_ : ze N204_ 81 4 = ze N199_ 81 4 := hsN204_.e (by decide)
                    have e5_N204_ : ze N204_ 81 5 = ze N199_ 81 5 := hsN204_.e (by decide)
                    have e7_N204_ : ze N204_ 81 7 = ze N199_ 81 7 := hsN204_.e (by decide)
                    have r12_N204_ := ze_r N204_ 81 12
                    have e13_N204_ : ze N204_ 81 13 = ze N199_ 81 13 := hsN204_.e (by decide)
                    have e14_N204_ : ze N204_ 81 14 = ze N199_ 81 14 := hsN204_.e (by decide)
                    have c208_ : zRt b_ n_ N204_ := zRt.fr hsN204_ hp0_N199_ (by decide +kernel) (by decide +kernel)
                    exact j_37 N204_ hb2_N204_ c208_ (show ze N204_ 81 13 = 0 by first | (exact zo_595 e13_N191_ e13_N199_ e13_N204_ p3_) | assumption) (show ze N204_ 81 14 = 0 by first | (exact zo_595 e14_N191_ e14_N199_ e14_N204_ p4_) | assumption) (show (1 ≤ ze N204_ 81 7 ∧ zTrB b_ n_ (ze Mz 81 4).toNat) ∨ (ze N204_ 81 7 = 0 ∧ zkd b_ n_ (ze Mz 81 4).toNat = 1 ∧ zkey b_ n_ (ze Mz 81 4).toNat = zkw 0 ∧ zkd b_ n_ (znx b_ n_ (ze Mz 81 4).toNat) = 2 ∧ znu b_ n_ (znx b_ n_ (ze Mz 81 4).toNat) = ze N204_ 81 12 ∧ 1 ≤ ze N204_ 81 12 ∧ ze N204_ 81 12 ≤ 6 ∧ (ze N204_ 81 4).toNat = znx b_ n_ (znx b_ n_ (ze Mz 81 4).toNat)) from Or.inl (⟨(show 1 ≤ ze N204_ 81 7 by first | (exact zo_533 e7_N204_ ha31_0_hp1_N199_) | assumption | exact hrt_ | exact hrt2_ | exact hmx_ | exact hPm_ | exact hFn_ | exact hLT2_ | exact hnk_), (show zTrB b_ n_ (ze Mz 81 4).toNat by first | (exact hrt_) | assumption | exact hrt_ | exact hrt2_ | exact hmx_ | exact hPm_ | exact hFn_ | exact hLT2_ | exact hnk_)⟩))
                  · exfalso; (exact zo_281 ha31_1_hp1_N199_ hp0_N191_)
              · exact absurd hc_19 (by decide)
set_option maxHeartbeats 40000000 in
theorem c_M_troupeN (l : Launch) (Mz : zMem) (hW : zMt Mz) (b_ : Nat → Int) (n_ : Nat) (mv0_ : List Nat) (F0_ : Nat) (K0_ : Nat → Nat → Int) (hF0_ : F0_ ≤ 64) (nm0_ : List (Int × (Nat → Int))) (p0_ : zRp b_ n_ Mz) (p1_ : zIF Mz) (p2_ : 0 ≤ ze Mz 81 18) (p3_ : ze Mz 81 18 ≤ 8) (p4_ : zB 83 24 0 5 Mz) (p5_ : zB 85 144 0 5 Mz) (p6_ : 0 ≤ ze Mz 81 60) (p7_ : ze Mz 81 60 ≤ 12) (p8_ : zMvq mv0_ Mz) (p9_ : zRNi nm0_ F0_ K0_ Mz) : zC l m_M_troupe 0 0 [.ref 81] Mz (zpI [1, 2, 3, 4, 5, 6, 7, 8, 9, 10, 11, 12, 13, 14, 16, 17, 18, 20, 25, 26, 38, 39, 41, 42, 43, 58, 60] [83, 84, 85, 86, 87, 88, 89, 90, 91, 92, 93, 94, 95, 96, 97, 98, 100, 101, 102, 103, 104] Mz (fun v N => ze N 81 1 = 0 ∧ 0 ≤ ze N 81 14 ∧ ze N 81 14 ≤ 8 ∧ 0 ≤ ze N 81 18 ∧ ze N 81 18 ≤ 8 ∧ 0 ≤ ze N 81 60 ∧ ze N 81 60 ≤ 12 ∧ zIF N ∧ zB 83 24 0 5 N ∧ (∃ T : zGT, T ∈ gTabs ∧ zGB T N) ∧ (((v = -1 ∧ zTrB b_ n_ (zru zpB b_ n_ 0) ∧ (∃ T : zGT, T ∈ gTabs ∧ zGB T N ∧ zTm mv0_ T ∧ zCdS (ze Mz 81 16) mv0_ T N) ∧ zMvq mv0_ N ∧ ze N 81 16 = ze Mz 81 16 ∧ zRNm nm0_ F0_ K0_ b_ n_ N ∧ zRNi nm0_ F0_ K0_ N ∧ (∀ j : Nat, zg N 98 j = zg Mz 98 j) ∧ ze N 81 60 = ze Mz 81 60) ∨ ∃ P : Nat, ∃ mv : List Nat, ∃ T : zGT, ∃ nm : List (Int × (Nat → Int)), zTrN b_ n_ (zru zpB b_ n_ 0) P mv T nm ∧ v = (gN T : Int) ∧ zGB T N ∧ zMvq mv N ∧ ze N 81 16 = (P : Int) ∧ zCdS (P : Int) mv T N ∧ zRNm nm (gF T).length (gmkI T) b_ n_ N ∧ zRNi nm (gF T).length (gmkI T) N ∧ zZrJ 98 64 N ∧ ze N 81 60 = 0)))) := by
  refine zC_of (L0 := [some (.ref 81)]) md_M_troupe (Nat.le_of_ble_eq_true rfl) rfl ?_ zQ0
  have hf : zFr [1, 2, 3, 4, 5, 6, 7, 8, 9, 10, 11, 12, 13, 14, 16, 17, 18, 20, 25, 26, 38, 39, 41, 42, 43, 58, 60] [83, 84, 85, 86, 87, 88, 89, 90, 91, 92, 93, 94, 95, 96, 97, 98, 100, 101, 102, 103, 104] Mz Mz := zFr.rf
  have r_1 := ze_r Mz 81 1
  have r_4 := ze_r Mz 81 4
  have r_7 := ze_r Mz 81 7
  have r_12 := ze_r Mz 81 12
  have r_13 := ze_r Mz 81 13
  have r_14 := ze_r Mz 81 14
  have r_16 := ze_r Mz 81 16
  have r_18 := ze_r Mz 81 18
  have r_20 := ze_r Mz 81 20
  have r_60 := ze_r Mz 81 60
  refine zw_aload_n (pc := 0) (n := 0) (x := 81) rfl (zdal_p dlC_M_troupe_57 (i := 0) rfl) ?_
  refine zw_iconst (pc := 1) (v := Int32.ofInt 1) (by decide) (zdal_p dlC_M_troupe_57 (i := 1) rfl) ?_
  refine zr_putI (hf.w hW) (pc := 2) f_M_115 rfl rfl ⟨by (decide), by (decide)⟩ rfl rfl (zdal_p dlC_M_troupe_57 (i := 2) rfl) (fun N1_ hsN1_ hvN1_ => ?_)
  have hf_N1_ : zFr [1, 2, 3, 4, 5, 6, 7, 8, 9, 10, 11, 12, 13, 14, 16, 17, 18, 20, 25, 26, 38, 39, 41, 42, 43, 58, 60] [83, 84, 85, 86, 87, 88, 89, 90, 91, 92, 93, 94, 95, 96, 97, 98, 100, 101, 102, 103, 104] Mz N1_ := hf.tr hsN1_ (by decide) (by decide)
  have e1_N1_ : ze N1_ 81 1 = ze Mz 81 1 := hsN1_.e (by decide)
  have e4_N1_ : ze N1_ 81 4 = ze Mz 81 4 := hsN1_.e (by decide)
  have e7_N1_ : ze N1_ 81 7 = ze Mz 81 7 := hsN1_.e (by decide)
  have r12_N1_ := ze_r N1_ 81 12
  have e13_N1_ : ze N1_ 81 13 = ze Mz 81 13 := hsN1_.e (by decide)
  have e14_N1_ : ze N1_ 81 14 = ze Mz 81 14 := hsN1_.e (by decide)
  have e16_N1_ : ze N1_ 81 16 = ze Mz 81 16 := hsN1_.e (by decide)
  have e18_N1_ : ze N1_ 81 18 = ze Mz 81 18 := hsN1_.e (by decide)
  have e20_N1_ : ze N1_ 81 20 = ze Mz 81 20 := hsN1_.e (by decide)
  have e60_N1_ : ze N1_ 81 60 = ze Mz 81 60 := hsN1_.e (by decide)
  have qzr98_N1_ : zr98 N1_ = zr98 Mz := zr98_f hsN1_ (by decide)
  have c2_ : zRp b_ n_ N1_ := zRp.fr hsN1_ p0_ (by decide) (by decide)
  have c3_ : zIF N1_ := zIF.fr hsN1_ p1_ (by decide) (by decide)
  have c4_ : zB 83 24 0 5 N1_ := zB.fr hsN1_ p4_ (by decide) (by decide)
  have c5_ : zB 85 144 0 5 N1_ := zB.fr hsN1_ p5_ (by decide) (by decide)
  have c6_ : zMvq mv0_ N1_ := zMvq.fr hsN1_ p8_ (by decide) (by decide)
  have c7_ : zRNi nm0_ F0_ K0_ N1_ := zRNi.fr hsN1_ p9_ (by decide) (by decide)
  refine zw_aload_n (pc := 5) (n := 0) (x := 81) rfl (zdal_p dlC_M_troupe_57 (i := 3) rfl) ?_
  refine zw_iconst (pc := 6) (v := Int32.ofInt 0) (by decide) (zdal_p dlC_M_troupe_57 (i := 4) rfl) ?_
  refine zr_putI (hf_N1_.w hW) (pc := 7) f_M_199 rfl rfl ⟨by (decide), by (decide)⟩ rfl rfl (zdal_p dlC_M_troupe_57 (i := 5) rfl) (fun N8_ hsN8_ hvN8_ => ?_)
  have hf_N8_ : zFr [1, 2, 3, 4, 5, 6, 7, 8, 9, 10, 11, 12, 13, 14, 16, 17, 18, 20, 25, 26, 38, 39, 41, 42, 43, 58, 60] [83, 84, 85, 86, 87, 88, 89, 90, 91, 92, 93, 94, 95, 96, 97, 98, 100, 101, 102, 103, 104] Mz N8_ := hf_N1_.tr hsN8_ (by decide) (by decide)
  have e1_N8_ : ze N8_ 81 1 = ze N1_ 81 1 := hsN8_.e (by decide)
  have e4_N8_ : ze N8_ 81 4 = ze N1_ 81 4 := hsN8_.e (by decide)
  have e7_N8_ : ze N8_ 81 7 = ze N1_ 81 7 := hsN8_.e (by decide)
  have e12_N8_ : ze N8_ 81 12 = ze N1_ 81 12 := hsN8_.e (by decide)
  have r13_N8_ := ze_r N8_ 81 13
  have e14_N8_ : ze N8_ 81 14 = ze N1_ 81 14 := hsN8_.e (by decide)
  have e16_N8_ : ze N8_ 81 16 = ze N1_ 81 16 := hsN8_.e (by decide)
  have e18_N8_ : ze N8_ 81 18 = ze N1_ 81 18 := hsN8_.e (by decide)
  have e20_N8_ : ze N8_ 81 20 = ze N1_ 81 20 := hsN8_.e (by decide)
  have e60_N8_ : ze N8_ 81 60 = ze N1_ 81 60 := hsN8_.e (by decide)
  have qzr98_N8_ : zr98 N8_ = zr98 N1_ := zr98_f hsN8_ (by decide)
  have c9_ : zRp b_ n_ N8_ := zRp.fr hsN8_ c2_ (by decide) (by decide)
  have c10_ : zIF N8_ := zIF.fr hsN8_ c3_ (by decide) (by decide)
  have c11_ : zB 83 24 0 5 N8_ := zB.fr hsN8_ c4_ (by decide) (by decide)
  have c12_ : zB 85 144 0 5 N8_ := zB.fr hsN8_ c5_ (by decide) (by decide)
  have c13_ : zMvq mv0_ N8_ := zMvq.fr hsN8_ c6_ (by decide) (by decide)
  have c14_ : zRNi nm0_ F0_ K0_ N8_ := zRNi.fr hsN8_ c7_ (by decide) (by decide)
  refine zw_aload_n (pc := 10) (n := 0) (x := 81) rfl (zdal_p dlC_M_troupe_57 (i := 6) rfl) ?_
  refine zw_iconst (pc := 11) (v := Int32.ofInt 0) (by decide) (zdal_p dlC_M_troupe_57 (i := 7) rfl) ?_
  refine zr_putI (hf_N8_.w hW) (pc := 12) f_M_299 rfl rfl ⟨by (decide), by (decide)⟩ rfl rfl (zdal_p dlC_M_troupe_57 (i := 8) rfl) (fun N15_ hsN15_ hvN15_ => ?_)
  have hf_N15_ : zFr [1, 2, 3, 4, 5, 6, 7, 8, 9, 10, 11, 12, 13, 14, 16, 17, 18, 20, 25, 26, 38, 39, 41, 42, 43, 58, 60] [83, 84, 85, 86, 87, 88, 89, 90, 91, 92, 93, 94, 95, 96, 97, 98, 100, 101, 102, 103, 104] Mz N15_ := hf_N8_.tr hsN15_ (by decide) (by decide)
  have e1_N15_ : ze N15_ 81 1 = ze N8_ 81 1 := hsN15_.e (by decide)
  have e4_N15_ : ze N15_ 81 4 = ze N8_ 81 4 := hsN15_.e (by decide)
  have e7_N15_ : ze N15_ 81 7 = ze N8_ 81 7 := hsN15_.e (by decide)
  have e12_N15_ : ze N15_ 81 12 = ze N8_ 81 12 := hsN15_.e (by decide)
  have e13_N15_ : ze N15_ 81 13 = ze N8_ 81 13 := hsN15_.e (by decide)
  have r14_N15_ := ze_r N15_ 81 14
  have e16_N15_ : ze N15_ 81 16 = ze N8_ 81 16 := hsN15_.e (by decide)
  have e18_N15_ : ze N15_ 81 18 = ze N8_ 81 18 := hsN15_.e (by decide)
  have e20_N15_ : ze N15_ 81 20 = ze N8_ 81 20 := hsN15_.e (by decide)
  have e60_N15_ : ze N15_ 81 60 = ze N8_ 81 60 := hsN15_.e (by decide)
  have qzr98_N15_ : zr98 N15_ = zr98 N8_ := zr98_f hsN15_ (by decide)
  have c16_ : zRp b_ n_ N15_ := zRp.fr hsN15_ c9_ (by decide) (by decide)
  have c17_ : zIF N15_ := zIF.fr hsN15_ c10_ (by decide) (by decide)
  have c18_ : zB 83 24 0 5 N15_ := zB.fr hsN15_ c11_ (by decide) (by decide)
  have c19_ : zB 85 144 0 5 N15_ := zB.fr hsN15_ c12_ (by decide) (by decide)
  have c20_ : zMvq mv0_ N15_ := zMvq.fr hsN15_ c13_ (by decide) (by decide)
  have c21_ : zRNi nm0_ F0_ K0_ N15_ := zRNi.fr hsN15_ c14_ (by decide) (by decide)
  refine zw_aload_n (pc := 15) (n := 0) (x := 81) rfl (zdal_p dlC_M_troupe_57 (i := 9) rfl) ?_
  refine zr_callV (hf_N15_.w hW) hf_N15_.x (pc := 16) [] [] l_M_367 (c_M_beginsF l N15_ (hf_N15_.w hW) b_ n_ c16_) rfl rfl rfl (by decide) (Nat.le_of_ble_eq_true rfl) (zdal_p dlC_M_troupe_57 (i := 10) rfl) ?_
  rintro _ N22_ ⟨rfl, hsN22_, ⟨hp0_N22_, hp1_N22_, hp2_N22_, hp3_N22_, hp4_N22_⟩⟩
  have hf_N22_ : zFr [1, 2, 3, 4, 5, 6, 7, 8, 9, 10, 11, 12, 13, 14, 16, 17, 18, 20, 25, 26, 38, 39, 41, 42, 43, 58, 60] [83, 84, 85, 86, 87, 88, 89, 90, 91, 92, 93, 94, 95, 96, 97, 98, 100, 101, 102, 103, 104] Mz N22_ := hf_N15_.tr hsN22_ (by decide) (by decide)
  have r1_N22_ := ze_r N22_ 81 1
  have r4_N22_ := ze_r N22_ 81 4
  have r7_N22_ := ze_r N22_ 81 7
  have e12_N22_ : ze N22_ 81 12 = ze N15_ 81 12 := hsN22_.e (by decide)
  have e13_N22_ : ze N22_ 81 13 = ze N15_ 81 13 := hsN22_.e (by decide)
  have e14_N22_ : ze N22_ 81 14 = ze N15_ 81 14 := hsN22_.e (by decide)
  have e16_N22_ : ze N22_ 81 16 = ze N15_ 81 16 := hsN22_.e (by decide)
  have e18_N22_ : ze N22_ 81 18 = ze N15_ 81 18 := hsN22_.e (by decide)
  have e20_N22_ : ze N22_ 81 20 = ze N15_ 81 20 := hsN22_.e (by decide)
  have e60_N22_ : ze N22_ 81 60 = ze N15_ 81 60 := hsN22_.e (by decide)
  have qzr98_N22_ : zr98 N22_ = zr98 N15_ := zr98_f hsN22_ (by decide)
  have c24_ : zIF N22_ := zIF.fr hsN22_ c17_ (by decide) (by decide)
  have c25_ : zB 83 24 0 5 N22_ := zB.fr hsN22_ c18_ (by decide) (by decide)
  have c26_ : zB 85 144 0 5 N22_ := zB.fr hsN22_ c19_ (by decide) (by decide)
  have c27_ : zMvq mv0_ N22_ := zMvq.fr hsN22_ c20_ (by decide) (by decide)
  have c28_ : zRNi nm0_ F0_ K0_ N22_ := zRNi.fr hsN22_ c21_ (by decide) (by decide)
  show zW l m_M_troupe (zn Mz + 0, zw Mz + 0) N22_ 19 [some (.ref 81)] [] _
  have hs0_ : (ze N22_ 81 4).toNat = (zru zpB b_ n_ 0) := by omega
  refine zw_aload_n (pc := 19) (n := 0) (x := 81) rfl (zdal_p dlC_M_troupe_57 (i := 11) rfl) ?_
  refine zr_callV (hf_N22_.w hW) hf_N22_.x (pc := 20) [] [] l_M_370 (c_M_readsN l N22_ (hf_N22_.w hW) b_ n_ hp0_N22_ hp1_N22_ (show ze N22_ 81 7 = 0 by first | with_reducible assumption | assumption | omega) (show ze N22_ 81 13 = 0 by first | with_reducible assumption | (exact zo_596 e13_N15_ e13_N22_ hvN8_) | assumption) (show ze N22_ 81 14 = 0 by first | with_reducible assumption | (exact zo_610 e14_N22_ hvN15_) | assumption) c25_ c26_) rfl rfl rfl (by decide) (Nat.le_of_ble_eq_true rfl) (zdal_p dlC_M_troupe_57 (i := 12) rfl) ?_
  rintro _ N29_ ⟨rfl, hsN29_, ⟨hp0_N29_, hp1_N29_, hp2_N29_, hp3_N29_, hp4_N29_, hp5_N29_, hp6_N29_, hp7_N29_⟩⟩
  have hf_N29_ : zFr [1, 2, 3, 4, 5, 6, 7, 8, 9, 10, 11, 12, 13, 14, 16, 17, 18, 20, 25, 26, 38, 39, 41, 42, 43, 58, 60] [83, 84, 85, 86, 87, 88, 89, 90, 91, 92, 93, 94, 95, 96, 97, 98, 100, 101, 102, 103, 104] Mz N29_ := hf_N22_.tr hsN29_ (by decide) (by decide)
  have e1_N29_ : ze N29_ 81 1 = ze N22_ 81 1 := hsN29_.e (by decide)
  have r4_N29_ := ze_r N29_ 81 4
  have r7_N29_ := ze_r N29_ 81 7
  have r12_N29_ := ze_r N29_ 81 12
  have r13_N29_ := ze_r N29_ 81 13
  have r14_N29_ := ze_r N29_ 81 14
  have e16_N29_ : ze N29_ 81 16 = ze N22_ 81 16 := hsN29_.e (by decide)
  have e18_N29_ : ze N29_ 81 18 = ze N22_ 81 18 := hsN29_.e (by decide)
  have r20_N29_ := ze_r N29_ 81 20
  have e60_N29_ : ze N29_ 81 60 = ze N22_ 81 60 := hsN29_.e (by decide)
  have qzr98_N29_ : zr98 N29_ = zr98 N22_ := zr98_f hsN29_ (by decide)
  have c31_ : zIF N29_ := zIF.fr hsN29_ c24_ (by decide) (by decide)
  have c32_ : zMvq mv0_ N29_ := zMvq.fr hsN29_ c27_ (by decide) (by decide)
  have c33_ : zRNi nm0_ F0_ K0_ N29_ := zRNi.fr hsN29_ c28_ (by decide) (by decide)
  rcases hp7_N29_ with ⟨ha20_0_hp7_N29_, ha20_1_hp7_N29_⟩ | ⟨ha20_0_hp7_N29_, ha20_1_hp7_N29_, ha20_2_hp7_N29_, ha20_3_hp7_N29_, ha20_4_hp7_N29_, ha20_5_hp7_N29_⟩
  · skip
    have hB_ := ha20_1_hp7_N29_
    rw [hs0_] at hB_
    show zW l m_M_troupe (zn Mz + 0, zw Mz + 0) N29_ 23 [some (.ref 81)] [] _
    refine zw_aload_n (pc := 23) (n := 0) (x := 81) rfl (zdal_p dlC_M_troupe_57 (i := 13) rfl) ?_
    refine zr_callV (hf_N29_.w hW) hf_N29_.x (pc := 24) [] [] l_M_373 (c_M_tells l N29_ (hf_N29_.w hW) ) rfl rfl rfl (by decide) (Nat.le_of_ble_eq_true rfl) (zdal_p dlC_M_troupe_57 (i := 14) rfl) ?_
    rintro _ N35_ ⟨rfl, hsN35_, -⟩
    have hf_N35_ : zFr [1, 2, 3, 4, 5, 6, 7, 8, 9, 10, 11, 12, 13, 14, 16, 17, 18, 20, 25, 26, 38, 39, 41, 42, 43, 58, 60] [83, 84, 85, 86, 87, 88, 89, 90, 91, 92, 93, 94, 95, 96, 97, 98, 100, 101, 102, 103, 104] Mz N35_ := hf_N29_.tr hsN35_ (by decide) (by decide)
    have e1_N35_ : ze N35_ 81 1 = ze N29_ 81 1 := hsN35_.e (by decide)
    have e4_N35_ : ze N35_ 81 4 = ze N29_ 81 4 := hsN35_.e (by decide)
    have e7_N35_ : ze N35_ 81 7 = ze N29_ 81 7 := hsN35_.e (by decide)
    have e12_N35_ : ze N35_ 81 12 = ze N29_ 81 12 := hsN35_.e (by decide)
    have e13_N35_ : ze N35_ 81 13 = ze N29_ 81 13 := hsN35_.e (by decide)
    have e14_N35_ : ze N35_ 81 14 = ze N29_ 81 14 := hsN35_.e (by decide)
    have e16_N35_ : ze N35_ 81 16 = ze N29_ 81 16 := hsN35_.e (by decide)
    have e18_N35_ : ze N35_ 81 18 = ze N29_ 81 18 := hsN35_.e (by decide)
    have e20_N35_ : ze N35_ 81 20 = ze N29_ 81 20 := hsN35_.e (by decide)
    have e60_N35_ : ze N35_ 81 60 = ze N29_ 81 60 := hsN35_.e (by decide)
    have qzr98_N35_ : zr98 N35_ = zr98 N29_ := zr98_f hsN35_ (by decide)
    have c37_ : zIF N35_ := zIF.fr hsN35_ c31_ (by decide) (by decide)
    have c38_ : zMvq mv0_ N35_ := zMvq.fr hsN35_ c32_ (by decide) (by decide)
    have c39_ : zRNi nm0_ F0_ K0_ N35_ := zRNi.fr hsN35_ c33_ (by decide) (by decide)
    have c42_ : zB 83 24 0 5 N35_ := zB.fr hsN35_ hp5_N29_ (by decide) (by decide)
    have c43_ : zB 85 144 0 5 N35_ := zB.fr hsN35_ hp6_N29_ (by decide) (by decide)
    show zW l m_M_troupe (zn Mz + 0, zw Mz + 0) N35_ 27 [some (.ref 81)] [] _
    refine zw_aload_n (pc := 27) (n := 0) (x := 81) rfl (zdal_p dlC_M_troupe_57 (i := 15) rfl) ?_
    refine zr_getI (hf_N35_.w hW) (pc := 28) f_M_172 rfl (zdal_p dlC_M_troupe_57 (i := 16) rfl) ?_
    refine zr_if_le (pc := 31) (tgt := 40) ⟨(ze_r N35_ 81 7).1, (ze_r N35_ 81 7).2⟩ (by decide) (zdal_p dlC_M_troupe_57 (i := 17) rfl) (fun hc_31 => ?_) (fun hc_31 => ?_)
    · skip
      exfalso; omega
    · skip
      refine zw_aload_n (pc := 34) (n := 0) (x := 81) rfl (zdal_p dlC_M_troupe_57 (i := 18) rfl) ?_
      refine zr_callV (hf_N35_.w hW) hf_N35_.x (pc := 35) [] [] l_M_376 (c_M_goesBackN l N35_ (hf_N35_.w hW) mv0_ b_ n_ F0_ K0_ hF0_ nm0_ c37_ (show 0 ≤ ze N35_ 81 18 by first | with_reducible assumption | assumption | omega) (show ze N35_ 81 18 ≤ 8 by first | with_reducible assumption | assumption | omega) c42_ c43_ c38_ c39_) rfl rfl rfl (by decide) (Nat.le_of_ble_eq_true rfl) (zdal_p dlC_M_troupe_57 (i := 19) rfl) ?_
      rintro _ N44_ ⟨rfl, hsN44_, ⟨hp0_N44_, hp1_N44_, hp2_N44_, hp3_N44_, hp4_N44_, hp5_N44_, hp6_N44_, hp7_N44_⟩⟩
      have hf_N44_ : zFr [1, 2, 3, 4, 5, 6, 7, 8, 9, 10, 11, 12, 13, 14, 16, 17, 18, 20, 25, 26, 38, 39, 41, 42, 43, 58, 60] [83, 84, 85, 86, 87, 88, 89, 90, 91, 92, 93, 94, 95, 96, 97, 98, 100, 101, 102, 103, 104] Mz N44_ := hf_N35_.tr hsN44_ (by decide) (by decide)
      have e1_N44_ : ze N44_ 81 1 = ze N35_ 81 1 := hsN44_.e (by decide)
      have e4_N44_ : ze N44_ 81 4 = ze N35_ 81 4 := hsN44_.e (by decide)
      have e7_N44_ : ze N44_ 81 7 = ze N35_ 81 7 := hsN44_.e (by decide)
      have r12_N44_ := ze_r N44_ 81 12
      have r13_N44_ := ze_r N44_ 81 13
      have r14_N44_ := ze_r N44_ 81 14
      have e16_N44_ : ze N44_ 81 16 = ze N35_ 81 16 := hsN44_.e (by decide)
      have e18_N44_ : ze N44_ 81 18 = ze N35_ 81 18 := hsN44_.e (by decide)
      have r20_N44_ := ze_r N44_ 81 20
      have e60_N44_ : ze N44_ 81 60 = ze N35_ 81 60 := hsN44_.e (by decide)
      have qzr98_N44_ : zr98 N44_ = zr98 N35_ := zr98_f hsN44_ (by decide)
      have c47_ : zMvq mv0_ N44_ := zMvq.fr hsN44_ c38_ (by decide) (by decide)
      have c48_ : zRNi nm0_ F0_ K0_ N44_ := zRNi.fr hsN44_ c39_ (by decide) (by decide)
      show zW l m_M_troupe (zn Mz + 0, zw Mz + 0) N44_ 38 [some (.ref 81)] [] _
      have hEx_ : (∃ T : zGT, T ∈ gTabs ∧ zGB T N44_) := by obtain ⟨T, hTt, hGB, -⟩ := id hp0_N44_; exact ⟨T, hTt, hGB⟩
      have hq0_ : ∃ T : zGT, T ∈ gTabs ∧ zGB T N44_ ∧ zTm mv0_ T ∧ zCdS (ze Mz 81 16) mv0_ T N44_ := by obtain ⟨T, h1_, h2_, h3_, h4_⟩ := id hp0_N44_; exact ⟨T, h1_, h2_, h3_, h4_.p (by omega)⟩
      have h98_ := qzr98_N44_.trans (qzr98_N35_.trans (qzr98_N29_.trans (qzr98_N22_.trans (qzr98_N15_.trans (qzr98_N8_.trans (qzr98_N1_))))))
      have hres_ : (((-1 : Int) = -1 ∧ zTrB b_ n_ (zru zpB b_ n_ 0) ∧ (∃ T : zGT, T ∈ gTabs ∧ zGB T N44_ ∧ zTm mv0_ T ∧ zCdS (ze Mz 81 16) mv0_ T N44_) ∧ zMvq mv0_ N44_ ∧ ze N44_ 81 16 = ze Mz 81 16 ∧ zRNm nm0_ F0_ K0_ b_ n_ N44_ ∧ zRNi nm0_ F0_ K0_ N44_ ∧ (∀ j : Nat, zg N44_ 98 j = zg Mz 98 j) ∧ ze N44_ 81 60 = ze Mz 81 60) ∨ ∃ P : Nat, ∃ mv : List Nat, ∃ T : zGT, ∃ nm : List (Int × (Nat → Int)), zTrN b_ n_ (zru zpB b_ n_ 0) P mv T nm ∧ (-1 : Int) = (gN T : Int) ∧ zGB T N44_ ∧ zMvq mv N44_ ∧ ze N44_ 81 16 = (P : Int) ∧ zCdS (P : Int) mv T N44_ ∧ zRNm nm (gF T).length (gmkI T) b_ n_ N44_ ∧ zRNi nm (gF T).length (gmkI T) N44_ ∧ zZrJ 98 64 N44_ ∧ ze N44_ 81 60 = 0) := Or.inl ⟨rfl, hB_, hq0_, hp5_N44_, by omega, hp6_N44_, hp7_N44_, fun j => congrFun h98_ j, by omega⟩
      refine zw_iconst (pc := 38) (v := Int32.ofInt (-1)) (by decide) (zdal_p dlC_M_troupe_57 (i := 20) rfl) ?_
      exact zr_iret (pc := 39) (ty := .int) rfl rfl ⟨by (decide), by (decide)⟩ hf_N44_ ⟨(show ze N44_ 81 1 = 0 by first | with_reducible assumption | (exact zo_595 e1_N29_ e1_N35_ e1_N44_ hp4_N22_) | assumption), (show 0 ≤ ze N44_ 81 14 by first | with_reducible assumption | assumption | omega), (show ze N44_ 81 14 ≤ 8 by first | with_reducible assumption | assumption | omega), (show 0 ≤ ze N44_ 81 18 by first | with_reducible assumption | assumption | omega), (show ze N44_ 81 18 ≤ 8 by first | with_reducible assumption | assumption | omega), (show 0 ≤ ze N44_ 81 60 by first | with_reducible assumption | assumption | omega), (show ze N44_ 81 60 ≤ 12 by first | with_reducible assumption | assumption | omega), hp3_N44_, hp4_N44_, (show (∃ T : zGT, T ∈ gTabs ∧ zGB T N44_) by exact hEx_), (show ((((-1)) = -1 ∧ zTrB b_ n_ (zru zpB b_ n_ 0) ∧ (∃ T : zGT, T ∈ gTabs ∧ zGB T N44_ ∧ zTm mv0_ T ∧ zCdS (ze Mz 81 16) mv0_ T N44_) ∧ zMvq mv0_ N44_ ∧ ze N44_ 81 16 = ze Mz 81 16 ∧ zRNm nm0_ F0_ K0_ b_ n_ N44_ ∧ zRNi nm0_ F0_ K0_ N44_ ∧ (∀ j : Nat, zg N44_ 98 j = zg Mz 98 j) ∧ ze N44_ 81 60 = ze Mz 81 60) ∨ ∃ P : Nat, ∃ mv : List Nat, ∃ T : zGT, ∃ nm : List (Int × (Nat → Int)), zTrN b_ n_ (zru zpB b_ n_ 0) P mv T nm ∧ ((-1)) = (gN T : Int) ∧ zGB T N44_ ∧ zMvq mv N44_ ∧ ze N44_ 81 16 = (P : Int) ∧ zCdS (P : Int) mv T N44_ ∧ zRNm nm (gF T).length (gmkI T) b_ n_ N44_ ∧ zRNi nm (gF T).length (gmkI T) N44_ ∧ zZrJ 98 64 N44_ ∧ ze N44_ 81 60 = 0) by exact hres_)⟩ (zdal_p dlC_M_troupe_57 (i := 21) rfl)
  · skip
    obtain ⟨T, mv_, P_, nmt_, hTt, hGB, hG_, hMs_, hPq_, hCd_, hnm_⟩ := id ha20_5_hp7_N29_
    rw [hs0_] at hG_
    show zW l m_M_troupe (zn Mz + 0, zw Mz + 0) N29_ 23 [some (.ref 81)] [] _
    refine zw_aload_n (pc := 23) (n := 0) (x := 81) rfl (zdal_p dlC_M_troupe_57 (i := 13) rfl) ?_
    refine zr_callV (hf_N29_.w hW) hf_N29_.x (pc := 24) [] [] l_M_373 (c_M_tells l N29_ (hf_N29_.w hW) ) rfl rfl rfl (by decide) (Nat.le_of_ble_eq_true rfl) (zdal_p dlC_M_troupe_57 (i := 14) rfl) ?_
    rintro _ N51_ ⟨rfl, hsN51_, -⟩
    have hf_N51_ : zFr [1, 2, 3, 4, 5, 6, 7, 8, 9, 10, 11, 12, 13, 14, 16, 17, 18, 20, 25, 26, 38, 39, 41, 42, 43, 58, 60] [83, 84, 85, 86, 87, 88, 89, 90, 91, 92, 93, 94, 95, 96, 97, 98, 100, 101, 102, 103, 104] Mz N51_ := hf_N29_.tr hsN51_ (by decide) (by decide)
    have e1_N51_ : ze N51_ 81 1 = ze N29_ 81 1 := hsN51_.e (by decide)
    have e4_N51_ : ze N51_ 81 4 = ze N29_ 81 4 := hsN51_.e (by decide)
    have e7_N51_ : ze N51_ 81 7 = ze N29_ 81 7 := hsN51_.e (by decide)
    have e12_N51_ : ze N51_ 81 12 = ze N29_ 81 12 := hsN51_.e (by decide)
    have e13_N51_ : ze N51_ 81 13 = ze N29_ 81 13 := hsN51_.e (by decide)
    have e14_N51_ : ze N51_ 81 14 = ze N29_ 81 14 := hsN51_.e (by decide)
    have e16_N51_ : ze N51_ 81 16 = ze N29_ 81 16 := hsN51_.e (by decide)
    have e18_N51_ : ze N51_ 81 18 = ze N29_ 81 18 := hsN51_.e (by decide)
    have e20_N51_ : ze N51_ 81 20 = ze N29_ 81 20 := hsN51_.e (by decide)
    have e60_N51_ : ze N51_ 81 60 = ze N29_ 81 60 := hsN51_.e (by decide)
    have c58_ : zB 83 24 0 5 N51_ := zB.fr hsN51_ hp5_N29_ (by decide) (by decide)
    have c60_ : zPm N51_ := zPm.fr hsN51_ ha20_3_hp7_N29_ (by decide) (by decide)
    have c61_ : zFin N51_ := zFin.fr hsN51_ ha20_4_hp7_N29_ (by decide) (by decide)
    have c62_ : zGB T N51_ := zGB.fr hsN51_ hGB (by decide) (by decide)
    have c63_ : zMvt mv_ N51_ := zMvt.fr hsN51_ hMs_ (by decide) (by decide)
    have c64_ : zCdS (P_ : Int) mv_ T N51_ := zCdS.fr hsN51_ hCd_ (by decide) (by decide)
    have c65_ : zRNm nmt_ (gF T).length (gmkI T) b_ n_ N51_ := zRNm.fr hsN51_ hnm_ (by decide) (by decide)
    show zW l m_M_troupe (zn Mz + 0, zw Mz + 0) N51_ 27 [some (.ref 81)] [] _
    refine zw_aload_n (pc := 27) (n := 0) (x := 81) rfl (zdal_p dlC_M_troupe_57 (i := 15) rfl) ?_
    refine zr_getI (hf_N51_.w hW) (pc := 28) f_M_172 rfl (zdal_p dlC_M_troupe_57 (i := 16) rfl) ?_
    refine zr_if_le (pc := 31) (tgt := 40) ⟨(ze_r N51_ 81 7).1, (ze_r N51_ 81 7).2⟩ (by decide) (zdal_p dlC_M_troupe_57 (i := 17) rfl) (fun hc_31 => ?_) (fun hc_31 => ?_)
    · skip
      refine zw_aload_n (pc := 40) (n := 0) (x := 81) rfl (zdal_p dlC_M_troupe_57 (i := 22) rfl) ?_
      refine zr_callV (hf_N51_.w hW) hf_N51_.x (pc := 41) [] [] l_M_121 (c_M_inForceN l N51_ (hf_N51_.w hW) mv_ b_ n_ (gF T).length (gmkI T) (show (gF T).length ≤ 64 by have h_ := (gT_zTA hTt).1.2; omega) nmt_ (show 1 ≤ ze N51_ 81 12 by first | with_reducible assumption | (exact zo_533 e12_N51_ ha20_1_hp7_N29_) | assumption) (show ze N51_ 81 12 ≤ 6 by first | with_reducible assumption | (exact zo_810 e12_N51_ ha20_2_hp7_N29_) | assumption) (show 0 ≤ ze N51_ 81 13 by first | with_reducible assumption | (exact zo_720 e13_N51_ hp1_N29_) | assumption) (show ze N51_ 81 13 ≤ 4 by first | with_reducible assumption | (exact zo_807 e13_N51_ hp2_N29_) | assumption) c60_ c61_ c58_ (show 0 ≤ ze N51_ 81 14 by first | with_reducible assumption | (exact zo_720 e14_N51_ hp3_N29_) | assumption) (show ze N51_ 81 14 ≤ 8 by first | with_reducible assumption | (exact zo_808 e14_N51_ hp4_N29_) | assumption) c63_ c65_) rfl rfl rfl (by decide) (Nat.le_of_ble_eq_true rfl) (zdal_p dlC_M_troupe_57 (i := 23) rfl) ?_
      rintro _ N66_ ⟨rfl, hsN66_, ⟨hp0_N66_, hp1_N66_, hp2_N66_, hp3_N66_, hp4_N66_, hp5_N66_, hp6_N66_, hp7_N66_⟩⟩
      have hf_N66_ : zFr [1, 2, 3, 4, 5, 6, 7, 8, 9, 10, 11, 12, 13, 14, 16, 17, 18, 20, 25, 26, 38, 39, 41, 42, 43, 58, 60] [83, 84, 85, 86, 87, 88, 89, 90, 91, 92, 93, 94, 95, 96, 97, 98, 100, 101, 102, 103, 104] Mz N66_ := hf_N51_.tr hsN66_ (by decide) (by decide)
      have e1_N66_ : ze N66_ 81 1 = ze N51_ 81 1 := hsN66_.e (by decide)
      have e4_N66_ : ze N66_ 81 4 = ze N51_ 81 4 := hsN66_.e (by decide)
      have e7_N66_ : ze N66_ 81 7 = ze N51_ 81 7 := hsN66_.e (by decide)
      have e12_N66_ : ze N66_ 81 12 = ze N51_ 81 12 := hsN66_.e (by decide)
      have e13_N66_ : ze N66_ 81 13 = ze N51_ 81 13 := hsN66_.e (by decide)
      have e14_N66_ : ze N66_ 81 14 = ze N51_ 81 14 := hsN66_.e (by decide)
      have r16_N66_ := ze_r N66_ 81 16
      have r18_N66_ := ze_r N66_ 81 18
      have e20_N66_ : ze N66_ 81 20 = ze N51_ 81 20 := hsN66_.e (by decide)
      have r60_N66_ := ze_r N66_ 81 60
      have c70_ : zB 83 24 0 5 N66_ := zB.fr hsN66_ c58_ (by decide) (by decide)
      have c74_ : zGB T N66_ := zGB.fr hsN66_ c62_ (by decide) (by decide)
      have c76_ : zCdS (P_ : Int) mv_ T N66_ := zCdS.fr hsN66_ c64_ (by decide) (by decide)
      have c77_ : zRNm nmt_ (gF T).length (gmkI T) b_ n_ N66_ := zRNm.fr hsN66_ c65_ (by decide) (by decide)
      show zW l m_M_troupe (zn Mz + 0, zw Mz + 0) N66_ 44 [some (.ref 81)] [] _
      have hGB2_ : zGB T N66_ := c74_
      have hEx_ : (∃ T : zGT, T ∈ gTabs ∧ zGB T N66_) := ⟨T, hTt, hGB2_⟩
      have h20_ := hGB2_.1.1
      have hres_ : (((ze N66_ 81 20) = -1 ∧ zTrB b_ n_ (zru zpB b_ n_ 0) ∧ (∃ T : zGT, T ∈ gTabs ∧ zGB T N66_ ∧ zTm mv0_ T ∧ zCdS (ze Mz 81 16) mv0_ T N66_) ∧ zMvq mv0_ N66_ ∧ ze N66_ 81 16 = ze Mz 81 16 ∧ zRNm nm0_ F0_ K0_ b_ n_ N66_ ∧ zRNi nm0_ F0_ K0_ N66_ ∧ (∀ j : Nat, zg N66_ 98 j = zg Mz 98 j) ∧ ze N66_ 81 60 = ze Mz 81 60) ∨ ∃ P : Nat, ∃ mv : List Nat, ∃ T : zGT, ∃ nm : List (Int × (Nat → Int)), zTrN b_ n_ (zru zpB b_ n_ 0) P mv T nm ∧ (ze N66_ 81 20) = (gN T : Int) ∧ zGB T N66_ ∧ zMvq mv N66_ ∧ ze N66_ 81 16 = (P : Int) ∧ zCdS (P : Int) mv T N66_ ∧ zRNm nm (gF T).length (gmkI T) b_ n_ N66_ ∧ zRNi nm (gF T).length (gmkI T) N66_ ∧ zZrJ 98 64 N66_ ∧ ze N66_ 81 60 = 0) := Or.inr ⟨P_, mv_, T, nmt_, hG_, h20_, hGB2_, hp4_N66_, by omega, c76_, c77_, hp6_N66_, hp7_N66_, by (exact hp1_N66_)⟩
      refine zw_aload_n (pc := 44) (n := 0) (x := 81) rfl (zdal_p dlC_M_troupe_58 (i := 0) rfl) ?_
      refine zr_getI (hf_N66_.w hW) (pc := 45) f_M_196 rfl (zdal_p dlC_M_troupe_58 (i := 1) rfl) ?_
      exact zr_iret (pc := 48) (ty := .int) rfl rfl ⟨by omega, by omega⟩ hf_N66_ ⟨(show ze N66_ 81 1 = 0 by first | with_reducible assumption | (exact zo_595 e1_N29_ e1_N51_ e1_N66_ hp4_N22_) | assumption), (show 0 ≤ ze N66_ 81 14 by first | with_reducible assumption | (exact zo_871 e14_N51_ e14_N66_ hp3_N29_) | assumption), (show ze N66_ 81 14 ≤ 8 by first | with_reducible assumption | (exact zo_1331 e14_N51_ e14_N66_ hp4_N29_) | assumption), (show 0 ≤ ze N66_ 81 18 by first | with_reducible assumption | assumption | omega), (show ze N66_ 81 18 ≤ 8 by first | with_reducible assumption | assumption | omega), (show 0 ≤ ze N66_ 81 60 by first | with_reducible assumption | (exact zo_718 hp1_N66_) | assumption), (show ze N66_ 81 60 ≤ 12 by first | with_reducible assumption | assumption | omega), hp0_N66_, c70_, (show (∃ T : zGT, T ∈ gTabs ∧ zGB T N66_) by exact hEx_), (show (((ze N66_ 81 20) = -1 ∧ zTrB b_ n_ (zru zpB b_ n_ 0) ∧ (∃ T : zGT, T ∈ gTabs ∧ zGB T N66_ ∧ zTm mv0_ T ∧ zCdS (ze Mz 81 16) mv0_ T N66_) ∧ zMvq mv0_ N66_ ∧ ze N66_ 81 16 = ze Mz 81 16 ∧ zRNm nm0_ F0_ K0_ b_ n_ N66_ ∧ zRNi nm0_ F0_ K0_ N66_ ∧ (∀ j : Nat, zg N66_ 98 j = zg Mz 98 j) ∧ ze N66_ 81 60 = ze Mz 81 60) ∨ ∃ P : Nat, ∃ mv : List Nat, ∃ T : zGT, ∃ nm : List (Int × (Nat → Int)), zTrN b_ n_ (zru zpB b_ n_ 0) P mv T nm ∧ (ze N66_ 81 20) = (gN T : Int) ∧ zGB T N66_ ∧ zMvq mv N66_ ∧ ze N66_ 81 16 = (P : Int) ∧ zCdS (P : Int) mv T N66_ ∧ zRNm nm (gF T).length (gmkI T) b_ n_ N66_ ∧ zRNi nm (gF T).length (gmkI T) N66_ ∧ zZrJ 98 64 N66_ ∧ ze N66_ 81 60 = 0) by exact hres_)⟩ (zdal_p dlC_M_troupe_58 (i := 2) rfl)
    · skip
      exfalso; omega
