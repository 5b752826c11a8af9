set_option maxHeartbeats 40000000 in
theorem c_M_readsG (l : Launch) (Mz : zMem) (hW : zMt Mz) (b_ : Nat → Int) (n_ : Nat) (p0_ : zRb b_ n_ Mz) (p1_ : zRt b_ n_ Mz) (p2_ : ze Mz 81 7 = 0) (p3_ : ze Mz 81 13 = 0) (p4_ : ze Mz 81 14 = 0) (p5_ : zB 83 24 0 5 Mz) (p6_ : zB 85 144 0 5 Mz) : zC l m_M_reads 0 0 [.ref 81] Mz (zpV [3, 4, 5, 6, 7, 8, 11, 12, 13, 14, 20, 25, 26, 38, 39, 41, 42, 43] [83, 85, 86, 87, 88, 89, 90, 91, 92, 93, 94, 95, 96, 97, 100, 101, 102] Mz (fun N => zRt b_ n_ N ∧ 0 ≤ ze N 81 13 ∧ ze N 81 13 ≤ 4 ∧ 0 ≤ ze N 81 14 ∧ ze N 81 14 ≤ 8 ∧ zB 83 24 0 5 N ∧ zB 85 144 0 5 N ∧ (((1 ≤ ze N 81 7 ∧ zTrB b_ n_ (ze Mz 81 4).toNat) ∨ (ze N 81 7 = 0 ∧ 1 ≤ ze N 81 12 ∧ ze N 81 12 ≤ 6 ∧ zPm N ∧ zFin N ∧ (∃ T : zGT, ∃ mv : List Nat, ∃ P : Nat, T ∈ gTabs ∧ zGB T N ∧ zTrP b_ n_ (ze Mz 81 4).toNat P mv T ∧ zMvs N = mv ∧ ze N 81 12 = (P : Int))))))) := by
  refine zC_of (L0 := [some (.ref 81)]) md_M_reads (Nat.le_of_ble_eq_true rfl) rfl ?_ zQ0
  have hf : zFr [3, 4, 5, 6, 7, 8, 11, 12, 13, 14, 20, 25, 26, 38, 39, 41, 42, 43] [83, 85, 86, 87, 88, 89, 90, 91, 92, 93, 94, 95, 96, 97, 100, 101, 102] Mz Mz := zFr.rf
  have r_3 := ze_r Mz 81 3
  have r_4 := ze_r Mz 81 4
  have r_5 := ze_r Mz 81 5
  have r_7 := ze_r Mz 81 7
  have r_12 := ze_r Mz 81 12
  have r_13 := ze_r Mz 81 13
  have r_14 := ze_r Mz 81 14
  have j_88 : ∀ (N1_ : zMem) (hs2_ : zFr [3, 4, 5, 6, 7, 8, 11, 12, 13, 14, 20, 25, 26, 38, 39, 41, 42, 43] [83, 85, 86, 87, 88, 89, 90, 91, 92, 93, 94, 95, 96, 97, 100, 101, 102] Mz N1_) (i3_ : zRt b_ n_ N1_) (i4_ : 0 ≤ ze N1_ 81 13) (i5_ : ze N1_ 81 13 ≤ 4) (i6_ : 0 ≤ ze N1_ 81 14) (i7_ : ze N1_ 81 14 ≤ 8) (i8_ : (1 ≤ ze N1_ 81 7 ∧ zTrB b_ n_ (ze Mz 81 4).toNat) ∨ (ze N1_ 81 7 = 0 ∧ 1 ≤ ze N1_ 81 12 ∧ ze N1_ 81 12 ≤ 6 ∧ zPm N1_ ∧ zFin N1_ ∧ (∃ T : zGT, ∃ mv : List Nat, ∃ P q q2 : Nat, ∃ nm : List (Int × (Nat → Int)), T ∈ gTabs ∧ zGB T N1_ ∧ zTm mv T ∧ zHd b_ n_ (ze Mz 81 4).toNat P q ∧ zRg (zbs b_ n_ P) (0, q, []) (1, q2, mv) ∧ zRg (zls b_ n_ (gF T).length (gmkI T)) (0, q2, []) (0, (ze N1_ 81 4).toNat, nm) ∧ zRNm nm (gF T).length (gmkI T) b_ n_ N1_ ∧ zMvs N1_ = mv ∧ ze N1_ 81 12 = (P : Int)) ∧ ¬ (zkd b_ n_ (ze N1_ 81 4).toNat = 1 ∧ zkey b_ n_ (ze N1_ 81 4).toNat = zkw 2))) (i9_ : zB 83 24 0 5 N1_) (i10_ : zB 85 144 0 5 N1_), zW l m_M_reads (zn Mz + 0, zw Mz + 0) N1_ 88 [some (.ref 81)] [] (zpV [3, 4, 5, 6, 7, 8, 11, 12, 13, 14, 20, 25, 26, 38, 39, 41, 42, 43] [83, 85, 86, 87, 88, 89, 90, 91, 92, 93, 94, 95, 96, 97, 100, 101, 102] Mz (fun N => zRt b_ n_ N ∧ 0 ≤ ze N 81 13 ∧ ze N 81 13 ≤ 4 ∧ 0 ≤ ze N 81 14 ∧ ze N 81 14 ≤ 8 ∧ zB 83 24 0 5 N ∧ zB 85 144 0 5 N ∧ (((1 ≤ ze N 81 7 ∧ zTrB b_ n_ (ze Mz 81 4).toNat) ∨ (ze N 81 7 = 0 ∧ 1 ≤ ze N 81 12 ∧ ze N 81 12 ≤ 6 ∧ zPm N ∧ zFin N ∧ (∃ T : zGT, ∃ mv : List Nat, ∃ P : Nat, T ∈ gTabs ∧ zGB T N ∧ zTrP b_ n_ (ze Mz 81 4).toNat P mv T ∧ zMvs N = mv ∧ ze N 81 12 = (P : Int))))))) := by
    intro N1_ hs2_ i3_ i4_ i5_ i6_ i7_ i8_ i9_ i10_
    have hf_N1_ : zFr [3, 4, 5, 6, 7, 8, 11, 12, 13, 14, 20, 25, 26, 38, 39, 41, 42, 43] [83, 85, 86, 87, 88, 89, 90, 91, 92, 93, 94, 95, 96, 97, 100, 101, 102] Mz N1_ := hf.tr hs2_ (by decide) (by decide)
    have r3_N1_ := ze_r N1_ 81 3
    have r4_N1_ := ze_r N1_ 81 4
    have r5_N1_ := ze_r N1_ 81 5
    have r7_N1_ := ze_r N1_ 81 7
    have r12_N1_ := ze_r N1_ 81 12
    have r13_N1_ := ze_r N1_ 81 13
    have r14_N1_ := ze_r N1_ 81 14
    have c11_ : zRb b_ n_ N1_ := zRb.fr hs2_ p0_ (by decide) (by decide)
    rcases i8_ with ⟨hl88_0_i8_, hl88_1_i8_⟩ | ⟨hl88_0_i8_, hl88_1_i8_, hl88_2_i8_, hl88_3_i8_, hl88_4_i8_, hl88_5_i8_, hl88_6_i8_⟩
    · skip
      refine zw_aload_n (pc := 88) (n := 0) (x := 81) rfl d_M_reads_88 ?_
      refine zr_callV (hf_N1_.w hW) hf_N1_.x (pc := 89) [] [] l_M_183 (c_M_isGood l N1_ (hf_N1_.w hW) ) rfl rfl rfl (by decide) (Nat.le_of_ble_eq_true rfl) d_M_reads_89 ?_
      rintro _ N12_ ⟨v13_, rfl, ⟨hv13_a, hv13_b⟩, hsN12_, hp0_N12_⟩
      obtain rfl := hsN12_.eq.symm
      replace hp0_N12_ : ((v13_ = 1 ∧ ze N1_ 81 7 = 0) ∨ (v13_ = 0 ∧ ze N1_ 81 7 ≠ 0)) := hp0_N12_
      rcases hp0_N12_ with ⟨rfl, ha89_0_hp0_N12_⟩ | ⟨rfl, ha89_0_hp0_N12_⟩
      · skip
        exfalso; omega
      · skip
        show zW l m_M_reads (zn Mz + 0, zw Mz + 0) N1_ 92 [some (.ref 81)] [.int (Int32.ofInt 0)] (zpV [3, 4, 5, 6, 7, 8, 11, 12, 13, 14, 20, 25, 26, 38, 39, 41, 42, 43] [83, 85, 86, 87, 88, 89, 90, 91, 92, 93, 94, 95, 96, 97, 100, 101, 102] Mz (fun N => zRt b_ n_ N ∧ 0 ≤ ze N 81 13 ∧ ze N 81 13 ≤ 4 ∧ 0 ≤ ze N 81 14 ∧ ze N 81 14 ≤ 8 ∧ zB 83 24 0 5 N ∧ zB 85 144 0 5 N ∧ (((1 ≤ ze N 81 7 ∧ zTrB b_ n_ (ze Mz 81 4).toNat) ∨ (ze N 81 7 = 0 ∧ 1 ≤ ze N 81 12 ∧ ze N 81 12 ≤ 6 ∧ zPm N ∧ zFin N ∧ (∃ T : zGT, ∃ mv : List Nat, ∃ P : Nat, T ∈ gTabs ∧ zGB T N ∧ zTrP b_ n_ (ze Mz 81 4).toNat P mv T ∧ zMvs N = mv ∧ ze N 81 12 = (P : Int)))))))
        refine zr_if_eq (pc := 92) (tgt := 107) ⟨(by decide), (by decide)⟩ (by decide) d_M_reads_92 (fun hc_92 => ?_) (fun hc_92 => ?_)
        · skip
          exact zr_vret (pc := 107) rfl hf_N1_ ⟨i3_, (show 0 ≤ ze N1_ 81 13 by first | assumption | omega), (show ze N1_ 81 13 ≤ 4 by first | assumption | omega), (show 0 ≤ ze N1_ 81 14 by first | assumption | omega), (show ze N1_ 81 14 ≤ 8 by first | assumption | omega), i9_, i10_, (show ((1 ≤ ze N1_ 81 7 ∧ zTrB b_ n_ (ze Mz 81 4).toNat) ∨ (ze N1_ 81 7 = 0 ∧ 1 ≤ ze N1_ 81 12 ∧ ze N1_ 81 12 ≤ 6 ∧ zPm N1_ ∧ zFin N1_ ∧ (∃ T : zGT, ∃ mv : List Nat, ∃ P : Nat, T ∈ gTabs ∧ zGB T N1_ ∧ zTrP b_ n_ (ze Mz 81 4).toNat P mv T ∧ zMvs N1_ = mv ∧ ze N1_ 81 12 = (P : Int)))) from Or.inl (⟨(show 1 ≤ ze N1_ 81 7 by first | assumption | omega | exact hrt_), (show zTrB b_ n_ (ze Mz 81 4).toNat by first | assumption | omega | exact hrt_)⟩))⟩ d_M_reads_107
        · skip
          exact absurd hc_92 (by decide)
    · skip
      have hPm_ := hl88_3_i8_
      have hFn_ := hl88_4_i8_
      have hLT_ := hl88_5_i8_
      have hnk_ := hl88_6_i8_
      have h5_ := i3_.2.2.1
      refine zw_aload_n (pc := 88) (n := 0) (x := 81) rfl d_M_reads_88 ?_
      refine zr_callV (hf_N1_.w hW) hf_N1_.x (pc := 89) [] [] l_M_183 (c_M_isGood l N1_ (hf_N1_.w hW) ) rfl rfl rfl (by decide) (Nat.le_of_ble_eq_true rfl) d_M_reads_89 ?_
      rintro _ N14_ ⟨v15_, rfl, ⟨hv15_a, hv15_b⟩, hsN14_, hp0_N14_⟩
      obtain rfl := hsN14_.eq.symm
      replace hp0_N14_ : ((v15_ = 1 ∧ ze N1_ 81 7 = 0) ∨ (v15_ = 0 ∧ ze N1_ 81 7 ≠ 0)) := hp0_N14_
      rcases hp0_N14_ with ⟨rfl, ha89_0_hp0_N14_⟩ | ⟨rfl, ha89_0_hp0_N14_⟩
      · skip
        show zW l m_M_reads (zn Mz + 0, zw Mz + 0) N1_ 92 [some (.ref 81)] [.int (Int32.ofInt 1)] (zpV [3, 4, 5, 6, 7, 8, 11, 12, 13, 14, 20, 25, 26, 38, 39, 41, 42, 43] [83, 85, 86, 87, 88, 89, 90, 91, 92, 93, 94, 95, 96, 97, 100, 101, 102] Mz (fun N => zRt b_ n_ N ∧ 0 ≤ ze N 81 13 ∧ ze N 81 13 ≤ 4 ∧ 0 ≤ ze N 81 14 ∧ ze N 81 14 ≤ 8 ∧ zB 83 24 0 5 N ∧ zB 85 144 0 5 N ∧ (((1 ≤ ze N 81 7 ∧ zTrB b_ n_ (ze Mz 81 4).toNat) ∨ (ze N 81 7 = 0 ∧ 1 ≤ ze N 81 12 ∧ ze N 81 12 ≤ 6 ∧ zPm N ∧ zFin N ∧ (∃ T : zGT, ∃ mv : List Nat, ∃ P : Nat, T ∈ gTabs ∧ zGB T N ∧ zTrP b_ n_ (ze Mz 81 4).toNat P mv T ∧ zMvs N = mv ∧ ze N 81 12 = (P : Int)))))))
        refine zr_if_eq (pc := 92) (tgt := 107) ⟨(by decide), (by decide)⟩ (by decide) d_M_reads_92 (fun hc_92 => ?_) (fun hc_92 => ?_)
        · skip
          exact absurd hc_92 (by decide)
        · skip
          refine zw_aload_n (pc := 95) (n := 0) (x := 81) rfl d_M_reads_95 ?_
          refine zr_getI (hf_N1_.w hW) (pc := 96) f_M_155 rfl d_M_reads_96 ?_
          refine zr_if_eq (pc := 99) (tgt := 107) ⟨(ze_r N1_ 81 5).1, (ze_r N1_ 81 5).2⟩ (by decide) d_M_reads_99 (fun hc_99 => ?_) (fun hc_99 => ?_)
          · skip
            have hok_ : (∃ T : zGT, ∃ mv : List Nat, ∃ P : Nat, T ∈ gTabs ∧ zGB T N1_ ∧ zTrP b_ n_ (ze Mz 81 4).toNat P mv T ∧ zMvs N1_ = mv ∧ ze N1_ 81 12 = (P : Int)) := by obtain ⟨T, mv_, P_, q_, q2_, nm_, hTt, hGB, hTm_, hHd_, hrb_, hrl_, hnm_, hmq_, hPq_⟩ := id hLT_; exact ⟨T, mv_, P_, hTt, hGB, ⟨q_, q2_, (ze N1_ 81 4).toNat, nm_, hHd_, hrb_, hTt, hTm_, hrl_.tr (zRg.st (zls_e hnk_ (by omega)))⟩, hmq_, hPq_⟩
            exact zr_vret (pc := 107) rfl hf_N1_ ⟨i3_, (show 0 ≤ ze N1_ 81 13 by first | assumption | omega), (show ze N1_ 81 13 ≤ 4 by first | assumption | omega), (show 0 ≤ ze N1_ 81 14 by first | assumption | omega), (show ze N1_ 81 14 ≤ 8 by first | assumption | omega), i9_, i10_, (show ((1 ≤ ze N1_ 81 7 ∧ zTrB b_ n_ (ze Mz 81 4).toNat) ∨ (ze N1_ 81 7 = 0 ∧ 1 ≤ ze N1_ 81 12 ∧ ze N1_ 81 12 ≤ 6 ∧ zPm N1_ ∧ zFin N1_ ∧ (∃ T : zGT, ∃ mv : List Nat, ∃ P : Nat, T ∈ gTabs ∧ zGB T N1_ ∧ zTrP b_ n_ (ze Mz 81 4).toNat P mv T ∧ zMvs N1_ = mv ∧ ze N1_ 81 12 = (P : Int)))) from Or.inr (⟨(show ze N1_ 81 7 = 0 by first | assumption | omega | exact hok_), (show 1 ≤ ze N1_ 81 12 by first | assumption | omega | exact hok_), (show ze N1_ 81 12 ≤ 6 by first | assumption | omega | exact hok_), (show zPm N1_ by first | assumption | omega | exact hok_), (show zFin N1_ by first | assumption | omega | exact hok_), (show (∃ T : zGT, ∃ mv : List Nat, ∃ P : Nat, T ∈ gTabs ∧ zGB T N1_ ∧ zTrP b_ n_ (ze Mz 81 4).toNat P mv T ∧ zMvs N1_ = mv ∧ ze N1_ 81 12 = (P : Int)) by first | assumption | omega | exact hok_)⟩))⟩ d_M_reads_107
          · skip
            have hrt_ : zTrB b_ n_ (ze Mz 81 4).toNat := by obtain ⟨T, mv_, P_, q_, q2_, nm_, hTt, hGB, hTm_, hHd_, hrb_, hrl_, hnm_, hmq_, hPq_⟩ := id hLT_; exact Or.inr (Or.inr ⟨P_, q_, q2_, mv_, T, hHd_, hrb_, hTt, hTm_, hrl_.tr (zRg.st (zls_ef hnk_ (by omega)))⟩)
            refine zw_aload_n (pc := 102) (n := 0) (x := 81) rfl d_M_reads_102 ?_
            refine zw_iconst (pc := 103) (v := Int32.ofInt 2) (by decide) d_M_reads_103 ?_
            refine zr_callV (hf_N1_.w hW) hf_N1_.x (pc := 104) [.int (Int32.ofInt 2)] [] l_M_190 (c_M_wrongF l N1_ (hf_N1_.w hW) 2 (by decide) (by decide) (show 1 ≤ 2 by first | assumption | omega)) rfl rfl rfl (by decide) (Nat.le_of_ble_eq_true rfl) d_M_reads_104 ?_
            rintro _ N16_ ⟨rfl, hsN16_, hp0_N16_⟩
            replace hp0_N16_ : 1 ≤ ze N16_ 81 7 := hp0_N16_
            have hf_N16_ : zFr [3, 4, 5, 6, 7, 8, 11, 12, 13, 14, 20, 25, 26, 38, 39, 41, 42, 43] [83, 85, 86, 87, 88, 89, 90, 91, 92, 93, 94, 95, 96, 97, 100, 101, 102] Mz N16_ := hf_N1_.tr hsN16_ (by decide) (by decide)
            have e3_N16_ : ze N16_ 81 3 = ze N1_ 81 3 := hsN16_.e (by decide)
            have e4_N16_ : ze N16_ 81 4 = ze N1_ 81 4 := hsN16_.e (by decide)
            have e5_N16_ : ze N16_ 81 5 = ze N1_ 81 5 := hsN16_.e (by decide)
            have r7_N16_ := ze_r N16_ 81 7
            have e12_N16_ : ze N16_ 81 12 = ze N1_ 81 12 := hsN16_.e (by decide)
            have e13_N16_ : ze N16_ 81 13 = ze N1_ 81 13 := hsN16_.e (by decide)
            have e14_N16_ : ze N16_ 81 14 = ze N1_ 81 14 := hsN16_.e (by decide)
            have c18_ : zRb b_ n_ N16_ := zRb.fr hsN16_ c11_ (by decide) (by decide)
            have c19_ : zRt b_ n_ N16_ := zRt.fr hsN16_ i3_ (by decide) (by decide)
            have c20_ : zB 83 24 0 5 N16_ := zB.fr hsN16_ i9_ (by decide) (by decide)
            have c21_ : zB 85 144 0 5 N16_ := zB.fr hsN16_ i10_ (by decide) (by decide)
            show zW l m_M_reads (zn Mz + 0, zw Mz + 0) N16_ 107 [some (.ref 81)] [] (zpV [3, 4, 5, 6, 7, 8, 11, 12, 13, 14, 20, 25, 26, 38, 39, 41, 42, 43] [83, 85, 86, 87, 88, 89, 90, 91, 92, 93, 94, 95, 96, 97, 100, 101, 102] Mz (fun N => zRt b_ n_ N ∧ 0 ≤ ze N 81 13 ∧ ze N 81 13 ≤ 4 ∧ 0 ≤ ze N 81 14 ∧ ze N 81 14 ≤ 8 ∧ zB 83 24 0 5 N ∧ zB 85 144 0 5 N ∧ (((1 ≤ ze N 81 7 ∧ zTrB b_ n_ (ze Mz 81 4).toNat) ∨ (ze N 81 7 = 0 ∧ 1 ≤ ze N 81 12 ∧ ze N 81 12 ≤ 6 ∧ zPm N ∧ zFin N ∧ (∃ T : zGT, ∃ mv : List Nat, ∃ P : Nat, T ∈ gTabs ∧ zGB T N ∧ zTrP b_ n_ (ze Mz 81 4).toNat P mv T ∧ zMvs N = mv ∧ ze N 81 12 = (P : Int)))))))
            exact zr_vret (pc := 107) rfl hf_N16_ ⟨c19_, (show 0 ≤ ze N16_ 81 13 by first | assumption | omega), (show ze N16_ 81 13 ≤ 4 by first | assumption | omega), (show 0 ≤ ze N16_ 81 14 by first | assumption | omega), (show ze N16_ 81 14 ≤ 8 by first | assumption | omega), c20_, c21_, (show ((1 ≤ ze N16_ 81 7 ∧ zTrB b_ n_ (ze Mz 81 4).toNat) ∨ (ze N16_ 81 7 = 0 ∧ 1 ≤ ze N16_ 81 12 ∧ ze N16_ 81 12 ≤ 6 ∧ zPm N16_ ∧ zFin N16_ ∧ (∃ T : zGT, ∃ mv : List Nat, ∃ P : Nat, T ∈ gTabs ∧ zGB T N16_ ∧ zTrP b_ n_ (ze Mz 81 4).toNat P mv T ∧ zMvs N16_ = mv ∧ ze N16_ 81 12 = (P : Int)))) from Or.inl (⟨(show 1 ≤ ze N16_ 81 7 by first | assumption | omega | exact hrt_), (show zTrB b_ n_ (ze Mz 81 4).toNat by first | assumption | omega | exact hrt_)⟩))⟩ d_M_reads_107
      · skip
        exfalso; omega
  have j_60 : ∀ (N22_ : zMem) (hs23_ : zFr [3, 4, 5, 6, 7, 8, 11, 12, 13, 20] [83, 85, 86, 87, 88] Mz N22_) (i24_ : zRt b_ n_ N22_) (i25_ : 0 ≤ ze N22_ 81 13) (i26_ : ze N22_ 81 13 ≤ 4) (i27_ : ze N22_ 81 14 = 0) (i28_ : (1 ≤ ze N22_ 81 7 ∧ zTrB b_ n_ (ze Mz 81 4).toNat) ∨ (ze N22_ 81 7 = 0 ∧ 1 ≤ ze N22_ 81 12 ∧ ze N22_ 81 12 ≤ 6 ∧ zPm N22_ ∧ zFin N22_ ∧ (∃ q : Nat, zHd b_ n_ (ze Mz 81 4).toNat (ze N22_ 81 12).toNat q ∧ zRg (zbs b_ n_ (ze N22_ 81 12).toNat) (0, q, []) (1, (ze N22_ 81 4).toNat, zMvs N22_)))) (i29_ : zB 83 24 0 5 N22_) (i30_ : zB 85 144 0 5 N22_), zW l m_M_reads (zn Mz + 0, zw Mz + 0) N22_ 60 [some (.ref 81)] [] (zpV [3, 4, 5, 6, 7, 8, 11, 12, 13, 14, 20, 25, 26, 38, 39, 41, 42, 43] [83, 85, 86, 87, 88, 89, 90, 91, 92, 93, 94, 95, 96, 97, 100, 101, 102] Mz (fun N => zRt b_ n_ N ∧ 0 ≤ ze N 81 13 ∧ ze N 81 13 ≤ 4 ∧ 0 ≤ ze N 81 14 ∧ ze N 81 14 ≤ 8 ∧ zB 83 24 0 5 N ∧ zB 85 144 0 5 N ∧ (((1 ≤ ze N 81 7 ∧ zTrB b_ n_ (ze Mz 81 4).toNat) ∨ (ze N 81 7 = 0 ∧ 1 ≤ ze N 81 12 ∧ ze N 81 12 ≤ 6 ∧ zPm N ∧ zFin N ∧ (∃ T : zGT, ∃ mv : List Nat, ∃ P : Nat, T ∈ gTabs ∧ zGB T N ∧ zTrP b_ n_ (ze Mz 81 4).toNat P mv T ∧ zMvs N = mv ∧ ze N 81 12 = (P : Int))))))) := by
    intro N22_ hs23_ i24_ i25_ i26_ i27_ i28_ i29_ i30_
    have hf_N22_ : zFr [3, 4, 5, 6, 7, 8, 11, 12, 13, 14, 20, 25, 26, 38, 39, 41, 42, 43] [83, 85, 86, 87, 88, 89, 90, 91, 92, 93, 94, 95, 96, 97, 100, 101, 102] Mz N22_ := hf.tr hs23_ (by decide) (by decide)
    have hb0_N22_ : zFr [3, 4, 5, 6, 7, 8, 11, 12, 13, 14, 20, 25, 26, 38, 39, 41, 42, 43] [83, 85, 86, 87, 88, 89, 90, 91, 92, 93, 94, 95, 96, 97, 100, 101, 102] Mz N22_ := zFr.rf.tr hs23_ (by decide) (by decide)
    have r3_N22_ := ze_r N22_ 81 3
    have r4_N22_ := ze_r N22_ 81 4
    have r5_N22_ := ze_r N22_ 81 5
    have r7_N22_ := ze_r N22_ 81 7
    have r12_N22_ := ze_r N22_ 81 12
    have r13_N22_ := ze_r N22_ 81 13
    have e14_N22_ : ze N22_ 81 14 = ze Mz 81 14 := hs23_.e (by decide)
    have c31_ : zRb b_ n_ N22_ := zRb.fr hs23_ p0_ (by decide) (by decide)
    rcases i28_ with ⟨hl60_0_i28_, hl60_1_i28_⟩ | ⟨hl60_0_i28_, hl60_1_i28_, hl60_2_i28_, hl60_3_i28_, hl60_4_i28_, hl60_5_i28_⟩
    · skip
      refine zw_aload_n (pc := 60) (n := 0) (x := 81) rfl d_M_reads_60 ?_
      refine zr_callV (hf_N22_.w hW) hf_N22_.x (pc := 61) [] [] l_M_183 (c_M_isGood l N22_ (hf_N22_.w hW) ) rfl rfl rfl (by decide) (Nat.le_of_ble_eq_true rfl) d_M_reads_61 ?_
      rintro _ N32_ ⟨v33_, rfl, ⟨hv33_a, hv33_b⟩, hsN32_, hp0_N32_⟩
      obtain rfl := hsN32_.eq.symm
      replace hp0_N32_ : ((v33_ = 1 ∧ ze N22_ 81 7 = 0) ∨ (v33_ = 0 ∧ ze N22_ 81 7 ≠ 0)) := hp0_N32_
      rcases hp0_N32_ with ⟨rfl, ha61_0_hp0_N32_⟩ | ⟨rfl, ha61_0_hp0_N32_⟩
      · skip
        exfalso; omega
      · skip
        show zW l m_M_reads (zn Mz + 0, zw Mz + 0) N22_ 64 [some (.ref 81)] [.int (Int32.ofInt 0)] (zpV [3, 4, 5, 6, 7, 8, 11, 12, 13, 14, 20, 25, 26, 38, 39, 41, 42, 43] [83, 85, 86, 87, 88, 89, 90, 91, 92, 93, 94, 95, 96, 97, 100, 101, 102] Mz (fun N => zRt b_ n_ N ∧ 0 ≤ ze N 81 13 ∧ ze N 81 13 ≤ 4 ∧ 0 ≤ ze N 81 14 ∧ ze N 81 14 ≤ 8 ∧ zB 83 24 0 5 N ∧ zB 85 144 0 5 N ∧ (((1 ≤ ze N 81 7 ∧ zTrB b_ n_ (ze Mz 81 4).toNat) ∨ (ze N 81 7 = 0 ∧ 1 ≤ ze N 81 12 ∧ ze N 81 12 ≤ 6 ∧ zPm N ∧ zFin N ∧ (∃ T : zGT, ∃ mv : List Nat, ∃ P : Nat, T ∈ gTabs ∧ zGB T N ∧ zTrP b_ n_ (ze Mz 81 4).toNat P mv T ∧ zMvs N = mv ∧ ze N 81 12 = (P : Int)))))))
        refine zr_if_eq (pc := 64) (tgt := 71) ⟨(by decide), (by decide)⟩ (by decide) d_M_reads_64 (fun hc_64 => ?_) (fun hc_64 => ?_)
        · skip
          have lp_71 : ∀ (n : Nat) (N34_ : zMem) (hs35_ : zFr [3, 4, 5, 6, 7, 8, 11, 14, 38, 39, 41, 42, 43] [95, 96, 97, 100, 101, 102] N22_ N34_) (i36_ : zRt b_ n_ N34_) (i37_ : 0 ≤ ze N34_ 81 13) (i38_ : ze N34_ 81 13 ≤ 4) (i39_ : 0 ≤ ze N34_ 81 14) (i40_ : ze N34_ 81 14 ≤ 8) (i41_ : (1 ≤ ze N34_ 81 7 ∧ zTrB b_ n_ (ze Mz 81 4).toNat) ∨ (ze N34_ 81 7 = 0 ∧ 1 ≤ ze N34_ 81 12 ∧ ze N34_ 81 12 ≤ 6 ∧ zPm N34_ ∧ zFin N34_ ∧ (∃ T : zGT, ∃ mv : List Nat, ∃ P q q2 : Nat, ∃ nm : List (Int × (Nat → Int)), T ∈ gTabs ∧ zGB T N34_ ∧ zTm mv T ∧ zHd b_ n_ (ze Mz 81 4).toNat P q ∧ zRg (zbs b_ n_ P) (0, q, []) (1, q2, mv) ∧ zRg (zls b_ n_ (gF T).length (gmkI T)) (0, q2, []) (0, (ze N34_ 81 4).toNat, nm) ∧ zRNm nm (gF T).length (gmkI T) b_ n_ N34_ ∧ zMvs N34_ = mv ∧ ze N34_ 81 12 = (P : Int)))), zmF n_ N34_ < n → zW l m_M_reads (zn Mz + 0, zw Mz + 0) N34_ 71 [some (.ref 81)] [] (zpV [3, 4, 5, 6, 7, 8, 11, 12, 13, 14, 20, 25, 26, 38, 39, 41, 42, 43] [83, 85, 86, 87, 88, 89, 90, 91, 92, 93, 94, 95, 96, 97, 100, 101, 102] Mz (fun N => zRt b_ n_ N ∧ 0 ≤ ze N 81 13 ∧ ze N 81 13 ≤ 4 ∧ 0 ≤ ze N 81 14 ∧ ze N 81 14 ≤ 8 ∧ zB 83 24 0 5 N ∧ zB 85 144 0 5 N ∧ (((1 ≤ ze N 81 7 ∧ zTrB b_ n_ (ze Mz 81 4).toNat) ∨ (ze N 81 7 = 0 ∧ 1 ≤ ze N 81 12 ∧ ze N 81 12 ≤ 6 ∧ zPm N ∧ zFin N ∧ (∃ T : zGT, ∃ mv : List Nat, ∃ P : Nat, T ∈ gTabs ∧ zGB T N ∧ zTrP b_ n_ (ze Mz 81 4).toNat P mv T ∧ zMvs N = mv ∧ ze N 81 12 = (P : Int))))))) := by
            clear hv33_a hv33_b
            intro n
            induction n with
            | zero =>
              intro N34_ hs35_ i36_ i37_ i38_ i39_ i40_ i41_ h0
              exact absurd h0 (Nat.not_lt_zero _)
            | succ n ih_71 =>
              intro N34_ hs35_ i36_ i37_ i38_ i39_ i40_ i41_ hlt_71
              have hf_N34_ : zFr [3, 4, 5, 6, 7, 8, 11, 12, 13, 14, 20, 25, 26, 38, 39, 41, 42, 43] [83, 85, 86, 87, 88, 89, 90, 91, 92, 93, 94, 95, 96, 97, 100, 101, 102] Mz N34_ := hf_N22_.tr hs35_ (by decide) (by decide)
              have hb0_N34_ : zFr [3, 4, 5, 6, 7, 8, 11, 12, 13, 14, 20, 25, 26, 38, 39, 41, 42, 43] [83, 85, 86, 87, 88, 89, 90, 91, 92, 93, 94, 95, 96, 97, 100, 101, 102] Mz N34_ := hb0_N22_.tr hs35_ (by decide) (by decide)
              have r3_N34_ := ze_r N34_ 81 3
              have r4_N34_ := ze_r N34_ 81 4
              have r5_N34_ := ze_r N34_ 81 5
              have r7_N34_ := ze_r N34_ 81 7
              have e12_N34_ : ze N34_ 81 12 = ze N22_ 81 12 := hs35_.e (by decide)
              have e13_N34_ : ze N34_ 81 13 = ze N22_ 81 13 := hs35_.e (by decide)
              have r14_N34_ := ze_r N34_ 81 14
              have c42_ : zRb b_ n_ N34_ := zRb.fr hs35_ c31_ (by decide) (by decide)
              have c43_ : zB 83 24 0 5 N34_ := zB.fr hs35_ i29_ (by decide) (by decide)
              have c44_ : zB 85 144 0 5 N34_ := zB.fr hs35_ i30_ (by decide) (by decide)
              rcases i41_ with ⟨hl71_0_i41_, hl71_1_i41_⟩ | ⟨hl71_0_i41_, hl71_1_i41_, hl71_2_i41_, hl71_3_i41_, hl71_4_i41_, hl71_5_i41_⟩
              · skip
                refine zw_aload_n (pc := 71) (n := 0) (x := 81) rfl d_M_reads_71 ?_
                refine zr_ldc2 (pc := 72) (n := 7103860) (by decide) k_M_179 d_M_reads_72 ?_
                refine zr_callV (hf_N34_.w hW) hf_N34_.x (pc := 75) [.long (Int64.ofInt 7103860)] [] l_M_312 (c_M_isWordF l N34_ (hf_N34_.w hW) 7103860 (by decide) (by decide) b_ n_ i36_) rfl rfl rfl (by decide) (Nat.le_of_ble_eq_true rfl) d_M_reads_75 ?_
                rintro _ N45_ ⟨v46_, rfl, ⟨hv46_a, hv46_b⟩, hsN45_, hp0_N45_⟩
                obtain rfl := hsN45_.eq.symm
                replace hp0_N45_ : ((v46_ = 1 ∧ ze N34_ 81 7 = 0 ∧ zkd b_ n_ (ze N34_ 81 4).toNat = 1 ∧ zke8 b_ n_ (ze N34_ 81 4).toNat = 7103860) ∨ (v46_ = 0 ∧ (ze N34_ 81 7 = 0 → ¬ (zkd b_ n_ (ze N34_ 81 4).toNat = 1 ∧ zke8 b_ n_ (ze N34_ 81 4).toNat = 7103860)))) := hp0_N45_
                rcases hp0_N45_ with ⟨rfl, ha75_0_hp0_N45_, ha75_1_hp0_N45_, ha75_2_hp0_N45_⟩ | ⟨rfl, ha75_0_hp0_N45_⟩
                · skip
                  exfalso; omega
                · skip
                  show zW l m_M_reads (zn Mz + 0, zw Mz + 0) N34_ 78 [some (.ref 81)] [.int (Int32.ofInt 0)] (zpV [3, 4, 5, 6, 7, 8, 11, 12, 13, 14, 20, 25, 26, 38, 39, 41, 42, 43] [83, 85, 86, 87, 88, 89, 90, 91, 92, 93, 94, 95, 96, 97, 100, 101, 102] Mz (fun N => zRt b_ n_ N ∧ 0 ≤ ze N 81 13 ∧ ze N 81 13 ≤ 4 ∧ 0 ≤ ze N 81 14 ∧ ze N 81 14 ≤ 8 ∧ zB 83 24 0 5 N ∧ zB 85 144 0 5 N ∧ (((1 ≤ ze N 81 7 ∧ zTrB b_ n_ (ze Mz 81 4).toNat) ∨ (ze N 81 7 = 0 ∧ 1 ≤ ze N 81 12 ∧ ze N 81 12 ≤ 6 ∧ zPm N ∧ zFin N ∧ (∃ T : zGT, ∃ mv : List Nat, ∃ P : Nat, T ∈ gTabs ∧ zGB T N ∧ zTrP b_ n_ (ze Mz 81 4).toNat P mv T ∧ zMvs N = mv ∧ ze N 81 12 = (P : Int)))))))
                  refine zr_if_eq (pc := 78) (tgt := 88) ⟨(by decide), (by decide)⟩ (by decide) d_M_reads_78 (fun hc_78 => ?_) (fun hc_78 => ?_)
                  · skip
                    exact j_88 N34_ hb0_N34_ i36_ (show 0 ≤ ze N34_ 81 13 by first | assumption | omega) (show ze N34_ 81 13 ≤ 4 by first | assumption | omega) (show 0 ≤ ze N34_ 81 14 by first | assumption | omega) (show ze N34_ 81 14 ≤ 8 by first | assumption | omega) (show (1 ≤ ze N34_ 81 7 ∧ zTrB b_ n_ (ze Mz 81 4).toNat) ∨ (ze N34_ 81 7 = 0 ∧ 1 ≤ ze N34_ 81 12 ∧ ze N34_ 81 12 ≤ 6 ∧ zPm N34_ ∧ zFin N34_ ∧ (∃ T : zGT, ∃ mv : List Nat, ∃ P q q2 : Nat, ∃ nm : List (Int × (Nat → Int)), T ∈ gTabs ∧ zGB T N34_ ∧ zTm mv T ∧ zHd b_ n_ (ze Mz 81 4).toNat P q ∧ zRg (zbs b_ n_ P) (0, q, []) (1, q2, mv) ∧ zRg (zls b_ n_ (gF T).length (gmkI T)) (0, q2, []) (0, (ze N34_ 81 4).toNat, nm) ∧ zRNm nm (gF T).length (gmkI T) b_ n_ N34_ ∧ zMvs N34_ = mv ∧ ze N34_ 81 12 = (P : Int)) ∧ ¬ (zkd b_ n_ (ze N34_ 81 4).toNat = 1 ∧ zkey b_ n_ (ze N34_ 81 4).toNat = zkw 2)) from Or.inl (⟨(show 1 ≤ ze N34_ 81 7 by first | assumption | omega | exact hrt_ | exact hrt2_ | exact hmx_ | exact hPm_ | exact hFn_ | exact hLT2_ | exact hnk_), (show zTrB b_ n_ (ze Mz 81 4).toNat by first | assumption | omega | exact hrt_ | exact hrt2_ | exact hmx_ | exact hPm_ | exact hFn_ | exact hLT2_ | exact hnk_)⟩)) c43_ c44_
                  · skip
                    exact absurd hc_78 (by decide)
              · skip
                have hPm_ := hl71_3_i41_
                have hFn_ := hl71_4_i41_
                have hLT_ := hl71_5_i41_
                obtain ⟨T, mv_, P_, q_, q2_, nm_, hTt, hGB, hTm_, hHd_, hrb_, hrl_, hnm_, hmq_, hPq_⟩ := id hLT_
                have hB85_ : zB 85 144 0 5 N34_ := hGB.2.1
                have hRm_ := hGB.rm
                refine zw_aload_n (pc := 71) (n := 0) (x := 81) rfl d_M_reads_71 ?_
                refine zr_ldc2 (pc := 72) (n := 7103860) (by decide) k_M_179 d_M_reads_72 ?_
                refine zr_callV (hf_N34_.w hW) hf_N34_.x (pc := 75) [.long (Int64.ofInt 7103860)] [] l_M_312 (c_M_isWordF l N34_ (hf_N34_.w hW) 7103860 (by decide) (by decide) b_ n_ i36_) rfl rfl rfl (by decide) (Nat.le_of_ble_eq_true rfl) d_M_reads_75 ?_
                rintro _ N47_ ⟨v48_, rfl, ⟨hv48_a, hv48_b⟩, hsN47_, hp0_N47_⟩
                obtain rfl := hsN47_.eq.symm
                replace hp0_N47_ : ((v48_ = 1 ∧ ze N34_ 81 7 = 0 ∧ zkd b_ n_ (ze N34_ 81 4).toNat = 1 ∧ zke8 b_ n_ (ze N34_ 81 4).toNat = 7103860) ∨ (v48_ = 0 ∧ (ze N34_ 81 7 = 0 → ¬ (zkd b_ n_ (ze N34_ 81 4).toNat = 1 ∧ zke8 b_ n_ (ze N34_ 81 4).toNat = 7103860)))) := hp0_N47_
                rcases hp0_N47_ with ⟨rfl, ha75_0_hp0_N47_, ha75_1_hp0_N47_, ha75_2_hp0_N47_⟩ | ⟨rfl, ha75_0_hp0_N47_⟩
                · skip
                  have hk1_ := ha75_1_hp0_N47_
                  have hks_ := (zke8_w hk1_ (i := 2) (by decide)).mp ha75_2_hp0_N47_
                  show zW l m_M_reads (zn Mz + 0, zw Mz + 0) N34_ 78 [some (.ref 81)] [.int (Int32.ofInt 1)] (zpV [3, 4, 5, 6, 7, 8, 11, 12, 13, 14, 20, 25, 26, 38, 39, 41, 42, 43] [83, 85, 86, 87, 88, 89, 90, 91, 92, 93, 94, 95, 96, 97, 100, 101, 102] Mz (fun N => zRt b_ n_ N ∧ 0 ≤ ze N 81 13 ∧ ze N 81 13 ≤ 4 ∧ 0 ≤ ze N 81 14 ∧ ze N 81 14 ≤ 8 ∧ zB 83 24 0 5 N ∧ zB 85 144 0 5 N ∧ (((1 ≤ ze N 81 7 ∧ zTrB b_ n_ (ze Mz 81 4).toNat) ∨ (ze N 81 7 = 0 ∧ 1 ≤ ze N 81 12 ∧ ze N 81 12 ≤ 6 ∧ zPm N ∧ zFin N ∧ (∃ T : zGT, ∃ mv : List Nat, ∃ P : Nat, T ∈ gTabs ∧ zGB T N ∧ zTrP b_ n_ (ze Mz 81 4).toNat P mv T ∧ zMvs N = mv ∧ ze N 81 12 = (P : Int)))))))
                  refine zr_if_eq (pc := 78) (tgt := 88) ⟨(by decide), (by decide)⟩ (by decide) d_M_reads_78 (fun hc_78 => ?_) (fun hc_78 => ?_)
                  · skip
                    exact absurd hc_78 (by decide)
                  · skip
                    refine zw_aload_n (pc := 81) (n := 0) (x := 81) rfl d_M_reads_81 ?_
                    refine zr_callV (hf_N34_.w hW) hf_N34_.x (pc := 82) [] [] l_M_364 (c_M_letLineF l N34_ (hf_N34_.w hW) (gF T).length (gmkI T) (gT_zTA hTt) b_ n_ nm_ hRm_ c42_ i36_ hnm_ (show ze N34_ 81 7 = 0 by first | assumption | omega) (show zkd b_ n_ (ze N34_ 81 4).toNat = 1 by first | assumption | omega) (show zkey b_ n_ (ze N34_ 81 4).toNat = zkw 2 by first | assumption | omega)) rfl rfl rfl (by decide) (Nat.le_of_ble_eq_true rfl) d_M_reads_82 ?_
                    rintro _ N49_ ⟨rfl, hsN49_, ⟨hp0_N49_, hp1_N49_, hp2_N49_, hp3_N49_⟩⟩
                    have hf_N49_ : zFr [3, 4, 5, 6, 7, 8, 11, 12, 13, 14, 20, 25, 26, 38, 39, 41, 42, 43] [83, 85, 86, 87, 88, 89, 90, 91, 92, 93, 94, 95, 96, 97, 100, 101, 102] Mz N49_ := hf_N34_.tr hsN49_ (by decide) (by decide)
                    have hb0_N49_ : zFr [3, 4, 5, 6, 7, 8, 11, 12, 13, 14, 20, 25, 26, 38, 39, 41, 42, 43] [83, 85, 86, 87, 88, 89, 90, 91, 92, 93, 94, 95, 96, 97, 100, 101, 102] Mz N49_ := hb0_N34_.tr hsN49_ (by decide) (by decide)
                    have hb1_N49_ : zFr [3, 4, 5, 6, 7, 8, 11, 14, 38, 39, 41, 42, 43] [95, 96, 97, 100, 101, 102] N22_ N49_ := hs35_.tr hsN49_ (by decide) (by decide)
                    have r3_N49_ := ze_r N49_ 81 3
                    have r4_N49_ := ze_r N49_ 81 4
                    have r5_N49_ := ze_r N49_ 81 5
                    have r7_N49_ := ze_r N49_ 81 7
                    have e12_N49_ : ze N49_ 81 12 = ze N34_ 81 12 := hsN49_.e (by decide)
                    have e13_N49_ : ze N49_ 81 13 = ze N34_ 81 13 := hsN49_.e (by decide)
                    have r14_N49_ := ze_r N49_ 81 14
                    have c51_ : zRb b_ n_ N49_ := zRb.fr hsN49_ c42_ (by decide) (by decide)
                    have c52_ : zB 83 24 0 5 N49_ := zB.fr hsN49_ c43_ (by decide) (by decide)
                    have c53_ : zB 85 144 0 5 N49_ := zB.fr hsN49_ hB85_ (by decide) (by decide)
                    have c54_ : zPm N49_ := zPm.fr hsN49_ hPm_ (by decide) (by decide)
                    have c55_ : zFin N49_ := zFin.fr hsN49_ hFn_ (by decide) (by decide)
                    have c56_ : zGB T N49_ := zGB.fr hsN49_ hGB (by decide) (by decide)
                    have c57_ : zRmk (gF T).length (gmkI T) N49_ := zRmk.fr hsN49_ hRm_ (by decide) (by decide)
                    rcases hp3_N49_ with ⟨ha82_0_hp3_N49_, ha82_1_hp3_N49_⟩ | ⟨ha82_0_hp3_N49_, ha82_1_hp3_N49_, ha82_2_hp3_N49_⟩
                    · skip
                      have hrt_ : zTrB b_ n_ (ze Mz 81 4).toNat := Or.inr (Or.inr ⟨P_, q_, q2_, mv_, T, hHd_, hrb_, hTt, hTm_, hrl_.tr (zRg.st ha82_1_hp3_N49_)⟩)
                      show zW l m_M_reads (zn Mz + 0, zw Mz + 0) N49_ 85 [some (.ref 81)] [] (zpV [3, 4, 5, 6, 7, 8, 11, 12, 13, 14, 20, 25, 26, 38, 39, 41, 42, 43] [83, 85, 86, 87, 88, 89, 90, 91, 92, 93, 94, 95, 96, 97, 100, 101, 102] Mz (fun N => zRt b_ n_ N ∧ 0 ≤ ze N 81 13 ∧ ze N 81 13 ≤ 4 ∧ 0 ≤ ze N 81 14 ∧ ze N 81 14 ≤ 8 ∧ zB 83 24 0 5 N ∧ zB 85 144 0 5 N ∧ (((1 ≤ ze N 81 7 ∧ zTrB b_ n_ (ze Mz 81 4).toNat) ∨ (ze N 81 7 = 0 ∧ 1 ≤ ze N 81 12 ∧ ze N 81 12 ≤ 6 ∧ zPm N ∧ zFin N ∧ (∃ T : zGT, ∃ mv : List Nat, ∃ P : Nat, T ∈ gTabs ∧ zGB T N ∧ zTrP b_ n_ (ze Mz 81 4).toNat P mv T ∧ zMvs N = mv ∧ ze N 81 12 = (P : Int)))))))
                      refine zw_goto (pc := 85) (tgt := 71) (by decide) d_M_reads_85 ?_
                      exact ih_71 N49_ hb1_N49_ hp0_N49_ (show 0 ≤ ze N49_ 81 13 by first | assumption | omega) (show ze N49_ 81 13 ≤ 4 by first | assumption | omega) (show 0 ≤ ze N49_ 81 14 by first | assumption | omega) (show ze N49_ 81 14 ≤ 8 by first | assumption | omega) (show (1 ≤ ze N49_ 81 7 ∧ zTrB b_ n_ (ze Mz 81 4).toNat) ∨ (ze N49_ 81 7 = 0 ∧ 1 ≤ ze N49_ 81 12 ∧ ze N49_ 81 12 ≤ 6 ∧ zPm N49_ ∧ zFin N49_ ∧ (∃ T : zGT, ∃ mv : List Nat, ∃ P q q2 : Nat, ∃ nm : List (Int × (Nat → Int)), T ∈ gTabs ∧ zGB T N49_ ∧ zTm mv T ∧ zHd b_ n_ (ze Mz 81 4).toNat P q ∧ zRg (zbs b_ n_ P) (0, q, []) (1, q2, mv) ∧ zRg (zls b_ n_ (gF T).length (gmkI T)) (0, q2, []) (0, (ze N49_ 81 4).toNat, nm) ∧ zRNm nm (gF T).length (gmkI T) b_ n_ N49_ ∧ zMvs N49_ = mv ∧ ze N49_ 81 12 = (P : Int))) from Or.inl (⟨(show 1 ≤ ze N49_ 81 7 by first | assumption | omega | exact hrt_ | exact hmv2_ | exact hPm2_ | exact hFn2_ | exact hLT3_ | exact hPb_ | exact hFb_), (show zTrB b_ n_ (ze Mz 81 4).toNat by first | assumption | omega | exact hrt_ | exact hmv2_ | exact hPm2_ | exact hFn2_ | exact hLT3_ | exact hPb_ | exact hFb_)⟩)) (by have m1_ := zmF_c n_ N49_; have m2_ := zmF_c n_ N34_; have m3_ := hp0_N49_.x; omega)
                    · skip
                      obtain ⟨nm2_, hls_, hnm2_⟩ := id ha82_1_hp3_N49_
                      have hlt2_ := ha82_2_hp3_N49_
                      have hLT3_ : (∃ T : zGT, ∃ mv : List Nat, ∃ P q q2 : Nat, ∃ nm : List (Int × (Nat → Int)), T ∈ gTabs ∧ zGB T N49_ ∧ zTm mv T ∧ zHd b_ n_ (ze Mz 81 4).toNat P q ∧ zRg (zbs b_ n_ P) (0, q, []) (1, q2, mv) ∧ zRg (zls b_ n_ (gF T).length (gmkI T)) (0, q2, []) (0, (ze N49_ 81 4).toNat, nm) ∧ zRNm nm (gF T).length (gmkI T) b_ n_ N49_ ∧ zMvs N49_ = mv ∧ ze N49_ 81 12 = (P : Int)) := ⟨T, mv_, P_, q_, q2_, nm2_, hTt, c56_, hTm_, hHd_, hrb_, hrl_.tr (zRg.st hls_), hnm2_, (zMvs_f hsN49_ (by decide) (by decide)).trans hmq_, by omega⟩
                      have hln_ := hnm2_.1
                      have hPb_ : zPm N49_ := c54_
                      have hFb_ : zFin N49_ := c55_
                      show zW l m_M_reads (zn Mz + 0, zw Mz + 0) N49_ 85 [some (.ref 81)] [] (zpV [3, 4, 5, 6, 7, 8, 11, 12, 13, 14, 20, 25, 26, 38, 39, 41, 42, 43] [83, 85, 86, 87, 88, 89, 90, 91, 92, 93, 94, 95, 96, 97, 100, 101, 102] Mz (fun N => zRt b_ n_ N ∧ 0 ≤ ze N 81 13 ∧ ze N 81 13 ≤ 4 ∧ 0 ≤ ze N 81 14 ∧ ze N 81 14 ≤ 8 ∧ zB 83 24 0 5 N ∧ zB 85 144 0 5 N ∧ (((1 ≤ ze N 81 7 ∧ zTrB b_ n_ (ze Mz 81 4).toNat) ∨ (ze N 81 7 = 0 ∧ 1 ≤ ze N 81 12 ∧ ze N 81 12 ≤ 6 ∧ zPm N ∧ zFin N ∧ (∃ T : zGT, ∃ mv : List Nat, ∃ P : Nat, T ∈ gTabs ∧ zGB T N ∧ zTrP b_ n_ (ze Mz 81 4).toNat P mv T ∧ zMvs N = mv ∧ ze N 81 12 = (P : Int)))))))
                      refine zw_goto (pc := 85) (tgt := 71) (by decide) d_M_reads_85 ?_
                      exact ih_71 N49_ hb1_N49_ hp0_N49_ (show 0 ≤ ze N49_ 81 13 by first | assumption | omega) (show ze N49_ 81 13 ≤ 4 by first | assumption | omega) (show 0 ≤ ze N49_ 81 14 by first | assumption | omega) (show ze N49_ 81 14 ≤ 8 by first | assumption | omega) (show (1 ≤ ze N49_ 81 7 ∧ zTrB b_ n_ (ze Mz 81 4).toNat) ∨ (ze N49_ 81 7 = 0 ∧ 1 ≤ ze N49_ 81 12 ∧ ze N49_ 81 12 ≤ 6 ∧ zPm N49_ ∧ zFin N49_ ∧ (∃ T : zGT, ∃ mv : List Nat, ∃ P q q2 : Nat, ∃ nm : List (Int × (Nat → Int)), T ∈ gTabs ∧ zGB T N49_ ∧ zTm mv T ∧ zHd b_ n_ (ze Mz 81 4).toNat P q ∧ zRg (zbs b_ n_ P) (0, q, []) (1, q2, mv) ∧ zRg (zls b_ n_ (gF T).length (gmkI T)) (0, q2, []) (0, (ze N49_ 81 4).toNat, nm) ∧ zRNm nm (gF T).length (gmkI T) b_ n_ N49_ ∧ zMvs N49_ = mv ∧ ze N49_ 81 12 = (P : Int))) from Or.inr (⟨(show ze N49_ 81 7 = 0 by first | assumption | omega | exact hrt_ | exact hmv2_ | exact hPm2_ | exact hFn2_ | exact hLT3_ | exact hPb_ | exact hFb_), (show 1 ≤ ze N49_ 81 12 by first | assumption | omega | exact hrt_ | exact hmv2_ | exact hPm2_ | exact hFn2_ | exact hLT3_ | exact hPb_ | exact hFb_), (show ze N49_ 81 12 ≤ 6 by first | assumption | omega | exact hrt_ | exact hmv2_ | exact hPm2_ | exact hFn2_ | exact hLT3_ | exact hPb_ | exact hFb_), (show zPm N49_ by first | assumption | omega | exact hrt_ | exact hmv2_ | exact hPm2_ | exact hFn2_ | exact hLT3_ | exact hPb_ | exact hFb_), (show zFin N49_ by first | assumption | omega | exact hrt_ | exact hmv2_ | exact hPm2_ | exact hFn2_ | exact hLT3_ | exact hPb_ | exact hFb_), (show (∃ T : zGT, ∃ mv : List Nat, ∃ P q q2 : Nat, ∃ nm : List (Int × (Nat → Int)), T ∈ gTabs ∧ zGB T N49_ ∧ zTm mv T ∧ zHd b_ n_ (ze Mz 81 4).toNat P q ∧ zRg (zbs b_ n_ P) (0, q, []) (1, q2, mv) ∧ zRg (zls b_ n_ (gF T).length (gmkI T)) (0, q2, []) (0, (ze N49_ 81 4).toNat, nm) ∧ zRNm nm (gF T).length (gmkI T) b_ n_ N49_ ∧ zMvs N49_ = mv ∧ ze N49_ 81 12 = (P : Int)) by first | assumption | omega | exact hrt_ | exact hmv2_ | exact hPm2_ | exact hFn2_ | exact hLT3_ | exact hPb_ | exact hFb_)⟩)) (by have m1_ := zmF_c n_ N49_; have m2_ := zmF_c n_ N34_; have m3_ := hp0_N49_.x; omega)
                · skip
                  have hnk_ : ¬ (zkd b_ n_ (ze N34_ 81 4).toNat = 1 ∧ zkey b_ n_ (ze N34_ 81 4).toNat = zkw 2) := fun q_ => ha75_0_hp0_N47_ (by omega) ⟨q_.1, (zke8_w q_.1 (i := 2) (by decide)).mpr q_.2⟩
                  have hLT2_ := hLT_
                  show zW l m_M_reads (zn Mz + 0, zw Mz + 0) N34_ 78 [some (.ref 81)] [.int (Int32.ofInt 0)] (zpV [3, 4, 5, 6, 7, 8, 11, 12, 13, 14, 20, 25, 26, 38, 39, 41, 42, 43] [83, 85, 86, 87, 88, 89, 90, 91, 92, 93, 94, 95, 96, 97, 100, 101, 102] Mz (fun N => zRt b_ n_ N ∧ 0 ≤ ze N 81 13 ∧ ze N 81 13 ≤ 4 ∧ 0 ≤ ze N 81 14 ∧ ze N 81 14 ≤ 8 ∧ zB 83 24 0 5 N ∧ zB 85 144 0 5 N ∧ (((1 ≤ ze N 81 7 ∧ zTrB b_ n_ (ze Mz 81 4).toNat) ∨ (ze N 81 7 = 0 ∧ 1 ≤ ze N 81 12 ∧ ze N 81 12 ≤ 6 ∧ zPm N ∧ zFin N ∧ (∃ T : zGT, ∃ mv : List Nat, ∃ P : Nat, T ∈ gTabs ∧ zGB T N ∧ zTrP b_ n_ (ze Mz 81 4).toNat P mv T ∧ zMvs N = mv ∧ ze N 81 12 = (P : Int)))))))
                  refine zr_if_eq (pc := 78) (tgt := 88) ⟨(by decide), (by decide)⟩ (by decide) d_M_reads_78 (fun hc_78 => ?_) (fun hc_78 => ?_)
                  · skip
                    exact j_88 N34_ hb0_N34_ i36_ (show 0 ≤ ze N34_ 81 13 by first | assumption | omega) (show ze N34_ 81 13 ≤ 4 by first | assumption | omega) (show 0 ≤ ze N34_ 81 14 by first | assumption | omega) (show ze N34_ 81 14 ≤ 8 by first | assumption | omega) (show (1 ≤ ze N34_ 81 7 ∧ zTrB b_ n_ (ze Mz 81 4).toNat) ∨ (ze N34_ 81 7 = 0 ∧ 1 ≤ ze N34_ 81 12 ∧ ze N34_ 81 12 ≤ 6 ∧ zPm N34_ ∧ zFin N34_ ∧ (∃ T : zGT, ∃ mv : List Nat, ∃ P q q2 : Nat, ∃ nm : List (Int × (Nat → Int)), T ∈ gTabs ∧ zGB T N34_ ∧ zTm mv T ∧ zHd b_ n_ (ze Mz 81 4).toNat P q ∧ zRg (zbs b_ n_ P) (0, q, []) (1, q2, mv) ∧ zRg (zls b_ n_ (gF T).length (gmkI T)) (0, q2, []) (0, (ze N34_ 81 4).toNat, nm) ∧ zRNm nm (gF T).length (gmkI T) b_ n_ N34_ ∧ zMvs N34_ = mv ∧ ze N34_ 81 12 = (P : Int)) ∧ ¬ (zkd b_ n_ (ze N34_ 81 4).toNat = 1 ∧ zkey b_ n_ (ze N34_ 81 4).toNat = zkw 2)) from Or.inr (⟨(show ze N34_ 81 7 = 0 by first | assumption | omega | exact hrt_ | exact hrt2_ | exact hmx_ | exact hPm_ | exact hFn_ | exact hLT2_ | exact hnk_), (show 1 ≤ ze N34_ 81 12 by first | assumption | omega | exact hrt_ | exact hrt2_ | exact hmx_ | exact hPm_ | exact hFn_ | exact hLT2_ | exact hnk_), (show ze N34_ 81 12 ≤ 6 by first | assumption | omega | exact hrt_ | exact hrt2_ | exact hmx_ | exact hPm_ | exact hFn_ | exact hLT2_ | exact hnk_), (show zPm N34_ by first | assumption | omega | exact hrt_ | exact hrt2_ | exact hmx_ | exact hPm_ | exact hFn_ | exact hLT2_ | exact hnk_), (show zFin N34_ by first | assumption | omega | exact hrt_ | exact hrt2_ | exact hmx_ | exact hPm_ | exact hFn_ | exact hLT2_ | exact hnk_), (show (∃ T : zGT, ∃ mv : List Nat, ∃ P q q2 : Nat, ∃ nm : List (Int × (Nat → Int)), T ∈ gTabs ∧ zGB T N34_ ∧ zTm mv T ∧ zHd b_ n_ (ze Mz 81 4).toNat P q ∧ zRg (zbs b_ n_ P) (0, q, []) (1, q2, mv) ∧ zRg (zls b_ n_ (gF T).length (gmkI T)) (0, q2, []) (0, (ze N34_ 81 4).toNat, nm) ∧ zRNm nm (gF T).length (gmkI T) b_ n_ N34_ ∧ zMvs N34_ = mv ∧ ze N34_ 81 12 = (P : Int)) by first | assumption | omega | exact hrt_ | exact hrt2_ | exact hmx_ | exact hPm_ | exact hFn_ | exact hLT2_ | exact hnk_), (show ¬ (zkd b_ n_ (ze N34_ 81 4).toNat = 1 ∧ zkey b_ n_ (ze N34_ 81 4).toNat = zkw 2) by first | assumption | omega | exact hrt_ | exact hrt2_ | exact hmx_ | exact hPm_ | exact hFn_ | exact hLT2_ | exact hnk_)⟩)) c43_ hB85_
                  · skip
                    exact absurd hc_78 (by decide)
          exact lp_71 _ N22_ zFr.rf i24_ (show 0 ≤ ze N22_ 81 13 by first | assumption | omega) (show ze N22_ 81 13 ≤ 4 by first | assumption | omega) (show 0 ≤ ze N22_ 81 14 by first | assumption | omega) (show ze N22_ 81 14 ≤ 8 by first | assumption | omega) (show (1 ≤ ze N22_ 81 7 ∧ zTrB b_ n_ (ze Mz 81 4).toNat) ∨ (ze N22_ 81 7 = 0 ∧ 1 ≤ ze N22_ 81 12 ∧ ze N22_ 81 12 ≤ 6 ∧ zPm N22_ ∧ zFin N22_ ∧ (∃ T : zGT, ∃ mv : List Nat, ∃ P q q2 : Nat, ∃ nm : List (Int × (Nat → Int)), T ∈ gTabs ∧ zGB T N22_ ∧ zTm mv T ∧ zHd b_ n_ (ze Mz 81 4).toNat P q ∧ zRg (zbs b_ n_ P) (0, q, []) (1, q2, mv) ∧ zRg (zls b_ n_ (gF T).length (gmkI T)) (0, q2, []) (0, (ze N22_ 81 4).toNat, nm) ∧ zRNm nm (gF T).length (gmkI T) b_ n_ N22_ ∧ zMvs N22_ = mv ∧ ze N22_ 81 12 = (P : Int))) from Or.inl (⟨(show 1 ≤ ze N22_ 81 7 by first | assumption | omega | exact hrt_ | exact hrt2_ | exact hmv0_ | exact hP0_ | exact hF0_ | exact hLT0_ | exact hPb_ | exact hFb_), (show zTrB b_ n_ (ze Mz 81 4).toNat by first | assumption | omega | exact hrt_ | exact hrt2_ | exact hmv0_ | exact hP0_ | exact hF0_ | exact hLT0_ | exact hPb_ | exact hFb_)⟩)) (Nat.lt_succ_self _)
        · skip
          exact absurd hc_64 (by decide)
    · skip
      have hPm_ := hl60_3_i28_
      have hFn_ := hl60_4_i28_
      have hmx_ := hl60_5_i28_
      refine zw_aload_n (pc := 60) (n := 0) (x := 81) rfl d_M_reads_60 ?_
      refine zr_callV (hf_N22_.w hW) hf_N22_.x (pc := 61) [] [] l_M_183 (c_M_isGood l N22_ (hf_N22_.w hW) ) rfl rfl rfl (by decide) (Nat.le_of_ble_eq_true rfl) d_M_reads_61 ?_
      rintro _ N58_ ⟨v59_, rfl, ⟨hv59_a, hv59_b⟩, hsN58_, hp0_N58_⟩
      obtain rfl := hsN58_.eq.symm
      replace hp0_N58_ : ((v59_ = 1 ∧ ze N22_ 81 7 = 0) ∨ (v59_ = 0 ∧ ze N22_ 81 7 ≠ 0)) := hp0_N58_
      rcases hp0_N58_ with ⟨rfl, ha61_0_hp0_N58_⟩ | ⟨rfl, ha61_0_hp0_N58_⟩
      · skip
        show zW l m_M_reads (zn Mz + 0, zw Mz + 0) N22_ 64 [some (.ref 81)] [.int (Int32.ofInt 1)] (zpV [3, 4, 5, 6, 7, 8, 11, 12, 13, 14, 20, 25, 26, 38, 39, 41, 42, 43] [83, 85, 86, 87, 88, 89, 90, 91, 92, 93, 94, 95, 96, 97, 100, 101, 102] Mz (fun N => zRt b_ n_ N ∧ 0 ≤ ze N 81 13 ∧ ze N 81 13 ≤ 4 ∧ 0 ≤ ze N 81 14 ∧ ze N 81 14 ≤ 8 ∧ zB 83 24 0 5 N ∧ zB 85 144 0 5 N ∧ (((1 ≤ ze N 81 7 ∧ zTrB b_ n_ (ze Mz 81 4).toNat) ∨ (ze N 81 7 = 0 ∧ 1 ≤ ze N 81 12 ∧ ze N 81 12 ≤ 6 ∧ zPm N ∧ zFin N ∧ (∃ T : zGT, ∃ mv : List Nat, ∃ P : Nat, T ∈ gTabs ∧ zGB T N ∧ zTrP b_ n_ (ze Mz 81 4).toNat P mv T ∧ zMvs N = mv ∧ ze N 81 12 = (P : Int)))))))
        refine zr_if_eq (pc := 64) (tgt := 71) ⟨(by decide), (by decide)⟩ (by decide) d_M_reads_64 (fun hc_64 => ?_) (fun hc_64 => ?_)
        · skip
          exact absurd hc_64 (by decide)
        · skip
          refine zw_aload_n (pc := 67) (n := 0) (x := 81) rfl d_M_reads_67 ?_
          refine zr_callV (hf_N22_.w hW) hf_N22_.x (pc := 68) [] [] l_M_118 (c_M_buildsF l N22_ (hf_N22_.w hW) (show 1 ≤ ze N22_ 81 12 by first | assumption | omega) (show ze N22_ 81 12 ≤ 6 by first | assumption | omega) (show 0 ≤ ze N22_ 81 13 by first | assumption | omega) (show ze N22_ 81 13 ≤ 4 by first | assumption | omega) hPm_ hFn_ i29_ i30_) rfl rfl rfl (by decide) (Nat.le_of_ble_eq_true rfl) d_M_reads_68 ?_
          rintro _ N60_ ⟨rfl, hsN60_, hp0_N60_⟩
          replace hp0_N60_ : ∃ T : zGT, T ∈ gTabs ∧ zGB T N60_ ∧ zTm (zMvs N22_) T := hp0_N60_
          have hf_N60_ : zFr [3, 4, 5, 6, 7, 8, 11, 12, 13, 14, 20, 25, 26, 38, 39, 41, 42, 43] [83, 85, 86, 87, 88, 89, 90, 91, 92, 93, 94, 95, 96, 97, 100, 101, 102] Mz N60_ := hf_N22_.tr hsN60_ (by decide) (by decide)
          have hb0_N60_ : zFr [3, 4, 5, 6, 7, 8, 11, 12, 13, 14, 20, 25, 26, 38, 39, 41, 42, 43] [83, 85, 86, 87, 88, 89, 90, 91, 92, 93, 94, 95, 96, 97, 100, 101, 102] Mz N60_ := hb0_N22_.tr hsN60_ (by decide) (by decide)
          have e3_N60_ : ze N60_ 81 3 = ze N22_ 81 3 := hsN60_.e (by decide)
          have e4_N60_ : ze N60_ 81 4 = ze N22_ 81 4 := hsN60_.e (by decide)
          have e5_N60_ : ze N60_ 81 5 = ze N22_ 81 5 := hsN60_.e (by decide)
          have e7_N60_ : ze N60_ 81 7 = ze N22_ 81 7 := hsN60_.e (by decide)
          have e12_N60_ : ze N60_ 81 12 = ze N22_ 81 12 := hsN60_.e (by decide)
          have e13_N60_ : ze N60_ 81 13 = ze N22_ 81 13 := hsN60_.e (by decide)
          have e14_N60_ : ze N60_ 81 14 = ze N22_ 81 14 := hsN60_.e (by decide)
          have c62_ : zRb b_ n_ N60_ := zRb.fr hsN60_ c31_ (by decide) (by decide)
          have c63_ : zRt b_ n_ N60_ := zRt.fr hsN60_ i24_ (by decide) (by decide)
          have c64_ : zB 83 24 0 5 N60_ := zB.fr hsN60_ i29_ (by decide) (by decide)
          have c65_ : zPm N60_ := zPm.fr hsN60_ hPm_ (by decide) (by decide)
          have c66_ : zFin N60_ := zFin.fr hsN60_ hFn_ (by decide) (by decide)
          show zW l m_M_reads (zn Mz + 0, zw Mz + 0) N60_ 71 [some (.ref 81)] [] (zpV [3, 4, 5, 6, 7, 8, 11, 12, 13, 14, 20, 25, 26, 38, 39, 41, 42, 43] [83, 85, 86, 87, 88, 89, 90, 91, 92, 93, 94, 95, 96, 97, 100, 101, 102] Mz (fun N => zRt b_ n_ N ∧ 0 ≤ ze N 81 13 ∧ ze N 81 13 ≤ 4 ∧ 0 ≤ ze N 81 14 ∧ ze N 81 14 ≤ 8 ∧ zB 83 24 0 5 N ∧ zB 85 144 0 5 N ∧ (((1 ≤ ze N 81 7 ∧ zTrB b_ n_ (ze Mz 81 4).toNat) ∨ (ze N 81 7 = 0 ∧ 1 ≤ ze N 81 12 ∧ ze N 81 12 ≤ 6 ∧ zPm N ∧ zFin N ∧ (∃ T : zGT, ∃ mv : List Nat, ∃ P : Nat, T ∈ gTabs ∧ zGB T N ∧ zTrP b_ n_ (ze Mz 81 4).toNat P mv T ∧ zMvs N = mv ∧ ze N 81 12 = (P : Int)))))))
          obtain ⟨T, hTt, hGB, hTm_⟩ := id hp0_N60_
          have hB85_ : zB 85 144 0 5 N60_ := hGB.2.1
          have hRm_ := hGB.rm
          have hLT0_ : (∃ T : zGT, ∃ mv : List Nat, ∃ P q q2 : Nat, ∃ nm : List (Int × (Nat → Int)), T ∈ gTabs ∧ zGB T N60_ ∧ zTm mv T ∧ zHd b_ n_ (ze Mz 81 4).toNat P q ∧ zRg (zbs b_ n_ P) (0, q, []) (1, q2, mv) ∧ zRg (zls b_ n_ (gF T).length (gmkI T)) (0, q2, []) (0, (ze N60_ 81 4).toNat, nm) ∧ zRNm nm (gF T).length (gmkI T) b_ n_ N60_ ∧ zMvs N60_ = mv ∧ ze N60_ 81 12 = (P : Int)) := by obtain ⟨q_, h1_, h2_⟩ := id hmx_; exact ⟨T, _, _, q_, _, [], hTt, hGB, hTm_, h1_, h2_, (by rw [show ze N60_ 81 4 = ze N22_ 81 4 by omega]; exact zRg.rf), ⟨by omega, fun _ => 0, by rw [show (ze N60_ 81 14).toNat = 0 by omega]; rfl, fun k_ hk_ => absurd hk_ (by omega)⟩, zMvs_f hsN60_ (by decide) (by decide), by omega⟩
          have hPb_ : zPm N60_ := c65_
          have hFb_ : zFin N60_ := c66_
          have lp_71 : ∀ (n : Nat) (N67_ : zMem) (hs68_ : zFr [3, 4, 5, 6, 7, 8, 11, 14, 38, 39, 41, 42, 43] [95, 96, 97, 100, 101, 102] N60_ N67_) (i69_ : zRt b_ n_ N67_) (i70_ : 0 ≤ ze N67_ 81 13) (i71_ : ze N67_ 81 13 ≤ 4) (i72_ : 0 ≤ ze N67_ 81 14) (i73_ : ze N67_ 81 14 ≤ 8) (i74_ : (1 ≤ ze N67_ 81 7 ∧ zTrB b_ n_ (ze Mz 81 4).toNat) ∨ (ze N67_ 81 7 = 0 ∧ 1 ≤ ze N67_ 81 12 ∧ ze N67_ 81 12 ≤ 6 ∧ zPm N67_ ∧ zFin N67_ ∧ (∃ T : zGT, ∃ mv : List Nat, ∃ P q q2 : Nat, ∃ nm : List (Int × (Nat → Int)), T ∈ gTabs ∧ zGB T N67_ ∧ zTm mv T ∧ zHd b_ n_ (ze Mz 81 4).toNat P q ∧ zRg (zbs b_ n_ P) (0, q, []) (1, q2, mv) ∧ zRg (zls b_ n_ (gF T).length (gmkI T)) (0, q2, []) (0, (ze N67_ 81 4).toNat, nm) ∧ zRNm nm (gF T).length (gmkI T) b_ n_ N67_ ∧ zMvs N67_ = mv ∧ ze N67_ 81 12 = (P : Int)))), zmF n_ N67_ < n → zW l m_M_reads (zn Mz + 0, zw Mz + 0) N67_ 71 [some (.ref 81)] [] (zpV [3, 4, 5, 6, 7, 8, 11, 12, 13, 14, 20, 25, 26, 38, 39, 41, 42, 43] [83, 85, 86, 87, 88, 89, 90, 91, 92, 93, 94, 95, 96, 97, 100, 101, 102] Mz (fun N => zRt b_ n_ N ∧ 0 ≤ ze N 81 13 ∧ ze N 81 13 ≤ 4 ∧ 0 ≤ ze N 81 14 ∧ ze N 81 14 ≤ 8 ∧ zB 83 24 0 5 N ∧ zB 85 144 0 5 N ∧ (((1 ≤ ze N 81 7 ∧ zTrB b_ n_ (ze Mz 81 4).toNat) ∨ (ze N 81 7 = 0 ∧ 1 ≤ ze N 81 12 ∧ ze N 81 12 ≤ 6 ∧ zPm N ∧ zFin N ∧ (∃ T : zGT, ∃ mv : List Nat, ∃ P : Nat, T ∈ gTabs ∧ zGB T N ∧ zTrP b_ n_ (ze Mz 81 4).toNat P mv T ∧ zMvs N = mv ∧ ze N 81 12 = (P : Int))))))) := by
            clear hs23_ i24_ i25_ i26_ i27_ i29_ i30_ hf_N22_ hb0_N22_ r3_N22_ r4_N22_ r5_N22_ r7_N22_ r12_N22_ r13_N22_ e14_N22_ c31_ hl60_0_i28_ hl60_1_i28_ hl60_2_i28_ hl60_3_i28_ hl60_4_i28_ hl60_5_i28_ hv59_a hv59_b ha61_0_hp0_N58_ hsN60_ hp0_N60_ e3_N60_ e4_N60_ e5_N60_ e7_N60_ e12_N60_ e13_N60_ e14_N60_
            intro n
            induction n with
            | zero =>
              intro N67_ hs68_ i69_ i70_ i71_ i72_ i73_ i74_ h0
              exact absurd h0 (Nat.not_lt_zero _)
            | succ n ih_71 =>
              intro N67_ hs68_ i69_ i70_ i71_ i72_ i73_ i74_ hlt_71
              have hf_N67_ : zFr [3, 4, 5, 6, 7, 8, 11, 12, 13, 14, 20, 25, 26, 38, 39, 41, 42, 43] [83, 85, 86, 87, 88, 89, 90, 91, 92, 93, 94, 95, 96, 97, 100, 101, 102] Mz N67_ := hf_N60_.tr hs68_ (by decide) (by decide)
              have hb0_N67_ : zFr [3, 4, 5, 6, 7, 8, 11, 12, 13, 14, 20, 25, 26, 38, 39, 41, 42, 43] [83, 85, 86, 87, 88, 89, 90, 91, 92, 93, 94, 95, 96, 97, 100, 101, 102] Mz N67_ := hb0_N60_.tr hs68_ (by decide) (by decide)
              have r3_N67_ := ze_r N67_ 81 3
              have r4_N67_ := ze_r N67_ 81 4
              have r5_N67_ := ze_r N67_ 81 5
              have r7_N67_ := ze_r N67_ 81 7
              have e12_N67_ : ze N67_ 81 12 = ze N60_ 81 12 := hs68_.e (by decide)
              have e13_N67_ : ze N67_ 81 13 = ze N60_ 81 13 := hs68_.e (by decide)
              have r14_N67_ := ze_r N67_ 81 14
              have c75_ : zRb b_ n_ N67_ := zRb.fr hs68_ c62_ (by decide) (by decide)
              have c76_ : zB 83 24 0 5 N67_ := zB.fr hs68_ c64_ (by decide) (by decide)
              have c77_ : zPm N67_ := zPm.fr hs68_ c65_ (by decide) (by decide)
              have c78_ : zFin N67_ := zFin.fr hs68_ c66_ (by decide) (by decide)
              have c79_ : zB 85 144 0 5 N67_ := zB.fr hs68_ hB85_ (by decide) (by decide)
              have c80_ : zGB T N67_ := zGB.fr hs68_ hGB (by decide) (by decide)
              have c81_ : zRmk (gF T).length (gmkI T) N67_ := zRmk.fr hs68_ hRm_ (by decide) (by decide)
              rcases i74_ with ⟨hl71_0_i74_, hl71_1_i74_⟩ | ⟨hl71_0_i74_, hl71_1_i74_, hl71_2_i74_, hl71_3_i74_, hl71_4_i74_, hl71_5_i74_⟩
              · skip
                refine zw_aload_n (pc := 71) (n := 0) (x := 81) rfl d_M_reads_71 ?_
                refine zr_ldc2 (pc := 72) (n := 7103860) (by decide) k_M_179 d_M_reads_72 ?_
                refine zr_callV (hf_N67_.w hW) hf_N67_.x (pc := 75) [.long (Int64.ofInt 7103860)] [] l_M_312 (c_M_isWordF l N67_ (hf_N67_.w hW) 7103860 (by decide) (by decide) b_ n_ i69_) rfl rfl rfl (by decide) (Nat.le_of_ble_eq_true rfl) d_M_reads_75 ?_
                rintro _ N82_ ⟨v83_, rfl, ⟨hv83_a, hv83_b⟩, hsN82_, hp0_N82_⟩
                obtain rfl := hsN82_.eq.symm
                replace hp0_N82_ : ((v83_ = 1 ∧ ze N67_ 81 7 = 0 ∧ zkd b_ n_ (ze N67_ 81 4).toNat = 1 ∧ zke8 b_ n_ (ze N67_ 81 4).toNat = 7103860) ∨ (v83_ = 0 ∧ (ze N67_ 81 7 = 0 → ¬ (zkd b_ n_ (ze N67_ 81 4).toNat = 1 ∧ zke8 b_ n_ (ze N67_ 81 4).toNat = 7103860)))) := hp0_N82_
                rcases hp0_N82_ with ⟨rfl, ha75_0_hp0_N82_, ha75_1_hp0_N82_, ha75_2_hp0_N82_⟩ | ⟨rfl, ha75_0_hp0_N82_⟩
                · skip
                  exfalso; omega
                · skip
                  show zW l m_M_reads (zn Mz + 0, zw Mz + 0) N67_ 78 [some (.ref 81)] [.int (Int32.ofInt 0)] (zpV [3, 4, 5, 6, 7, 8, 11, 12, 13, 14, 20, 25, 26, 38, 39, 41, 42, 43] [83, 85, 86, 87, 88, 89, 90, 91, 92, 93, 94, 95, 96, 97, 100, 101, 102] Mz (fun N => zRt b_ n_ N ∧ 0 ≤ ze N 81 13 ∧ ze N 81 13 ≤ 4 ∧ 0 ≤ ze N 81 14 ∧ ze N 81 14 ≤ 8 ∧ zB 83 24 0 5 N ∧ zB 85 144 0 5 N ∧ (((1 ≤ ze N 81 7 ∧ zTrB b_ n_ (ze Mz 81 4).toNat) ∨ (ze N 81 7 = 0 ∧ 1 ≤ ze N 81 12 ∧ ze N 81 12 ≤ 6 ∧ zPm N ∧ zFin N ∧ (∃ T : zGT, ∃ mv : List Nat, ∃ P : Nat, T ∈ gTabs ∧ zGB T N ∧ zTrP b_ n_ (ze Mz 81 4).toNat P mv T ∧ zMvs N = mv ∧ ze N 81 12 = (P : Int)))))))
                  refine zr_if_eq (pc := 78) (tgt := 88) ⟨(by decide), (by decide)⟩ (by decide) d_M_reads_78 (fun hc_78 => ?_) (fun hc_78 => ?_)
                  · skip
                    exact j_88 N67_ hb0_N67_ i69_ (show 0 ≤ ze N67_ 81 13 by first | assumption | omega) (show ze N67_ 81 13 ≤ 4 by first | assumption | omega) (show 0 ≤ ze N67_ 81 14 by first | assumption | omega) (show ze N67_ 81 14 ≤ 8 by first | assumption | omega) (show (1 ≤ ze N67_ 81 7 ∧ zTrB b_ n_ (ze Mz 81 4).toNat) ∨ (ze N67_ 81 7 = 0 ∧ 1 ≤ ze N67_ 81 12 ∧ ze N67_ 81 12 ≤ 6 ∧ zPm N67_ ∧ zFin N67_ ∧ (∃ T : zGT, ∃ mv : List Nat, ∃ P q q2 : Nat, ∃ nm : List (Int × (Nat → Int)), T ∈ gTabs ∧ zGB T N67_ ∧ zTm mv T ∧ zHd b_ n_ (ze Mz 81 4).toNat P q ∧ zRg (zbs b_ n_ P) (0, q, []) (1, q2, mv) ∧ zRg (zls b_ n_ (gF T).length (gmkI T)) (0, q2, []) (0, (ze N67_ 81 4).toNat, nm) ∧ zRNm nm (gF T).length (gmkI T) b_ n_ N67_ ∧ zMvs N67_ = mv ∧ ze N67_ 81 12 = (P : Int)) ∧ ¬ (zkd b_ n_ (ze N67_ 81 4).toNat = 1 ∧ zkey b_ n_ (ze N67_ 81 4).toNat = zkw 2)) from Or.inl (⟨(show 1 ≤ ze N67_ 81 7 by first | assumption | omega | exact hrt_ | exact hrt2_ | exact hmx_ | exact hPm_ | exact hFn_ | exact hLT2_ | exact hnk_), (show zTrB b_ n_ (ze Mz 81 4).toNat by first | assumption | omega | exact hrt_ | exact hrt2_ | exact hmx_ | exact hPm_ | exact hFn_ | exact hLT2_ | exact hnk_)⟩)) c76_ c79_
                  · skip
                    exact absurd hc_78 (by decide)
              · skip
                have hPm_ := hl71_3_i74_
                have hFn_ := hl71_4_i74_
                have hLT_ := hl71_5_i74_
                obtain ⟨T, mv_, P_, q_, q2_, nm_, hTt, hGB, hTm_, hHd_, hrb_, hrl_, hnm_, hmq_, hPq_⟩ := id hLT_
                have hB85_ : zB 85 144 0 5 N67_ := hGB.2.1
                have hRm_ := hGB.rm
                refine zw_aload_n (pc := 71) (n := 0) (x := 81) rfl d_M_reads_71 ?_
                refine zr_ldc2 (pc := 72) (n := 7103860) (by decide) k_M_179 d_M_reads_72 ?_
                refine zr_callV (hf_N67_.w hW) hf_N67_.x (pc := 75) [.long (Int64.ofInt 7103860)] [] l_M_312 (c_M_isWordF l N67_ (hf_N67_.w hW) 7103860 (by decide) (by decide) b_ n_ i69_) rfl rfl rfl (by decide) (Nat.le_of_ble_eq_true rfl) d_M_reads_75 ?_
                rintro _ N84_ ⟨v85_, rfl, ⟨hv85_a, hv85_b⟩, hsN84_, hp0_N84_⟩
                obtain rfl := hsN84_.eq.symm
                replace hp0_N84_ : ((v85_ = 1 ∧ ze N67_ 81 7 = 0 ∧ zkd b_ n_ (ze N67_ 81 4).toNat = 1 ∧ zke8 b_ n_ (ze N67_ 81 4).toNat = 7103860) ∨ (v85_ = 0 ∧ (ze N67_ 81 7 = 0 → ¬ (zkd b_ n_ (ze N67_ 81 4).toNat = 1 ∧ zke8 b_ n_ (ze N67_ 81 4).toNat = 7103860)))) := hp0_N84_
                rcases hp0_N84_ with ⟨rfl, ha75_0_hp0_N84_, ha75_1_hp0_N84_, ha75_2_hp0_N84_⟩ | ⟨rfl, ha75_0_hp0_N84_⟩
                · skip
                  have hk1_ := ha75_1_hp0_N84_
                  have hks_ := (zke8_w hk1_ (i := 2) (by decide)).mp ha75_2_hp0_N84_
                  show zW l m_M_reads (zn Mz + 0, zw Mz + 0) N67_ 78 [some (.ref 81)] [.int (Int32.ofInt 1)] (zpV [3, 4, 5, 6, 7, 8, 11, 12, 13, 14, 20, 25, 26, 38, 39, 41, 42, 43] [83, 85, 86, 87, 88, 89, 90, 91, 92, 93, 94, 95, 96, 97, 100, 101, 102] Mz (fun N => zRt b_ n_ N ∧ 0 ≤ ze N 81 13 ∧ ze N 81 13 ≤ 4 ∧ 0 ≤ ze N 81 14 ∧ ze N 81 14 ≤ 8 ∧ zB 83 24 0 5 N ∧ zB 85 144 0 5 N ∧ (((1 ≤ ze N 81 7 ∧ zTrB b_ n_ (ze Mz 81 4).toNat) ∨ (ze N 81 7 = 0 ∧ 1 ≤ ze N 81 12 ∧ ze N 81 12 ≤ 6 ∧ zPm N ∧ zFin N ∧ (∃ T : zGT, ∃ mv : List Nat, ∃ P : Nat, T ∈ gTabs ∧ zGB T N ∧ zTrP b_ n_ (ze Mz 81 4).toNat P mv T ∧ zMvs N = mv ∧ ze N 81 12 = (P : Int)))))))
                  refine zr_if_eq (pc := 78) (tgt := 88) ⟨(by decide), (by decide)⟩ (by decide) d_M_reads_78 (fun hc_78 => ?_) (fun hc_78 => ?_)
                  · skip
                    exact absurd hc_78 (by decide)
                  · skip
                    refine zw_aload_n (pc := 81) (n := 0) (x := 81) rfl d_M_reads_81 ?_
                    refine zr_callV (hf_N67_.w hW) hf_N67_.x (pc := 82) [] [] l_M_364 (c_M_letLineF l N67_ (hf_N67_.w hW) (gF T).length (gmkI T) (gT_zTA hTt) b_ n_ nm_ hRm_ c75_ i69_ hnm_ (show ze N67_ 81 7 = 0 by first | assumption | omega) (show zkd b_ n_ (ze N67_ 81 4).toNat = 1 by first | assumption | omega) (show zkey b_ n_ (ze N67_ 81 4).toNat = zkw 2 by first | assumption | omega)) rfl rfl rfl (by decide) (Nat.le_of_ble_eq_true rfl) d_M_reads_82 ?_
                    rintro _ N86_ ⟨rfl, hsN86_, ⟨hp0_N86_, hp1_N86_, hp2_N86_, hp3_N86_⟩⟩
                    have hf_N86_ : zFr [3, 4, 5, 6, 7, 8, 11, 12, 13, 14, 20, 25, 26, 38, 39, 41, 42, 43] [83, 85, 86, 87, 88, 89, 90, 91, 92, 93, 94, 95, 96, 97, 100, 101, 102] Mz N86_ := hf_N67_.tr hsN86_ (by decide) (by decide)
                    have hb0_N86_ : zFr [3, 4, 5, 6, 7, 8, 11, 12, 13, 14, 20, 25, 26, 38, 39, 41, 42, 43] [83, 85, 86, 87, 88, 89, 90, 91, 92, 93, 94, 95, 96, 97, 100, 101, 102] Mz N86_ := hb0_N67_.tr hsN86_ (by decide) (by decide)
                    have hb1_N86_ : zFr [3, 4, 5, 6, 7, 8, 11, 14, 38, 39, 41, 42, 43] [95, 96, 97, 100, 101, 102] N60_ N86_ := hs68_.tr hsN86_ (by decide) (by decide)
                    have r3_N86_ := ze_r N86_ 81 3
                    have r4_N86_ := ze_r N86_ 81 4
                    have r5_N86_ := ze_r N86_ 81 5
                    have r7_N86_ := ze_r N86_ 81 7
                    have e12_N86_ : ze N86_ 81 12 = ze N67_ 81 12 := hsN86_.e (by decide)
                    have e13_N86_ : ze N86_ 81 13 = ze N67_ 81 13 := hsN86_.e (by decide)
                    have r14_N86_ := ze_r N86_ 81 14
                    have c88_ : zRb b_ n_ N86_ := zRb.fr hsN86_ c75_ (by decide) (by decide)
                    have c89_ : zB 83 24 0 5 N86_ := zB.fr hsN86_ c76_ (by decide) (by decide)
                    have c90_ : zPm N86_ := zPm.fr hsN86_ hPm_ (by decide) (by decide)
                    have c91_ : zFin N86_ := zFin.fr hsN86_ hFn_ (by decide) (by decide)
                    have c92_ : zB 85 144 0 5 N86_ := zB.fr hsN86_ hB85_ (by decide) (by decide)
                    have c93_ : zGB T N86_ := zGB.fr hsN86_ hGB (by decide) (by decide)
                    have c94_ : zRmk (gF T).length (gmkI T) N86_ := zRmk.fr hsN86_ hRm_ (by decide) (by decide)
                    rcases hp3_N86_ with ⟨ha82_0_hp3_N86_, ha82_1_hp3_N86_⟩ | ⟨ha82_0_hp3_N86_, ha82_1_hp3_N86_, ha82_2_hp3_N86_⟩
                    · skip
                      have hrt_ : zTrB b_ n_ (ze Mz 81 4).toNat := Or.inr (Or.inr ⟨P_, q_, q2_, mv_, T, hHd_, hrb_, hTt, hTm_, hrl_.tr (zRg.st ha82_1_hp3_N86_)⟩)
                      show zW l m_M_reads (zn Mz + 0, zw Mz + 0) N86_ 85 [some (.ref 81)] [] (zpV [3, 4, 5, 6, 7, 8, 11, 12, 13, 14, 20, 25, 26, 38, 39, 41, 42, 43] [83, 85, 86, 87, 88, 89, 90, 91, 92, 93, 94, 95, 96, 97, 100, 101, 102] Mz (fun N => zRt b_ n_ N ∧ 0 ≤ ze N 81 13 ∧ ze N 81 13 ≤ 4 ∧ 0 ≤ ze N 81 14 ∧ ze N 81 14 ≤ 8 ∧ zB 83 24 0 5 N ∧ zB 85 144 0 5 N ∧ (((1 ≤ ze N 81 7 ∧ zTrB b_ n_ (ze Mz 81 4).toNat) ∨ (ze N 81 7 = 0 ∧ 1 ≤ ze N 81 12 ∧ ze N 81 12 ≤ 6 ∧ zPm N ∧ zFin N ∧ (∃ T : zGT, ∃ mv : List Nat, ∃ P : Nat, T ∈ gTabs ∧ zGB T N ∧ zTrP b_ n_ (ze Mz 81 4).toNat P mv T ∧ zMvs N = mv ∧ ze N 81 12 = (P : Int)))))))
                      refine zw_goto (pc := 85) (tgt := 71) (by decide) d_M_reads_85 ?_
                      exact ih_71 N86_ hb1_N86_ hp0_N86_ (show 0 ≤ ze N86_ 81 13 by first | assumption | omega) (show ze N86_ 81 13 ≤ 4 by first | assumption | omega) (show 0 ≤ ze N86_ 81 14 by first | assumption | omega) (show ze N86_ 81 14 ≤ 8 by first | assumption | omega) (show (1 ≤ ze N86_ 81 7 ∧ zTrB b_ n_ (ze Mz 81 4).toNat) ∨ (ze N86_ 81 7 = 0 ∧ 1 ≤ ze N86_ 81 12 ∧ ze N86_ 81 12 ≤ 6 ∧ zPm N86_ ∧ zFin N86_ ∧ (∃ T : zGT, ∃ mv : List Nat, ∃ P q q2 : Nat, ∃ nm : List (Int × (Nat → Int)), T ∈ gTabs ∧ zGB T N86_ ∧ zTm mv T ∧ zHd b_ n_ (ze Mz 81 4).toNat P q ∧ zRg (zbs b_ n_ P) (0, q, []) (1, q2, mv) ∧ zRg (zls b_ n_ (gF T).length (gmkI T)) (0, q2, []) (0, (ze N86_ 81 4).toNat, nm) ∧ zRNm nm (gF T).length (gmkI T) b_ n_ N86_ ∧ zMvs N86_ = mv ∧ ze N86_ 81 12 = (P : Int))) from Or.inl (⟨(show 1 ≤ ze N86_ 81 7 by first | assumption | omega | exact hrt_ | exact hmv2_ | exact hPm2_ | exact hFn2_ | exact hLT3_ | exact hPb_ | exact hFb_), (show zTrB b_ n_ (ze Mz 81 4).toNat by first | assumption | omega | exact hrt_ | exact hmv2_ | exact hPm2_ | exact hFn2_ | exact hLT3_ | exact hPb_ | exact hFb_)⟩)) (by have m1_ := zmF_c n_ N86_; have m2_ := zmF_c n_ N67_; have m3_ := hp0_N86_.x; omega)
                    · skip
                      obtain ⟨nm2_, hls_, hnm2_⟩ := id ha82_1_hp3_N86_
                      have hlt2_ := ha82_2_hp3_N86_
                      have hLT3_ : (∃ T : zGT, ∃ mv : List Nat, ∃ P q q2 : Nat, ∃ nm : List (Int × (Nat → Int)), T ∈ gTabs ∧ zGB T N86_ ∧ zTm mv T ∧ zHd b_ n_ (ze Mz 81 4).toNat P q ∧ zRg (zbs b_ n_ P) (0, q, []) (1, q2, mv) ∧ zRg (zls b_ n_ (gF T).length (gmkI T)) (0, q2, []) (0, (ze N86_ 81 4).toNat, nm) ∧ zRNm nm (gF T).length (gmkI T) b_ n_ N86_ ∧ zMvs N86_ = mv ∧ ze N86_ 81 12 = (P : Int)) := ⟨T, mv_, P_, q_, q2_, nm2_, hTt, c93_, hTm_, hHd_, hrb_, hrl_.tr (zRg.st hls_), hnm2_, (zMvs_f hsN86_ (by decide) (by decide)).trans hmq_, by omega⟩
                      have hln_ := hnm2_.1
                      have hPb_ : zPm N86_ := c90_
                      have hFb_ : zFin N86_ := c91_
                      show zW l m_M_reads (zn Mz + 0, zw Mz + 0) N86_ 85 [some (.ref 81)] [] (zpV [3, 4, 5, 6, 7, 8, 11, 12, 13, 14, 20, 25, 26, 38, 39, 41, 42, 43] [83, 85, 86, 87, 88, 89, 90, 91, 92, 93, 94, 95, 96, 97, 100, 101, 102] Mz (fun N => zRt b_ n_ N ∧ 0 ≤ ze N 81 13 ∧ ze N 81 13 ≤ 4 ∧ 0 ≤ ze N 81 14 ∧ ze N 81 14 ≤ 8 ∧ zB 83 24 0 5 N ∧ zB 85 144 0 5 N ∧ (((1 ≤ ze N 81 7 ∧ zTrB b_ n_ (ze Mz 81 4).toNat) ∨ (ze N 81 7 = 0 ∧ 1 ≤ ze N 81 12 ∧ ze N 81 12 ≤ 6 ∧ zPm N ∧ zFin N ∧ (∃ T : zGT, ∃ mv : List Nat, ∃ P : Nat, T ∈ gTabs ∧ zGB T N ∧ zTrP b_ n_ (ze Mz 81 4).toNat P mv T ∧ zMvs N = mv ∧ ze N 81 12 = (P : Int)))))))
                      refine zw_goto (pc := 85) (tgt := 71) (by decide) d_M_reads_85 ?_
                      exact ih_71 N86_ hb1_N86_ hp0_N86_ (show 0 ≤ ze N86_ 81 13 by first | assumption | omega) (show ze N86_ 81 13 ≤ 4 by first | assumption | omega) (show 0 ≤ ze N86_ 81 14 by first | assumption | omega) (show ze N86_ 81 14 ≤ 8 by first | assumption | omega) (show (1 ≤ ze N86_ 81 7 ∧ zTrB b_ n_ (ze Mz 81 4).toNat) ∨ (ze N86_ 81 7 = 0 ∧ 1 ≤ ze N86_ 81 12 ∧ ze N86_ 81 12 ≤ 6 ∧ zPm N86_ ∧ zFin N86_ ∧ (∃ T : zGT, ∃ mv : List Nat, ∃ P q q2 : Nat, ∃ nm : List (Int × (Nat → Int)), T ∈ gTabs ∧ zGB T N86_ ∧ zTm mv T ∧ zHd b_ n_ (ze Mz 81 4).toNat P q ∧ zRg (zbs b_ n_ P) (0, q, []) (1, q2, mv) ∧ zRg (zls b_ n_ (gF T).length (gmkI T)) (0, q2, []) (0, (ze N86_ 81 4).toNat, nm) ∧ zRNm nm (gF T).length (gmkI T) b_ n_ N86_ ∧ zMvs N86_ = mv ∧ ze N86_ 81 12 = (P : Int))) from Or.inr (⟨(show ze N86_ 81 7 = 0 by first | assumption | omega | exact hrt_ | exact hmv2_ | exact hPm2_ | exact hFn2_ | exact hLT3_ | exact hPb_ | exact hFb_), (show 1 ≤ ze N86_ 81 12 by first | assumption | omega | exact hrt_ | exact hmv2_ | exact hPm2_ | exact hFn2_ | exact hLT3_ | exact hPb_ | exact hFb_), (show ze N86_ 81 12 ≤ 6 by first | assumption | omega | exact hrt_ | exact hmv2_ | exact hPm2_ | exact hFn2_ | exact hLT3_ | exact hPb_ | exact hFb_), (show zPm N86_ by first | assumption | omega | exact hrt_ | exact hmv2_ | exact hPm2_ | exact hFn2_ | exact hLT3_ | exact hPb_ | exact hFb_), (show zFin N86_ by first | assumption | omega | exact hrt_ | exact hmv2_ | exact hPm2_ | exact hFn2_ | exact hLT3_ | exact hPb_ | exact hFb_), (show (∃ T : zGT, ∃ mv : List Nat, ∃ P q q2 : Nat, ∃ nm : List (Int × (Nat → Int)), T ∈ gTabs ∧ zGB T N86_ ∧ zTm mv T ∧ zHd b_ n_ (ze Mz 81 4).toNat P q ∧ zRg (zbs b_ n_ P) (0, q, []) (1, q2, mv) ∧ zRg (zls b_ n_ (gF T).length (gmkI T)) (0, q2, []) (0, (ze N86_ 81 4).toNat, nm) ∧ zRNm nm (gF T).length (gmkI T) b_ n_ N86_ ∧ zMvs N86_ = mv ∧ ze N86_ 81 12 = (P : Int)) by first | assumption | omega | exact hrt_ | exact hmv2_ | exact hPm2_ | exact hFn2_ | exact hLT3_ | exact hPb_ | exact hFb_)⟩)) (by have m1_ := zmF_c n_ N86_; have m2_ := zmF_c n_ N67_; have m3_ := hp0_N86_.x; omega)
                · skip
                  have hnk_ : ¬ (zkd b_ n_ (ze N67_ 81 4).toNat = 1 ∧ zkey b_ n_ (ze N67_ 81 4).toNat = zkw 2) := fun q_ => ha75_0_hp0_N84_ (by omega) ⟨q_.1, (zke8_w q_.1 (i := 2) (by decide)).mpr q_.2⟩
                  have hLT2_ := hLT_
                  show zW l m_M_reads (zn Mz + 0, zw Mz + 0) N67_ 78 [some (.ref 81)] [.int (Int32.ofInt 0)] (zpV [3, 4, 5, 6, 7, 8, 11, 12, 13, 14, 20, 25, 26, 38, 39, 41, 42, 43] [83, 85, 86, 87, 88, 89, 90, 91, 92, 93, 94, 95, 96, 97, 100, 101, 102] Mz (fun N => zRt b_ n_ N ∧ 0 ≤ ze N 81 13 ∧ ze N 81 13 ≤ 4 ∧ 0 ≤ ze N 81 14 ∧ ze N 81 14 ≤ 8 ∧ zB 83 24 0 5 N ∧ zB 85 144 0 5 N ∧ (((1 ≤ ze N 81 7 ∧ zTrB b_ n_ (ze Mz 81 4).toNat) ∨ (ze N 81 7 = 0 ∧ 1 ≤ ze N 81 12 ∧ ze N 81 12 ≤ 6 ∧ zPm N ∧ zFin N ∧ (∃ T : zGT, ∃ mv : List Nat, ∃ P : Nat, T ∈ gTabs ∧ zGB T N ∧ zTrP b_ n_ (ze Mz 81 4).toNat P mv T ∧ zMvs N = mv ∧ ze N 81 12 = (P : Int)))))))
                  refine zr_if_eq (pc := 78) (tgt := 88) ⟨(by decide), (by decide)⟩ (by decide) d_M_reads_78 (fun hc_78 => ?_) (fun hc_78 => ?_)
                  · skip
                    exact j_88 N67_ hb0_N67_ i69_ (show 0 ≤ ze N67_ 81 13 by first | assumption | omega) (show ze N67_ 81 13 ≤ 4 by first | assumption | omega) (show 0 ≤ ze N67_ 81 14 by first | assumption | omega) (show ze N67_ 81 14 ≤ 8 by first | assumption | omega) (show (1 ≤ ze N67_ 81 7 ∧ zTrB b_ n_ (ze Mz 81 4).toNat) ∨ (ze N67_ 81 7 = 0 ∧ 1 ≤ ze N67_ 81 12 ∧ ze N67_ 81 12 ≤ 6 ∧ zPm N67_ ∧ zFin N67_ ∧ (∃ T : zGT, ∃ mv : List Nat, ∃ P q q2 : Nat, ∃ nm : List (Int × (Nat → Int)), T ∈ gTabs ∧ zGB T N67_ ∧ zTm mv T ∧ zHd b_ n_ (ze Mz 81 4).toNat P q ∧ zRg (zbs b_ n_ P) (0, q, []) (1, q2, mv) ∧ zRg (zls b_ n_ (gF T).length (gmkI T)) (0, q2, []) (0, (ze N67_ 81 4).toNat, nm) ∧ zRNm nm (gF T).length (gmkI T) b_ n_ N67_ ∧ zMvs N67_ = mv ∧ ze N67_ 81 12 = (P : Int)) ∧ ¬ (zkd b_ n_ (ze N67_ 81 4).toNat = 1 ∧ zkey b_ n_ (ze N67_ 81 4).toNat = zkw 2)) from Or.inr (⟨(show ze N67_ 81 7 = 0 by first | assumption | omega | exact hrt_ | exact hrt2_ | exact hmx_ | exact hPm_ | exact hFn_ | exact hLT2_ | exact hnk_), (show 1 ≤ ze N67_ 81 12 by first | assumption | omega | exact hrt_ | exact hrt2_ | exact hmx_ | exact hPm_ | exact hFn_ | exact hLT2_ | exact hnk_), (show ze N67_ 81 12 ≤ 6 by first | assumption | omega | exact hrt_ | exact hrt2_ | exact hmx_ | exact hPm_ | exact hFn_ | exact hLT2_ | exact hnk_), (show zPm N67_ by first | assumption | omega | exact hrt_ | exact hrt2_ | exact hmx_ | exact hPm_ | exact hFn_ | exact hLT2_ | exact hnk_), (show zFin N67_ by first | assumption | omega | exact hrt_ | exact hrt2_ | exact hmx_ | exact hPm_ | exact hFn_ | exact hLT2_ | exact hnk_), (show (∃ T : zGT, ∃ mv : List Nat, ∃ P q q2 : Nat, ∃ nm : List (Int × (Nat → Int)), T ∈ gTabs ∧ zGB T N67_ ∧ zTm mv T ∧ zHd b_ n_ (ze Mz 81 4).toNat P q ∧ zRg (zbs b_ n_ P) (0, q, []) (1, q2, mv) ∧ zRg (zls b_ n_ (gF T).length (gmkI T)) (0, q2, []) (0, (ze N67_ 81 4).toNat, nm) ∧ zRNm nm (gF T).length (gmkI T) b_ n_ N67_ ∧ zMvs N67_ = mv ∧ ze N67_ 81 12 = (P : Int)) by first | assumption | omega | exact hrt_ | exact hrt2_ | exact hmx_ | exact hPm_ | exact hFn_ | exact hLT2_ | exact hnk_), (show ¬ (zkd b_ n_ (ze N67_ 81 4).toNat = 1 ∧ zkey b_ n_ (ze N67_ 81 4).toNat = zkw 2) by first | assumption | omega | exact hrt_ | exact hrt2_ | exact hmx_ | exact hPm_ | exact hFn_ | exact hLT2_ | exact hnk_)⟩)) c76_ hB85_
                  · skip
                    exact absurd hc_78 (by decide)
          exact lp_71 _ N60_ zFr.rf c63_ (show 0 ≤ ze N60_ 81 13 by first | assumption | omega) (show ze N60_ 81 13 ≤ 4 by first | assumption | omega) (show 0 ≤ ze N60_ 81 14 by first | assumption | omega) (show ze N60_ 81 14 ≤ 8 by first | assumption | omega) (show (1 ≤ ze N60_ 81 7 ∧ zTrB b_ n_ (ze Mz 81 4).toNat) ∨ (ze N60_ 81 7 = 0 ∧ 1 ≤ ze N60_ 81 12 ∧ ze N60_ 81 12 ≤ 6 ∧ zPm N60_ ∧ zFin N60_ ∧ (∃ T : zGT, ∃ mv : List Nat, ∃ P q q2 : Nat, ∃ nm : List (Int × (Nat → Int)), T ∈ gTabs ∧ zGB T N60_ ∧ zTm mv T ∧ zHd b_ n_ (ze Mz 81 4).toNat P q ∧ zRg (zbs b_ n_ P) (0, q, []) (1, q2, mv) ∧ zRg (zls b_ n_ (gF T).length (gmkI T)) (0, q2, []) (0, (ze N60_ 81 4).toNat, nm) ∧ zRNm nm (gF T).length (gmkI T) b_ n_ N60_ ∧ zMvs N60_ = mv ∧ ze N60_ 81 12 = (P : Int))) from Or.inr (⟨(show ze N60_ 81 7 = 0 by first | assumption | omega | exact hrt_ | exact hrt2_ | exact hmv0_ | exact hP0_ | exact hF0_ | exact hLT0_ | exact hPb_ | exact hFb_), (show 1 ≤ ze N60_ 81 12 by first | assumption | omega | exact hrt_ | exact hrt2_ | exact hmv0_ | exact hP0_ | exact hF0_ | exact hLT0_ | exact hPb_ | exact hFb_), (show ze N60_ 81 12 ≤ 6 by first | assumption | omega | exact hrt_ | exact hrt2_ | exact hmv0_ | exact hP0_ | exact hF0_ | exact hLT0_ | exact hPb_ | exact hFb_), (show zPm N60_ by first | assumption | omega | exact hrt_ | exact hrt2_ | exact hmv0_ | exact hP0_ | exact hF0_ | exact hLT0_ | exact hPb_ | exact hFb_), (show zFin N60_ by first | assumption | omega | exact hrt_ | exact hrt2_ | exact hmv0_ | exact hP0_ | exact hF0_ | exact hLT0_ | exact hPb_ | exact hFb_), (show (∃ T : zGT, ∃ mv : List Nat, ∃ P q q2 : Nat, ∃ nm : List (Int × (Nat → Int)), T ∈ gTabs ∧ zGB T N60_ ∧ zTm mv T ∧ zHd b_ n_ (ze Mz 81 4).toNat P q ∧ zRg (zbs b_ n_ P) (0, q, []) (1, q2, mv) ∧ zRg (zls b_ n_ (gF T).length (gmkI T)) (0, q2, []) (0, (ze N60_ 81 4).toNat, nm) ∧ zRNm nm (gF T).length (gmkI T) b_ n_ N60_ ∧ zMvs N60_ = mv ∧ ze N60_ 81 12 = (P : Int)) by first | assumption | omega | exact hrt_ | exact hrt2_ | exact hmv0_ | exact hP0_ | exact hF0_ | exact hLT0_ | exact hPb_ | exact hFb_)⟩)) (Nat.lt_succ_self _)
      · skip
        exfalso; omega
  have j_37 : ∀ (N95_ : zMem) (hs96_ : zFr [3, 4, 5, 6, 7, 8, 11, 12] [] Mz N95_) (i97_ : zRt b_ n_ N95_) (i98_ : ze N95_ 81 13 = 0) (i99_ : ze N95_ 81 14 = 0) (i100_ : (1 ≤ ze N95_ 81 7 ∧ zTrB b_ n_ (ze Mz 81 4).toNat) ∨ (ze N95_ 81 7 = 0 ∧ zkd b_ n_ (ze Mz 81 4).toNat = 1 ∧ zkey b_ n_ (ze Mz 81 4).toNat = zkw 0 ∧ zkd b_ n_ (znx b_ n_ (ze Mz 81 4).toNat) = 2 ∧ znu b_ n_ (znx b_ n_ (ze Mz 81 4).toNat) = ze N95_ 81 12 ∧ 1 ≤ ze N95_ 81 12 ∧ ze N95_ 81 12 ≤ 6 ∧ (ze N95_ 81 4).toNat = znx b_ n_ (znx b_ n_ (ze Mz 81 4).toNat))), zW l m_M_reads (zn Mz + 0, zw Mz + 0) N95_ 37 [some (.ref 81)] [] (zpV [3, 4, 5, 6, 7, 8, 11, 12, 13, 14, 20, 25, 26, 38, 39, 41, 42, 43] [83, 85, 86, 87, 88, 89, 90, 91, 92, 93, 94, 95, 96, 97, 100, 101, 102] Mz (fun N => zRt b_ n_ N ∧ 0 ≤ ze N 81 13 ∧ ze N 81 13 ≤ 4 ∧ 0 ≤ ze N 81 14 ∧ ze N 81 14 ≤ 8 ∧ zB 83 24 0 5 N ∧ zB 85 144 0 5 N ∧ (((1 ≤ ze N 81 7 ∧ zTrB b_ n_ (ze Mz 81 4).toNat) ∨ (ze N 81 7 = 0 ∧ 1 ≤ ze N 81 12 ∧ ze N 81 12 ≤ 6 ∧ zPm N ∧ zFin N ∧ (∃ T : zGT, ∃ mv : List Nat, ∃ P : Nat, T ∈ gTabs ∧ zGB T N ∧ zTrP b_ n_ (ze Mz 81 4).toNat P mv T ∧ zMvs N = mv ∧ ze N 81 12 = (P : Int))))))) := by
    intro N95_ hs96_ i97_ i98_ i99_ i100_
    have hf_N95_ : zFr [3, 4, 5, 6, 7, 8, 11, 12, 13, 14, 20, 25, 26, 38, 39, 41, 42, 43] [83, 85, 86, 87, 88, 89, 90, 91, 92, 93, 94, 95, 96, 97, 100, 101, 102] Mz N95_ := hf.tr hs96_ (by decide) (by decide)
    have hb0_N95_ : zFr [3, 4, 5, 6, 7, 8, 11, 12, 13, 14, 20, 25, 26, 38, 39, 41, 42, 43] [83, 85, 86, 87, 88, 89, 90, 91, 92, 93, 94, 95, 96, 97, 100, 101, 102] Mz N95_ := zFr.rf.tr hs96_ (by decide) (by decide)
    have hb1_N95_ : zFr [3, 4, 5, 6, 7, 8, 11, 12, 13, 20] [83, 85, 86, 87, 88] Mz N95_ := zFr.rf.tr hs96_ (by decide) (by decide)
    have r3_N95_ := ze_r N95_ 81 3
    have r4_N95_ := ze_r N95_ 81 4
    have r5_N95_ := ze_r N95_ 81 5
    have r7_N95_ := ze_r N95_ 81 7
    have r12_N95_ := ze_r N95_ 81 12
    have e13_N95_ : ze N95_ 81 13 = ze Mz 81 13 := hs96_.e (by decide)
    have e14_N95_ : ze N95_ 81 14 = ze Mz 81 14 := hs96_.e (by decide)
    have c101_ : zRb b_ n_ N95_ := zRb.fr hs96_ p0_ (by decide) (by decide)
    have c102_ : zB 83 24 0 5 N95_ := zB.fr hs96_ p5_ (by decide) (by decide)
    have c103_ : zB 85 144 0 5 N95_ := zB.fr hs96_ p6_ (by decide) (by decide)
    rcases i100_ with ⟨hl37_0_i100_, hl37_1_i100_⟩ | ⟨hl37_0_i100_, hl37_1_i100_, hl37_2_i100_, hl37_3_i100_, hl37_4_i100_, hl37_5_i100_, hl37_6_i100_, hl37_7_i100_⟩
    · skip
      refine zw_aload_n (pc := 37) (n := 0) (x := 81) rfl d_M_reads_37 ?_
      refine zw_bipush (pc := 38) (v := Int32.ofInt 59) (by decide) d_M_reads_38 ?_
      refine zr_callV (hf_N95_.w hW) hf_N95_.x (pc := 40) [.int (Int32.ofInt 59)] [] l_M_355 (c_M_mustF l N95_ (hf_N95_.w hW) 59 (by decide) (by decide) b_ n_ c101_ i97_ (show 0 ≤ ze N95_ 81 7 by first | assumption | omega)) rfl rfl rfl (by decide) (Nat.le_of_ble_eq_true rfl) d_M_reads_40 ?_
      rintro _ N104_ ⟨rfl, hsN104_, ⟨hp0_N104_, hp1_N104_⟩⟩
      have hf_N104_ : zFr [3, 4, 5, 6, 7, 8, 11, 12, 13, 14, 20, 25, 26, 38, 39, 41, 42, 43] [83, 85, 86, 87, 88, 89, 90, 91, 92, 93, 94, 95, 96, 97, 100, 101, 102] Mz N104_ := hf_N95_.tr hsN104_ (by decide) (by decide)
      have hb0_N104_ : zFr [3, 4, 5, 6, 7, 8, 11, 12, 13, 14, 20, 25, 26, 38, 39, 41, 42, 43] [83, 85, 86, 87, 88, 89, 90, 91, 92, 93, 94, 95, 96, 97, 100, 101, 102] Mz N104_ := hb0_N95_.tr hsN104_ (by decide) (by decide)
      have hb1_N104_ : zFr [3, 4, 5, 6, 7, 8, 11, 12, 13, 20] [83, 85, 86, 87, 88] Mz N104_ := hb1_N95_.tr hsN104_ (by decide) (by decide)
      have r3_N104_ := ze_r N104_ 81 3
      have r4_N104_ := ze_r N104_ 81 4
      have r5_N104_ := ze_r N104_ 81 5
      have r7_N104_ := ze_r N104_ 81 7
      have e12_N104_ : ze N104_ 81 12 = ze N95_ 81 12 := hsN104_.e (by decide)
      have e13_N104_ : ze N104_ 81 13 = ze N95_ 81 13 := hsN104_.e (by decide)
      have e14_N104_ : ze N104_ 81 14 = ze N95_ 81 14 := hsN104_.e (by decide)
      have c106_ : zRb b_ n_ N104_ := zRb.fr hsN104_ c101_ (by decide) (by decide)
      have c107_ : zB 83 24 0 5 N104_ := zB.fr hsN104_ c102_ (by decide) (by decide)
      have c108_ : zB 85 144 0 5 N104_ := zB.fr hsN104_ c103_ (by decide) (by decide)
      rcases hp1_N104_ with ⟨ha40_0_hp1_N104_, ha40_1_hp1_N104_⟩ | ⟨ha40_0_hp1_N104_, ha40_1_hp1_N104_, ha40_2_hp1_N104_, ha40_3_hp1_N104_⟩
      · skip
        have hrt_ : zTrB b_ n_ (ze Mz 81 4).toNat := by first | assumption | exact Or.inl (fun ⟨P_, q_, h_⟩ => ha40_1_hp1_N104_ (by omega) (by rw [hx2_]; exact h_.2.2.1))
        show zW l m_M_reads (zn Mz + 0, zw Mz + 0) N104_ 43 [some (.ref 81)] [] (zpV [3, 4, 5, 6, 7, 8, 11, 12, 13, 14, 20, 25, 26, 38, 39, 41, 42, 43] [83, 85, 86, 87, 88, 89, 90, 91, 92, 93, 94, 95, 96, 97, 100, 101, 102] Mz (fun N => zRt b_ n_ N ∧ 0 ≤ ze N 81 13 ∧ ze N 81 13 ≤ 4 ∧ 0 ≤ ze N 81 14 ∧ ze N 81 14 ≤ 8 ∧ zB 83 24 0 5 N ∧ zB 85 144 0 5 N ∧ (((1 ≤ ze N 81 7 ∧ zTrB b_ n_ (ze Mz 81 4).toNat) ∨ (ze N 81 7 = 0 ∧ 1 ≤ ze N 81 12 ∧ ze N 81 12 ≤ 6 ∧ zPm N ∧ zFin N ∧ (∃ T : zGT, ∃ mv : List Nat, ∃ P : Nat, T ∈ gTabs ∧ zGB T N ∧ zTrP b_ n_ (ze Mz 81 4).toNat P mv T ∧ zMvs N = mv ∧ ze N 81 12 = (P : Int)))))))
        have lp_43 : ∀ (n : Nat) (N109_ : zMem) (hs110_ : zFr [3, 4, 5, 6, 7, 8, 11, 13, 20] [83, 85, 86, 87, 88] N104_ N109_) (i111_ : zRt b_ n_ N109_) (i112_ : 0 ≤ ze N109_ 81 13) (i113_ : ze N109_ 81 13 ≤ 4) (i114_ : ze N109_ 81 14 = 0) (i115_ : (1 ≤ ze N109_ 81 7 ∧ zTrB b_ n_ (ze Mz 81 4).toNat) ∨ (ze N109_ 81 7 = 0 ∧ 1 ≤ ze N109_ 81 12 ∧ ze N109_ 81 12 ≤ 6 ∧ zPm N109_ ∧ zFin N109_ ∧ (∃ q : Nat, zHd b_ n_ (ze Mz 81 4).toNat (ze N109_ 81 12).toNat q ∧ zRg (zbs b_ n_ (ze N109_ 81 12).toNat) (0, q, []) (0, (ze N109_ 81 4).toNat, zMvs N109_)))) (i116_ : zB 83 24 0 5 N109_) (i117_ : zB 85 144 0 5 N109_), zmF n_ N109_ < n → zW l m_M_reads (zn Mz + 0, zw Mz + 0) N109_ 43 [some (.ref 81)] [] (zpV [3, 4, 5, 6, 7, 8, 11, 12, 13, 14, 20, 25, 26, 38, 39, 41, 42, 43] [83, 85, 86, 87, 88, 89, 90, 91, 92, 93, 94, 95, 96, 97, 100, 101, 102] Mz (fun N => zRt b_ n_ N ∧ 0 ≤ ze N 81 13 ∧ ze N 81 13 ≤ 4 ∧ 0 ≤ ze N 81 14 ∧ ze N 81 14 ≤ 8 ∧ zB 83 24 0 5 N ∧ zB 85 144 0 5 N ∧ (((1 ≤ ze N 81 7 ∧ zTrB b_ n_ (ze Mz 81 4).toNat) ∨ (ze N 81 7 = 0 ∧ 1 ≤ ze N 81 12 ∧ ze N 81 12 ≤ 6 ∧ zPm N ∧ zFin N ∧ (∃ T : zGT, ∃ mv : List Nat, ∃ P : Nat, T ∈ gTabs ∧ zGB T N ∧ zTrP b_ n_ (ze Mz 81 4).toNat P mv T ∧ zMvs N = mv ∧ ze N 81 12 = (P : Int))))))) := by
          clear hs96_ i97_ i98_ i99_ hf_N95_ hb0_N95_ hb1_N95_ r3_N95_ r4_N95_ r5_N95_ r7_N95_ r12_N95_ e13_N95_ e14_N95_ c101_ c102_ c103_ hl37_0_i100_ hsN104_ e12_N104_ e13_N104_ e14_N104_ ha40_1_hp1_N104_
          intro n
          induction n with
          | zero =>
            intro N109_ hs110_ i111_ i112_ i113_ i114_ i115_ i116_ i117_ h0
            exact absurd h0 (Nat.not_lt_zero _)
          | succ n ih_43 =>
            intro N109_ hs110_ i111_ i112_ i113_ i114_ i115_ i116_ i117_ hlt_43
            have hf_N109_ : zFr [3, 4, 5, 6, 7, 8, 11, 12, 13, 14, 20, 25, 26, 38, 39, 41, 42, 43] [83, 85, 86, 87, 88, 89, 90, 91, 92, 93, 94, 95, 96, 97, 100, 101, 102] Mz N109_ := hf_N104_.tr hs110_ (by decide) (by decide)
            have hb0_N109_ : zFr [3, 4, 5, 6, 7, 8, 11, 12, 13, 14, 20, 25, 26, 38, 39, 41, 42, 43] [83, 85, 86, 87, 88, 89, 90, 91, 92, 93, 94, 95, 96, 97, 100, 101, 102] Mz N109_ := hb0_N104_.tr hs110_ (by decide) (by decide)
            have hb1_N109_ : zFr [3, 4, 5, 6, 7, 8, 11, 12, 13, 20] [83, 85, 86, 87, 88] Mz N109_ := hb1_N104_.tr hs110_ (by decide) (by decide)
            have r3_N109_ := ze_r N109_ 81 3
            have r4_N109_ := ze_r N109_ 81 4
            have r5_N109_ := ze_r N109_ 81 5
            have r7_N109_ := ze_r N109_ 81 7
            have e12_N109_ : ze N109_ 81 12 = ze N104_ 81 12 := hs110_.e (by decide)
            have r13_N109_ := ze_r N109_ 81 13
            have e14_N109_ : ze N109_ 81 14 = ze N104_ 81 14 := hs110_.e (by decide)
            have c118_ : zRb b_ n_ N109_ := zRb.fr hs110_ c106_ (by decide) (by decide)
            rcases i115_ with ⟨hl43_0_i115_, hl43_1_i115_⟩ | ⟨hl43_0_i115_, hl43_1_i115_, hl43_2_i115_, hl43_3_i115_, hl43_4_i115_, hl43_5_i115_⟩
            · skip
              refine zw_aload_n (pc := 43) (n := 0) (x := 81) rfl d_M_reads_43 ?_
              refine zr_ldc2 (pc := 44) (n := 1836021349) (by decide) k_M_177 d_M_reads_44 ?_
              refine zr_callV (hf_N109_.w hW) hf_N109_.x (pc := 47) [.long (Int64.ofInt 1836021349)] [] l_M_312 (c_M_isWordF l N109_ (hf_N109_.w hW) 1836021349 (by decide) (by decide) b_ n_ i111_) rfl rfl rfl (by decide) (Nat.le_of_ble_eq_true rfl) d_M_reads_47 ?_
              rintro _ N119_ ⟨v120_, rfl, ⟨hv120_a, hv120_b⟩, hsN119_, hp0_N119_⟩
              obtain rfl := hsN119_.eq.symm
              replace hp0_N119_ : ((v120_ = 1 ∧ ze N109_ 81 7 = 0 ∧ zkd b_ n_ (ze N109_ 81 4).toNat = 1 ∧ zke8 b_ n_ (ze N109_ 81 4).toNat = 1836021349) ∨ (v120_ = 0 ∧ (ze N109_ 81 7 = 0 → ¬ (zkd b_ n_ (ze N109_ 81 4).toNat = 1 ∧ zke8 b_ n_ (ze N109_ 81 4).toNat = 1836021349)))) := hp0_N119_
              rcases hp0_N119_ with ⟨rfl, ha47_0_hp0_N119_, ha47_1_hp0_N119_, ha47_2_hp0_N119_⟩ | ⟨rfl, ha47_0_hp0_N119_⟩
              · skip
                exfalso; omega
              · skip
                show zW l m_M_reads (zn Mz + 0, zw Mz + 0) N109_ 50 [some (.ref 81)] [.int (Int32.ofInt 0)] (zpV [3, 4, 5, 6, 7, 8, 11, 12, 13, 14, 20, 25, 26, 38, 39, 41, 42, 43] [83, 85, 86, 87, 88, 89, 90, 91, 92, 93, 94, 95, 96, 97, 100, 101, 102] Mz (fun N => zRt b_ n_ N ∧ 0 ≤ ze N 81 13 ∧ ze N 81 13 ≤ 4 ∧ 0 ≤ ze N 81 14 ∧ ze N 81 14 ≤ 8 ∧ zB 83 24 0 5 N ∧ zB 85 144 0 5 N ∧ (((1 ≤ ze N 81 7 ∧ zTrB b_ n_ (ze Mz 81 4).toNat) ∨ (ze N 81 7 = 0 ∧ 1 ≤ ze N 81 12 ∧ ze N 81 12 ≤ 6 ∧ zPm N ∧ zFin N ∧ (∃ T : zGT, ∃ mv : List Nat, ∃ P : Nat, T ∈ gTabs ∧ zGB T N ∧ zTrP b_ n_ (ze Mz 81 4).toNat P mv T ∧ zMvs N = mv ∧ ze N 81 12 = (P : Int)))))))
                refine zr_if_eq (pc := 50) (tgt := 60) ⟨(by decide), (by decide)⟩ (by decide) d_M_reads_50 (fun hc_50 => ?_) (fun hc_50 => ?_)
                · skip
                  exact j_60 N109_ hb1_N109_ i111_ (show 0 ≤ ze N109_ 81 13 by first | assumption | omega) (show ze N109_ 81 13 ≤ 4 by first | assumption | omega) (show ze N109_ 81 14 = 0 by first | assumption | omega) (show (1 ≤ ze N109_ 81 7 ∧ zTrB b_ n_ (ze Mz 81 4).toNat) ∨ (ze N109_ 81 7 = 0 ∧ 1 ≤ ze N109_ 81 12 ∧ ze N109_ 81 12 ≤ 6 ∧ zPm N109_ ∧ zFin N109_ ∧ (∃ q : Nat, zHd b_ n_ (ze Mz 81 4).toNat (ze N109_ 81 12).toNat q ∧ zRg (zbs b_ n_ (ze N109_ 81 12).toNat) (0, q, []) (1, (ze N109_ 81 4).toNat, zMvs N109_))) from Or.inl (⟨(show 1 ≤ ze N109_ 81 7 by first | assumption | omega | exact hrt_ | exact hrt2_ | exact hmx_ | exact hPm_ | exact hFn_ | exact hLT2_ | exact hnk_), (show zTrB b_ n_ (ze Mz 81 4).toNat by first | assumption | omega | exact hrt_ | exact hrt2_ | exact hmx_ | exact hPm_ | exact hFn_ | exact hLT2_ | exact hnk_)⟩)) i116_ i117_
                · skip
                  exact absurd hc_50 (by decide)
            · skip
              have hPm_ := hl43_3_i115_
              have hFn_ := hl43_4_i115_
              have hmv_ := hl43_5_i115_
              refine zw_aload_n (pc := 43) (n := 0) (x := 81) rfl d_M_reads_43 ?_
              refine zr_ldc2 (pc := 44) (n := 1836021349) (by decide) k_M_177 d_M_reads_44 ?_
              refine zr_callV (hf_N109_.w hW) hf_N109_.x (pc := 47) [.long (Int64.ofInt 1836021349)] [] l_M_312 (c_M_isWordF l N109_ (hf_N109_.w hW) 1836021349 (by decide) (by decide) b_ n_ i111_) rfl rfl rfl (by decide) (Nat.le_of_ble_eq_true rfl) d_M_reads_47 ?_
              rintro _ N121_ ⟨v122_, rfl, ⟨hv122_a, hv122_b⟩, hsN121_, hp0_N121_⟩
              obtain rfl := hsN121_.eq.symm
              replace hp0_N121_ : ((v122_ = 1 ∧ ze N109_ 81 7 = 0 ∧ zkd b_ n_ (ze N109_ 81 4).toNat = 1 ∧ zke8 b_ n_ (ze N109_ 81 4).toNat = 1836021349) ∨ (v122_ = 0 ∧ (ze N109_ 81 7 = 0 → ¬ (zkd b_ n_ (ze N109_ 81 4).toNat = 1 ∧ zke8 b_ n_ (ze N109_ 81 4).toNat = 1836021349)))) := hp0_N121_
              rcases hp0_N121_ with ⟨rfl, ha47_0_hp0_N121_, ha47_1_hp0_N121_, ha47_2_hp0_N121_⟩ | ⟨rfl, ha47_0_hp0_N121_⟩
              · skip
                have hk1_ := ha47_1_hp0_N121_
                have hks_ := (zke8_w hk1_ (i := 1) (by decide)).mp ha47_2_hp0_N121_
                show zW l m_M_reads (zn Mz + 0, zw Mz + 0) N109_ 50 [some (.ref 81)] [.int (Int32.ofInt 1)] (zpV [3, 4, 5, 6, 7, 8, 11, 12, 13, 14, 20, 25, 26, 38, 39, 41, 42, 43] [83, 85, 86, 87, 88, 89, 90, 91, 92, 93, 94, 95, 96, 97, 100, 101, 102] Mz (fun N => zRt b_ n_ N ∧ 0 ≤ ze N 81 13 ∧ ze N 81 13 ≤ 4 ∧ 0 ≤ ze N 81 14 ∧ ze N 81 14 ≤ 8 ∧ zB 83 24 0 5 N ∧ zB 85 144 0 5 N ∧ (((1 ≤ ze N 81 7 ∧ zTrB b_ n_ (ze Mz 81 4).toNat) ∨ (ze N 81 7 = 0 ∧ 1 ≤ ze N 81 12 ∧ ze N 81 12 ≤ 6 ∧ zPm N ∧ zFin N ∧ (∃ T : zGT, ∃ mv : List Nat, ∃ P : Nat, T ∈ gTabs ∧ zGB T N ∧ zTrP b_ n_ (ze Mz 81 4).toNat P mv T ∧ zMvs N = mv ∧ ze N 81 12 = (P : Int)))))))
                refine zr_if_eq (pc := 50) (tgt := 60) ⟨(by decide), (by decide)⟩ (by decide) d_M_reads_50 (fun hc_50 => ?_) (fun hc_50 => ?_)
                · skip
                  exact absurd hc_50 (by decide)
                · skip
                  refine zw_aload_n (pc := 53) (n := 0) (x := 81) rfl d_M_reads_53 ?_
                  refine zr_callV (hf_N109_.w hW) hf_N109_.x (pc := 54) [] [] l_M_361 (c_M_moveLineF l N109_ (hf_N109_.w hW) b_ n_ c118_ i111_ (show ze N109_ 81 7 = 0 by first | assumption | omega) (show zkd b_ n_ (ze N109_ 81 4).toNat = 1 by first | assumption | omega) (show zkey b_ n_ (ze N109_ 81 4).toNat = zkw 1 by first | assumption | omega) (show 1 ≤ ze N109_ 81 12 by first | assumption | omega) (show ze N109_ 81 12 ≤ 6 by first | assumption | omega) (show 0 ≤ ze N109_ 81 13 by first | assumption | omega) (show ze N109_ 81 13 ≤ 4 by first | assumption | omega) hPm_ i116_ i117_) rfl rfl rfl (by decide) (Nat.le_of_ble_eq_true rfl) d_M_reads_54 ?_
                  rintro _ N123_ ⟨rfl, hsN123_, ⟨hp0_N123_, hp1_N123_, hp2_N123_, hp3_N123_, hp4_N123_, hp5_N123_⟩⟩
                  have hf_N123_ : zFr [3, 4, 5, 6, 7, 8, 11, 12, 13, 14, 20, 25, 26, 38, 39, 41, 42, 43] [83, 85, 86, 87, 88, 89, 90, 91, 92, 93, 94, 95, 96, 97, 100, 101, 102] Mz N123_ := hf_N109_.tr hsN123_ (by decide) (by decide)
                  have hb0_N123_ : zFr [3, 4, 5, 6, 7, 8, 11, 12, 13, 14, 20, 25, 26, 38, 39, 41, 42, 43] [83, 85, 86, 87, 88, 89, 90, 91, 92, 93, 94, 95, 96, 97, 100, 101, 102] Mz N123_ := hb0_N109_.tr hsN123_ (by decide) (by decide)
                  have hb1_N123_ : zFr [3, 4, 5, 6, 7, 8, 11, 12, 13, 20] [83, 85, 86, 87, 88] Mz N123_ := hb1_N109_.tr hsN123_ (by decide) (by decide)
                  have hb2_N123_ : zFr [3, 4, 5, 6, 7, 8, 11, 13, 20] [83, 85, 86, 87, 88] N104_ N123_ := hs110_.tr hsN123_ (by decide) (by decide)
                  have r3_N123_ := ze_r N123_ 81 3
                  have r4_N123_ := ze_r N123_ 81 4
                  have r5_N123_ := ze_r N123_ 81 5
                  have r7_N123_ := ze_r N123_ 81 7
                  have e12_N123_ : ze N123_ 81 12 = ze N109_ 81 12 := hsN123_.e (by decide)
                  have r13_N123_ := ze_r N123_ 81 13
                  have e14_N123_ : ze N123_ 81 14 = ze N109_ 81 14 := hsN123_.e (by decide)
                  have c125_ : zRb b_ n_ N123_ := zRb.fr hsN123_ c118_ (by decide) (by decide)
                  rcases hp5_N123_ with ⟨ha54_0_hp5_N123_, ha54_1_hp5_N123_⟩ | ⟨ha54_0_hp5_N123_, ha54_1_hp5_N123_, ha54_2_hp5_N123_, ha54_3_hp5_N123_, ha54_4_hp5_N123_⟩
                  · skip
                    have hrt_ : zTrB b_ n_ (ze Mz 81 4).toNat := by obtain ⟨q_, h1_, h2_⟩ := id hmv_; exact Or.inr (Or.inl ⟨_, q_, h1_, h2_.tr (zRg.st ha54_1_hp5_N123_)⟩)
                    show zW l m_M_reads (zn Mz + 0, zw Mz + 0) N123_ 57 [some (.ref 81)] [] (zpV [3, 4, 5, 6, 7, 8, 11, 12, 13, 14, 20, 25, 26, 38, 39, 41, 42, 43] [83, 85, 86, 87, 88, 89, 90, 91, 92, 93, 94, 95, 96, 97, 100, 101, 102] Mz (fun N => zRt b_ n_ N ∧ 0 ≤ ze N 81 13 ∧ ze N 81 13 ≤ 4 ∧ 0 ≤ ze N 81 14 ∧ ze N 81 14 ≤ 8 ∧ zB 83 24 0 5 N ∧ zB 85 144 0 5 N ∧ (((1 ≤ ze N 81 7 ∧ zTrB b_ n_ (ze Mz 81 4).toNat) ∨ (ze N 81 7 = 0 ∧ 1 ≤ ze N 81 12 ∧ ze N 81 12 ≤ 6 ∧ zPm N ∧ zFin N ∧ (∃ T : zGT, ∃ mv : List Nat, ∃ P : Nat, T ∈ gTabs ∧ zGB T N ∧ zTrP b_ n_ (ze Mz 81 4).toNat P mv T ∧ zMvs N = mv ∧ ze N 81 12 = (P : Int)))))))
                    refine zw_goto (pc := 57) (tgt := 43) (by decide) d_M_reads_57 ?_
                    exact ih_43 N123_ hb2_N123_ hp0_N123_ (show 0 ≤ ze N123_ 81 13 by first | assumption | omega) (show ze N123_ 81 13 ≤ 4 by first | assumption | omega) (show ze N123_ 81 14 = 0 by first | assumption | omega) (show (1 ≤ ze N123_ 81 7 ∧ zTrB b_ n_ (ze Mz 81 4).toNat) ∨ (ze N123_ 81 7 = 0 ∧ 1 ≤ ze N123_ 81 12 ∧ ze N123_ 81 12 ≤ 6 ∧ zPm N123_ ∧ zFin N123_ ∧ (∃ q : Nat, zHd b_ n_ (ze Mz 81 4).toNat (ze N123_ 81 12).toNat q ∧ zRg (zbs b_ n_ (ze N123_ 81 12).toNat) (0, q, []) (0, (ze N123_ 81 4).toNat, zMvs N123_))) from Or.inl (⟨(show 1 ≤ ze N123_ 81 7 by first | assumption | omega | exact hrt_ | exact hmv2_ | exact hPm2_ | exact hFn2_ | exact hLT3_ | exact hPb_ | exact hFb_), (show zTrB b_ n_ (ze Mz 81 4).toNat by first | assumption | omega | exact hrt_ | exact hmv2_ | exact hPm2_ | exact hFn2_ | exact hLT3_ | exact hPb_ | exact hFb_)⟩)) hp3_N123_ hp4_N123_ (by have m1_ := zmF_c n_ N123_; have m2_ := zmF_c n_ N109_; have m3_ := hp0_N123_.x; omega)
                  · skip
                    have hmv2_ : (∃ q : Nat, zHd b_ n_ (ze Mz 81 4).toNat (ze N123_ 81 12).toNat q ∧ zRg (zbs b_ n_ (ze N123_ 81 12).toNat) (0, q, []) (0, (ze N123_ 81 4).toNat, zMvs N123_)) := by obtain ⟨q_, h1_, h2_⟩ := id hmv_; rw [show ze N123_ 81 12 = ze N109_ 81 12 by omega]; exact ⟨q_, h1_, h2_.tr (zRg.st ha54_1_hp5_N123_)⟩
                    have hPm2_ := ha54_2_hp5_N123_
                    have hFn2_ := ha54_3_hp5_N123_
                    have hlt2_ := ha54_4_hp5_N123_
                    show zW l m_M_reads (zn Mz + 0, zw Mz + 0) N123_ 57 [some (.ref 81)] [] (zpV [3, 4, 5, 6, 7, 8, 11, 12, 13, 14, 20, 25, 26, 38, 39, 41, 42, 43] [83, 85, 86, 87, 88, 89, 90, 91, 92, 93, 94, 95, 96, 97, 100, 101, 102] Mz (fun N => zRt b_ n_ N ∧ 0 ≤ ze N 81 13 ∧ ze N 81 13 ≤ 4 ∧ 0 ≤ ze N 81 14 ∧ ze N 81 14 ≤ 8 ∧ zB 83 24 0 5 N ∧ zB 85 144 0 5 N ∧ (((1 ≤ ze N 81 7 ∧ zTrB b_ n_ (ze Mz 81 4).toNat) ∨ (ze N 81 7 = 0 ∧ 1 ≤ ze N 81 12 ∧ ze N 81 12 ≤ 6 ∧ zPm N ∧ zFin N ∧ (∃ T : zGT, ∃ mv : List Nat, ∃ P : Nat, T ∈ gTabs ∧ zGB T N ∧ zTrP b_ n_ (ze Mz 81 4).toNat P mv T ∧ zMvs N = mv ∧ ze N 81 12 = (P : Int)))))))
                    refine zw_goto (pc := 57) (tgt := 43) (by decide) d_M_reads_57 ?_
                    exact ih_43 N123_ hb2_N123_ hp0_N123_ (show 0 ≤ ze N123_ 81 13 by first | assumption | omega) (show ze N123_ 81 13 ≤ 4 by first | assumption | omega) (show ze N123_ 81 14 = 0 by first | assumption | omega) (show (1 ≤ ze N123_ 81 7 ∧ zTrB b_ n_ (ze Mz 81 4).toNat) ∨ (ze N123_ 81 7 = 0 ∧ 1 ≤ ze N123_ 81 12 ∧ ze N123_ 81 12 ≤ 6 ∧ zPm N123_ ∧ zFin N123_ ∧ (∃ q : Nat, zHd b_ n_ (ze Mz 81 4).toNat (ze N123_ 81 12).toNat q ∧ zRg (zbs b_ n_ (ze N123_ 81 12).toNat) (0, q, []) (0, (ze N123_ 81 4).toNat, zMvs N123_))) from Or.inr (⟨(show ze N123_ 81 7 = 0 by first | assumption | omega | exact hrt_ | exact hmv2_ | exact hPm2_ | exact hFn2_ | exact hLT3_ | exact hPb_ | exact hFb_), (show 1 ≤ ze N123_ 81 12 by first | assumption | omega | exact hrt_ | exact hmv2_ | exact hPm2_ | exact hFn2_ | exact hLT3_ | exact hPb_ | exact hFb_), (show ze N123_ 81 12 ≤ 6 by first | assumption | omega | exact hrt_ | exact hmv2_ | exact hPm2_ | exact hFn2_ | exact hLT3_ | exact hPb_ | exact hFb_), (show zPm N123_ by first | assumption | omega | exact hrt_ | exact hmv2_ | exact hPm2_ | exact hFn2_ | exact hLT3_ | exact hPb_ | exact hFb_), (show zFin N123_ by first | assumption | omega | exact hrt_ | exact hmv2_ | exact hPm2_ | exact hFn2_ | exact hLT3_ | exact hPb_ | exact hFb_), (show (∃ q : Nat, zHd b_ n_ (ze Mz 81 4).toNat (ze N123_ 81 12).toNat q ∧ zRg (zbs b_ n_ (ze N123_ 81 12).toNat) (0, q, []) (0, (ze N123_ 81 4).toNat, zMvs N123_)) by first | assumption | omega | exact hrt_ | exact hmv2_ | exact hPm2_ | exact hFn2_ | exact hLT3_ | exact hPb_ | exact hFb_)⟩)) hp3_N123_ hp4_N123_ (by have m1_ := zmF_c n_ N123_; have m2_ := zmF_c n_ N109_; have m3_ := hp0_N123_.x; omega)
              · skip
                have hnm2_ : ¬ (zkd b_ n_ (ze N109_ 81 4).toNat = 1 ∧ zkey b_ n_ (ze N109_ 81 4).toNat = zkw 1) := fun q_ => ha47_0_hp0_N121_ (by omega) ⟨q_.1, (zke8_w q_.1 (i := 1) (by decide)).mpr q_.2⟩
                have hmx_ : (∃ q : Nat, zHd b_ n_ (ze Mz 81 4).toNat (ze N109_ 81 12).toNat q ∧ zRg (zbs b_ n_ (ze N109_ 81 12).toNat) (0, q, []) (1, (ze N109_ 81 4).toNat, zMvs N109_)) := by obtain ⟨q_, h1_, h2_⟩ := id hmv_; exact ⟨q_, h1_, h2_.tr (zRg.st (zbs_e hnm2_))⟩
                show zW l m_M_reads (zn Mz + 0, zw Mz + 0) N109_ 50 [some (.ref 81)] [.int (Int32.ofInt 0)] (zpV [3, 4, 5, 6, 7, 8, 11, 12, 13, 14, 20, 25, 26, 38, 39, 41, 42, 43] [83, 85, 86, 87, 88, 89, 90, 91, 92, 93, 94, 95, 96, 97, 100, 101, 102] Mz (fun N => zRt b_ n_ N ∧ 0 ≤ ze N 81 13 ∧ ze N 81 13 ≤ 4 ∧ 0 ≤ ze N 81 14 ∧ ze N 81 14 ≤ 8 ∧ zB 83 24 0 5 N ∧ zB 85 144 0 5 N ∧ (((1 ≤ ze N 81 7 ∧ zTrB b_ n_ (ze Mz 81 4).toNat) ∨ (ze N 81 7 = 0 ∧ 1 ≤ ze N 81 12 ∧ ze N 81 12 ≤ 6 ∧ zPm N ∧ zFin N ∧ (∃ T : zGT, ∃ mv : List Nat, ∃ P : Nat, T ∈ gTabs ∧ zGB T N ∧ zTrP b_ n_ (ze Mz 81 4).toNat P mv T ∧ zMvs N = mv ∧ ze N 81 12 = (P : Int)))))))
                refine zr_if_eq (pc := 50) (tgt := 60) ⟨(by decide), (by decide)⟩ (by decide) d_M_reads_50 (fun hc_50 => ?_) (fun hc_50 => ?_)
                · skip
                  exact j_60 N109_ hb1_N109_ i111_ (show 0 ≤ ze N109_ 81 13 by first | assumption | omega) (show ze N109_ 81 13 ≤ 4 by first | assumption | omega) (show ze N109_ 81 14 = 0 by first | assumption | omega) (show (1 ≤ ze N109_ 81 7 ∧ zTrB b_ n_ (ze Mz 81 4).toNat) ∨ (ze N109_ 81 7 = 0 ∧ 1 ≤ ze N109_ 81 12 ∧ ze N109_ 81 12 ≤ 6 ∧ zPm N109_ ∧ zFin N109_ ∧ (∃ q : Nat, zHd b_ n_ (ze Mz 81 4).toNat (ze N109_ 81 12).toNat q ∧ zRg (zbs b_ n_ (ze N109_ 81 12).toNat) (0, q, []) (1, (ze N109_ 81 4).toNat, zMvs N109_))) from Or.inr (⟨(show ze N109_ 81 7 = 0 by first | assumption | omega | exact hrt_ | exact hrt2_ | exact hmx_ | exact hPm_ | exact hFn_ | exact hLT2_ | exact hnk_), (show 1 ≤ ze N109_ 81 12 by first | assumption | omega | exact hrt_ | exact hrt2_ | exact hmx_ | exact hPm_ | exact hFn_ | exact hLT2_ | exact hnk_), (show ze N109_ 81 12 ≤ 6 by first | assumption | omega | exact hrt_ | exact hrt2_ | exact hmx_ | exact hPm_ | exact hFn_ | exact hLT2_ | exact hnk_), (show zPm N109_ by first | assumption | omega | exact hrt_ | exact hrt2_ | exact hmx_ | exact hPm_ | exact hFn_ | exact hLT2_ | exact hnk_), (show zFin N109_ by first | assumption | omega | exact hrt_ | exact hrt2_ | exact hmx_ | exact hPm_ | exact hFn_ | exact hLT2_ | exact hnk_), (show (∃ q : Nat, zHd b_ n_ (ze Mz 81 4).toNat (ze N109_ 81 12).toNat q ∧ zRg (zbs b_ n_ (ze N109_ 81 12).toNat) (0, q, []) (1, (ze N109_ 81 4).toNat, zMvs N109_)) by first | assumption | omega | exact hrt_ | exact hrt2_ | exact hmx_ | exact hPm_ | exact hFn_ | exact hLT2_ | exact hnk_)⟩)) i116_ i117_
                · skip
                  exact absurd hc_50 (by decide)
        exact lp_43 _ N104_ zFr.rf hp0_N104_ (show 0 ≤ ze N104_ 81 13 by first | assumption | omega) (show ze N104_ 81 13 ≤ 4 by first | assumption | omega) (show ze N104_ 81 14 = 0 by first | assumption | omega) (show (1 ≤ ze N104_ 81 7 ∧ zTrB b_ n_ (ze Mz 81 4).toNat) ∨ (ze N104_ 81 7 = 0 ∧ 1 ≤ ze N104_ 81 12 ∧ ze N104_ 81 12 ≤ 6 ∧ zPm N104_ ∧ zFin N104_ ∧ (∃ q : Nat, zHd b_ n_ (ze Mz 81 4).toNat (ze N104_ 81 12).toNat q ∧ zRg (zbs b_ n_ (ze N104_ 81 12).toNat) (0, q, []) (0, (ze N104_ 81 4).toNat, zMvs N104_))) from Or.inl (⟨(show 1 ≤ ze N104_ 81 7 by first | assumption | omega | exact hrt_ | exact hrt2_ | exact hmv0_ | exact hP0_ | exact hF0_ | exact hLT0_ | exact hPb_ | exact hFb_), (show zTrB b_ n_ (ze Mz 81 4).toNat by first | assumption | omega | exact hrt_ | exact hrt2_ | exact hmv0_ | exact hP0_ | exact hF0_ | exact hLT0_ | exact hPb_ | exact hFb_)⟩)) c107_ c108_ (Nat.lt_succ_self _)
      · skip
        exfalso; omega
    · skip
      have hk1_ := hl37_1_i100_
      have hks_ := hl37_2_i100_
      have hk2_ := hl37_3_i100_
      have hnu_ := hl37_4_i100_
      have hx2_ := hl37_7_i100_
      refine zw_aload_n (pc := 37) (n := 0) (x := 81) rfl d_M_reads_37 ?_
      refine zw_bipush (pc := 38) (v := Int32.ofInt 59) (by decide) d_M_reads_38 ?_
      refine zr_callV (hf_N95_.w hW) hf_N95_.x (pc := 40) [.int (Int32.ofInt 59)] [] l_M_355 (c_M_mustF l N95_ (hf_N95_.w hW) 59 (by decide) (by decide) b_ n_ c101_ i97_ (show 0 ≤ ze N95_ 81 7 by first | assumption | omega)) rfl rfl rfl (by decide) (Nat.le_of_ble_eq_true rfl) d_M_reads_40 ?_
      rintro _ N126_ ⟨rfl, hsN126_, ⟨hp0_N126_, hp1_N126_⟩⟩
      have hf_N126_ : zFr [3, 4, 5, 6, 7, 8, 11, 12, 13, 14, 20, 25, 26, 38, 39, 41, 42, 43] [83, 85, 86, 87, 88, 89, 90, 91, 92, 93, 94, 95, 96, 97, 100, 101, 102] Mz N126_ := hf_N95_.tr hsN126_ (by decide) (by decide)
      have hb0_N126_ : zFr [3, 4, 5, 6, 7, 8, 11, 12, 13, 14, 20, 25, 26, 38, 39, 41, 42, 43] [83, 85, 86, 87, 88, 89, 90, 91, 92, 93, 94, 95, 96, 97, 100, 101, 102] Mz N126_ := hb0_N95_.tr hsN126_ (by decide) (by decide)
      have hb1_N126_ : zFr [3, 4, 5, 6, 7, 8, 11, 12, 13, 20] [83, 85, 86, 87, 88] Mz N126_ := hb1_N95_.tr hsN126_ (by decide) (by decide)
      have r3_N126_ := ze_r N126_ 81 3
      have r4_N126_ := ze_r N126_ 81 4
      have r5_N126_ := ze_r N126_ 81 5
      have r7_N126_ := ze_r N126_ 81 7
      have e12_N126_ : ze N126_ 81 12 = ze N95_ 81 12 := hsN126_.e (by decide)
      have e13_N126_ : ze N126_ 81 13 = ze N95_ 81 13 := hsN126_.e (by decide)
      have e14_N126_ : ze N126_ 81 14 = ze N95_ 81 14 := hsN126_.e (by decide)
      have c128_ : zRb b_ n_ N126_ := zRb.fr hsN126_ c101_ (by decide) (by decide)
      have c129_ : zB 83 24 0 5 N126_ := zB.fr hsN126_ c102_ (by decide) (by decide)
      have c130_ : zB 85 144 0 5 N126_ := zB.fr hsN126_ c103_ (by decide) (by decide)
      rcases hp1_N126_ with ⟨ha40_0_hp1_N126_, ha40_1_hp1_N126_⟩ | ⟨ha40_0_hp1_N126_, ha40_1_hp1_N126_, ha40_2_hp1_N126_, ha40_3_hp1_N126_⟩
      · skip
        have hrt_ : zTrB b_ n_ (ze Mz 81 4).toNat := by first | assumption | exact Or.inl (fun ⟨P_, q_, h_⟩ => ha40_1_hp1_N126_ (by omega) (by rw [hx2_]; exact h_.2.2.1))
        show zW l m_M_reads (zn Mz + 0, zw Mz + 0) N126_ 43 [some (.ref 81)] [] (zpV [3, 4, 5, 6, 7, 8, 11, 12, 13, 14, 20, 25, 26, 38, 39, 41, 42, 43] [83, 85, 86, 87, 88, 89, 90, 91, 92, 93, 94, 95, 96, 97, 100, 101, 102] Mz (fun N => zRt b_ n_ N ∧ 0 ≤ ze N 81 13 ∧ ze N 81 13 ≤ 4 ∧ 0 ≤ ze N 81 14 ∧ ze N 81 14 ≤ 8 ∧ zB 83 24 0 5 N ∧ zB 85 144 0 5 N ∧ (((1 ≤ ze N 81 7 ∧ zTrB b_ n_ (ze Mz 81 4).toNat) ∨ (ze N 81 7 = 0 ∧ 1 ≤ ze N 81 12 ∧ ze N 81 12 ≤ 6 ∧ zPm N ∧ zFin N ∧ (∃ T : zGT, ∃ mv : List Nat, ∃ P : Nat, T ∈ gTabs ∧ zGB T N ∧ zTrP b_ n_ (ze Mz 81 4).toNat P mv T ∧ zMvs N = mv ∧ ze N 81 12 = (P : Int)))))))
        have lp_43 : ∀ (n : Nat) (N131_ : zMem) (hs132_ : zFr [3, 4, 5, 6, 7, 8, 11, 13, 20] [83, 85, 86, 87, 88] N126_ N131_) (i133_ : zRt b_ n_ N131_) (i134_ : 0 ≤ ze N131_ 81 13) (i135_ : ze N131_ 81 13 ≤ 4) (i136_ : ze N131_ 81 14 = 0) (i137_ : (1 ≤ ze N131_ 81 7 ∧ zTrB b_ n_ (ze Mz 81 4).toNat) ∨ (ze N131_ 81 7 = 0 ∧ 1 ≤ ze N131_ 81 12 ∧ ze N131_ 81 12 ≤ 6 ∧ zPm N131_ ∧ zFin N131_ ∧ (∃ q : Nat, zHd b_ n_ (ze Mz 81 4).toNat (ze N131_ 81 12).toNat q ∧ zRg (zbs b_ n_ (ze N131_ 81 12).toNat) (0, q, []) (0, (ze N131_ 81 4).toNat, zMvs N131_)))) (i138_ : zB 83 24 0 5 N131_) (i139_ : zB 85 144 0 5 N131_), zmF n_ N131_ < n → zW l m_M_reads (zn Mz + 0, zw Mz + 0) N131_ 43 [some (.ref 81)] [] (zpV [3, 4, 5, 6, 7, 8, 11, 12, 13, 14, 20, 25, 26, 38, 39, 41, 42, 43] [83, 85, 86, 87, 88, 89, 90, 91, 92, 93, 94, 95, 96, 97, 100, 101, 102] Mz (fun N => zRt b_ n_ N ∧ 0 ≤ ze N 81 13 ∧ ze N 81 13 ≤ 4 ∧ 0 ≤ ze N 81 14 ∧ ze N 81 14 ≤ 8 ∧ zB 83 24 0 5 N ∧ zB 85 144 0 5 N ∧ (((1 ≤ ze N 81 7 ∧ zTrB b_ n_ (ze Mz 81 4).toNat) ∨ (ze N 81 7 = 0 ∧ 1 ≤ ze N 81 12 ∧ ze N 81 12 ≤ 6 ∧ zPm N ∧ zFin N ∧ (∃ T : zGT, ∃ mv : List Nat, ∃ P : Nat, T ∈ gTabs ∧ zGB T N ∧ zTrP b_ n_ (ze Mz 81 4).toNat P mv T ∧ zMvs N = mv ∧ ze N 81 12 = (P : Int))))))) := by
          clear hs96_ i97_ i98_ i99_ hf_N95_ hb0_N95_ hb1_N95_ r3_N95_ r4_N95_ r5_N95_ r7_N95_ r12_N95_ e13_N95_ e14_N95_ c101_ c102_ c103_ hl37_0_i100_ hl37_4_i100_ hl37_5_i100_ hl37_6_i100_ hl37_7_i100_ hsN126_ e12_N126_ e13_N126_ e14_N126_ ha40_1_hp1_N126_
          intro n
          induction n with
          | zero =>
            intro N131_ hs132_ i133_ i134_ i135_ i136_ i137_ i138_ i139_ h0
            exact absurd h0 (Nat.not_lt_zero _)
          | succ n ih_43 =>
            intro N131_ hs132_ i133_ i134_ i135_ i136_ i137_ i138_ i139_ hlt_43
            have hf_N131_ : zFr [3, 4, 5, 6, 7, 8, 11, 12, 13, 14, 20, 25, 26, 38, 39, 41, 42, 43] [83, 85, 86, 87, 88, 89, 90, 91, 92, 93, 94, 95, 96, 97, 100, 101, 102] Mz N131_ := hf_N126_.tr hs132_ (by decide) (by decide)
            have hb0_N131_ : zFr [3, 4, 5, 6, 7, 8, 11, 12, 13, 14, 20, 25, 26, 38, 39, 41, 42, 43] [83, 85, 86, 87, 88, 89, 90, 91, 92, 93, 94, 95, 96, 97, 100, 101, 102] Mz N131_ := hb0_N126_.tr hs132_ (by decide) (by decide)
            have hb1_N131_ : zFr [3, 4, 5, 6, 7, 8, 11, 12, 13, 20] [83, 85, 86, 87, 88] Mz N131_ := hb1_N126_.tr hs132_ (by decide) (by decide)
            have r3_N131_ := ze_r N131_ 81 3
            have r4_N131_ := ze_r N131_ 81 4
            have r5_N131_ := ze_r N131_ 81 5
            have r7_N131_ := ze_r N131_ 81 7
            have e12_N131_ : ze N131_ 81 12 = ze N126_ 81 12 := hs132_.e (by decide)
            have r13_N131_ := ze_r N131_ 81 13
            have e14_N131_ : ze N131_ 81 14 = ze N126_ 81 14 := hs132_.e (by decide)
            have c140_ : zRb b_ n_ N131_ := zRb.fr hs132_ c128_ (by decide) (by decide)
            rcases i137_ with ⟨hl43_0_i137_, hl43_1_i137_⟩ | ⟨hl43_0_i137_, hl43_1_i137_, hl43_2_i137_, hl43_3_i137_, hl43_4_i137_, hl43_5_i137_⟩
            · skip
              refine zw_aload_n (pc := 43) (n := 0) (x := 81) rfl d_M_reads_43 ?_
              refine zr_ldc2 (pc := 44) (n := 1836021349) (by decide) k_M_177 d_M_reads_44 ?_
              refine zr_callV (hf_N131_.w hW) hf_N131_.x (pc := 47) [.long (Int64.ofInt 1836021349)] [] l_M_312 (c_M_isWordF l N131_ (hf_N131_.w hW) 1836021349 (by decide) (by decide) b_ n_ i133_) rfl rfl rfl (by decide) (Nat.le_of_ble_eq_true rfl) d_M_reads_47 ?_
              rintro _ N141_ ⟨v142_, rfl, ⟨hv142_a, hv142_b⟩, hsN141_, hp0_N141_⟩
              obtain rfl := hsN141_.eq.symm
              replace hp0_N141_ : ((v142_ = 1 ∧ ze N131_ 81 7 = 0 ∧ zkd b_ n_ (ze N131_ 81 4).toNat = 1 ∧ zke8 b_ n_ (ze N131_ 81 4).toNat = 1836021349) ∨ (v142_ = 0 ∧ (ze N131_ 81 7 = 0 → ¬ (zkd b_ n_ (ze N131_ 81 4).toNat = 1 ∧ zke8 b_ n_ (ze N131_ 81 4).toNat = 1836021349)))) := hp0_N141_
              rcases hp0_N141_ with ⟨rfl, ha47_0_hp0_N141_, ha47_1_hp0_N141_, ha47_2_hp0_N141_⟩ | ⟨rfl, ha47_0_hp0_N141_⟩
              · skip
                exfalso; omega
              · skip
                show zW l m_M_reads (zn Mz + 0, zw Mz + 0) N131_ 50 [some (.ref 81)] [.int (Int32.ofInt 0)] (zpV [3, 4, 5, 6, 7, 8, 11, 12, 13, 14, 20, 25, 26, 38, 39, 41, 42, 43] [83, 85, 86, 87, 88, 89, 90, 91, 92, 93, 94, 95, 96, 97, 100, 101, 102] Mz (fun N => zRt b_ n_ N ∧ 0 ≤ ze N 81 13 ∧ ze N 81 13 ≤ 4 ∧ 0 ≤ ze N 81 14 ∧ ze N 81 14 ≤ 8 ∧ zB 83 24 0 5 N ∧ zB 85 144 0 5 N ∧ (((1 ≤ ze N 81 7 ∧ zTrB b_ n_ (ze Mz 81 4).toNat) ∨ (ze N 81 7 = 0 ∧ 1 ≤ ze N 81 12 ∧ ze N 81 12 ≤ 6 ∧ zPm N ∧ zFin N ∧ (∃ T : zGT, ∃ mv : List Nat, ∃ P : Nat, T ∈ gTabs ∧ zGB T N ∧ zTrP b_ n_ (ze Mz 81 4).toNat P mv T ∧ zMvs N = mv ∧ ze N 81 12 = (P : Int)))))))
                refine zr_if_eq (pc := 50) (tgt := 60) ⟨(by decide), (by decide)⟩ (by decide) d_M_reads_50 (fun hc_50 => ?_) (fun hc_50 => ?_)
                · skip
                  exact j_60 N131_ hb1_N131_ i133_ (show 0 ≤ ze N131_ 81 13 by first | assumption | omega) (show ze N131_ 81 13 ≤ 4 by first | assumption | omega) (show ze N131_ 81 14 = 0 by first | assumption | omega) (show (1 ≤ ze N131_ 81 7 ∧ zTrB b_ n_ (ze Mz 81 4).toNat) ∨ (ze N131_ 81 7 = 0 ∧ 1 ≤ ze N131_ 81 12 ∧ ze N131_ 81 12 ≤ 6 ∧ zPm N131_ ∧ zFin N131_ ∧ (∃ q : Nat, zHd b_ n_ (ze Mz 81 4).toNat (ze N131_ 81 12).toNat q ∧ zRg (zbs b_ n_ (ze N131_ 81 12).toNat) (0, q, []) (1, (ze N131_ 81 4).toNat, zMvs N131_))) from Or.inl (⟨(show 1 ≤ ze N131_ 81 7 by first | assumption | omega | exact hrt_ | exact hrt2_ | exact hmx_ | exact hPm_ | exact hFn_ | exact hLT2_ | exact hnk_), (show zTrB b_ n_ (ze Mz 81 4).toNat by first | assumption | omega | exact hrt_ | exact hrt2_ | exact hmx_ | exact hPm_ | exact hFn_ | exact hLT2_ | exact hnk_)⟩)) i138_ i139_
                · skip
                  exact absurd hc_50 (by decide)
            · skip
              have hPm_ := hl43_3_i137_
              have hFn_ := hl43_4_i137_
              have hmv_ := hl43_5_i137_
              refine zw_aload_n (pc := 43) (n := 0) (x := 81) rfl d_M_reads_43 ?_
              refine zr_ldc2 (pc := 44) (n := 1836021349) (by decide) k_M_177 d_M_reads_44 ?_
              refine zr_callV (hf_N131_.w hW) hf_N131_.x (pc := 47) [.long (Int64.ofInt 1836021349)] [] l_M_312 (c_M_isWordF l N131_ (hf_N131_.w hW) 1836021349 (by decide) (by decide) b_ n_ i133_) rfl rfl rfl (by decide) (Nat.le_of_ble_eq_true rfl) d_M_reads_47 ?_
              rintro _ N143_ ⟨v144_, rfl, ⟨hv144_a, hv144_b⟩, hsN143_, hp0_N143_⟩
              obtain rfl := hsN143_.eq.symm
              replace hp0_N143_ : ((v144_ = 1 ∧ ze N131_ 81 7 = 0 ∧ zkd b_ n_ (ze N131_ 81 4).toNat = 1 ∧ zke8 b_ n_ (ze N131_ 81 4).toNat = 1836021349) ∨ (v144_ = 0 ∧ (ze N131_ 81 7 = 0 → ¬ (zkd b_ n_ (ze N131_ 81 4).toNat = 1 ∧ zke8 b_ n_ (ze N131_ 81 4).toNat = 1836021349)))) := hp0_N143_
              rcases hp0_N143_ with ⟨rfl, ha47_0_hp0_N143_, ha47_1_hp0_N143_, ha47_2_hp0_N143_⟩ | ⟨rfl, ha47_0_hp0_N143_⟩
              · skip
                have hk1_ := ha47_1_hp0_N143_
                have hks_ := (zke8_w hk1_ (i := 1) (by decide)).mp ha47_2_hp0_N143_
                show zW l m_M_reads (zn Mz + 0, zw Mz + 0) N131_ 50 [some (.ref 81)] [.int (Int32.ofInt 1)] (zpV [3, 4, 5, 6, 7, 8, 11, 12, 13, 14, 20, 25, 26, 38, 39, 41, 42, 43] [83, 85, 86, 87, 88, 89, 90, 91, 92, 93, 94, 95, 96, 97, 100, 101, 102] Mz (fun N => zRt b_ n_ N ∧ 0 ≤ ze N 81 13 ∧ ze N 81 13 ≤ 4 ∧ 0 ≤ ze N 81 14 ∧ ze N 81 14 ≤ 8 ∧ zB 83 24 0 5 N ∧ zB 85 144 0 5 N ∧ (((1 ≤ ze N 81 7 ∧ zTrB b_ n_ (ze Mz 81 4).toNat) ∨ (ze N 81 7 = 0 ∧ 1 ≤ ze N 81 12 ∧ ze N 81 12 ≤ 6 ∧ zPm N ∧ zFin N ∧ (∃ T : zGT, ∃ mv : List Nat, ∃ P : Nat, T ∈ gTabs ∧ zGB T N ∧ zTrP b_ n_ (ze Mz 81 4).toNat P mv T ∧ zMvs N = mv ∧ ze N 81 12 = (P : Int)))))))
                refine zr_if_eq (pc := 50) (tgt := 60) ⟨(by decide), (by decide)⟩ (by decide) d_M_reads_50 (fun hc_50 => ?_) (fun hc_50 => ?_)
                · skip
                  exact absurd hc_50 (by decide)
                · skip
                  refine zw_aload_n (pc := 53) (n := 0) (x := 81) rfl d_M_reads_53 ?_
                  refine zr_callV (hf_N131_.w hW) hf_N131_.x (pc := 54) [] [] l_M_361 (c_M_moveLineF l N131_ (hf_N131_.w hW) b_ n_ c140_ i133_ (show ze N131_ 81 7 = 0 by first | assumption | omega) (show zkd b_ n_ (ze N131_ 81 4).toNat = 1 by first | assumption | omega) (show zkey b_ n_ (ze N131_ 81 4).toNat = zkw 1 by first | assumption | omega) (show 1 ≤ ze N131_ 81 12 by first | assumption | omega) (show ze N131_ 81 12 ≤ 6 by first | assumption | omega) (show 0 ≤ ze N131_ 81 13 by first | assumption | omega) (show ze N131_ 81 13 ≤ 4 by first | assumption | omega) hPm_ i138_ i139_) rfl rfl rfl (by decide) (Nat.le_of_ble_eq_true rfl) d_M_reads_54 ?_
                  rintro _ N145_ ⟨rfl, hsN145_, ⟨hp0_N145_, hp1_N145_, hp2_N145_, hp3_N145_, hp4_N145_, hp5_N145_⟩⟩
                  have hf_N145_ : zFr [3, 4, 5, 6, 7, 8, 11, 12, 13, 14, 20, 25, 26, 38, 39, 41, 42, 43] [83, 85, 86, 87, 88, 89, 90, 91, 92, 93, 94, 95, 96, 97, 100, 101, 102] Mz N145_ := hf_N131_.tr hsN145_ (by decide) (by decide)
                  have hb0_N145_ : zFr [3, 4, 5, 6, 7, 8, 11, 12, 13, 14, 20, 25, 26, 38, 39, 41, 42, 43] [83, 85, 86, 87, 88, 89, 90, 91, 92, 93, 94, 95, 96, 97, 100, 101, 102] Mz N145_ := hb0_N131_.tr hsN145_ (by decide) (by decide)
                  have hb1_N145_ : zFr [3, 4, 5, 6, 7, 8, 11, 12, 13, 20] [83, 85, 86, 87, 88] Mz N145_ := hb1_N131_.tr hsN145_ (by decide) (by decide)
                  have hb2_N145_ : zFr [3, 4, 5, 6, 7, 8, 11, 13, 20] [83, 85, 86, 87, 88] N126_ N145_ := hs132_.tr hsN145_ (by decide) (by decide)
                  have r3_N145_ := ze_r N145_ 81 3
                  have r4_N145_ := ze_r N145_ 81 4
                  have r5_N145_ := ze_r N145_ 81 5
                  have r7_N145_ := ze_r N145_ 81 7
                  have e12_N145_ : ze N145_ 81 12 = ze N131_ 81 12 := hsN145_.e (by decide)
                  have r13_N145_ := ze_r N145_ 81 13
                  have e14_N145_ : ze N145_ 81 14 = ze N131_ 81 14 := hsN145_.e (by decide)
                  have c147_ : zRb b_ n_ N145_ := zRb.fr hsN145_ c140_ (by decide) (by decide)
                  rcases hp5_N145_ with ⟨ha54_0_hp5_N145_, ha54_1_hp5_N145_⟩ | ⟨ha54_0_hp5_N145_, ha54_1_hp5_N145_, ha54_2_hp5_N145_, ha54_3_hp5_N145_, ha54_4_hp5_N145_⟩
                  · skip
                    have hrt_ : zTrB b_ n_ (ze Mz 81 4).toNat := by obtain ⟨q_, h1_, h2_⟩ := id hmv_; exact Or.inr (Or.inl ⟨_, q_, h1_, h2_.tr (zRg.st ha54_1_hp5_N145_)⟩)
                    show zW l m_M_reads (zn Mz + 0, zw Mz + 0) N145_ 57 [some (.ref 81)] [] (zpV [3, 4, 5, 6, 7, 8, 11, 12, 13, 14, 20, 25, 26, 38, 39, 41, 42, 43] [83, 85, 86, 87, 88, 89, 90, 91, 92, 93, 94, 95, 96, 97, 100, 101, 102] Mz (fun N => zRt b_ n_ N ∧ 0 ≤ ze N 81 13 ∧ ze N 81 13 ≤ 4 ∧ 0 ≤ ze N 81 14 ∧ ze N 81 14 ≤ 8 ∧ zB 83 24 0 5 N ∧ zB 85 144 0 5 N ∧ (((1 ≤ ze N 81 7 ∧ zTrB b_ n_ (ze Mz 81 4).toNat) ∨ (ze N 81 7 = 0 ∧ 1 ≤ ze N 81 12 ∧ ze N 81 12 ≤ 6 ∧ zPm N ∧ zFin N ∧ (∃ T : zGT, ∃ mv : List Nat, ∃ P : Nat, T ∈ gTabs ∧ zGB T N ∧ zTrP b_ n_ (ze Mz 81 4).toNat P mv T ∧ zMvs N = mv ∧ ze N 81 12 = (P : Int)))))))
                    refine zw_goto (pc := 57) (tgt := 43) (by decide) d_M_reads_57 ?_
                    exact ih_43 N145_ hb2_N145_ hp0_N145_ (show 0 ≤ ze N145_ 81 13 by first | assumption | omega) (show ze N145_ 81 13 ≤ 4 by first | assumption | omega) (show ze N145_ 81 14 = 0 by first | assumption | omega) (show (1 ≤ ze N145_ 81 7 ∧ zTrB b_ n_ (ze Mz 81 4).toNat) ∨ (ze N145_ 81 7 = 0 ∧ 1 ≤ ze N145_ 81 12 ∧ ze N145_ 81 12 ≤ 6 ∧ zPm N145_ ∧ zFin N145_ ∧ (∃ q : Nat, zHd b_ n_ (ze Mz 81 4).toNat (ze N145_ 81 12).toNat q ∧ zRg (zbs b_ n_ (ze N145_ 81 12).toNat) (0, q, []) (0, (ze N145_ 81 4).toNat, zMvs N145_))) from Or.inl (⟨(show 1 ≤ ze N145_ 81 7 by first | assumption | omega | exact hrt_ | exact hmv2_ | exact hPm2_ | exact hFn2_ | exact hLT3_ | exact hPb_ | exact hFb_), (show zTrB b_ n_ (ze Mz 81 4).toNat by first | assumption | omega | exact hrt_ | exact hmv2_ | exact hPm2_ | exact hFn2_ | exact hLT3_ | exact hPb_ | exact hFb_)⟩)) hp3_N145_ hp4_N145_ (by have m1_ := zmF_c n_ N145_; have m2_ := zmF_c n_ N131_; have m3_ := hp0_N145_.x; omega)
                  · skip
                    have hmv2_ : (∃ q : Nat, zHd b_ n_ (ze Mz 81 4).toNat (ze N145_ 81 12).toNat q ∧ zRg (zbs b_ n_ (ze N145_ 81 12).toNat) (0, q, []) (0, (ze N145_ 81 4).toNat, zMvs N145_)) := by obtain ⟨q_, h1_, h2_⟩ := id hmv_; rw [show ze N145_ 81 12 = ze N131_ 81 12 by omega]; exact ⟨q_, h1_, h2_.tr (zRg.st ha54_1_hp5_N145_)⟩
                    have hPm2_ := ha54_2_hp5_N145_
                    have hFn2_ := ha54_3_hp5_N145_
                    have hlt2_ := ha54_4_hp5_N145_
                    show zW l m_M_reads (zn Mz + 0, zw Mz + 0) N145_ 57 [some (.ref 81)] [] (zpV [3, 4, 5, 6, 7, 8, 11, 12, 13, 14, 20, 25, 26, 38, 39, 41, 42, 43] [83, 85, 86, 87, 88, 89, 90, 91, 92, 93, 94, 95, 96, 97, 100, 101, 102] Mz (fun N => zRt b_ n_ N ∧ 0 ≤ ze N 81 13 ∧ ze N 81 13 ≤ 4 ∧ 0 ≤ ze N 81 14 ∧ ze N 81 14 ≤ 8 ∧ zB 83 24 0 5 N ∧ zB 85 144 0 5 N ∧ (((1 ≤ ze N 81 7 ∧ zTrB b_ n_ (ze Mz 81 4).toNat) ∨ (ze N 81 7 = 0 ∧ 1 ≤ ze N 81 12 ∧ ze N 81 12 ≤ 6 ∧ zPm N ∧ zFin N ∧ (∃ T : zGT, ∃ mv : List Nat, ∃ P : Nat, T ∈ gTabs ∧ zGB T N ∧ zTrP b_ n_ (ze Mz 81 4).toNat P mv T ∧ zMvs N = mv ∧ ze N 81 12 = (P : Int)))))))
                    refine zw_goto (pc := 57) (tgt := 43) (by decide) d_M_reads_57 ?_
                    exact ih_43 N145_ hb2_N145_ hp0_N145_ (show 0 ≤ ze N145_ 81 13 by first | assumption | omega) (show ze N145_ 81 13 ≤ 4 by first | assumption | omega) (show ze N145_ 81 14 = 0 by first | assumption | omega) (show (1 ≤ ze N145_ 81 7 ∧ zTrB b_ n_ (ze Mz 81 4).toNat) ∨ (ze N145_ 81 7 = 0 ∧ 1 ≤ ze N145_ 81 12 ∧ ze N145_ 81 12 ≤ 6 ∧ zPm N145_ ∧ zFin N145_ ∧ (∃ q : Nat, zHd b_ n_ (ze Mz 81 4).toNat (ze N145_ 81 12).toNat q ∧ zRg (zbs b_ n_ (ze N145_ 81 12).toNat) (0, q, []) (0, (ze N145_ 81 4).toNat, zMvs N145_))) from Or.inr (⟨(show ze N145_ 81 7 = 0 by first | assumption | omega | exact hrt_ | exact hmv2_ | exact hPm2_ | exact hFn2_ | exact hLT3_ | exact hPb_ | exact hFb_), (show 1 ≤ ze N145_ 81 12 by first | assumption | omega | exact hrt_ | exact hmv2_ | exact hPm2_ | exact hFn2_ | exact hLT3_ | exact hPb_ | exact hFb_), (show ze N145_ 81 12 ≤ 6 by first | assumption | omega | exact hrt_ | exact hmv2_ | exact hPm2_ | exact hFn2_ | exact hLT3_ | exact hPb_ | exact hFb_), (show zPm N145_ by first | assumption | omega | exact hrt_ | exact hmv2_ | exact hPm2_ | exact hFn2_ | exact hLT3_ | exact hPb_ | exact hFb_), (show zFin N145_ by first | assumption | omega | exact hrt_ | exact hmv2_ | exact hPm2_ | exact hFn2_ | exact hLT3_ | exact hPb_ | exact hFb_), (show (∃ q : Nat, zHd b_ n_ (ze Mz 81 4).toNat (ze N145_ 81 12).toNat q ∧ zRg (zbs b_ n_ (ze N145_ 81 12).toNat) (0, q, []) (0, (ze N145_ 81 4).toNat, zMvs N145_)) by first | assumption | omega | exact hrt_ | exact hmv2_ | exact hPm2_ | exact hFn2_ | exact hLT3_ | exact hPb_ | exact hFb_)⟩)) hp3_N145_ hp4_N145_ (by have m1_ := zmF_c n_ N145_; have m2_ := zmF_c n_ N131_; have m3_ := hp0_N145_.x; omega)
              · skip
                have hnm2_ : ¬ (zkd b_ n_ (ze N131_ 81 4).toNat = 1 ∧ zkey b_ n_ (ze N131_ 81 4).toNat = zkw 1) := fun q_ => ha47_0_hp0_N143_ (by omega) ⟨q_.1, (zke8_w q_.1 (i := 1) (by decide)).mpr q_.2⟩
                have hmx_ : (∃ q : Nat, zHd b_ n_ (ze Mz 81 4).toNat (ze N131_ 81 12).toNat q ∧ zRg (zbs b_ n_ (ze N131_ 81 12).toNat) (0, q, []) (1, (ze N131_ 81 4).toNat, zMvs N131_)) := by obtain ⟨q_, h1_, h2_⟩ := id hmv_; exact ⟨q_, h1_, h2_.tr (zRg.st (zbs_e hnm2_))⟩
                show zW l m_M_reads (zn Mz + 0, zw Mz + 0) N131_ 50 [some (.ref 81)] [.int (Int32.ofInt 0)] (zpV [3, 4, 5, 6, 7, 8, 11, 12, 13, 14, 20, 25, 26, 38, 39, 41, 42, 43] [83, 85, 86, 87, 88, 89, 90, 91, 92, 93, 94, 95, 96, 97, 100, 101, 102] Mz (fun N => zRt b_ n_ N ∧ 0 ≤ ze N 81 13 ∧ ze N 81 13 ≤ 4 ∧ 0 ≤ ze N 81 14 ∧ ze N 81 14 ≤ 8 ∧ zB 83 24 0 5 N ∧ zB 85 144 0 5 N ∧ (((1 ≤ ze N 81 7 ∧ zTrB b_ n_ (ze Mz 81 4).toNat) ∨ (ze N 81 7 = 0 ∧ 1 ≤ ze N 81 12 ∧ ze N 81 12 ≤ 6 ∧ zPm N ∧ zFin N ∧ (∃ T : zGT, ∃ mv : List Nat, ∃ P : Nat, T ∈ gTabs ∧ zGB T N ∧ zTrP b_ n_ (ze Mz 81 4).toNat P mv T ∧ zMvs N = mv ∧ ze N 81 12 = (P : Int)))))))
                refine zr_if_eq (pc := 50) (tgt := 60) ⟨(by decide), (by decide)⟩ (by decide) d_M_reads_50 (fun hc_50 => ?_) (fun hc_50 => ?_)
                · skip
                  exact j_60 N131_ hb1_N131_ i133_ (show 0 ≤ ze N131_ 81 13 by first | assumption | omega) (show ze N131_ 81 13 ≤ 4 by first | assumption | omega) (show ze N131_ 81 14 = 0 by first | assumption | omega) (show (1 ≤ ze N131_ 81 7 ∧ zTrB b_ n_ (ze Mz 81 4).toNat) ∨ (ze N131_ 81 7 = 0 ∧ 1 ≤ ze N131_ 81 12 ∧ ze N131_ 81 12 ≤ 6 ∧ zPm N131_ ∧ zFin N131_ ∧ (∃ q : Nat, zHd b_ n_ (ze Mz 81 4).toNat (ze N131_ 81 12).toNat q ∧ zRg (zbs b_ n_ (ze N131_ 81 12).toNat) (0, q, []) (1, (ze N131_ 81 4).toNat, zMvs N131_))) from Or.inr (⟨(show ze N131_ 81 7 = 0 by first | assumption | omega | exact hrt_ | exact hrt2_ | exact hmx_ | exact hPm_ | exact hFn_ | exact hLT2_ | exact hnk_), (show 1 ≤ ze N131_ 81 12 by first | assumption | omega | exact hrt_ | exact hrt2_ | exact hmx_ | exact hPm_ | exact hFn_ | exact hLT2_ | exact hnk_), (show ze N131_ 81 12 ≤ 6 by first | assumption | omega | exact hrt_ | exact hrt2_ | exact hmx_ | exact hPm_ | exact hFn_ | exact hLT2_ | exact hnk_), (show zPm N131_ by first | assumption | omega | exact hrt_ | exact hrt2_ | exact hmx_ | exact hPm_ | exact hFn_ | exact hLT2_ | exact hnk_), (show zFin N131_ by first | assumption | omega | exact hrt_ | exact hrt2_ | exact hmx_ | exact hPm_ | exact hFn_ | exact hLT2_ | exact hnk_), (show (∃ q : Nat, zHd b_ n_ (ze Mz 81 4).toNat (ze N131_ 81 12).toNat q ∧ zRg (zbs b_ n_ (ze N131_ 81 12).toNat) (0, q, []) (1, (ze N131_ 81 4).toNat, zMvs N131_)) by first | assumption | omega | exact hrt_ | exact hrt2_ | exact hmx_ | exact hPm_ | exact hFn_ | exact hLT2_ | exact hnk_)⟩)) i138_ i139_
                · skip
                  exact absurd hc_50 (by decide)
        exact lp_43 _ N126_ zFr.rf hp0_N126_ (show 0 ≤ ze N126_ 81 13 by first | assumption | omega) (show ze N126_ 81 13 ≤ 4 by first | assumption | omega) (show ze N126_ 81 14 = 0 by first | assumption | omega) (show (1 ≤ ze N126_ 81 7 ∧ zTrB b_ n_ (ze Mz 81 4).toNat) ∨ (ze N126_ 81 7 = 0 ∧ 1 ≤ ze N126_ 81 12 ∧ ze N126_ 81 12 ≤ 6 ∧ zPm N126_ ∧ zFin N126_ ∧ (∃ q : Nat, zHd b_ n_ (ze Mz 81 4).toNat (ze N126_ 81 12).toNat q ∧ zRg (zbs b_ n_ (ze N126_ 81 12).toNat) (0, q, []) (0, (ze N126_ 81 4).toNat, zMvs N126_))) from Or.inl (⟨(show 1 ≤ ze N126_ 81 7 by first | assumption | omega | exact hrt_ | exact hrt2_ | exact hmv0_ | exact hP0_ | exact hF0_ | exact hLT0_ | exact hPb_ | exact hFb_), (show zTrB b_ n_ (ze Mz 81 4).toNat by first | assumption | omega | exact hrt_ | exact hrt2_ | exact hmv0_ | exact hP0_ | exact hF0_ | exact hLT0_ | exact hPb_ | exact hFb_)⟩)) c129_ c130_ (Nat.lt_succ_self _)
      · skip
        have hsg_ := ha40_2_hp1_N126_
        have hx3_ := ha40_3_hp1_N126_
        rw [hx2_] at hsg_ hx3_
        have hPn_ : (ze N126_ 81 12) = ze N95_ 81 12 := by omega
        have hHd_ : zHd b_ n_ (ze Mz 81 4).toNat (ze N126_ 81 12).toNat (ze N126_ 81 4).toNat := ⟨⟨hk1_, hks_⟩, ⟨hk2_, by omega, by omega, by omega⟩, hsg_, hx3_⟩
        have hmv0_ : (∃ q : Nat, zHd b_ n_ (ze Mz 81 4).toNat (ze N126_ 81 12).toNat q ∧ zRg (zbs b_ n_ (ze N126_ 81 12).toNat) (0, q, []) (0, (ze N126_ 81 4).toNat, zMvs N126_)) := ⟨_, hHd_, by rw [show zMvs N126_ = [] by unfold zMvs; rw [show (ze N126_ 81 13).toNat = 0 by omega]; rfl]; exact zRg.rf⟩
        have hP0_ : zPm N126_ := zPm_0 (by omega)
        have hF0_ : zFin N126_ := zFin_0 (by omega)
        show zW l m_M_reads (zn Mz + 0, zw Mz + 0) N126_ 43 [some (.ref 81)] [] (zpV [3, 4, 5, 6, 7, 8, 11, 12, 13, 14, 20, 25, 26, 38, 39, 41, 42, 43] [83, 85, 86, 87, 88, 89, 90, 91, 92, 93, 94, 95, 96, 97, 100, 101, 102] Mz (fun N => zRt b_ n_ N ∧ 0 ≤ ze N 81 13 ∧ ze N 81 13 ≤ 4 ∧ 0 ≤ ze N 81 14 ∧ ze N 81 14 ≤ 8 ∧ zB 83 24 0 5 N ∧ zB 85 144 0 5 N ∧ (((1 ≤ ze N 81 7 ∧ zTrB b_ n_ (ze Mz 81 4).toNat) ∨ (ze N 81 7 = 0 ∧ 1 ≤ ze N 81 12 ∧ ze N 81 12 ≤ 6 ∧ zPm N ∧ zFin N ∧ (∃ T : zGT, ∃ mv : List Nat, ∃ P : Nat, T ∈ gTabs ∧ zGB T N ∧ zTrP b_ n_ (ze Mz 81 4).toNat P mv T ∧ zMvs N = mv ∧ ze N 81 12 = (P : Int)))))))
        have lp_43 : ∀ (n : Nat) (N148_ : zMem) (hs149_ : zFr [3, 4, 5, 6, 7, 8, 11, 13, 20] [83, 85, 86, 87, 88] N126_ N148_) (i150_ : zRt b_ n_ N148_) (i151_ : 0 ≤ ze N148_ 81 13) (i152_ : ze N148_ 81 13 ≤ 4) (i153_ : ze N148_ 81 14 = 0) (i154_ : (1 ≤ ze N148_ 81 7 ∧ zTrB b_ n_ (ze Mz 81 4).toNat) ∨ (ze N148_ 81 7 = 0 ∧ 1 ≤ ze N148_ 81 12 ∧ ze N148_ 81 12 ≤ 6 ∧ zPm N148_ ∧ zFin N148_ ∧ (∃ q : Nat, zHd b_ n_ (ze Mz 81 4).toNat (ze N148_ 81 12).toNat q ∧ zRg (zbs b_ n_ (ze N148_ 81 12).toNat) (0, q, []) (0, (ze N148_ 81 4).toNat, zMvs N148_)))) (i155_ : zB 83 24 0 5 N148_) (i156_ : zB 85 144 0 5 N148_), zmF n_ N148_ < n → zW l m_M_reads (zn Mz + 0, zw Mz + 0) N148_ 43 [some (.ref 81)] [] (zpV [3, 4, 5, 6, 7, 8, 11, 12, 13, 14, 20, 25, 26, 38, 39, 41, 42, 43] [83, 85, 86, 87, 88, 89, 90, 91, 92, 93, 94, 95, 96, 97, 100, 101, 102] Mz (fun N => zRt b_ n_ N ∧ 0 ≤ ze N 81 13 ∧ ze N 81 13 ≤ 4 ∧ 0 ≤ ze N 81 14 ∧ ze N 81 14 ≤ 8 ∧ zB 83 24 0 5 N ∧ zB 85 144 0 5 N ∧ (((1 ≤ ze N 81 7 ∧ zTrB b_ n_ (ze Mz 81 4).toNat) ∨ (ze N 81 7 = 0 ∧ 1 ≤ ze N 81 12 ∧ ze N 81 12 ≤ 6 ∧ zPm N ∧ zFin N ∧ (∃ T : zGT, ∃ mv : List Nat, ∃ P : Nat, T ∈ gTabs ∧ zGB T N ∧ zTrP b_ n_ (ze Mz 81 4).toNat P mv T ∧ zMvs N = mv ∧ ze N 81 12 = (P : Int))))))) := by
          clear hs96_ i97_ i98_ i99_ hf_N95_ hb0_N95_ hb1_N95_ r3_N95_ r4_N95_ r5_N95_ r7_N95_ r12_N95_ e13_N95_ e14_N95_ c101_ c102_ c103_ hl37_0_i100_ hl37_4_i100_ hl37_5_i100_ hl37_6_i100_ hl37_7_i100_ hsN126_ e12_N126_ e13_N126_ e14_N126_ ha40_1_hp1_N126_ ha40_2_hp1_N126_ ha40_3_hp1_N126_ hPn_
          intro n
          induction n with
          | zero =>
            intro N148_ hs149_ i150_ i151_ i152_ i153_ i154_ i155_ i156_ h0
            exact absurd h0 (Nat.not_lt_zero _)
          | succ n ih_43 =>
            intro N148_ hs149_ i150_ i151_ i152_ i153_ i154_ i155_ i156_ hlt_43
            have hf_N148_ : zFr [3, 4, 5, 6, 7, 8, 11, 12, 13, 14, 20, 25, 26, 38, 39, 41, 42, 43] [83, 85, 86, 87, 88, 89, 90, 91, 92, 93, 94, 95, 96, 97, 100, 101, 102] Mz N148_ := hf_N126_.tr hs149_ (by decide) (by decide)
            have hb0_N148_ : zFr [3, 4, 5, 6, 7, 8, 11, 12, 13, 14, 20, 25, 26, 38, 39, 41, 42, 43] [83, 85, 86, 87, 88, 89, 90, 91, 92, 93, 94, 95, 96, 97, 100, 101, 102] Mz N148_ := hb0_N126_.tr hs149_ (by decide) (by decide)
            have hb1_N148_ : zFr [3, 4, 5, 6, 7, 8, 11, 12, 13, 20] [83, 85, 86, 87, 88] Mz N148_ := hb1_N126_.tr hs149_ (by decide) (by decide)
            have r3_N148_ := ze_r N148_ 81 3
            have r4_N148_ := ze_r N148_ 81 4
            have r5_N148_ := ze_r N148_ 81 5
            have r7_N148_ := ze_r N148_ 81 7
            have e12_N148_ : ze N148_ 81 12 = ze N126_ 81 12 := hs149_.e (by decide)
            have r13_N148_ := ze_r N148_ 81 13
            have e14_N148_ : ze N148_ 81 14 = ze N126_ 81 14 := hs149_.e (by decide)
            have c157_ : zRb b_ n_ N148_ := zRb.fr hs149_ c128_ (by decide) (by decide)
            rcases i154_ with ⟨hl43_0_i154_, hl43_1_i154_⟩ | ⟨hl43_0_i154_, hl43_1_i154_, hl43_2_i154_, hl43_3_i154_, hl43_4_i154_, hl43_5_i154_⟩
            · skip
              refine zw_aload_n (pc := 43) (n := 0) (x := 81) rfl d_M_reads_43 ?_
              refine zr_ldc2 (pc := 44) (n := 1836021349) (by decide) k_M_177 d_M_reads_44 ?_
              refine zr_callV (hf_N148_.w hW) hf_N148_.x (pc := 47) [.long (Int64.ofInt 1836021349)] [] l_M_312 (c_M_isWordF l N148_ (hf_N148_.w hW) 1836021349 (by decide) (by decide) b_ n_ i150_) rfl rfl rfl (by decide) (Nat.le_of_ble_eq_true rfl) d_M_reads_47 ?_
              rintro _ N158_ ⟨v159_, rfl, ⟨hv159_a, hv159_b⟩, hsN158_, hp0_N158_⟩
              obtain rfl := hsN158_.eq.symm
              replace hp0_N158_ : ((v159_ = 1 ∧ ze N148_ 81 7 = 0 ∧ zkd b_ n_ (ze N148_ 81 4).toNat = 1 ∧ zke8 b_ n_ (ze N148_ 81 4).toNat = 1836021349) ∨ (v159_ = 0 ∧ (ze N148_ 81 7 = 0 → ¬ (zkd b_ n_ (ze N148_ 81 4).toNat = 1 ∧ zke8 b_ n_ (ze N148_ 81 4).toNat = 1836021349)))) := hp0_N158_
              rcases hp0_N158_ with ⟨rfl, ha47_0_hp0_N158_, ha47_1_hp0_N158_, ha47_2_hp0_N158_⟩ | ⟨rfl, ha47_0_hp0_N158_⟩
              · skip
                exfalso; omega
              · skip
                show zW l m_M_reads (zn Mz + 0, zw Mz + 0) N148_ 50 [some (.ref 81)] [.int (Int32.ofInt 0)] (zpV [3, 4, 5, 6, 7, 8, 11, 12, 13, 14, 20, 25, 26, 38, 39, 41, 42, 43] [83, 85, 86, 87, 88, 89, 90, 91, 92, 93, 94, 95, 96, 97, 100, 101, 102] Mz (fun N => zRt b_ n_ N ∧ 0 ≤ ze N 81 13 ∧ ze N 81 13 ≤ 4 ∧ 0 ≤ ze N 81 14 ∧ ze N 81 14 ≤ 8 ∧ zB 83 24 0 5 N ∧ zB 85 144 0 5 N ∧ (((1 ≤ ze N 81 7 ∧ zTrB b_ n_ (ze Mz 81 4).toNat) ∨ (ze N 81 7 = 0 ∧ 1 ≤ ze N 81 12 ∧ ze N 81 12 ≤ 6 ∧ zPm N ∧ zFin N ∧ (∃ T : zGT, ∃ mv : List Nat, ∃ P : Nat, T ∈ gTabs ∧ zGB T N ∧ zTrP b_ n_ (ze Mz 81 4).toNat P mv T ∧ zMvs N = mv ∧ ze N 81 12 = (P : Int)))))))
                refine zr_if_eq (pc := 50) (tgt := 60) ⟨(by decide), (by decide)⟩ (by decide) d_M_reads_50 (fun hc_50 => ?_) (fun hc_50 => ?_)
                · skip
                  exact j_60 N148_ hb1_N148_ i150_ (show 0 ≤ ze N148_ 81 13 by first | assumption | omega) (show ze N148_ 81 13 ≤ 4 by first | assumption | omega) (show ze N148_ 81 14 = 0 by first | assumption | omega) (show (1 ≤ ze N148_ 81 7 ∧ zTrB b_ n_ (ze Mz 81 4).toNat) ∨ (ze N148_ 81 7 = 0 ∧ 1 ≤ ze N148_ 81 12 ∧ ze N148_ 81 12 ≤ 6 ∧ zPm N148_ ∧ zFin N148_ ∧ (∃ q : Nat, zHd b_ n_ (ze Mz 81 4).toNat (ze N148_ 81 12).toNat q ∧ zRg (zbs b_ n_ (ze N148_ 81 12).toNat) (0, q, []) (1, (ze N148_ 81 4).toNat, zMvs N148_))) from Or.inl (⟨(show 1 ≤ ze N148_ 81 7 by first | assumption | omega | exact hrt_ | exact hrt2_ | exact hmx_ | exact hPm_ | exact hFn_ | exact hLT2_ | exact hnk_), (show zTrB b_ n_ (ze Mz 81 4).toNat by first | assumption | omega | exact hrt_ | exact hrt2_ | exact hmx_ | exact hPm_ | exact hFn_ | exact hLT2_ | exact hnk_)⟩)) i155_ i156_
                · skip
                  exact absurd hc_50 (by decide)
            · skip
              have hPm_ := hl43_3_i154_
              have hFn_ := hl43_4_i154_
              have hmv_ := hl43_5_i154_
              refine zw_aload_n (pc := 43) (n := 0) (x := 81) rfl d_M_reads_43 ?_
              refine zr_ldc2 (pc := 44) (n := 1836021349) (by decide) k_M_177 d_M_reads_44 ?_
              refine zr_callV (hf_N148_.w hW) hf_N148_.x (pc := 47) [.long (Int64.ofInt 1836021349)] [] l_M_312 (c_M_isWordF l N148_ (hf_N148_.w hW) 1836021349 (by decide) (by decide) b_ n_ i150_) rfl rfl rfl (by decide) (Nat.le_of_ble_eq_true rfl) d_M_reads_47 ?_
              rintro _ N160_ ⟨v161_, rfl, ⟨hv161_a, hv161_b⟩, hsN160_, hp0_N160_⟩
              obtain rfl := hsN160_.eq.symm
              replace hp0_N160_ : ((v161_ = 1 ∧ ze N148_ 81 7 = 0 ∧ zkd b_ n_ (ze N148_ 81 4).toNat = 1 ∧ zke8 b_ n_ (ze N148_ 81 4).toNat = 1836021349) ∨ (v161_ = 0 ∧ (ze N148_ 81 7 = 0 → ¬ (zkd b_ n_ (ze N148_ 81 4).toNat = 1 ∧ zke8 b_ n_ (ze N148_ 81 4).toNat = 1836021349)))) := hp0_N160_
              rcases hp0_N160_ with ⟨rfl, ha47_0_hp0_N160_, ha47_1_hp0_N160_, ha47_2_hp0_N160_⟩ | ⟨rfl, ha47_0_hp0_N160_⟩
              · skip
                have hk1_ := ha47_1_hp0_N160_
                have hks_ := (zke8_w hk1_ (i := 1) (by decide)).mp ha47_2_hp0_N160_
                show zW l m_M_reads (zn Mz + 0, zw Mz + 0) N148_ 50 [some (.ref 81)] [.int (Int32.ofInt 1)] (zpV [3, 4, 5, 6, 7, 8, 11, 12, 13, 14, 20, 25, 26, 38, 39, 41, 42, 43] [83, 85, 86, 87, 88, 89, 90, 91, 92, 93, 94, 95, 96, 97, 100, 101, 102] Mz (fun N => zRt b_ n_ N ∧ 0 ≤ ze N 81 13 ∧ ze N 81 13 ≤ 4 ∧ 0 ≤ ze N 81 14 ∧ ze N 81 14 ≤ 8 ∧ zB 83 24 0 5 N ∧ zB 85 144 0 5 N ∧ (((1 ≤ ze N 81 7 ∧ zTrB b_ n_ (ze Mz 81 4).toNat) ∨ (ze N 81 7 = 0 ∧ 1 ≤ ze N 81 12 ∧ ze N 81 12 ≤ 6 ∧ zPm N ∧ zFin N ∧ (∃ T : zGT, ∃ mv : List Nat, ∃ P : Nat, T ∈ gTabs ∧ zGB T N ∧ zTrP b_ n_ (ze Mz 81 4).toNat P mv T ∧ zMvs N = mv ∧ ze N 81 12 = (P : Int)))))))
                refine zr_if_eq (pc := 50) (tgt := 60) ⟨(by decide), (by decide)⟩ (by decide) d_M_reads_50 (fun hc_50 => ?_) (fun hc_50 => ?_)
                · skip
                  exact absurd hc_50 (by decide)
                · skip
                  refine zw_aload_n (pc := 53) (n := 0) (x := 81) rfl d_M_reads_53 ?_
                  refine zr_callV (hf_N148_.w hW) hf_N148_.x (pc := 54) [] [] l_M_361 (c_M_moveLineF l N148_ (hf_N148_.w hW) b_ n_ c157_ i150_ (show ze N148_ 81 7 = 0 by first | assumption | omega) (show zkd b_ n_ (ze N148_ 81 4).toNat = 1 by first | assumption | omega) (show zkey b_ n_ (ze N148_ 81 4).toNat = zkw 1 by first | assumption | omega) (show 1 ≤ ze N148_ 81 12 by first | assumption | omega) (show ze N148_ 81 12 ≤ 6 by first | assumption | omega) (show 0 ≤ ze N148_ 81 13 by first | assumption | omega) (show ze N148_ 81 13 ≤ 4 by first | assumption | omega) hPm_ i155_ i156_) rfl rfl rfl (by decide) (Nat.le_of_ble_eq_true rfl) d_M_reads_54 ?_
                  rintro _ N162_ ⟨rfl, hsN162_, ⟨hp0_N162_, hp1_N162_, hp2_N162_, hp3_N162_, hp4_N162_, hp5_N162_⟩⟩
                  have hf_N162_ : zFr [3, 4, 5, 6, 7, 8, 11, 12, 13, 14, 20, 25, 26, 38, 39, 41, 42, 43] [83, 85, 86, 87, 88, 89, 90, 91, 92, 93, 94, 95, 96, 97, 100, 101, 102] Mz N162_ := hf_N148_.tr hsN162_ (by decide) (by decide)
                  have hb0_N162_ : zFr [3, 4, 5, 6, 7, 8, 11, 12, 13, 14, 20, 25, 26, 38, 39, 41, 42, 43] [83, 85, 86, 87, 88, 89, 90, 91, 92, 93, 94, 95, 96, 97, 100, 101, 102] Mz N162_ := hb0_N148_.tr hsN162_ (by decide) (by decide)
                  have hb1_N162_ : zFr [3, 4, 5, 6, 7, 8, 11, 12, 13, 20] [83, 85, 86, 87, 88] Mz N162_ := hb1_N148_.tr hsN162_ (by decide) (by decide)
                  have hb2_N162_ : zFr [3, 4, 5, 6, 7, 8, 11, 13, 20] [83, 85, 86, 87, 88] N126_ N162_ := hs149_.tr hsN162_ (by decide) (by decide)
                  have r3_N162_ := ze_r N162_ 81 3
                  have r4_N162_ := ze_r N162_ 81 4
                  have r5_N162_ := ze_r N162_ 81 5
                  have r7_N162_ := ze_r N162_ 81 7
                  have e12_N162_ : ze N162_ 81 12 = ze N148_ 81 12 := hsN162_.e (by decide)
                  have r13_N162_ := ze_r N162_ 81 13
                  have e14_N162_ : ze N162_ 81 14 = ze N148_ 81 14 := hsN162_.e (by decide)
                  have c164_ : zRb b_ n_ N162_ := zRb.fr hsN162_ c157_ (by decide) (by decide)
                  rcases hp5_N162_ with ⟨ha54_0_hp5_N162_, ha54_1_hp5_N162_⟩ | ⟨ha54_0_hp5_N162_, ha54_1_hp5_N162_, ha54_2_hp5_N162_, ha54_3_hp5_N162_, ha54_4_hp5_N162_⟩
                  · skip
                    have hrt_ : zTrB b_ n_ (ze Mz 81 4).toNat := by obtain ⟨q_, h1_, h2_⟩ := id hmv_; exact Or.inr (Or.inl ⟨_, q_, h1_, h2_.tr (zRg.st ha54_1_hp5_N162_)⟩)
                    show zW l m_M_reads (zn Mz + 0, zw Mz + 0) N162_ 57 [some (.ref 81)] [] (zpV [3, 4, 5, 6, 7, 8, 11, 12, 13, 14, 20, 25, 26, 38, 39, 41, 42, 43] [83, 85, 86, 87, 88, 89, 90, 91, 92, 93, 94, 95, 96, 97, 100, 101, 102] Mz (fun N => zRt b_ n_ N ∧ 0 ≤ ze N 81 13 ∧ ze N 81 13 ≤ 4 ∧ 0 ≤ ze N 81 14 ∧ ze N 81 14 ≤ 8 ∧ zB 83 24 0 5 N ∧ zB 85 144 0 5 N ∧ (((1 ≤ ze N 81 7 ∧ zTrB b_ n_ (ze Mz 81 4).toNat) ∨ (ze N 81 7 = 0 ∧ 1 ≤ ze N 81 12 ∧ ze N 81 12 ≤ 6 ∧ zPm N ∧ zFin N ∧ (∃ T : zGT, ∃ mv : List Nat, ∃ P : Nat, T ∈ gTabs ∧ zGB T N ∧ zTrP b_ n_ (ze Mz 81 4).toNat P mv T ∧ zMvs N = mv ∧ ze N 81 12 = (P : Int)))))))
                    refine zw_goto (pc := 57) (tgt := 43) (by decide) d_M_reads_57 ?_
                    exact ih_43 N162_ hb2_N162_ hp0_N162_ (show 0 ≤ ze N162_ 81 13 by first | assumption | omega) (show ze N162_ 81 13 ≤ 4 by first | assumption | omega) (show ze N162_ 81 14 = 0 by first | assumption | omega) (show (1 ≤ ze N162_ 81 7 ∧ zTrB b_ n_ (ze Mz 81 4).toNat) ∨ (ze N162_ 81 7 = 0 ∧ 1 ≤ ze N162_ 81 12 ∧ ze N162_ 81 12 ≤ 6 ∧ zPm N162_ ∧ zFin N162_ ∧ (∃ q : Nat, zHd b_ n_ (ze Mz 81 4).toNat (ze N162_ 81 12).toNat q ∧ zRg (zbs b_ n_ (ze N162_ 81 12).toNat) (0, q, []) (0, (ze N162_ 81 4).toNat, zMvs N162_))) from Or.inl (⟨(show 1 ≤ ze N162_ 81 7 by first | assumption | omega | exact hrt_ | exact hmv2_ | exact hPm2_ | exact hFn2_ | exact hLT3_ | exact hPb_ | exact hFb_), (show zTrB b_ n_ (ze Mz 81 4).toNat by first | assumption | omega | exact hrt_ | exact hmv2_ | exact hPm2_ | exact hFn2_ | exact hLT3_ | exact hPb_ | exact hFb_)⟩)) hp3_N162_ hp4_N162_ (by have m1_ := zmF_c n_ N162_; have m2_ := zmF_c n_ N148_; have m3_ := hp0_N162_.x; omega)
                  · skip
                    have hmv2_ : (∃ q : Nat, zHd b_ n_ (ze Mz 81 4).toNat (ze N162_ 81 12).toNat q ∧ zRg (zbs b_ n_ (ze N162_ 81 12).toNat) (0, q, []) (0, (ze N162_ 81 4).toNat, zMvs N162_)) := by obtain ⟨q_, h1_, h2_⟩ := id hmv_; rw [show ze N162_ 81 12 = ze N148_ 81 12 by omega]; exact ⟨q_, h1_, h2_.tr (zRg.st ha54_1_hp5_N162_)⟩
                    have hPm2_ := ha54_2_hp5_N162_
                    have hFn2_ := ha54_3_hp5_N162_
                    have hlt2_ := ha54_4_hp5_N162_
                    show zW l m_M_reads (zn Mz + 0, zw Mz + 0) N162_ 57 [some (.ref 81)] [] (zpV [3, 4, 5, 6, 7, 8, 11, 12, 13, 14, 20, 25, 26, 38, 39, 41, 42, 43] [83, 85, 86, 87, 88, 89, 90, 91, 92, 93, 94, 95, 96, 97, 100, 101, 102] Mz (fun N => zRt b_ n_ N ∧ 0 ≤ ze N 81 13 ∧ ze N 81 13 ≤ 4 ∧ 0 ≤ ze N 81 14 ∧ ze N 81 14 ≤ 8 ∧ zB 83 24 0 5 N ∧ zB 85 144 0 5 N ∧ (((1 ≤ ze N 81 7 ∧ zTrB b_ n_ (ze Mz 81 4).toNat) ∨ (ze N 81 7 = 0 ∧ 1 ≤ ze N 81 12 ∧ ze N 81 12 ≤ 6 ∧ zPm N ∧ zFin N ∧ (∃ T : zGT, ∃ mv : List Nat, ∃ P : Nat, T ∈ gTabs ∧ zGB T N ∧ zTrP b_ n_ (ze Mz 81 4).toNat P mv T ∧ zMvs N = mv ∧ ze N 81 12 = (P : Int)))))))
                    refine zw_goto (pc := 57) (tgt := 43) (by decide) d_M_reads_57 ?_
                    exact ih_43 N162_ hb2_N162_ hp0_N162_ (show 0 ≤ ze N162_ 81 13 by first | assumption | omega) (show ze N162_ 81 13 ≤ 4 by first | assumption | omega) (show ze N162_ 81 14 = 0 by first | assumption | omega) (show (1 ≤ ze N162_ 81 7 ∧ zTrB b_ n_ (ze Mz 81 4).toNat) ∨ (ze N162_ 81 7 = 0 ∧ 1 ≤ ze N162_ 81 12 ∧ ze N162_ 81 12 ≤ 6 ∧ zPm N162_ ∧ zFin N162_ ∧ (∃ q : Nat, zHd b_ n_ (ze Mz 81 4).toNat (ze N162_ 81 12).toNat q ∧ zRg (zbs b_ n_ (ze N162_ 81 12).toNat) (0, q, []) (0, (ze N162_ 81 4).toNat, zMvs N162_))) from Or.inr (⟨(show ze N162_ 81 7 = 0 by first | assumption | omega | exact hrt_ | exact hmv2_ | exact hPm2_ | exact hFn2_ | exact hLT3_ | exact hPb_ | exact hFb_), (show 1 ≤ ze N162_ 81 12 by first | assumption | omega | exact hrt_ | exact hmv2_ | exact hPm2_ | exact hFn2_ | exact hLT3_ | exact hPb_ | exact hFb_), (show ze N162_ 81 12 ≤ 6 by first | assumption | omega | exact hrt_ | exact hmv2_ | exact hPm2_ | exact hFn2_ | exact hLT3_ | exact hPb_ | exact hFb_), (show zPm N162_ by first | assumption | omega | exact hrt_ | exact hmv2_ | exact hPm2_ | exact hFn2_ | exact hLT3_ | exact hPb_ | exact hFb_), (show zFin N162_ by first | assumption | omega | exact hrt_ | exact hmv2_ | exact hPm2_ | exact hFn2_ | exact hLT3_ | exact hPb_ | exact hFb_), (show (∃ q : Nat, zHd b_ n_ (ze Mz 81 4).toNat (ze N162_ 81 12).toNat q ∧ zRg (zbs b_ n_ (ze N162_ 81 12).toNat) (0, q, []) (0, (ze N162_ 81 4).toNat, zMvs N162_)) by first | assumption | omega | exact hrt_ | exact hmv2_ | exact hPm2_ | exact hFn2_ | exact hLT3_ | exact hPb_ | exact hFb_)⟩)) hp3_N162_ hp4_N162_ (by have m1_ := zmF_c n_ N162_; have m2_ := zmF_c n_ N148_; have m3_ := hp0_N162_.x; omega)
              · skip
                have hnm2_ : ¬ (zkd b_ n_ (ze N148_ 81 4).toNat = 1 ∧ zkey b_ n_ (ze N148_ 81 4).toNat = zkw 1) := fun q_ => ha47_0_hp0_N160_ (by omega) ⟨q_.1, (zke8_w q_.1 (i := 1) (by decide)).mpr q_.2⟩
                have hmx_ : (∃ q : Nat, zHd b_ n_ (ze Mz 81 4).toNat (ze N148_ 81 12).toNat q ∧ zRg (zbs b_ n_ (ze N148_ 81 12).toNat) (0, q, []) (1, (ze N148_ 81 4).toNat, zMvs N148_)) := by obtain ⟨q_, h1_, h2_⟩ := id hmv_; exact ⟨q_, h1_, h2_.tr (zRg.st (zbs_e hnm2_))⟩
                show zW l m_M_reads (zn Mz + 0, zw Mz + 0) N148_ 50 [some (.ref 81)] [.int (Int32.ofInt 0)] (zpV [3, 4, 5, 6, 7, 8, 11, 12, 13, 14, 20, 25, 26, 38, 39, 41, 42, 43] [83, 85, 86, 87, 88, 89, 90, 91, 92, 93, 94, 95, 96, 97, 100, 101, 102] Mz (fun N => zRt b_ n_ N ∧ 0 ≤ ze N 81 13 ∧ ze N 81 13 ≤ 4 ∧ 0 ≤ ze N 81 14 ∧ ze N 81 14 ≤ 8 ∧ zB 83 24 0 5 N ∧ zB 85 144 0 5 N ∧ (((1 ≤ ze N 81 7 ∧ zTrB b_ n_ (ze Mz 81 4).toNat) ∨ (ze N 81 7 = 0 ∧ 1 ≤ ze N 81 12 ∧ ze N 81 12 ≤ 6 ∧ zPm N ∧ zFin N ∧ (∃ T : zGT, ∃ mv : List Nat, ∃ P : Nat, T ∈ gTabs ∧ zGB T N ∧ zTrP b_ n_ (ze Mz 81 4).toNat P mv T ∧ zMvs N = mv ∧ ze N 81 12 = (P : Int)))))))
                refine zr_if_eq (pc := 50) (tgt := 60) ⟨(by decide), (by decide)⟩ (by decide) d_M_reads_50 (fun hc_50 => ?_) (fun hc_50 => ?_)
                · skip
                  exact j_60 N148_ hb1_N148_ i150_ (show 0 ≤ ze N148_ 81 13 by first | assumption | omega) (show ze N148_ 81 13 ≤ 4 by first | assumption | omega) (show ze N148_ 81 14 = 0 by first | assumption | omega) (show (1 ≤ ze N148_ 81 7 ∧ zTrB b_ n_ (ze Mz 81 4).toNat) ∨ (ze N148_ 81 7 = 0 ∧ 1 ≤ ze N148_ 81 12 ∧ ze N148_ 81 12 ≤ 6 ∧ zPm N148_ ∧ zFin N148_ ∧ (∃ q : Nat, zHd b_ n_ (ze Mz 81 4).toNat (ze N148_ 81 12).toNat q ∧ zRg (zbs b_ n_ (ze N148_ 81 12).toNat) (0, q, []) (1, (ze N148_ 81 4).toNat, zMvs N148_))) from Or.inr (⟨(show ze N148_ 81 7 = 0 by first | assumption | omega | exact hrt_ | exact hrt2_ | exact hmx_ | exact hPm_ | exact hFn_ | exact hLT2_ | exact hnk_), (show 1 ≤ ze N148_ 81 12 by first | assumption | omega | exact hrt_ | exact hrt2_ | exact hmx_ | exact hPm_ | exact hFn_ | exact hLT2_ | exact hnk_), (show ze N148_ 81 12 ≤ 6 by first | assumption | omega | exact hrt_ | exact hrt2_ | exact hmx_ | exact hPm_ | exact hFn_ | exact hLT2_ | exact hnk_), (show zPm N148_ by first | assumption | omega | exact hrt_ | exact hrt2_ | exact hmx_ | exact hPm_ | exact hFn_ | exact hLT2_ | exact hnk_), (show zFin N148_ by first | assumption | omega | exact hrt_ | exact hrt2_ | exact hmx_ | exact hPm_ | exact hFn_ | exact hLT2_ | exact hnk_), (show (∃ q : Nat, zHd b_ n_ (ze Mz 81 4).toNat (ze N148_ 81 12).toNat q ∧ zRg (zbs b_ n_ (ze N148_ 81 12).toNat) (0, q, []) (1, (ze N148_ 81 4).toNat, zMvs N148_)) by first | assumption | omega | exact hrt_ | exact hrt2_ | exact hmx_ | exact hPm_ | exact hFn_ | exact hLT2_ | exact hnk_)⟩)) i155_ i156_
                · skip
                  exact absurd hc_50 (by decide)
        exact lp_43 _ N126_ zFr.rf hp0_N126_ (show 0 ≤ ze N126_ 81 13 by first | assumption | omega) (show ze N126_ 81 13 ≤ 4 by first | assumption | omega) (show ze N126_ 81 14 = 0 by first | assumption | omega) (show (1 ≤ ze N126_ 81 7 ∧ zTrB b_ n_ (ze Mz 81 4).toNat) ∨ (ze N126_ 81 7 = 0 ∧ 1 ≤ ze N126_ 81 12 ∧ ze N126_ 81 12 ≤ 6 ∧ zPm N126_ ∧ zFin N126_ ∧ (∃ q : Nat, zHd b_ n_ (ze Mz 81 4).toNat (ze N126_ 81 12).toNat q ∧ zRg (zbs b_ n_ (ze N126_ 81 12).toNat) (0, q, []) (0, (ze N126_ 81 4).toNat, zMvs N126_))) from Or.inr (⟨(show ze N126_ 81 7 = 0 by first | assumption | omega | exact hrt_ | exact hrt2_ | exact hmv0_ | exact hP0_ | exact hF0_ | exact hLT0_ | exact hPb_ | exact hFb_), (show 1 ≤ ze N126_ 81 12 by first | assumption | omega | exact hrt_ | exact hrt2_ | exact hmv0_ | exact hP0_ | exact hF0_ | exact hLT0_ | exact hPb_ | exact hFb_), (show ze N126_ 81 12 ≤ 6 by first | assumption | omega | exact hrt_ | exact hrt2_ | exact hmv0_ | exact hP0_ | exact hF0_ | exact hLT0_ | exact hPb_ | exact hFb_), (show zPm N126_ by first | assumption | omega | exact hrt_ | exact hrt2_ | exact hmv0_ | exact hP0_ | exact hF0_ | exact hLT0_ | exact hPb_ | exact hFb_), (show zFin N126_ by first | assumption | omega | exact hrt_ | exact hrt2_ | exact hmv0_ | exact hP0_ | exact hF0_ | exact hLT0_ | exact hPb_ | exact hFb_), (show (∃ q : Nat, zHd b_ n_ (ze Mz 81 4).toNat (ze N126_ 81 12).toNat q ∧ zRg (zbs b_ n_ (ze N126_ 81 12).toNat) (0, q, []) (0, (ze N126_ 81 4).toNat, zMvs N126_)) by first | assumption | omega | exact hrt_ | exact hrt2_ | exact hmv0_ | exact hP0_ | exact hF0_ | exact hLT0_ | exact hPb_ | exact hFb_)⟩)) c129_ c130_ (Nat.lt_succ_self _)
  refine zw_aload_n (pc := 0) (n := 0) (x := 81) rfl d_M_reads_0 ?_
  refine zr_ldc2 (pc := 1) (n := 123610792682867) (by decide) k_M_175 d_M_reads_1 ?_
  refine zr_callV (hf.w hW) hf.x (pc := 4) [.long (Int64.ofInt 123610792682867)] [] l_M_312 (c_M_isWordF l Mz (hf.w hW) 123610792682867 (by decide) (by decide) b_ n_ p1_) rfl rfl rfl (by decide) (Nat.le_of_ble_eq_true rfl) d_M_reads_4 ?_
  rintro _ N165_ ⟨v166_, rfl, ⟨hv166_a, hv166_b⟩, hsN165_, hp0_N165_⟩
  obtain rfl := hsN165_.eq.symm
  replace hp0_N165_ : ((v166_ = 1 ∧ ze Mz 81 7 = 0 ∧ zkd b_ n_ (ze Mz 81 4).toNat = 1 ∧ zke8 b_ n_ (ze Mz 81 4).toNat = 123610792682867) ∨ (v166_ = 0 ∧ (ze Mz 81 7 = 0 → ¬ (zkd b_ n_ (ze Mz 81 4).toNat = 1 ∧ zke8 b_ n_ (ze Mz 81 4).toNat = 123610792682867)))) := hp0_N165_
  rcases hp0_N165_ with ⟨rfl, ha4_0_hp0_N165_, ha4_1_hp0_N165_, ha4_2_hp0_N165_⟩ | ⟨rfl, ha4_0_hp0_N165_⟩
  · skip
    have hk1_ := ha4_1_hp0_N165_
    have hks_ := (zke8_w hk1_ (i := 0) (by decide)).mp ha4_2_hp0_N165_
    show zW l m_M_reads (zn Mz + 0, zw Mz + 0) Mz 7 [some (.ref 81)] [.int (Int32.ofInt 1)] (zpV [3, 4, 5, 6, 7, 8, 11, 12, 13, 14, 20, 25, 26, 38, 39, 41, 42, 43] [83, 85, 86, 87, 88, 89, 90, 91, 92, 93, 94, 95, 96, 97, 100, 101, 102] Mz (fun N => zRt b_ n_ N ∧ 0 ≤ ze N 81 13 ∧ ze N 81 13 ≤ 4 ∧ 0 ≤ ze N 81 14 ∧ ze N 81 14 ≤ 8 ∧ zB 83 24 0 5 N ∧ zB 85 144 0 5 N ∧ (((1 ≤ ze N 81 7 ∧ zTrB b_ n_ (ze Mz 81 4).toNat) ∨ (ze N 81 7 = 0 ∧ 1 ≤ ze N 81 12 ∧ ze N 81 12 ≤ 6 ∧ zPm N ∧ zFin N ∧ (∃ T : zGT, ∃ mv : List Nat, ∃ P : Nat, T ∈ gTabs ∧ zGB T N ∧ zTrP b_ n_ (ze Mz 81 4).toNat P mv T ∧ zMvs N = mv ∧ ze N 81 12 = (P : Int)))))))
    refine zr_if_ne (pc := 7) (tgt := 15) ⟨(by decide), (by decide)⟩ (by decide) d_M_reads_7 (fun hc_7 => ?_) (fun hc_7 => ?_)
    · skip
      refine zw_aload_n (pc := 15) (n := 0) (x := 81) rfl d_M_reads_15 ?_
      refine zr_callV (hf.w hW) hf.x (pc := 16) [] [] l_M_183 (c_M_isGood l Mz (hf.w hW) ) rfl rfl rfl (by decide) (Nat.le_of_ble_eq_true rfl) d_M_reads_16 ?_
      rintro _ N167_ ⟨v168_, rfl, ⟨hv168_a, hv168_b⟩, hsN167_, hp0_N167_⟩
      obtain rfl := hsN167_.eq.symm
      replace hp0_N167_ : ((v168_ = 1 ∧ ze Mz 81 7 = 0) ∨ (v168_ = 0 ∧ ze Mz 81 7 ≠ 0)) := hp0_N167_
      rcases hp0_N167_ with ⟨rfl, ha16_0_hp0_N167_⟩ | ⟨rfl, ha16_0_hp0_N167_⟩
      · skip
        show zW l m_M_reads (zn Mz + 0, zw Mz + 0) Mz 19 [some (.ref 81)] [.int (Int32.ofInt 1)] (zpV [3, 4, 5, 6, 7, 8, 11, 12, 13, 14, 20, 25, 26, 38, 39, 41, 42, 43] [83, 85, 86, 87, 88, 89, 90, 91, 92, 93, 94, 95, 96, 97, 100, 101, 102] Mz (fun N => zRt b_ n_ N ∧ 0 ≤ ze N 81 13 ∧ ze N 81 13 ≤ 4 ∧ 0 ≤ ze N 81 14 ∧ ze N 81 14 ≤ 8 ∧ zB 83 24 0 5 N ∧ zB 85 144 0 5 N ∧ (((1 ≤ ze N 81 7 ∧ zTrB b_ n_ (ze Mz 81 4).toNat) ∨ (ze N 81 7 = 0 ∧ 1 ≤ ze N 81 12 ∧ ze N 81 12 ≤ 6 ∧ zPm N ∧ zFin N ∧ (∃ T : zGT, ∃ mv : List Nat, ∃ P : Nat, T ∈ gTabs ∧ zGB T N ∧ zTrP b_ n_ (ze Mz 81 4).toNat P mv T ∧ zMvs N = mv ∧ ze N 81 12 = (P : Int)))))))
        refine zr_if_eq (pc := 19) (tgt := 26) ⟨(by decide), (by decide)⟩ (by decide) d_M_reads_19 (fun hc_19 => ?_) (fun hc_19 => ?_)
        · skip
          exact absurd hc_19 (by decide)
        · skip
          have hyt_ := p1_
          have hyx_ := hyt_.x
          refine zw_aload_n (pc := 22) (n := 0) (x := 81) rfl d_M_reads_22 ?_
          refine zr_callV (hf.w hW) hf.x (pc := 23) [] [] l_M_193 (c_M_goOnF l Mz (hf.w hW) b_ n_ p0_ (show 0 ≤ ze Mz 81 3 by first | assumption | omega) (show ze Mz 81 3 ≤ n_ by first | assumption | omega)) rfl rfl rfl (by decide) (Nat.le_of_ble_eq_true rfl) d_M_reads_23 ?_
          rintro _ N169_ ⟨rfl, hsN169_, ⟨hp0_N169_, hp1_N169_⟩⟩
          have hf_N169_ : zFr [3, 4, 5, 6, 7, 8, 11, 12, 13, 14, 20, 25, 26, 38, 39, 41, 42, 43] [83, 85, 86, 87, 88, 89, 90, 91, 92, 93, 94, 95, 96, 97, 100, 101, 102] Mz N169_ := hf.tr hsN169_ (by decide) (by decide)
          have hb0_N169_ : zFr [3, 4, 5, 6, 7, 8, 11, 12, 13, 14, 20, 25, 26, 38, 39, 41, 42, 43] [83, 85, 86, 87, 88, 89, 90, 91, 92, 93, 94, 95, 96, 97, 100, 101, 102] Mz N169_ := zFr.rf.tr hsN169_ (by decide) (by decide)
          have hb1_N169_ : zFr [3, 4, 5, 6, 7, 8, 11, 12, 13, 20] [83, 85, 86, 87, 88] Mz N169_ := zFr.rf.tr hsN169_ (by decide) (by decide)
          have hb2_N169_ : zFr [3, 4, 5, 6, 7, 8, 11, 12] [] Mz N169_ := zFr.rf.tr hsN169_ (by decide) (by decide)
          have r3_N169_ := ze_r N169_ 81 3
          have r4_N169_ := ze_r N169_ 81 4
          have r5_N169_ := ze_r N169_ 81 5
          have e7_N169_ : ze N169_ 81 7 = ze Mz 81 7 := hsN169_.e (by decide)
          have e12_N169_ : ze N169_ 81 12 = ze Mz 81 12 := hsN169_.e (by decide)
          have e13_N169_ : ze N169_ 81 13 = ze Mz 81 13 := hsN169_.e (by decide)
          have e14_N169_ : ze N169_ 81 14 = ze Mz 81 14 := hsN169_.e (by decide)
          have c171_ : zRb b_ n_ N169_ := zRb.fr hsN169_ p0_ (by decide) (by decide)
          have c172_ : zB 83 24 0 5 N169_ := zB.fr hsN169_ p5_ (by decide) (by decide)
          have c173_ : zB 85 144 0 5 N169_ := zB.fr hsN169_ p6_ (by decide) (by decide)
          show zW l m_M_reads (zn Mz + 0, zw Mz + 0) N169_ 26 [some (.ref 81)] [] (zpV [3, 4, 5, 6, 7, 8, 11, 12, 13, 14, 20, 25, 26, 38, 39, 41, 42, 43] [83, 85, 86, 87, 88, 89, 90, 91, 92, 93, 94, 95, 96, 97, 100, 101, 102] Mz (fun N => zRt b_ n_ N ∧ 0 ≤ ze N 81 13 ∧ ze N 81 13 ≤ 4 ∧ 0 ≤ ze N 81 14 ∧ ze N 81 14 ≤ 8 ∧ zB 83 24 0 5 N ∧ zB 85 144 0 5 N ∧ (((1 ≤ ze N 81 7 ∧ zTrB b_ n_ (ze Mz 81 4).toNat) ∨ (ze N 81 7 = 0 ∧ 1 ≤ ze N 81 12 ∧ ze N 81 12 ≤ 6 ∧ zPm N ∧ zFin N ∧ (∃ T : zGT, ∃ mv : List Nat, ∃ P : Nat, T ∈ gTabs ∧ zGB T N ∧ zTrP b_ n_ (ze Mz 81 4).toNat P mv T ∧ zMvs N = mv ∧ ze N 81 12 = (P : Int)))))))
          have hnn_ := hyt_.nx hp0_N169_
          have hx1_ := hnn_.2
          have hg1_ := znx_g (b := b_) (n := n_) (s := (ze Mz 81 4).toNat) (by omega)
          refine zw_aload_n (pc := 26) (n := 0) (x := 81) rfl d_M_reads_26 ?_
          refine zw_aload_n (pc := 27) (n := 0) (x := 81) rfl d_M_reads_27 ?_
          refine zw_iconst (pc := 28) (v := Int32.ofInt 1) (by decide) d_M_reads_28 ?_
          refine zw_bipush (pc := 29) (v := Int32.ofInt 6) (by decide) d_M_reads_29 ?_
          refine zr_callV (hf_N169_.w hW) hf_N169_.x (pc := 31) [.int (Int32.ofInt 1), .int (Int32.ofInt 6)] [.ref 81] l_M_322 (c_M_numberF l N169_ (hf_N169_.w hW) 1 (by decide) (by decide) 6 (by decide) (by decide) b_ n_ c171_ hp1_N169_ (show 0 ≤ ze N169_ 81 7 by first | assumption | omega)) rfl rfl rfl (by decide) (Nat.le_of_ble_eq_true rfl) d_M_reads_31 ?_
          rintro _ N174_ ⟨v175_, rfl, ⟨hv175_a, hv175_b⟩, hsN174_, ⟨hp0_N174_, hp1_N174_⟩⟩
          have hf_N174_ : zFr [3, 4, 5, 6, 7, 8, 11, 12, 13, 14, 20, 25, 26, 38, 39, 41, 42, 43] [83, 85, 86, 87, 88, 89, 90, 91, 92, 93, 94, 95, 96, 97, 100, 101, 102] Mz N174_ := hf_N169_.tr hsN174_ (by decide) (by decide)
          have hb0_N174_ : zFr [3, 4, 5, 6, 7, 8, 11, 12, 13, 14, 20, 25, 26, 38, 39, 41, 42, 43] [83, 85, 86, 87, 88, 89, 90, 91, 92, 93, 94, 95, 96, 97, 100, 101, 102] Mz N174_ := hb0_N169_.tr hsN174_ (by decide) (by decide)
          have hb1_N174_ : zFr [3, 4, 5, 6, 7, 8, 11, 12, 13, 20] [83, 85, 86, 87, 88] Mz N174_ := hb1_N169_.tr hsN174_ (by decide) (by decide)
          have hb2_N174_ : zFr [3, 4, 5, 6, 7, 8, 11, 12] [] Mz N174_ := hb2_N169_.tr hsN174_ (by decide) (by decide)
          have r3_N174_ := ze_r N174_ 81 3
          have r4_N174_ := ze_r N174_ 81 4
          have r5_N174_ := ze_r N174_ 81 5
          have r7_N174_ := ze_r N174_ 81 7
          have e12_N174_ : ze N174_ 81 12 = ze N169_ 81 12 := hsN174_.e (by decide)
          have e13_N174_ : ze N174_ 81 13 = ze N169_ 81 13 := hsN174_.e (by decide)
          have e14_N174_ : ze N174_ 81 14 = ze N169_ 81 14 := hsN174_.e (by decide)
          have c176_ : zRb b_ n_ N174_ := zRb.fr hsN174_ c171_ (by decide) (by decide)
          have c177_ : zB 83 24 0 5 N174_ := zB.fr hsN174_ c172_ (by decide) (by decide)
          have c178_ : zB 85 144 0 5 N174_ := zB.fr hsN174_ c173_ (by decide) (by decide)
          rcases hp1_N174_ with ⟨ha31_0_hp1_N174_, ha31_1_hp1_N174_⟩ | ⟨ha31_0_hp1_N174_, ha31_1_hp1_N174_, ha31_2_hp1_N174_, ha31_3_hp1_N174_, ha31_4_hp1_N174_⟩
          · skip
            have hrt2_ : zTrB b_ n_ (ze Mz 81 4).toNat := by first | exact hrt_ | exact Or.inl (fun ⟨P_, q_, h_⟩ => ha31_1_hp1_N174_ (by omega) (by rw [hx1_]; have h1_ := h_.2.1; exact ⟨h1_.1, by omega, by omega⟩))
            show zW l m_M_reads (zn Mz + 0, zw Mz + 0) N174_ 34 [some (.ref 81)] [.int (Int32.ofInt v175_), .ref 81] (zpV [3, 4, 5, 6, 7, 8, 11, 12, 13, 14, 20, 25, 26, 38, 39, 41, 42, 43] [83, 85, 86, 87, 88, 89, 90, 91, 92, 93, 94, 95, 96, 97, 100, 101, 102] Mz (fun N => zRt b_ n_ N ∧ 0 ≤ ze N 81 13 ∧ ze N 81 13 ≤ 4 ∧ 0 ≤ ze N 81 14 ∧ ze N 81 14 ≤ 8 ∧ zB 83 24 0 5 N ∧ zB 85 144 0 5 N ∧ (((1 ≤ ze N 81 7 ∧ zTrB b_ n_ (ze Mz 81 4).toNat) ∨ (ze N 81 7 = 0 ∧ 1 ≤ ze N 81 12 ∧ ze N 81 12 ≤ 6 ∧ zPm N ∧ zFin N ∧ (∃ T : zGT, ∃ mv : List Nat, ∃ P : Nat, T ∈ gTabs ∧ zGB T N ∧ zTrP b_ n_ (ze Mz 81 4).toNat P mv T ∧ zMvs N = mv ∧ ze N 81 12 = (P : Int)))))))
            refine zr_putI (hf_N174_.w hW) (pc := 34) f_M_115 rfl rfl ⟨by omega, by omega⟩ rfl rfl d_M_reads_34 (fun N179_ hsN179_ hvN179_ => ?_)
            have hf_N179_ : zFr [3, 4, 5, 6, 7, 8, 11, 12, 13, 14, 20, 25, 26, 38, 39, 41, 42, 43] [83, 85, 86, 87, 88, 89, 90, 91, 92, 93, 94, 95, 96, 97, 100, 101, 102] Mz N179_ := hf_N174_.tr hsN179_ (by decide) (by decide)
            have hb0_N179_ : zFr [3, 4, 5, 6, 7, 8, 11, 12, 13, 14, 20, 25, 26, 38, 39, 41, 42, 43] [83, 85, 86, 87, 88, 89, 90, 91, 92, 93, 94, 95, 96, 97, 100, 101, 102] Mz N179_ := hb0_N174_.tr hsN179_ (by decide) (by decide)
            have hb1_N179_ : zFr [3, 4, 5, 6, 7, 8, 11, 12, 13, 20] [83, 85, 86, 87, 88] Mz N179_ := hb1_N174_.tr hsN179_ (by decide) (by decide)
            have hb2_N179_ : zFr [3, 4, 5, 6, 7, 8, 11, 12] [] Mz N179_ := hb2_N174_.tr hsN179_ (by decide) (by decide)
            have e3_N179_ : ze N179_ 81 3 = ze N174_ 81 3 := hsN179_.e (by decide)
            have e4_N179_ : ze N179_ 81 4 = ze N174_ 81 4 := hsN179_.e (by decide)
            have e5_N179_ : ze N179_ 81 5 = ze N174_ 81 5 := hsN179_.e (by decide)
            have e7_N179_ : ze N179_ 81 7 = ze N174_ 81 7 := hsN179_.e (by decide)
            have r12_N179_ := ze_r N179_ 81 12
            have e13_N179_ : ze N179_ 81 13 = ze N174_ 81 13 := hsN179_.e (by decide)
            have e14_N179_ : ze N179_ 81 14 = ze N174_ 81 14 := hsN179_.e (by decide)
            have c180_ : zRb b_ n_ N179_ := zRb.fr hsN179_ c176_ (by decide) (by decide)
            have c181_ : zB 83 24 0 5 N179_ := zB.fr hsN179_ c177_ (by decide) (by decide)
            have c182_ : zB 85 144 0 5 N179_ := zB.fr hsN179_ c178_ (by decide) (by decide)
            have c183_ : zRt b_ n_ N179_ := zRt.fr hsN179_ hp0_N174_ (by decide) (by decide)
            exact j_37 N179_ hb2_N179_ c183_ (show ze N179_ 81 13 = 0 by first | assumption | omega) (show ze N179_ 81 14 = 0 by first | assumption | omega) (show (1 ≤ ze N179_ 81 7 ∧ zTrB b_ n_ (ze Mz 81 4).toNat) ∨ (ze N179_ 81 7 = 0 ∧ zkd b_ n_ (ze Mz 81 4).toNat = 1 ∧ zkey b_ n_ (ze Mz 81 4).toNat = zkw 0 ∧ zkd b_ n_ (znx b_ n_ (ze Mz 81 4).toNat) = 2 ∧ znu b_ n_ (znx b_ n_ (ze Mz 81 4).toNat) = ze N179_ 81 12 ∧ 1 ≤ ze N179_ 81 12 ∧ ze N179_ 81 12 ≤ 6 ∧ (ze N179_ 81 4).toNat = znx b_ n_ (znx b_ n_ (ze Mz 81 4).toNat)) from Or.inl (⟨(show 1 ≤ ze N179_ 81 7 by first | assumption | omega | exact hrt_ | exact hrt2_ | exact hmx_ | exact hPm_ | exact hFn_ | exact hLT2_ | exact hnk_), (show zTrB b_ n_ (ze Mz 81 4).toNat by first | assumption | omega | exact hrt_ | exact hrt2_ | exact hmx_ | exact hPm_ | exact hFn_ | exact hLT2_ | exact hnk_)⟩))
          · skip
            have hnu_ := ha31_2_hp1_N174_
            have hnv_ := ha31_3_hp1_N174_
            have hx2_ := ha31_4_hp1_N174_
            rw [hx1_] at hnu_ hnv_ hx2_
            obtain ⟨hk2_, hlo_, hhi_⟩ := hnu_
            show zW l m_M_reads (zn Mz + 0, zw Mz + 0) N174_ 34 [some (.ref 81)] [.int (Int32.ofInt v175_), .ref 81] (zpV [3, 4, 5, 6, 7, 8, 11, 12, 13, 14, 20, 25, 26, 38, 39, 41, 42, 43] [83, 85, 86, 87, 88, 89, 90, 91, 92, 93, 94, 95, 96, 97, 100, 101, 102] Mz (fun N => zRt b_ n_ N ∧ 0 ≤ ze N 81 13 ∧ ze N 81 13 ≤ 4 ∧ 0 ≤ ze N 81 14 ∧ ze N 81 14 ≤ 8 ∧ zB 83 24 0 5 N ∧ zB 85 144 0 5 N ∧ (((1 ≤ ze N 81 7 ∧ zTrB b_ n_ (ze Mz 81 4).toNat) ∨ (ze N 81 7 = 0 ∧ 1 ≤ ze N 81 12 ∧ ze N 81 12 ≤ 6 ∧ zPm N ∧ zFin N ∧ (∃ T : zGT, ∃ mv : List Nat, ∃ P : Nat, T ∈ gTabs ∧ zGB T N ∧ zTrP b_ n_ (ze Mz 81 4).toNat P mv T ∧ zMvs N = mv ∧ ze N 81 12 = (P : Int)))))))
            refine zr_putI (hf_N174_.w hW) (pc := 34) f_M_115 rfl rfl ⟨by omega, by omega⟩ rfl rfl d_M_reads_34 (fun N184_ hsN184_ hvN184_ => ?_)
            have hf_N184_ : zFr [3, 4, 5, 6, 7, 8, 11, 12, 13, 14, 20, 25, 26, 38, 39, 41, 42, 43] [83, 85, 86, 87, 88, 89, 90, 91, 92, 93, 94, 95, 96, 97, 100, 101, 102] Mz N184_ := hf_N174_.tr hsN184_ (by decide) (by decide)
            have hb0_N184_ : zFr [3, 4, 5, 6, 7, 8, 11, 12, 13, 14, 20, 25, 26, 38, 39, 41, 42, 43] [83, 85, 86, 87, 88, 89, 90, 91, 92, 93, 94, 95, 96, 97, 100, 101, 102] Mz N184_ := hb0_N174_.tr hsN184_ (by decide) (by decide)
            have hb1_N184_ : zFr [3, 4, 5, 6, 7, 8, 11, 12, 13, 20] [83, 85, 86, 87, 88] Mz N184_ := hb1_N174_.tr hsN184_ (by decide) (by decide)
            have hb2_N184_ : zFr [3, 4, 5, 6, 7, 8, 11, 12] [] Mz N184_ := hb2_N174_.tr hsN184_ (by decide) (by decide)
            have e3_N184_ : ze N184_ 81 3 = ze N174_ 81 3 := hsN184_.e (by decide)
            have e4_N184_ : ze N184_ 81 4 = ze N174_ 81 4 := hsN184_.e (by decide)
            have e5_N184_ : ze N184_ 81 5 = ze N174_ 81 5 := hsN184_.e (by decide)
            have e7_N184_ : ze N184_ 81 7 = ze N174_ 81 7 := hsN184_.e (by decide)
            have r12_N184_ := ze_r N184_ 81 12
            have e13_N184_ : ze N184_ 81 13 = ze N174_ 81 13 := hsN184_.e (by decide)
            have e14_N184_ : ze N184_ 81 14 = ze N174_ 81 14 := hsN184_.e (by decide)
            have c185_ : zRb b_ n_ N184_ := zRb.fr hsN184_ c176_ (by decide) (by decide)
            have c186_ : zB 83 24 0 5 N184_ := zB.fr hsN184_ c177_ (by decide) (by decide)
            have c187_ : zB 85 144 0 5 N184_ := zB.fr hsN184_ c178_ (by decide) (by decide)
            have c188_ : zRt b_ n_ N184_ := zRt.fr hsN184_ hp0_N174_ (by decide) (by decide)
            exact j_37 N184_ hb2_N184_ c188_ (show ze N184_ 81 13 = 0 by first | assumption | omega) (show ze N184_ 81 14 = 0 by first | assumption | omega) (show (1 ≤ ze N184_ 81 7 ∧ zTrB b_ n_ (ze Mz 81 4).toNat) ∨ (ze N184_ 81 7 = 0 ∧ zkd b_ n_ (ze Mz 81 4).toNat = 1 ∧ zkey b_ n_ (ze Mz 81 4).toNat = zkw 0 ∧ zkd b_ n_ (znx b_ n_ (ze Mz 81 4).toNat) = 2 ∧ znu b_ n_ (znx b_ n_ (ze Mz 81 4).toNat) = ze N184_ 81 12 ∧ 1 ≤ ze N184_ 81 12 ∧ ze N184_ 81 12 ≤ 6 ∧ (ze N184_ 81 4).toNat = znx b_ n_ (znx b_ n_ (ze Mz 81 4).toNat)) from Or.inr (⟨(show ze N184_ 81 7 = 0 by first | assumption | omega | exact hrt_ | exact hrt2_ | exact hmx_ | exact hPm_ | exact hFn_ | exact hLT2_ | exact hnk_), (show zkd b_ n_ (ze Mz 81 4).toNat = 1 by first | assumption | omega | exact hrt_ | exact hrt2_ | exact hmx_ | exact hPm_ | exact hFn_ | exact hLT2_ | exact hnk_), (show zkey b_ n_ (ze Mz 81 4).toNat = zkw 0 by first | assumption | omega | exact hrt_ | exact hrt2_ | exact hmx_ | exact hPm_ | exact hFn_ | exact hLT2_ | exact hnk_), (show zkd b_ n_ (znx b_ n_ (ze Mz 81 4).toNat) = 2 by first | assumption | omega | exact hrt_ | exact hrt2_ | exact hmx_ | exact hPm_ | exact hFn_ | exact hLT2_ | exact hnk_), (show znu b_ n_ (znx b_ n_ (ze Mz 81 4).toNat) = ze N184_ 81 12 by first | assumption | omega | exact hrt_ | exact hrt2_ | exact hmx_ | exact hPm_ | exact hFn_ | exact hLT2_ | exact hnk_), (show 1 ≤ ze N184_ 81 12 by first | assumption | omega | exact hrt_ | exact hrt2_ | exact hmx_ | exact hPm_ | exact hFn_ | exact hLT2_ | exact hnk_), (show ze N184_ 81 12 ≤ 6 by first | assumption | omega | exact hrt_ | exact hrt2_ | exact hmx_ | exact hPm_ | exact hFn_ | exact hLT2_ | exact hnk_), (show (ze N184_ 81 4).toNat = znx b_ n_ (znx b_ n_ (ze Mz 81 4).toNat) by first | assumption | omega | exact hrt_ | exact hrt2_ | exact hmx_ | exact hPm_ | exact hFn_ | exact hLT2_ | exact hnk_)⟩))
      · skip
        exfalso; omega
    · skip
      exact absurd hc_7 (by decide)
  · skip
    have hng_ : ¬ (zkd b_ n_ (ze Mz 81 4).toNat = 1 ∧ zkey b_ n_ (ze Mz 81 4).toNat = zkw 0) := fun q_ => ha4_0_hp0_N165_ p2_ ⟨q_.1, (zke8_w q_.1 (i := 0) (by decide)).mpr q_.2⟩
    have hrt_ : zTrB b_ n_ (ze Mz 81 4).toNat := Or.inl (fun ⟨P_, q_, h_⟩ => hng_ h_.1)
    show zW l m_M_reads (zn Mz + 0, zw Mz + 0) Mz 7 [some (.ref 81)] [.int (Int32.ofInt 0)] (zpV [3, 4, 5, 6, 7, 8, 11, 12, 13, 14, 20, 25, 26, 38, 39, 41, 42, 43] [83, 85, 86, 87, 88, 89, 90, 91, 92, 93, 94, 95, 96, 97, 100, 101, 102] Mz (fun N => zRt b_ n_ N ∧ 0 ≤ ze N 81 13 ∧ ze N 81 13 ≤ 4 ∧ 0 ≤ ze N 81 14 ∧ ze N 81 14 ≤ 8 ∧ zB 83 24 0 5 N ∧ zB 85 144 0 5 N ∧ (((1 ≤ ze N 81 7 ∧ zTrB b_ n_ (ze Mz 81 4).toNat) ∨ (ze N 81 7 = 0 ∧ 1 ≤ ze N 81 12 ∧ ze N 81 12 ≤ 6 ∧ zPm N ∧ zFin N ∧ (∃ T : zGT, ∃ mv : List Nat, ∃ P : Nat, T ∈ gTabs ∧ zGB T N ∧ zTrP b_ n_ (ze Mz 81 4).toNat P mv T ∧ zMvs N = mv ∧ ze N 81 12 = (P : Int)))))))
    refine zr_if_ne (pc := 7) (tgt := 15) ⟨(by decide), (by decide)⟩ (by decide) d_M_reads_7 (fun hc_7 => ?_) (fun hc_7 => ?_)
    · skip
      exact absurd hc_7 (by decide)
    · skip
      refine zw_aload_n (pc := 10) (n := 0) (x := 81) rfl d_M_reads_10 ?_
      refine zw_iconst (pc := 11) (v := Int32.ofInt 2) (by decide) d_M_reads_11 ?_
      refine zr_callV (hf.w hW) hf.x (pc := 12) [.int (Int32.ofInt 2)] [] l_M_190 (c_M_wrongF l Mz (hf.w hW) 2 (by decide) (by decide) (show 1 ≤ 2 by first | assumption | omega)) rfl rfl rfl (by decide) (Nat.le_of_ble_eq_true rfl) d_M_reads_12 ?_
      rintro _ N189_ ⟨rfl, hsN189_, hp0_N189_⟩
      replace hp0_N189_ : 1 ≤ ze N189_ 81 7 := hp0_N189_
      have hf_N189_ : zFr [3, 4, 5, 6, 7, 8, 11, 12, 13, 14, 20, 25, 26, 38, 39, 41, 42, 43] [83, 85, 86, 87, 88, 89, 90, 91, 92, 93, 94, 95, 96, 97, 100, 101, 102] Mz N189_ := hf.tr hsN189_ (by decide) (by decide)
      have hb0_N189_ : zFr [3, 4, 5, 6, 7, 8, 11, 12, 13, 14, 20, 25, 26, 38, 39, 41, 42, 43] [83, 85, 86, 87, 88, 89, 90, 91, 92, 93, 94, 95, 96, 97, 100, 101, 102] Mz N189_ := zFr.rf.tr hsN189_ (by decide) (by decide)
      have hb1_N189_ : zFr [3, 4, 5, 6, 7, 8, 11, 12, 13, 20] [83, 85, 86, 87, 88] Mz N189_ := zFr.rf.tr hsN189_ (by decide) (by decide)
      have hb2_N189_ : zFr [3, 4, 5, 6, 7, 8, 11, 12] [] Mz N189_ := zFr.rf.tr hsN189_ (by decide) (by decide)
      have e3_N189_ : ze N189_ 81 3 = ze Mz 81 3 := hsN189_.e (by decide)
      have e4_N189_ : ze N189_ 81 4 = ze Mz 81 4 := hsN189_.e (by decide)
      have e5_N189_ : ze N189_ 81 5 = ze Mz 81 5 := hsN189_.e (by decide)
      have r7_N189_ := ze_r N189_ 81 7
      have e12_N189_ : ze N189_ 81 12 = ze Mz 81 12 := hsN189_.e (by decide)
      have e13_N189_ : ze N189_ 81 13 = ze Mz 81 13 := hsN189_.e (by decide)
      have e14_N189_ : ze N189_ 81 14 = ze Mz 81 14 := hsN189_.e (by decide)
      have c191_ : zRb b_ n_ N189_ := zRb.fr hsN189_ p0_ (by decide) (by decide)
      have c192_ : zRt b_ n_ N189_ := zRt.fr hsN189_ p1_ (by decide) (by decide)
      have c193_ : zB 83 24 0 5 N189_ := zB.fr hsN189_ p5_ (by decide) (by decide)
      have c194_ : zB 85 144 0 5 N189_ := zB.fr hsN189_ p6_ (by decide) (by decide)
      show zW l m_M_reads (zn Mz + 0, zw Mz + 0) N189_ 15 [some (.ref 81)] [] (zpV [3, 4, 5, 6, 7, 8, 11, 12, 13, 14, 20, 25, 26, 38, 39, 41, 42, 43] [83, 85, 86, 87, 88, 89, 90, 91, 92, 93, 94, 95, 96, 97, 100, 101, 102] Mz (fun N => zRt b_ n_ N ∧ 0 ≤ ze N 81 13 ∧ ze N 81 13 ≤ 4 ∧ 0 ≤ ze N 81 14 ∧ ze N 81 14 ≤ 8 ∧ zB 83 24 0 5 N ∧ zB 85 144 0 5 N ∧ (((1 ≤ ze N 81 7 ∧ zTrB b_ n_ (ze Mz 81 4).toNat) ∨ (ze N 81 7 = 0 ∧ 1 ≤ ze N 81 12 ∧ ze N 81 12 ≤ 6 ∧ zPm N ∧ zFin N ∧ (∃ T : zGT, ∃ mv : List Nat, ∃ P : Nat, T ∈ gTabs ∧ zGB T N ∧ zTrP b_ n_ (ze Mz 81 4).toNat P mv T ∧ zMvs N = mv ∧ ze N 81 12 = (P : Int)))))))
      refine zw_aload_n (pc := 15) (n := 0) (x := 81) rfl d_M_reads_15 ?_
      refine zr_callV (hf_N189_.w hW) hf_N189_.x (pc := 16) [] [] l_M_183 (c_M_isGood l N189_ (hf_N189_.w hW) ) rfl rfl rfl (by decide) (Nat.le_of_ble_eq_true rfl) d_M_reads_16 ?_
      rintro _ N195_ ⟨v196_, rfl, ⟨hv196_a, hv196_b⟩, hsN195_, hp0_N195_⟩
      obtain rfl := hsN195_.eq.symm
      replace hp0_N195_ : ((v196_ = 1 ∧ ze N189_ 81 7 = 0) ∨ (v196_ = 0 ∧ ze N189_ 81 7 ≠ 0)) := hp0_N195_
      rcases hp0_N195_ with ⟨rfl, ha16_0_hp0_N195_⟩ | ⟨rfl, ha16_0_hp0_N195_⟩
      · skip
        exfalso; omega
      · skip
        show zW l m_M_reads (zn Mz + 0, zw Mz + 0) N189_ 19 [some (.ref 81)] [.int (Int32.ofInt 0)] (zpV [3, 4, 5, 6, 7, 8, 11, 12, 13, 14, 20, 25, 26, 38, 39, 41, 42, 43] [83, 85, 86, 87, 88, 89, 90, 91, 92, 93, 94, 95, 96, 97, 100, 101, 102] Mz (fun N => zRt b_ n_ N ∧ 0 ≤ ze N 81 13 ∧ ze N 81 13 ≤ 4 ∧ 0 ≤ ze N 81 14 ∧ ze N 81 14 ≤ 8 ∧ zB 83 24 0 5 N ∧ zB 85 144 0 5 N ∧ (((1 ≤ ze N 81 7 ∧ zTrB b_ n_ (ze Mz 81 4).toNat) ∨ (ze N 81 7 = 0 ∧ 1 ≤ ze N 81 12 ∧ ze N 81 12 ≤ 6 ∧ zPm N ∧ zFin N ∧ (∃ T : zGT, ∃ mv : List Nat, ∃ P : Nat, T ∈ gTabs ∧ zGB T N ∧ zTrP b_ n_ (ze Mz 81 4).toNat P mv T ∧ zMvs N = mv ∧ ze N 81 12 = (P : Int)))))))
        refine zr_if_eq (pc := 19) (tgt := 26) ⟨(by decide), (by decide)⟩ (by decide) d_M_reads_19 (fun hc_19 => ?_) (fun hc_19 => ?_)
        · skip
          refine zw_aload_n (pc := 26) (n := 0) (x := 81) rfl d_M_reads_26 ?_
          refine zw_aload_n (pc := 27) (n := 0) (x := 81) rfl d_M_reads_27 ?_
          refine zw_iconst (pc := 28) (v := Int32.ofInt 1) (by decide) d_M_reads_28 ?_
          refine zw_bipush (pc := 29) (v := Int32.ofInt 6) (by decide) d_M_reads_29 ?_
          refine zr_callV (hf_N189_.w hW) hf_N189_.x (pc := 31) [.int (Int32.ofInt 1), .int (Int32.ofInt 6)] [.ref 81] l_M_322 (c_M_numberF l N189_ (hf_N189_.w hW) 1 (by decide) (by decide) 6 (by decide) (by decide) b_ n_ c191_ c192_ (show 0 ≤ ze N189_ 81 7 by first | assumption | omega)) rfl rfl rfl (by decide) (Nat.le_of_ble_eq_true rfl) d_M_reads_31 ?_
          rintro _ N197_ ⟨v198_, rfl, ⟨hv198_a, hv198_b⟩, hsN197_, ⟨hp0_N197_, hp1_N197_⟩⟩
          have hf_N197_ : zFr [3, 4, 5, 6, 7, 8, 11, 12, 13, 14, 20, 25, 26, 38, 39, 41, 42, 43] [83, 85, 86, 87, 88, 89, 90, 91, 92, 93, 94, 95, 96, 97, 100, 101, 102] Mz N197_ := hf_N189_.tr hsN197_ (by decide) (by decide)
          have hb0_N197_ : zFr [3, 4, 5, 6, 7, 8, 11, 12, 13, 14, 20, 25, 26, 38, 39, 41, 42, 43] [83, 85, 86, 87, 88, 89, 90, 91, 92, 93, 94, 95, 96, 97, 100, 101, 102] Mz N197_ := hb0_N189_.tr hsN197_ (by decide) (by decide)
          have hb1_N197_ : zFr [3, 4, 5, 6, 7, 8, 11, 12, 13, 20] [83, 85, 86, 87, 88] Mz N197_ := hb1_N189_.tr hsN197_ (by decide) (by decide)
          have hb2_N197_ : zFr [3, 4, 5, 6, 7, 8, 11, 12] [] Mz N197_ := hb2_N189_.tr hsN197_ (by decide) (by decide)
          have r3_N197_ := ze_r N197_ 81 3
          have r4_N197_ := ze_r N197_ 81 4
          have r5_N197_ := ze_r N197_ 81 5
          have r7_N197_ := ze_r N197_ 81 7
          have e12_N197_ : ze N197_ 81 12 = ze N189_ 81 12 := hsN197_.e (by decide)
          have e13_N197_ : ze N197_ 81 13 = ze N189_ 81 13 := hsN197_.e (by decide)
          have e14_N197_ : ze N197_ 81 14 = ze N189_ 81 14 := hsN197_.e (by decide)
          have c199_ : zRb b_ n_ N197_ := zRb.fr hsN197_ c191_ (by decide) (by decide)
          have c200_ : zB 83 24 0 5 N197_ := zB.fr hsN197_ c193_ (by decide) (by decide)
          have c201_ : zB 85 144 0 5 N197_ := zB.fr hsN197_ c194_ (by decide) (by decide)
          rcases hp1_N197_ with ⟨ha31_0_hp1_N197_, ha31_1_hp1_N197_⟩ | ⟨ha31_0_hp1_N197_, ha31_1_hp1_N197_, ha31_2_hp1_N197_, ha31_3_hp1_N197_, ha31_4_hp1_N197_⟩
          · skip
            have hrt2_ : zTrB b_ n_ (ze Mz 81 4).toNat := by first | exact hrt_ | exact Or.inl (fun ⟨P_, q_, h_⟩ => ha31_1_hp1_N197_ (by omega) (by rw [hx1_]; have h1_ := h_.2.1; exact ⟨h1_.1, by omega, by omega⟩))
            show zW l m_M_reads (zn Mz + 0, zw Mz + 0) N197_ 34 [some (.ref 81)] [.int (Int32.ofInt v198_), .ref 81] (zpV [3, 4, 5, 6, 7, 8, 11, 12, 13, 14, 20, 25, 26, 38, 39, 41, 42, 43] [83, 85, 86, 87, 88, 89, 90, 91, 92, 93, 94, 95, 96, 97, 100, 101, 102] Mz (fun N => zRt b_ n_ N ∧ 0 ≤ ze N 81 13 ∧ ze N 81 13 ≤ 4 ∧ 0 ≤ ze N 81 14 ∧ ze N 81 14 ≤ 8 ∧ zB 83 24 0 5 N ∧ zB 85 144 0 5 N ∧ (((1 ≤ ze N 81 7 ∧ zTrB b_ n_ (ze Mz 81 4).toNat) ∨ (ze N 81 7 = 0 ∧ 1 ≤ ze N 81 12 ∧ ze N 81 12 ≤ 6 ∧ zPm N ∧ zFin N ∧ (∃ T : zGT, ∃ mv : List Nat, ∃ P : Nat, T ∈ gTabs ∧ zGB T N ∧ zTrP b_ n_ (ze Mz 81 4).toNat P mv T ∧ zMvs N = mv ∧ ze N 81 12 = (P : Int)))))))
            refine zr_putI (hf_N197_.w hW) (pc := 34) f_M_115 rfl rfl ⟨by omega, by omega⟩ rfl rfl d_M_reads_34 (fun N202_ hsN202_ hvN202_ => ?_)
            have hf_N202_ : zFr [3, 4, 5, 6, 7, 8, 11, 12, 13, 14, 20, 25, 26, 38, 39, 41, 42, 43] [83, 85, 86, 87, 88, 89, 90, 91, 92, 93, 94, 95, 96, 97, 100, 101, 102] Mz N202_ := hf_N197_.tr hsN202_ (by decide) (by decide)
            have hb0_N202_ : zFr [3, 4, 5, 6, 7, 8, 11, 12, 13, 14, 20, 25, 26, 38, 39, 41, 42, 43] [83, 85, 86, 87, 88, 89, 90, 91, 92, 93, 94, 95, 96, 97, 100, 101, 102] Mz N202_ := hb0_N197_.tr hsN202_ (by decide) (by decide)
            have hb1_N202_ : zFr [3, 4, 5, 6, 7, 8, 11, 12, 13, 20] [83, 85, 86, 87, 88] Mz N202_ := hb1_N197_.tr hsN202_ (by decide) (by decide)
            have hb2_N202_ : zFr [3, 4, 5, 6, 7, 8, 11, 12] [] Mz N202_ := hb2_N197_.tr hsN202_ (by decide) (by decide)
            have e3_N202_ : ze N202_ 81 3 = ze N197_ 81 3 := hsN202_.e (by decide)
            have e4_N202_ : ze N202_ 81 4 = ze N197_ 81 4 := hsN202_.e (by decide)
            have e5_N202_ : ze N202_ 81 5 = ze N197_ 81 5 := hsN202_.e (by decide)
            have e7_N202_ : ze N202_ 81 7 = ze N197_ 81 7 := hsN202_.e (by decide)
            have r12_N202_ := ze_r N202_ 81 12
            have e13_N202_ : ze N202_ 81 13 = ze N197_ 81 13 := hsN202_.e (by decide)
            have e14_N202_ : ze N202_ 81 14 = ze N197_ 81 14 := hsN202_.e (by decide)
            have c203_ : zRb b_ n_ N202_ := zRb.fr hsN202_ c199_ (by decide) (by decide)
            have c204_ : zB 83 24 0 5 N202_ := zB.fr hsN202_ c200_ (by decide) (by decide)
            have c205_ : zB 85 144 0 5 N202_ := zB.fr hsN202_ c201_ (by decide) (by decide)
            have c206_ : zRt b_ n_ N202_ := zRt.fr hsN202_ hp0_N197_ (by decide) (by decide)
            exact j_37 N202_ hb2_N202_ c206_ (show ze N202_ 81 13 = 0 by first | assumption | omega) (show ze N202_ 81 14 = 0 by first | assumption | omega) (show (1 ≤ ze N202_ 81 7 ∧ zTrB b_ n_ (ze Mz 81 4).toNat) ∨ (ze N202_ 81 7 = 0 ∧ zkd b_ n_ (ze Mz 81 4).toNat = 1 ∧ zkey b_ n_ (ze Mz 81 4).toNat = zkw 0 ∧ zkd b_ n_ (znx b_ n_ (ze Mz 81 4).toNat) = 2 ∧ znu b_ n_ (znx b_ n_ (ze Mz 81 4).toNat) = ze N202_ 81 12 ∧ 1 ≤ ze N202_ 81 12 ∧ ze N202_ 81 12 ≤ 6 ∧ (ze N202_ 81 4).toNat = znx b_ n_ (znx b_ n_ (ze Mz 81 4).toNat)) from Or.inl (⟨(show 1 ≤ ze N202_ 81 7 by first | assumption | omega | exact hrt_ | exact hrt2_ | exact hmx_ | exact hPm_ | exact hFn_ | exact hLT2_ | exact hnk_), (show zTrB b_ n_ (ze Mz 81 4).toNat by first | assumption | omega | exact hrt_ | exact hrt2_ | exact hmx_ | exact hPm_ | exact hFn_ | exact hLT2_ | exact hnk_)⟩))
          · skip
            exfalso; omega
        · skip
          exact absurd hc_19 (by decide)
