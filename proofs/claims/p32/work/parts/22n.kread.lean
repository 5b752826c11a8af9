set_option maxHeartbeats 4000000 in
theorem u_Reader_readOperand (l : Launch) (d_ : Nat) (Mz : zMem) (hW : zKW d_ Mz) (b_ : Nat → Int) (n_ : Nat) (F_ : Nat) (K_ : Nat → Nat → Int) (hA_ : zTA F_ K_) (nm_ : List (Int × (Nat → Int))) (p0_ : zYb b_ n_ Mz) (p1_ : zYt b_ n_ Mz) (p2_ : zKm F_ K_ d_ Mz) (p3_ : zCI F_ K_ d_ 0 Mz) (p4_ : zNm nm_ F_ K_ d_ Mz) (p5_ : 0 ≤ ze Mz 4 1) (p6_ : ze Mz 4 1 ≤ 30) (p7_ : ¬ (zisg b_ n_ (ze Mz 1 2).toNat 45 ∨ zisg b_ n_ (ze Mz 1 2).toNat 40)) : zC l m_Reader_readOperand 0 0 [.ref 4, .ref (d_ + 0)] Mz (zqcI d_ [(1, 2), (1, 3), (1, 4), (1, 5), (4, 1), (4, 2), (4, 3)] [] [(33, 3)] [25] Mz (fun v N => zYt b_ n_ N ∧ (((v = 1 ∧ zRea (zfs b_ n_ F_ K_ nm_) (zKst 0 F_ d_ Mz) (zKst 1 F_ d_ N) ∧ zCI F_ K_ d_ 1 N ∧ zLow d_ Mz N ∧ ze Mz 4 1 + 1 ≤ ze N 4 1 ∧ ze N 4 1 ≤ 30) ∨ (v = 0 ∧ zRea (zfs b_ n_ F_ K_ nm_) (zKst 0 F_ d_ Mz) zFt))))) := by
  refine zC_of (L0 := [some (.ref 4), some (.ref (d_ + 0)), none, none, none]) md_Reader_readOperand (Nat.le_of_ble_eq_true rfl) rfl ?_ zQ0
  have hf : zFc d_ [(1, 2), (1, 3), (1, 4), (1, 5), (4, 1), (4, 2), (4, 3)] [] [(33, 3)] [25] Mz Mz := zFc.rf
  have r_A1_2 := ze_r Mz 1 2
  have r_A1_3 := ze_r Mz 1 3
  have r_A1_5 := ze_r Mz 1 5
  have r_A4_1 := ze_r Mz 4 1
  have r_D12_7 := ze_r Mz (d_ + 12) 7
  have r_D33_2 := ze_r Mz (d_ + 33) 2
  have r_D33_3 := ze_r Mz (d_ + 33) 3
  have r_D33_4 := ze_r Mz (d_ + 33) 4
  have r_D33_5 := ze_r Mz (d_ + 33) 5
  have r_D33_6 := ze_r Mz (d_ + 33) 6
  obtain ⟨⟨hF1_, hF27_⟩, hAr_⟩ := id hA_
  obtain ⟨hFc_, hKt_⟩ := id p2_
  have hb_ := p3_.b
  have hz0_ := zop0_le (zkS d_ Mz)
  have hq0_ := p1_.x
  refine zw_aload_n (pc := 0) (n := 1) (x := (d_ + 0)) rfl (zdal_p dlA_Reader_readOperand_119 (i := 0) rfl) ?_
  refine zw_getF (pc := 1) f_Reader_111 rfl ((hf.w hW).kr (o := 0) (by decide)) ((hf.w hW).lr (o := 0) (s := 4) (r := 33) (by decide)) (zdal_p dlA_Reader_readOperand_119 (i := 1) rfl) ?_
  refine zw_astore_n (pc := 4) (i := 2) (L2 := [some (.ref 4), some (.ref (d_ + 0)), some (.ref (d_ + 33)), none, none]) rfl (by decide) rfl (zdal_p dlA_Reader_readOperand_119 (i := 2) rfl) ?_
  refine zw_aload_n (pc := 5) (n := 1) (x := (d_ + 0)) rfl (zdal_p dlA_Reader_readOperand_119 (i := 3) rfl) ?_
  refine zw_getF (pc := 6) f_Reader_158 rfl ((hf.w hW).kr (o := 0) (by decide)) ((hf.w hW).lr (o := 0) (s := 1) (r := 12) (by decide)) (zdal_p dlA_Reader_readOperand_119 (i := 4) rfl) ?_
  refine zk_getI (pc := 9) f_Reader_162 rfl ((hf.w hW).kr (o := 12) (by decide)) (zdal_p dlA_Reader_readOperand_119 (i := 5) rfl) ?_
  refine zw_iconst (pc := 12) (v := Int32.ofInt 1) (by decide) (zdal_p dlA_Reader_readOperand_119 (i := 6) rfl) ?_
  refine zr_isub (pc := 13) (zdal_p dlA_Reader_readOperand_119 (i := 7) rfl) ?_
  refine zw_istore_n (pc := 14) (i := 3) (L2 := [some (.ref 4), some (.ref (d_ + 0)), some (.ref (d_ + 33)), some (.int (Int32.ofInt ((ze Mz (d_ + 12) 7) - 1))), none]) rfl (by decide) rfl (zdal_p dlA_Reader_readOperand_119 (i := 8) rfl) ?_
  refine zw_aload_n (pc := 15) (n := 0) (x := 4) rfl (zdal_p dlA_Reader_readOperand_119 (i := 9) rfl) ?_
  refine zw_getF (pc := 16) f_Reader_15 rfl ((hf.w hW).ka (o := 4) (by decide)) ((hf.w hW).la (o := 4) (s := 0) (r := 1) (by decide)) (zdal_p dlA_Reader_readOperand_119 (i := 10) rfl) ?_
  refine zk_callV hf.x (pc := 19) [] [] l_Reader_53 (u_Tokens_isNumber l d_ Mz (hf.w hW) b_ n_ p1_) rfl rfl ((hf.w hW).ka (o := 1) (by decide)) (by decide) (by decide) (Nat.le_of_ble_eq_true rfl) (zdal_p dlA_Reader_readOperand_119 (i := 11) rfl) ?_
  rintro _ N1_ ⟨v2_, rfl, ⟨hv2_a, hv2_b⟩, hsN1_, hp0_N1_⟩
  obtain rfl := hsN1_.eq.symm
  replace hp0_N1_ : ((v2_ = 1 ∧ zkd b_ n_ (ze Mz 1 2).toNat = 2) ∨ (v2_ = 0 ∧ zkd b_ n_ (ze Mz 1 2).toNat ≠ 2)) := hp0_N1_
  rcases hp0_N1_ with ⟨rfl, ha19_0_hp0_N1_⟩ | ⟨rfl, ha19_0_hp0_N1_⟩
  · skip
    have hk2_ := ha19_0_hp0_N1_
    have hv2_ := p1_.v2 hk2_
    show zW l m_Reader_readOperand (zn Mz + 0, zw Mz + 0) Mz 22 [some (.ref 4), some (.ref (d_ + 0)), some (.ref (d_ + 33)), some (.int (Int32.ofInt ((ze Mz (d_ + 12) 7) - 1))), none] [.int (Int32.ofInt 1)] _
    refine zw_istore (pc := 22) (i := 4) (L2 := [some (.ref 4), some (.ref (d_ + 0)), some (.ref (d_ + 33)), some (.int (Int32.ofInt ((ze Mz (d_ + 12) 7) - 1))), some (.int (Int32.ofInt 1))]) (by decide) rfl (zdal_p dlA_Reader_readOperand_119 (i := 12) rfl) ?_
    refine zw_iload (pc := 24) (i := 4) (x := Int32.ofInt 1) rfl (zdal_p dlA_Reader_readOperand_119 (i := 13) rfl) ?_
    refine zr_if_ne (pc := 26) (tgt := 51) ⟨(by decide), (by decide)⟩ (by decide) (zdal_p dlA_Reader_readOperand_119 (i := 14) rfl) (fun hc_26 => ?_) (fun hc_26 => ?_)
    · skip
      refine zw_aload_n (pc := 51) (n := 0) (x := 4) rfl (zdal_p dlA_Reader_readOperand_120 (i := 2) rfl) ?_
      refine zw_aload_n (pc := 52) (n := 2) (x := (d_ + 33)) rfl (zdal_p dlA_Reader_readOperand_120 (i := 3) rfl) ?_
      refine zk_callV hf.x (pc := 53) [.ref (d_ + 33)] [] l_Reader_152 (u_Reader_countUnit l d_ Mz (hf.w hW) F_ K_ hA_ p3_ (show 0 ≤ ze Mz 4 1 by first | with_reducible assumption | assumption | omega) (show ze Mz 4 1 ≤ 30 by first | with_reducible assumption | assumption | omega)) rfl rfl ((hf.w hW).ka (o := 4) (by decide)) (by decide) (by decide) (Nat.le_of_ble_eq_true rfl) (zdal_p dlA_Reader_readOperand_120 (i := 4) rfl) ?_
      rintro _ N3_ ⟨v4_, rfl, ⟨hv4_a, hv4_b⟩, hsN3_, hp0_N3_⟩
      replace hp0_N3_ : ((v4_ = 1 ∧ zuo (zkS d_ Mz) (ze Mz 4 1).toNat ∧ ze N3_ 4 1 = ze Mz 4 1 + 1 ∧ ze Mz 4 1 ≤ 29) ∨ (v4_ = 0 ∧ ¬ zuo (zkS d_ Mz) (ze Mz 4 1).toNat)) := hp0_N3_
      have hf_N3_ : zFc d_ [(1, 2), (1, 3), (1, 4), (1, 5), (4, 1), (4, 2), (4, 3)] [] [(33, 3)] [25] Mz N3_ := hf.tr hsN3_ (by decide) (by decide) (by decide) (by decide)
      have eA1_2_N3_ : ze N3_ 1 2 = ze Mz 1 2 := hsN3_.ea (hf.w hW) (by decide)
      have eA1_3_N3_ : ze N3_ 1 3 = ze Mz 1 3 := hsN3_.ea (hf.w hW) (by decide)
      have eA1_5_N3_ : ze N3_ 1 5 = ze Mz 1 5 := hsN3_.ea (hf.w hW) (by decide)
      have rA4_1_N3_ := ze_r N3_ 4 1
      have eD12_7_N3_ : ze N3_ (d_ + 12) 7 = ze Mz (d_ + 12) 7 := hsN3_.e (by decide)
      have eD33_2_N3_ : ze N3_ (d_ + 33) 2 = ze Mz (d_ + 33) 2 := hsN3_.e (by decide)
      have eD33_3_N3_ : ze N3_ (d_ + 33) 3 = ze Mz (d_ + 33) 3 := hsN3_.e (by decide)
      have eD33_4_N3_ : ze N3_ (d_ + 33) 4 = ze Mz (d_ + 33) 4 := hsN3_.e (by decide)
      have eD33_5_N3_ : ze N3_ (d_ + 33) 5 = ze Mz (d_ + 33) 5 := hsN3_.e (by decide)
      have eD33_6_N3_ : ze N3_ (d_ + 33) 6 = ze Mz (d_ + 33) 6 := hsN3_.e (by decide)
      have qzkS_N3_ : zkS d_ N3_ = zkS d_ Mz := zkS_q hsN3_ (by decide)
      have qzkG_N3_ : zkG d_ N3_ = zkG d_ Mz := zkG_q hsN3_ (by decide)
      have qzkW_N3_ : zkW F_ d_ N3_ = zkW F_ d_ Mz := zkW_q hsN3_ (by decide)
      have c5_ : zYb b_ n_ N3_ := zYb.fr (hf.w hW) hsN3_ p0_ (by decide)
      have c6_ : zYt b_ n_ N3_ := zYt.fr (hf.w hW) hsN3_ p1_ (by decide)
      have c7_ : zKm F_ K_ d_ N3_ := zKm.fr (hf.w hW) hsN3_ p2_ (by decide)
      have c8_ : zCI F_ K_ d_ 0 N3_ := zCI.fr (hf.w hW) hsN3_ p3_ (by decide)
      rcases hp0_N3_ with ⟨rfl, ha53_0_hp0_N3_, ha53_1_hp0_N3_, ha53_2_hp0_N3_⟩ | ⟨rfl, ha53_0_hp0_N3_⟩
      · skip
        have hu0_ := ha53_0_hp0_N3_
        have hu1_ := ha53_1_hp0_N3_
        have hu2_ := ha53_2_hp0_N3_
        have hfc3_ : ze N3_ (d_ + 12) 7 = F_ := c7_.1
        show zW l m_Reader_readOperand (zn Mz + 0, zw Mz + 0) N3_ 56 [some (.ref 4), some (.ref (d_ + 0)), some (.ref (d_ + 33)), some (.int (Int32.ofInt ((ze Mz (d_ + 12) 7) - 1))), some (.int (Int32.ofInt 1))] [.int (Int32.ofInt 1)] _
        refine zr_if_ne (pc := 56) (tgt := 61) ⟨(by decide), (by decide)⟩ (by decide) d_Reader_readOperand_56 (fun hc_56 => ?_) (fun hc_56 => ?_)
        · skip
          refine zw_iload (pc := 61) (i := 4) (x := Int32.ofInt 1) rfl (zdal_p dlA_Reader_readOperand_120 (i := 8) rfl) ?_
          refine zr_if_eq (pc := 63) (tgt := 81) ⟨(by decide), (by decide)⟩ (by decide) (zdal_p dlA_Reader_readOperand_120 (i := 9) rfl) (fun hc_63 => ?_) (fun hc_63 => ?_)
          · skip
            exact absurd hc_63 (by decide)
          · skip
            refine zw_aload_n (pc := 66) (n := 2) (x := (d_ + 33)) rfl (zdal_p dlA_Reader_readOperand_120 (i := 10) rfl) ?_
            refine zw_iload_n (pc := 67) (n := 3) (x := Int32.ofInt ((ze Mz (d_ + 12) 7) - 1)) rfl (zdal_p dlA_Reader_readOperand_120 (i := 11) rfl) ?_
            refine zw_aload_n (pc := 68) (n := 0) (x := 4) rfl (zdal_p dlA_Reader_readOperand_120 (i := 12) rfl) ?_
            refine zw_getF (pc := 69) f_Reader_15 rfl ((hf_N3_.w hW).ka (o := 4) (by decide)) ((hf_N3_.w hW).la (o := 4) (s := 0) (r := 1) (by decide)) (zdal_p dlA_Reader_readOperand_120 (i := 13) rfl) ?_
            refine zk_getI (pc := 72) f_Reader_57 rfl ((hf_N3_.w hW).ka (o := 1) (by decide)) (zdal_p dlA_Reader_readOperand_120 (i := 14) rfl) ?_
            refine zk_callV hf_N3_.x (pc := 75) [.int (Int32.ofInt ((ze Mz (d_ + 12) 7) - 1)), .int (Int32.ofInt (ze N3_ 1 5))] [] l_Reader_172 (u_Calc_pushSingle l d_ N3_ (hf_N3_.w hW) ((ze Mz (d_ + 12) 7) - 1) (by (exact zo_786 hFc_ r_D12_7.1)) (by (exact zo_601 r_D12_7.2)) (ze N3_ 1 5) (ze_r N3_ 1 5).1 (ze_r N3_ 1 5).2 F_ K_ hA_ c7_ c8_ (show 0 ≤ ((ze Mz (d_ + 12) 7) - 1) by first | with_reducible assumption | (exact zo_791 hF1_ hFc_) | assumption) (show ((ze Mz (d_ + 12) 7) - 1) < F_ by first | with_reducible assumption | (exact zo_792 hFc_ r_D12_7.2) | assumption) (show 0 ≤ (ze N3_ 1 5) by first | with_reducible assumption | (exact zo_720 eA1_5_N3_ hv2_.2.1) | assumption) (show (ze N3_ 1 5) ≤ 999 by first | with_reducible assumption | (exact zo_793 eA1_5_N3_ hv2_.2.2) | assumption)) rfl rfl ((hf_N3_.w hW).kr (o := 33) (by decide)) (by decide) (by decide) (Nat.le_of_ble_eq_true rfl) (zdal_p dlA_Reader_readOperand_120 (i := 15) rfl) ?_
            rintro _ N10_ ⟨rfl, hsN10_, ⟨hp0_N10_, hp1_N10_, hp2_N10_, hp3_N10_, hp4_N10_⟩⟩
            have hf_N10_ : zFc d_ [(1, 2), (1, 3), (1, 4), (1, 5), (4, 1), (4, 2), (4, 3)] [] [(33, 3)] [25] Mz N10_ := hf_N3_.tr hsN10_ (by decide) (by decide) (by decide) (by decide)
            have eA1_2_N10_ : ze N10_ 1 2 = ze N3_ 1 2 := hsN10_.ea (hf_N3_.w hW) (by decide)
            have eA1_3_N10_ : ze N10_ 1 3 = ze N3_ 1 3 := hsN10_.ea (hf_N3_.w hW) (by decide)
            have eA1_5_N10_ : ze N10_ 1 5 = ze N3_ 1 5 := hsN10_.ea (hf_N3_.w hW) (by decide)
            have eA4_1_N10_ : ze N10_ 4 1 = ze N3_ 4 1 := hsN10_.ea (hf_N3_.w hW) (by decide)
            have eD12_7_N10_ : ze N10_ (d_ + 12) 7 = ze N3_ (d_ + 12) 7 := hsN10_.e (by decide)
            have eD33_2_N10_ : ze N10_ (d_ + 33) 2 = ze N3_ (d_ + 33) 2 := hsN10_.e (by decide)
            have rD33_3_N10_ := ze_r N10_ (d_ + 33) 3
            have eD33_4_N10_ : ze N10_ (d_ + 33) 4 = ze N3_ (d_ + 33) 4 := hsN10_.e (by decide)
            have eD33_5_N10_ : ze N10_ (d_ + 33) 5 = ze N3_ (d_ + 33) 5 := hsN10_.e (by decide)
            have eD33_6_N10_ : ze N10_ (d_ + 33) 6 = ze N3_ (d_ + 33) 6 := hsN10_.e (by decide)
            have c12_ : zYb b_ n_ N10_ := zYb.fr (hf_N3_.w hW) hsN10_ c5_ (by decide)
            have c13_ : zYt b_ n_ N10_ := zYt.fr (hf_N3_.w hW) hsN10_ c6_ (by decide)
            show zW l m_Reader_readOperand (zn Mz + 0, zw Mz + 0) N10_ 78 [some (.ref 4), some (.ref (d_ + 0)), some (.ref (d_ + 33)), some (.int (Int32.ofInt ((ze Mz (d_ + 12) 7) - 1))), some (.int (Int32.ofInt 1))] [] _
            have hp1_ := hp1_N10_
            have hp2_ := hp2_N10_
            have hp3_ := hp3_N10_
            have hlw_ := (zLow.f hsN3_ (by decide)).tr hp4_N10_
            have hW_ := hp2_.trans (by rw [qzkG_N3_, qzkW_N3_, show ((ze Mz (d_ + 12) 7) - 1) = (F_ : Int) - 1 by (exact zo_795 hFc_ r_D12_7.2), show ze N3_ 1 5 = znu b_ n_ (ze Mz 1 2).toNat by (exact zo_794 eA1_5_N3_ hv2_.1)] : _ = zpu (zkG d_ Mz) (zone ((F_ : Int) - 1) (znu b_ n_ (ze Mz 1 2).toNat)) (zkW F_ d_ Mz))
            refine zw_goto (pc := 78) (tgt := 133) (by decide) (zdal_p dlA_Reader_readOperand_120 (i := 16) rfl) ?_
            have hyt_ := c13_
            have hyx_ := hyt_.x
            refine zw_aload_n (pc := 133) (n := 0) (x := 4) rfl d_Reader_readOperand_133 ?_
            refine zw_getF (pc := 134) f_Reader_15 rfl ((hf_N10_.w hW).ka (o := 4) (by decide)) ((hf_N10_.w hW).la (o := 4) (s := 0) (r := 1) (by decide)) d_Reader_readOperand_134 ?_
            refine zk_callV hf_N10_.x (pc := 137) [] [] l_Reader_44 (u_Tokens_step l d_ N10_ (hf_N10_.w hW) b_ n_ c12_ (show 0 ≤ ze N10_ 1 3 by first | with_reducible assumption | (exact zo_57 hyx_.2.1) | assumption) (show ze N10_ 1 3 ≤ n_ by first | with_reducible assumption | (exact zo_605 hyx_.2.2) | assumption)) rfl rfl ((hf_N10_.w hW).ka (o := 1) (by decide)) (by decide) (by decide) (Nat.le_of_ble_eq_true rfl) d_Reader_readOperand_137 ?_
            rintro _ N15_ ⟨rfl, hsN15_, ⟨hp0_N15_, hp1_N15_⟩⟩
            have hf_N15_ : zFc d_ [(1, 2), (1, 3), (1, 4), (1, 5), (4, 1), (4, 2), (4, 3)] [] [(33, 3)] [25] Mz N15_ := hf_N10_.tr hsN15_ (by decide) (by decide) (by decide) (by decide)
            have rA1_2_N15_ := ze_r N15_ 1 2
            have rA1_3_N15_ := ze_r N15_ 1 3
            have rA1_5_N15_ := ze_r N15_ 1 5
            have eA4_1_N15_ : ze N15_ 4 1 = ze N10_ 4 1 := hsN15_.ea (hf_N10_.w hW) (by decide)
            have eD12_7_N15_ : ze N15_ (d_ + 12) 7 = ze N10_ (d_ + 12) 7 := hsN15_.e (by decide)
            have eD33_2_N15_ : ze N15_ (d_ + 33) 2 = ze N10_ (d_ + 33) 2 := hsN15_.e (by decide)
            have eD33_3_N15_ : ze N15_ (d_ + 33) 3 = ze N10_ (d_ + 33) 3 := hsN15_.e (by decide)
            have eD33_4_N15_ : ze N15_ (d_ + 33) 4 = ze N10_ (d_ + 33) 4 := hsN15_.e (by decide)
            have eD33_5_N15_ : ze N15_ (d_ + 33) 5 = ze N10_ (d_ + 33) 5 := hsN15_.e (by decide)
            have eD33_6_N15_ : ze N15_ (d_ + 33) 6 = ze N10_ (d_ + 33) 6 := hsN15_.e (by decide)
            have qzkS_N15_ : zkS d_ N15_ = zkS d_ N10_ := zkS_q hsN15_ (by decide)
            have qzkG_N15_ : zkG d_ N15_ = zkG d_ N10_ := zkG_q hsN15_ (by decide)
            have qzkW_N15_ : zkW F_ d_ N15_ = zkW F_ d_ N10_ := zkW_q hsN15_ (by decide)
            have c19_ : zCI F_ K_ d_ 1 N15_ := zCI.fr (hf_N10_.w hW) hsN15_ hp0_N10_ (by decide)
            show zW l m_Reader_readOperand (zn Mz + 0, zw Mz + 0) N15_ 140 [some (.ref 4), some (.ref (d_ + 0)), some (.ref (d_ + 33)), some (.int (Int32.ofInt ((ze Mz (d_ + 12) 7) - 1))), some (.int (Int32.ofInt 1))] [] _
            have hnn_ := hyt_.n hp0_N15_
            refine zw_iconst (pc := 140) (v := Int32.ofInt 1) (by decide) d_Reader_readOperand_140 ?_
            exact zk_iret (pc := 141) (ty := .boolean) rfl (z_narB (by (decide))) ⟨by (exact hv2_a), by (exact hv2_b)⟩ hf_N15_ ⟨hp1_N15_, (show ((1 = 1 ∧ zRea (zfs b_ n_ F_ K_ nm_) (zKst 0 F_ d_ Mz) (zKst 1 F_ d_ N15_) ∧ zCI F_ K_ d_ 1 N15_ ∧ zLow d_ Mz N15_ ∧ ze Mz 4 1 + 1 ≤ ze N15_ 4 1 ∧ ze N15_ 4 1 ≤ 30) ∨ (1 = 0 ∧ zRea (zfs b_ n_ F_ K_ nm_) (zKst 0 F_ d_ Mz) zFt)) from Or.inl (⟨(show 1 = 1 by first | rfl | omega | exact c19_ | exact hlw_.tr (zLow.f hsN15_ (by decide)) | exact hw7_.tr (zLow.f hsN15_ (by decide)) | exact zRea.st (zs0_n (Nz := N15_) (F := F_) (b := b_) (n := n_) (K := K_) (nm := nm_) p7_ hk2_ hu0_ (by rw [qzkS_N15_, hp1_, qzkS_N3_]) (by rw [qzkW_N15_, hW_]) (by rw [qzkG_N15_, hp3_, qzkG_N3_]) (by omega) (by omega) (hnn_.2.trans (by rw [show ze N10_ 1 2 = ze Mz 1 2 by omega]))) | exact zRea.st (zs0_s (Nz := N15_) (F := F_) (b := b_) (n := n_) (K := K_) (nm := nm_) p7_ hk2_ ⟨hk1_, hky_⟩ hu0_ ⟨hk3_, by omega⟩ (by rw [qzkS_N15_, hp1_, qzkS_N3_, qzkS_Mz]) (by rw [qzkW_N15_, hW_]) (by rw [qzkG_N15_, hp3_, qzkG_N3_, qzkG_Mz]) (by omega) (by omega) (hnn_.2.trans (by rw [show ze N10_ 1 2 = ze N3_ 1 2 by omega, hnx_]))) | exact zRea.st (zs0_w (Nz := N15_) (F := F_) (b := b_) (n := n_) (K := K_) (nm := nm_) p7_ hk2_ hns_ hw0_ hw1_ hw2_ (by rw [qzkS_N15_, hw4_]) (by rw [qzkW_N15_, hw3_]) (by rw [qzkG_N15_, hw5_]) (by omega) (by omega) (hnn_.2.trans (by rw [show ze N10_ 1 2 = ze Mz 1 2 by omega])))), (show zRea (zfs b_ n_ F_ K_ nm_) (zKst 0 F_ d_ Mz) (zKst 1 F_ d_ N15_) by first | rfl | omega | exact c19_ | exact hlw_.tr (zLow.f hsN15_ (by decide)) | exact hw7_.tr (zLow.f hsN15_ (by decide)) | exact zRea.st (zs0_n (Nz := N15_) (F := F_) (b := b_) (n := n_) (K := K_) (nm := nm_) p7_ hk2_ hu0_ (by rw [qzkS_N15_, hp1_, qzkS_N3_]) (by rw [qzkW_N15_, hW_]) (by rw [qzkG_N15_, hp3_, qzkG_N3_]) (by (exact zo_1037 eA4_1_N10_ eA4_1_N15_ ha53_1_hp0_N3_)) (by (exact p5_)) (hnn_.2.trans (by rw [show ze N10_ 1 2 = ze Mz 1 2 by (exact zo_1038 eA1_2_N10_ eA1_2_N3_ hyx_.1.1 r_A1_2.2)]))) | exact zRea.st (zs0_s (Nz := N15_) (F := F_) (b := b_) (n := n_) (K := K_) (nm := nm_) p7_ hk2_ ⟨hk1_, hky_⟩ hu0_ ⟨hk3_, by omega⟩ (by rw [qzkS_N15_, hp1_, qzkS_N3_, qzkS_Mz]) (by rw [qzkW_N15_, hW_]) (by rw [qzkG_N15_, hp3_, qzkG_N3_, qzkG_Mz]) (by omega) (by omega) (hnn_.2.trans (by rw [show ze N10_ 1 2 = ze N3_ 1 2 by omega, hnx_]))) | exact zRea.st (zs0_w (Nz := N15_) (F := F_) (b := b_) (n := n_) (K := K_) (nm := nm_) p7_ hk2_ hns_ hw0_ hw1_ hw2_ (by rw [qzkS_N15_, hw4_]) (by rw [qzkW_N15_, hw3_]) (by rw [qzkG_N15_, hw5_]) (by omega) (by omega) (hnn_.2.trans (by rw [show ze N10_ 1 2 = ze Mz 1 2 by omega])))), (show zCI F_ K_ d_ 1 N15_ by first | rfl | (exact c19_) | exact c19_ | exact hlw_.tr (zLow.f hsN15_ (by decide)) | exact hw7_.tr (zLow.f hsN15_ (by decide)) | exact zRea.st (zs0_n (Nz := N15_) (F := F_) (b := b_) (n := n_) (K := K_) (nm := nm_) p7_ hk2_ hu0_ (by rw [qzkS_N15_, hp1_, qzkS_N3_]) (by rw [qzkW_N15_, hW_]) (by rw [qzkG_N15_, hp3_, qzkG_N3_]) (by omega) (by omega) (hnn_.2.trans (by rw [show ze N10_ 1 2 = ze Mz 1 2 by omega]))) | exact zRea.st (zs0_s (Nz := N15_) (F := F_) (b := b_) (n := n_) (K := K_) (nm := nm_) p7_ hk2_ ⟨hk1_, hky_⟩ hu0_ ⟨hk3_, by omega⟩ (by rw [qzkS_N15_, hp1_, qzkS_N3_, qzkS_Mz]) (by rw [qzkW_N15_, hW_]) (by rw [qzkG_N15_, hp3_, qzkG_N3_, qzkG_Mz]) (by omega) (by omega) (hnn_.2.trans (by rw [show ze N10_ 1 2 = ze N3_ 1 2 by omega, hnx_]))) | exact zRea.st (zs0_w (Nz := N15_) (F := F_) (b := b_) (n := n_) (K := K_) (nm := nm_) p7_ hk2_ hns_ hw0_ hw1_ hw2_ (by rw [qzkS_N15_, hw4_]) (by rw [qzkW_N15_, hw3_]) (by rw [qzkG_N15_, hw5_]) (by omega) (by omega) (hnn_.2.trans (by rw [show ze N10_ 1 2 = ze Mz 1 2 by omega])))), (show zLow d_ Mz N15_ by first | rfl | omega | exact c19_ | exact hlw_.tr (zLow.f hsN15_ (by decide)) | exact hw7_.tr (zLow.f hsN15_ (by decide)) | exact zRea.st (zs0_n (Nz := N15_) (F := F_) (b := b_) (n := n_) (K := K_) (nm := nm_) p7_ hk2_ hu0_ (by rw [qzkS_N15_, hp1_, qzkS_N3_]) (by rw [qzkW_N15_, hW_]) (by rw [qzkG_N15_, hp3_, qzkG_N3_]) (by omega) (by omega) (hnn_.2.trans (by rw [show ze N10_ 1 2 = ze Mz 1 2 by omega]))) | exact zRea.st (zs0_s (Nz := N15_) (F := F_) (b := b_) (n := n_) (K := K_) (nm := nm_) p7_ hk2_ ⟨hk1_, hky_⟩ hu0_ ⟨hk3_, by omega⟩ (by rw [qzkS_N15_, hp1_, qzkS_N3_, qzkS_Mz]) (by rw [qzkW_N15_, hW_]) (by rw [qzkG_N15_, hp3_, qzkG_N3_, qzkG_Mz]) (by omega) (by omega) (hnn_.2.trans (by rw [show ze N10_ 1 2 = ze N3_ 1 2 by omega, hnx_]))) | exact zRea.st (zs0_w (Nz := N15_) (F := F_) (b := b_) (n := n_) (K := K_) (nm := nm_) p7_ hk2_ hns_ hw0_ hw1_ hw2_ (by rw [qzkS_N15_, hw4_]) (by rw [qzkW_N15_, hw3_]) (by rw [qzkG_N15_, hw5_]) (by omega) (by omega) (hnn_.2.trans (by rw [show ze N10_ 1 2 = ze Mz 1 2 by omega])))), (show ze Mz 4 1 + 1 ≤ ze N15_ 4 1 by first | rfl | (exact zo_1039 eA4_1_N10_ eA4_1_N15_ ha53_1_hp0_N3_) | exact c19_ | exact hlw_.tr (zLow.f hsN15_ (by decide)) | exact hw7_.tr (zLow.f hsN15_ (by decide)) | exact zRea.st (zs0_n (Nz := N15_) (F := F_) (b := b_) (n := n_) (K := K_) (nm := nm_) p7_ hk2_ hu0_ (by rw [qzkS_N15_, hp1_, qzkS_N3_]) (by rw [qzkW_N15_, hW_]) (by rw [qzkG_N15_, hp3_, qzkG_N3_]) (by omega) (by omega) (hnn_.2.trans (by rw [show ze N10_ 1 2 = ze Mz 1 2 by omega]))) | exact zRea.st (zs0_s (Nz := N15_) (F := F_) (b := b_) (n := n_) (K := K_) (nm := nm_) p7_ hk2_ ⟨hk1_, hky_⟩ hu0_ ⟨hk3_, by omega⟩ (by rw [qzkS_N15_, hp1_, qzkS_N3_, qzkS_Mz]) (by rw [qzkW_N15_, hW_]) (by rw [qzkG_N15_, hp3_, qzkG_N3_, qzkG_Mz]) (by omega) (by omega) (hnn_.2.trans (by rw [show ze N10_ 1 2 = ze N3_ 1 2 by omega, hnx_]))) | exact zRea.st (zs0_w (Nz := N15_) (F := F_) (b := b_) (n := n_) (K := K_) (nm := nm_) p7_ hk2_ hns_ hw0_ hw1_ hw2_ (by rw [qzkS_N15_, hw4_]) (by rw [qzkW_N15_, hw3_]) (by rw [qzkG_N15_, hw5_]) (by omega) (by omega) (hnn_.2.trans (by rw [show ze N10_ 1 2 = ze Mz 1 2 by omega])))), (show ze N15_ 4 1 ≤ 30 by first | rfl | (exact zo_1040 eA4_1_N10_ eA4_1_N15_ ha53_1_hp0_N3_ ha53_2_hp0_N3_ rA4_1_N3_.2) | exact c19_ | exact hlw_.tr (zLow.f hsN15_ (by decide)) | exact hw7_.tr (zLow.f hsN15_ (by decide)) | exact zRea.st (zs0_n (Nz := N15_) (F := F_) (b := b_) (n := n_) (K := K_) (nm := nm_) p7_ hk2_ hu0_ (by rw [qzkS_N15_, hp1_, qzkS_N3_]) (by rw [qzkW_N15_, hW_]) (by rw [qzkG_N15_, hp3_, qzkG_N3_]) (by omega) (by omega) (hnn_.2.trans (by rw [show ze N10_ 1 2 = ze Mz 1 2 by omega]))) | exact zRea.st (zs0_s (Nz := N15_) (F := F_) (b := b_) (n := n_) (K := K_) (nm := nm_) p7_ hk2_ ⟨hk1_, hky_⟩ hu0_ ⟨hk3_, by omega⟩ (by rw [qzkS_N15_, hp1_, qzkS_N3_, qzkS_Mz]) (by rw [qzkW_N15_, hW_]) (by rw [qzkG_N15_, hp3_, qzkG_N3_, qzkG_Mz]) (by omega) (by omega) (hnn_.2.trans (by rw [show ze N10_ 1 2 = ze N3_ 1 2 by omega, hnx_]))) | exact zRea.st (zs0_w (Nz := N15_) (F := F_) (b := b_) (n := n_) (K := K_) (nm := nm_) p7_ hk2_ hns_ hw0_ hw1_ hw2_ (by rw [qzkS_N15_, hw4_]) (by rw [qzkW_N15_, hw3_]) (by rw [qzkG_N15_, hw5_]) (by omega) (by omega) (hnn_.2.trans (by rw [show ze N10_ 1 2 = ze Mz 1 2 by omega]))))⟩))⟩ d_Reader_readOperand_141
        · skip
          exact absurd hc_56 (by decide)
      · skip
        have hrt_ : zRea (zfs b_ n_ F_ K_ nm_) (zKst 0 F_ d_ Mz) zFt := by first | exact zRea.st (zs0_nf (F := F_) (d := d_) (b := b_) (n := n_) (K := K_) (nm := nm_) p7_ hk2_ ha53_0_hp0_N3_) | exact zRea.st (zs0_sf (F := F_) (d := d_) (b := b_) (n := n_) (K := K_) (nm := nm_) p7_ hk2_ ⟨hk1_, hky_⟩ (fun q_ => ha53_0_hp0_N3_ q_.1))
        show zW l m_Reader_readOperand (zn Mz + 0, zw Mz + 0) N3_ 56 [some (.ref 4), some (.ref (d_ + 0)), some (.ref (d_ + 33)), some (.int (Int32.ofInt ((ze Mz (d_ + 12) 7) - 1))), some (.int (Int32.ofInt 1))] [.int (Int32.ofInt 0)] _
        refine zr_if_ne (pc := 56) (tgt := 61) ⟨(by decide), (by decide)⟩ (by decide) d_Reader_readOperand_56 (fun hc_56 => ?_) (fun hc_56 => ?_)
        · skip
          exact absurd hc_56 (by decide)
        · skip
          refine zw_iconst (pc := 59) (v := Int32.ofInt 0) (by decide) (zdal_p dlA_Reader_readOperand_120 (i := 6) rfl) ?_
          exact zk_iret (pc := 60) (ty := .boolean) rfl (z_narB (by (decide))) ⟨by (exact hv4_a), by (exact hv4_b)⟩ hf_N3_ ⟨c6_, (show ((0 = 1 ∧ zRea (zfs b_ n_ F_ K_ nm_) (zKst 0 F_ d_ Mz) (zKst 1 F_ d_ N3_) ∧ zCI F_ K_ d_ 1 N3_ ∧ zLow d_ Mz N3_ ∧ ze Mz 4 1 + 1 ≤ ze N3_ 4 1 ∧ ze N3_ 4 1 ≤ 30) ∨ (0 = 0 ∧ zRea (zfs b_ n_ F_ K_ nm_) (zKst 0 F_ d_ Mz) zFt)) from Or.inr (⟨(show 0 = 0 by first | rfl | exact hrt_ | (exfalso; omega) | exact zRea.st (zs0_sf (F := F_) (d := d_) (b := b_) (n := n_) (K := K_) (nm := nm_) p7_ hk2_ ⟨hk1_, hky_⟩ (fun q_ => by have := q_.2.2; omega))), (show zRea (zfs b_ n_ F_ K_ nm_) (zKst 0 F_ d_ Mz) zFt by first | rfl | exact hrt_ | (exfalso; omega) | exact zRea.st (zs0_sf (F := F_) (d := d_) (b := b_) (n := n_) (K := K_) (nm := nm_) p7_ hk2_ ⟨hk1_, hky_⟩ (fun q_ => by have := q_.2.2; omega)))⟩))⟩ (zdal_p dlA_Reader_readOperand_120 (i := 7) rfl)
    · skip
      exact absurd hc_26 (by decide)
  · skip
    have hk2_ := ha19_0_hp0_N1_
    show zW l m_Reader_readOperand (zn Mz + 0, zw Mz + 0) Mz 22 [some (.ref 4), some (.ref (d_ + 0)), some (.ref (d_ + 33)), some (.int (Int32.ofInt ((ze Mz (d_ + 12) 7) - 1))), none] [.int (Int32.ofInt 0)] _
    refine zw_istore (pc := 22) (i := 4) (L2 := [some (.ref 4), some (.ref (d_ + 0)), some (.ref (d_ + 33)), some (.int (Int32.ofInt ((ze Mz (d_ + 12) 7) - 1))), some (.int (Int32.ofInt 0))]) (by decide) rfl (zdal_p dlA_Reader_readOperand_119 (i := 12) rfl) ?_
    refine zw_iload (pc := 24) (i := 4) (x := Int32.ofInt 0) rfl (zdal_p dlA_Reader_readOperand_119 (i := 13) rfl) ?_
    refine zr_if_ne (pc := 26) (tgt := 51) ⟨(by decide), (by decide)⟩ (by decide) (zdal_p dlA_Reader_readOperand_119 (i := 14) rfl) (fun hc_26 => ?_) (fun hc_26 => ?_)
    · skip
      exact absurd hc_26 (by decide)
    · skip
      refine zw_aload_n (pc := 29) (n := 0) (x := 4) rfl (zdal_p dlA_Reader_readOperand_119 (i := 15) rfl) ?_
      refine zw_getF (pc := 30) f_Reader_15 rfl ((hf.w hW).ka (o := 4) (by decide)) ((hf.w hW).la (o := 4) (s := 0) (r := 1) (by decide)) (zdal_p dlA_Reader_readOperand_119 (i := 16) rfl) ?_
      refine zw_ldcs (pc := 33) (i := 3) (List.mem_of_getElem? (i := 7) rfl) (zdal_p dlA_Reader_readOperand_119 (i := 17) rfl) ?_
      refine zk_callV hf.x (pc := 35) [.ref (zK 3)] [] l_Reader_49 (u_Tokens_isWord l d_ Mz (hf.w hW) 3 (by decide) b_ n_ p0_ p1_) rfl rfl ((hf.w hW).ka (o := 1) (by decide)) (by decide) (by decide) (Nat.le_of_ble_eq_true rfl) (zdal_p dlA_Reader_readOperand_119 (i := 18) rfl) ?_
      rintro _ N20_ ⟨v21_, rfl, ⟨hv21_a, hv21_b⟩, hsN20_, hp0_N20_⟩
      obtain rfl := hsN20_.eq.symm
      replace hp0_N20_ : ((v21_ = 1 ∧ zkd b_ n_ (ze Mz 1 2).toNat = 1 ∧ zkey b_ n_ (ze Mz 1 2).toNat = zkw 3) ∨ (v21_ = 0 ∧ ¬ (zkd b_ n_ (ze Mz 1 2).toNat = 1 ∧ zkey b_ n_ (ze Mz 1 2).toNat = zkw 3))) := hp0_N20_
      rcases hp0_N20_ with ⟨rfl, ha35_0_hp0_N20_, ha35_1_hp0_N20_⟩ | ⟨rfl, ha35_0_hp0_N20_⟩
      · skip
        have hk1_ := ha35_0_hp0_N20_
        have hky_ := ha35_1_hp0_N20_
        show zW l m_Reader_readOperand (zn Mz + 0, zw Mz + 0) Mz 38 [some (.ref 4), some (.ref (d_ + 0)), some (.ref (d_ + 33)), some (.int (Int32.ofInt ((ze Mz (d_ + 12) 7) - 1))), some (.int (Int32.ofInt 0))] [.int (Int32.ofInt 1)] _
        refine zr_if_ne (pc := 38) (tgt := 51) ⟨(by decide), (by decide)⟩ (by decide) (zdal_p dlA_Reader_readOperand_119 (i := 19) rfl) (fun hc_38 => ?_) (fun hc_38 => ?_)
        · skip
          refine zw_aload_n (pc := 51) (n := 0) (x := 4) rfl (zdal_p dlA_Reader_readOperand_120 (i := 2) rfl) ?_
          refine zw_aload_n (pc := 52) (n := 2) (x := (d_ + 33)) rfl (zdal_p dlA_Reader_readOperand_120 (i := 3) rfl) ?_
          refine zk_callV hf.x (pc := 53) [.ref (d_ + 33)] [] l_Reader_152 (u_Reader_countUnit l d_ Mz (hf.w hW) F_ K_ hA_ p3_ (show 0 ≤ ze Mz 4 1 by first | with_reducible assumption | assumption | omega) (show ze Mz 4 1 ≤ 30 by first | with_reducible assumption | assumption | omega)) rfl rfl ((hf.w hW).ka (o := 4) (by decide)) (by decide) (by decide) (Nat.le_of_ble_eq_true rfl) (zdal_p dlA_Reader_readOperand_120 (i := 4) rfl) ?_
          rintro _ N22_ ⟨v23_, rfl, ⟨hv23_a, hv23_b⟩, hsN22_, hp0_N22_⟩
          replace hp0_N22_ : ((v23_ = 1 ∧ zuo (zkS d_ Mz) (ze Mz 4 1).toNat ∧ ze N22_ 4 1 = ze Mz 4 1 + 1 ∧ ze Mz 4 1 ≤ 29) ∨ (v23_ = 0 ∧ ¬ zuo (zkS d_ Mz) (ze Mz 4 1).toNat)) := hp0_N22_
          have hf_N22_ : zFc d_ [(1, 2), (1, 3), (1, 4), (1, 5), (4, 1), (4, 2), (4, 3)] [] [(33, 3)] [25] Mz N22_ := hf.tr hsN22_ (by decide) (by decide) (by decide) (by decide)
          have eA1_2_N22_ : ze N22_ 1 2 = ze Mz 1 2 := hsN22_.ea (hf.w hW) (by decide)
          have eA1_3_N22_ : ze N22_ 1 3 = ze Mz 1 3 := hsN22_.ea (hf.w hW) (by decide)
          have eA1_5_N22_ : ze N22_ 1 5 = ze Mz 1 5 := hsN22_.ea (hf.w hW) (by decide)
          have rA4_1_N22_ := ze_r N22_ 4 1
          have eD12_7_N22_ : ze N22_ (d_ + 12) 7 = ze Mz (d_ + 12) 7 := hsN22_.e (by decide)
          have eD33_2_N22_ : ze N22_ (d_ + 33) 2 = ze Mz (d_ + 33) 2 := hsN22_.e (by decide)
          have eD33_3_N22_ : ze N22_ (d_ + 33) 3 = ze Mz (d_ + 33) 3 := hsN22_.e (by decide)
          have eD33_4_N22_ : ze N22_ (d_ + 33) 4 = ze Mz (d_ + 33) 4 := hsN22_.e (by decide)
          have eD33_5_N22_ : ze N22_ (d_ + 33) 5 = ze Mz (d_ + 33) 5 := hsN22_.e (by decide)
          have eD33_6_N22_ : ze N22_ (d_ + 33) 6 = ze Mz (d_ + 33) 6 := hsN22_.e (by decide)
          have qzkS_N22_ : zkS d_ N22_ = zkS d_ Mz := zkS_q hsN22_ (by decide)
          have qzkG_N22_ : zkG d_ N22_ = zkG d_ Mz := zkG_q hsN22_ (by decide)
          have qzkW_N22_ : zkW F_ d_ N22_ = zkW F_ d_ Mz := zkW_q hsN22_ (by decide)
          have c24_ : zYb b_ n_ N22_ := zYb.fr (hf.w hW) hsN22_ p0_ (by decide)
          have c25_ : zYt b_ n_ N22_ := zYt.fr (hf.w hW) hsN22_ p1_ (by decide)
          have c26_ : zKm F_ K_ d_ N22_ := zKm.fr (hf.w hW) hsN22_ p2_ (by decide)
          have c27_ : zCI F_ K_ d_ 0 N22_ := zCI.fr (hf.w hW) hsN22_ p3_ (by decide)
          rcases hp0_N22_ with ⟨rfl, ha53_0_hp0_N22_, ha53_1_hp0_N22_, ha53_2_hp0_N22_⟩ | ⟨rfl, ha53_0_hp0_N22_⟩
          · skip
            have hu0_ := ha53_0_hp0_N22_
            have hu1_ := ha53_1_hp0_N22_
            have hu2_ := ha53_2_hp0_N22_
            have hfc3_ : ze N22_ (d_ + 12) 7 = F_ := c26_.1
            show zW l m_Reader_readOperand (zn Mz + 0, zw Mz + 0) N22_ 56 [some (.ref 4), some (.ref (d_ + 0)), some (.ref (d_ + 33)), some (.int (Int32.ofInt ((ze Mz (d_ + 12) 7) - 1))), some (.int (Int32.ofInt 0))] [.int (Int32.ofInt 1)] _
            refine zr_if_ne (pc := 56) (tgt := 61) ⟨(by decide), (by decide)⟩ (by decide) d_Reader_readOperand_56 (fun hc_56 => ?_) (fun hc_56 => ?_)
            · skip
              refine zw_iload (pc := 61) (i := 4) (x := Int32.ofInt 0) rfl (zdal_p dlA_Reader_readOperand_120 (i := 8) rfl) ?_
              refine zr_if_eq (pc := 63) (tgt := 81) ⟨(by decide), (by decide)⟩ (by decide) (zdal_p dlA_Reader_readOperand_120 (i := 9) rfl) (fun hc_63 => ?_) (fun hc_63 => ?_)
              · skip
                have hyt_ := c25_
                have hyx_ := hyt_.x
                refine zw_aload_n (pc := 81) (n := 0) (x := 4) rfl (zdal_p dlA_Reader_readOperand_120 (i := 17) rfl) ?_
                refine zw_getF (pc := 82) f_Reader_15 rfl ((hf_N22_.w hW).ka (o := 4) (by decide)) ((hf_N22_.w hW).la (o := 4) (s := 0) (r := 1) (by decide)) (zdal_p dlA_Reader_readOperand_120 (i := 18) rfl) ?_
                refine zk_callV hf_N22_.x (pc := 85) [] [] l_Reader_44 (u_Tokens_step l d_ N22_ (hf_N22_.w hW) b_ n_ c24_ (show 0 ≤ ze N22_ 1 3 by first | with_reducible assumption | (exact zo_57 hyx_.2.1) | assumption) (show ze N22_ 1 3 ≤ n_ by first | with_reducible assumption | (exact zo_605 hyx_.2.2) | assumption)) rfl rfl ((hf_N22_.w hW).ka (o := 1) (by decide)) (by decide) (by decide) (Nat.le_of_ble_eq_true rfl) (zdal_p dlA_Reader_readOperand_120 (i := 19) rfl) ?_
                rintro _ N29_ ⟨rfl, hsN29_, ⟨hp0_N29_, hp1_N29_⟩⟩
                have hf_N29_ : zFc d_ [(1, 2), (1, 3), (1, 4), (1, 5), (4, 1), (4, 2), (4, 3)] [] [(33, 3)] [25] Mz N29_ := hf_N22_.tr hsN29_ (by decide) (by decide) (by decide) (by decide)
                have rA1_2_N29_ := ze_r N29_ 1 2
                have rA1_3_N29_ := ze_r N29_ 1 3
                have rA1_5_N29_ := ze_r N29_ 1 5
                have eA4_1_N29_ : ze N29_ 4 1 = ze N22_ 4 1 := hsN29_.ea (hf_N22_.w hW) (by decide)
                have eD12_7_N29_ : ze N29_ (d_ + 12) 7 = ze N22_ (d_ + 12) 7 := hsN29_.e (by decide)
                have eD33_2_N29_ : ze N29_ (d_ + 33) 2 = ze N22_ (d_ + 33) 2 := hsN29_.e (by decide)
                have eD33_3_N29_ : ze N29_ (d_ + 33) 3 = ze N22_ (d_ + 33) 3 := hsN29_.e (by decide)
                have eD33_4_N29_ : ze N29_ (d_ + 33) 4 = ze N22_ (d_ + 33) 4 := hsN29_.e (by decide)
                have eD33_5_N29_ : ze N29_ (d_ + 33) 5 = ze N22_ (d_ + 33) 5 := hsN29_.e (by decide)
                have eD33_6_N29_ : ze N29_ (d_ + 33) 6 = ze N22_ (d_ + 33) 6 := hsN29_.e (by decide)
                have qzkS_N29_ : zkS d_ N29_ = zkS d_ N22_ := zkS_q hsN29_ (by decide)
                have qzkG_N29_ : zkG d_ N29_ = zkG d_ N22_ := zkG_q hsN29_ (by decide)
                have qzkW_N29_ : zkW F_ d_ N29_ = zkW F_ d_ N22_ := zkW_q hsN29_ (by decide)
                have c31_ : zYb b_ n_ N29_ := zYb.fr (hf_N22_.w hW) hsN29_ c24_ (by decide)
                have c32_ : zKm F_ K_ d_ N29_ := zKm.fr (hf_N22_.w hW) hsN29_ c26_ (by decide)
                have c33_ : zCI F_ K_ d_ 0 N29_ := zCI.fr (hf_N22_.w hW) hsN29_ c27_ (by decide)
                show zW l m_Reader_readOperand (zn Mz + 0, zw Mz + 0) N29_ 88 [some (.ref 4), some (.ref (d_ + 0)), some (.ref (d_ + 33)), some (.int (Int32.ofInt ((ze Mz (d_ + 12) 7) - 1))), some (.int (Int32.ofInt 0))] [] _
                have hnn_ := hyt_.n hp0_N29_
                have hnx_ : (ze N29_ 1 2).toNat = znx b_ n_ (ze Mz 1 2).toNat := hnn_.2.trans (by rw [show ze N22_ 1 2 = ze Mz 1 2 by (exact eA1_2_N22_)])
                refine zw_aload_n (pc := 88) (n := 0) (x := 4) rfl (zdal_p dlA_Reader_readOperand_120 (i := 20) rfl) ?_
                refine zw_getF (pc := 89) f_Reader_15 rfl ((hf_N29_.w hW).ka (o := 4) (by decide)) ((hf_N29_.w hW).la (o := 4) (s := 0) (r := 1) (by decide)) (zdal_p dlA_Reader_readOperand_120 (i := 21) rfl) ?_
                refine zk_callV hf_N29_.x (pc := 92) [] [] l_Reader_53 (u_Tokens_isNumber l d_ N29_ (hf_N29_.w hW) b_ n_ hp1_N29_) rfl rfl ((hf_N29_.w hW).ka (o := 1) (by decide)) (by decide) (by decide) (Nat.le_of_ble_eq_true rfl) (zdal_p dlA_Reader_readOperand_120 (i := 22) rfl) ?_
                rintro _ N35_ ⟨v36_, rfl, ⟨hv36_a, hv36_b⟩, hsN35_, hp0_N35_⟩
                obtain rfl := hsN35_.eq.symm
                replace hp0_N35_ : ((v36_ = 1 ∧ zkd b_ n_ (ze N29_ 1 2).toNat = 2) ∨ (v36_ = 0 ∧ zkd b_ n_ (ze N29_ 1 2).toNat ≠ 2)) := hp0_N35_
                rcases hp0_N35_ with ⟨rfl, ha92_0_hp0_N35_⟩ | ⟨rfl, ha92_0_hp0_N35_⟩
                · skip
                  have hk3_ := ha92_0_hp0_N35_
                  have hv3_ := hp1_N29_.v2 hk3_
                  rw [hnx_] at hk3_ hv3_
                  show zW l m_Reader_readOperand (zn Mz + 0, zw Mz + 0) N29_ 95 [some (.ref 4), some (.ref (d_ + 0)), some (.ref (d_ + 33)), some (.int (Int32.ofInt ((ze Mz (d_ + 12) 7) - 1))), some (.int (Int32.ofInt 0))] [.int (Int32.ofInt 1)] _
                  refine zr_if_ne (pc := 95) (tgt := 104) ⟨(by decide), (by decide)⟩ (by decide) (zdal_p dlA_Reader_readOperand_120 (i := 23) rfl) (fun hc_95 => ?_) (fun hc_95 => ?_)
                  · skip
                    refine zw_aload_n (pc := 104) (n := 0) (x := 4) rfl (zdal_p dlA_Reader_readOperand_121 (i := 4) rfl) ?_
                    refine zw_getF (pc := 105) f_Reader_15 rfl ((hf_N29_.w hW).ka (o := 4) (by decide)) ((hf_N29_.w hW).la (o := 4) (s := 0) (r := 1) (by decide)) (zdal_p dlA_Reader_readOperand_121 (i := 5) rfl) ?_
                    refine zk_getI (pc := 108) f_Reader_57 rfl ((hf_N29_.w hW).ka (o := 1) (by decide)) (zdal_p dlA_Reader_readOperand_121 (i := 6) rfl) ?_
                    refine zw_iload_n (pc := 111) (n := 3) (x := Int32.ofInt ((ze Mz (d_ + 12) 7) - 1)) rfl (zdal_p dlA_Reader_readOperand_121 (i := 7) rfl) ?_
                    refine zr_icmp_le (pc := 112) (tgt := 121) ⟨(ze_r N29_ 1 5).1, (ze_r N29_ 1 5).2⟩ ⟨(by (exact zo_786 hFc_ r_D12_7.1)), (by (exact zo_601 r_D12_7.2))⟩ (by decide) (zdal_p dlA_Reader_readOperand_121 (i := 8) rfl) (fun hc_112 => ?_) (fun hc_112 => ?_)
                    · skip
                      refine zw_aload_n (pc := 121) (n := 2) (x := (d_ + 33)) rfl (zdal_p dlA_Reader_readOperand_121 (i := 13) rfl) ?_
                      refine zw_aload_n (pc := 122) (n := 0) (x := 4) rfl (zdal_p dlA_Reader_readOperand_121 (i := 14) rfl) ?_
                      refine zw_getF (pc := 123) f_Reader_15 rfl ((hf_N29_.w hW).ka (o := 4) (by decide)) ((hf_N29_.w hW).la (o := 4) (s := 0) (r := 1) (by decide)) (zdal_p dlA_Reader_readOperand_121 (i := 15) rfl) ?_
                      refine zk_getI (pc := 126) f_Reader_57 rfl ((hf_N29_.w hW).ka (o := 1) (by decide)) (zdal_p dlA_Reader_readOperand_121 (i := 16) rfl) ?_
                      refine zw_iconst (pc := 129) (v := Int32.ofInt 1) (by decide) (zdal_p dlA_Reader_readOperand_121 (i := 17) rfl) ?_
                      refine zk_callV hf_N29_.x (pc := 130) [.int (Int32.ofInt (ze N29_ 1 5)), .int (Int32.ofInt 1)] [] l_Reader_172 (u_Calc_pushSingle l d_ N29_ (hf_N29_.w hW) (ze N29_ 1 5) (ze_r N29_ 1 5).1 (ze_r N29_ 1 5).2 1 (by decide) (by decide) F_ K_ hA_ c32_ c33_ (show 0 ≤ (ze N29_ 1 5) by first | with_reducible assumption | (exact zo_57 hv3_.2.1) | assumption) (show (ze N29_ 1 5) < F_ by first | with_reducible assumption | (exact zo_1041 hFc_ hc_112 hv3_.2.2) | assumption) (show 0 ≤ 1 by first | with_reducible assumption | (decide) | assumption) (show 1 ≤ 999 by first | with_reducible assumption | (decide) | assumption)) rfl rfl ((hf_N29_.w hW).kr (o := 33) (by decide)) (by decide) (by decide) (Nat.le_of_ble_eq_true rfl) (zdal_p dlA_Reader_readOperand_121 (i := 18) rfl) ?_
                      rintro _ N37_ ⟨rfl, hsN37_, ⟨hp0_N37_, hp1_N37_, hp2_N37_, hp3_N37_, hp4_N37_⟩⟩
                      have hf_N37_ : zFc d_ [(1, 2), (1, 3), (1, 4), (1, 5), (4, 1), (4, 2), (4, 3)] [] [(33, 3)] [25] Mz N37_ := hf_N29_.tr hsN37_ (by decide) (by decide) (by decide) (by decide)
                      have eA1_2_N37_ : ze N37_ 1 2 = ze N29_ 1 2 := hsN37_.ea (hf_N29_.w hW) (by decide)
                      have eA1_3_N37_ : ze N37_ 1 3 = ze N29_ 1 3 := hsN37_.ea (hf_N29_.w hW) (by decide)
                      have eA1_5_N37_ : ze N37_ 1 5 = ze N29_ 1 5 := hsN37_.ea (hf_N29_.w hW) (by decide)
                      have eA4_1_N37_ : ze N37_ 4 1 = ze N29_ 4 1 := hsN37_.ea (hf_N29_.w hW) (by decide)
                      have eD12_7_N37_ : ze N37_ (d_ + 12) 7 = ze N29_ (d_ + 12) 7 := hsN37_.e (by decide)
                      have eD33_2_N37_ : ze N37_ (d_ + 33) 2 = ze N29_ (d_ + 33) 2 := hsN37_.e (by decide)
                      have rD33_3_N37_ := ze_r N37_ (d_ + 33) 3
                      have eD33_4_N37_ : ze N37_ (d_ + 33) 4 = ze N29_ (d_ + 33) 4 := hsN37_.e (by decide)
                      have eD33_5_N37_ : ze N37_ (d_ + 33) 5 = ze N29_ (d_ + 33) 5 := hsN37_.e (by decide)
                      have eD33_6_N37_ : ze N37_ (d_ + 33) 6 = ze N29_ (d_ + 33) 6 := hsN37_.e (by decide)
                      have c39_ : zYb b_ n_ N37_ := zYb.fr (hf_N29_.w hW) hsN37_ c31_ (by decide)
                      have c41_ : zYt b_ n_ N37_ := zYt.fr (hf_N29_.w hW) hsN37_ hp1_N29_ (by decide)
                      show zW l m_Reader_readOperand (zn Mz + 0, zw Mz + 0) N37_ 133 [some (.ref 4), some (.ref (d_ + 0)), some (.ref (d_ + 33)), some (.int (Int32.ofInt ((ze Mz (d_ + 12) 7) - 1))), some (.int (Int32.ofInt 0))] [] _
                      have hp1_ := hp1_N37_
                      have hp2_ := hp2_N37_
                      have hp3_ := hp3_N37_
                      have hlw_ := ((zLow.f hsN22_ (by decide)).tr (zLow.f hsN29_ (by decide))).tr hp4_N37_
                      have hW_ := hp2_.trans (by rw [qzkG_N29_, qzkW_N29_, qzkG_N22_, qzkW_N22_, show ze N29_ 1 5 = znu b_ n_ (znx b_ n_ (ze Mz 1 2).toNat) by (exact zo_763 hv3_.1)] : _ = zpu (zkG d_ Mz) (zone (znu b_ n_ (znx b_ n_ (ze Mz 1 2).toNat)) 1) (zkW F_ d_ Mz))
                      have hyt_ := c41_
                      have hyx_ := hyt_.x
                      refine zw_aload_n (pc := 133) (n := 0) (x := 4) rfl d_Reader_readOperand_133 ?_
                      refine zw_getF (pc := 134) f_Reader_15 rfl ((hf_N37_.w hW).ka (o := 4) (by decide)) ((hf_N37_.w hW).la (o := 4) (s := 0) (r := 1) (by decide)) d_Reader_readOperand_134 ?_
                      refine zk_callV hf_N37_.x (pc := 137) [] [] l_Reader_44 (u_Tokens_step l d_ N37_ (hf_N37_.w hW) b_ n_ c39_ (show 0 ≤ ze N37_ 1 3 by first | with_reducible assumption | (exact zo_57 hyx_.2.1) | assumption) (show ze N37_ 1 3 ≤ n_ by first | with_reducible assumption | (exact zo_605 hyx_.2.2) | assumption)) rfl rfl ((hf_N37_.w hW).ka (o := 1) (by decide)) (by decide) (by decide) (Nat.le_of_ble_eq_true rfl) d_Reader_readOperand_137 ?_
                      rintro _ N42_ ⟨rfl, hsN42_, ⟨hp0_N42_, hp1_N42_⟩⟩
                      have hf_N42_ : zFc d_ [(1, 2), (1, 3), (1, 4), (1, 5), (4, 1), (4, 2), (4, 3)] [] [(33, 3)] [25] Mz N42_ := hf_N37_.tr hsN42_ (by decide) (by decide) (by decide) (by decide)
                      have rA1_2_N42_ := ze_r N42_ 1 2
                      have rA1_3_N42_ := ze_r N42_ 1 3
                      have rA1_5_N42_ := ze_r N42_ 1 5
                      have eA4_1_N42_ : ze N42_ 4 1 = ze N37_ 4 1 := hsN42_.ea (hf_N37_.w hW) (by decide)
                      have eD12_7_N42_ : ze N42_ (d_ + 12) 7 = ze N37_ (d_ + 12) 7 := hsN42_.e (by decide)
                      have eD33_2_N42_ : ze N42_ (d_ + 33) 2 = ze N37_ (d_ + 33) 2 := hsN42_.e (by decide)
                      have eD33_3_N42_ : ze N42_ (d_ + 33) 3 = ze N37_ (d_ + 33) 3 := hsN42_.e (by decide)
                      have eD33_4_N42_ : ze N42_ (d_ + 33) 4 = ze N37_ (d_ + 33) 4 := hsN42_.e (by decide)
                      have eD33_5_N42_ : ze N42_ (d_ + 33) 5 = ze N37_ (d_ + 33) 5 := hsN42_.e (by decide)
                      have eD33_6_N42_ : ze N42_ (d_ + 33) 6 = ze N37_ (d_ + 33) 6 := hsN42_.e (by decide)
                      have qzkS_N42_ : zkS d_ N42_ = zkS d_ N37_ := zkS_q hsN42_ (by decide)
                      have qzkG_N42_ : zkG d_ N42_ = zkG d_ N37_ := zkG_q hsN42_ (by decide)
                      have qzkW_N42_ : zkW F_ d_ N42_ = zkW F_ d_ N37_ := zkW_q hsN42_ (by decide)
                      have c46_ : zCI F_ K_ d_ 1 N42_ := zCI.fr (hf_N37_.w hW) hsN42_ hp0_N37_ (by decide)
                      show zW l m_Reader_readOperand (zn Mz + 0, zw Mz + 0) N42_ 140 [some (.ref 4), some (.ref (d_ + 0)), some (.ref (d_ + 33)), some (.int (Int32.ofInt ((ze Mz (d_ + 12) 7) - 1))), some (.int (Int32.ofInt 0))] [] _
                      have hnn_ := hyt_.n hp0_N42_
                      refine zw_iconst (pc := 140) (v := Int32.ofInt 1) (by decide) d_Reader_readOperand_140 ?_
                      exact zk_iret (pc := 141) (ty := .boolean) rfl (z_narB (by (decide))) ⟨by (exact hv21_a), by (exact hv21_b)⟩ hf_N42_ ⟨hp1_N42_, (show ((1 = 1 ∧ zRea (zfs b_ n_ F_ K_ nm_) (zKst 0 F_ d_ Mz) (zKst 1 F_ d_ N42_) ∧ zCI F_ K_ d_ 1 N42_ ∧ zLow d_ Mz N42_ ∧ ze Mz 4 1 + 1 ≤ ze N42_ 4 1 ∧ ze N42_ 4 1 ≤ 30) ∨ (1 = 0 ∧ zRea (zfs b_ n_ F_ K_ nm_) (zKst 0 F_ d_ Mz) zFt)) from Or.inl (⟨(show 1 = 1 by first | rfl | omega | exact c46_ | exact hlw_.tr (zLow.f hsN42_ (by decide)) | exact hw7_.tr (zLow.f hsN42_ (by decide)) | exact zRea.st (zs0_n (Nz := N42_) (F := F_) (b := b_) (n := n_) (K := K_) (nm := nm_) p7_ hk2_ hu0_ (by rw [qzkS_N42_, hp1_, qzkS_N29_]) (by rw [qzkW_N42_, hW_]) (by rw [qzkG_N42_, hp3_, qzkG_N29_]) (by omega) (by omega) (hnn_.2.trans (by rw [show ze N37_ 1 2 = ze Mz 1 2 by omega]))) | exact zRea.st (zs0_s (Nz := N42_) (F := F_) (b := b_) (n := n_) (K := K_) (nm := nm_) p7_ hk2_ ⟨hk1_, hky_⟩ hu0_ ⟨hk3_, by omega⟩ (by rw [qzkS_N42_, hp1_, qzkS_N29_, qzkS_N22_]) (by rw [qzkW_N42_, hW_]) (by rw [qzkG_N42_, hp3_, qzkG_N29_, qzkG_N22_]) (by omega) (by omega) (hnn_.2.trans (by rw [show ze N37_ 1 2 = ze N29_ 1 2 by omega, hnx_]))) | exact zRea.st (zs0_w (Nz := N42_) (F := F_) (b := b_) (n := n_) (K := K_) (nm := nm_) p7_ hk2_ hns_ hw0_ hw1_ hw2_ (by rw [qzkS_N42_, hw4_]) (by rw [qzkW_N42_, hw3_]) (by rw [qzkG_N42_, hw5_]) (by omega) (by omega) (hnn_.2.trans (by rw [show ze N37_ 1 2 = ze Mz 1 2 by omega])))), (show zRea (zfs b_ n_ F_ K_ nm_) (zKst 0 F_ d_ Mz) (zKst 1 F_ d_ N42_) by first | rfl | omega | exact c46_ | exact hlw_.tr (zLow.f hsN42_ (by decide)) | exact hw7_.tr (zLow.f hsN42_ (by decide)) | exact zRea.st (zs0_n (Nz := N42_) (F := F_) (b := b_) (n := n_) (K := K_) (nm := nm_) p7_ hk2_ hu0_ (by rw [qzkS_N42_, hp1_, qzkS_N29_]) (by rw [qzkW_N42_, hW_]) (by rw [qzkG_N42_, hp3_, qzkG_N29_]) (by omega) (by omega) (hnn_.2.trans (by rw [show ze N37_ 1 2 = ze Mz 1 2 by omega]))) | exact zRea.st (zs0_s (Nz := N42_) (F := F_) (b := b_) (n := n_) (K := K_) (nm := nm_) p7_ hk2_ ⟨hk1_, hky_⟩ hu0_ ⟨hk3_, by (exact zo_1042 hFc_ hc_112 hv3_.1 hv3_.2.2)⟩ (by rw [qzkS_N42_, hp1_, qzkS_N29_, qzkS_N22_]) (by rw [qzkW_N42_, hW_]) (by rw [qzkG_N42_, hp3_, qzkG_N29_, qzkG_N22_]) (by (exact zo_1043 eA4_1_N29_ eA4_1_N37_ eA4_1_N42_ ha53_1_hp0_N22_)) (by (exact p5_)) (hnn_.2.trans (by rw [show ze N37_ 1 2 = ze N29_ 1 2 by (exact eA1_2_N37_), hnx_]))) | exact zRea.st (zs0_w (Nz := N42_) (F := F_) (b := b_) (n := n_) (K := K_) (nm := nm_) p7_ hk2_ hns_ hw0_ hw1_ hw2_ (by rw [qzkS_N42_, hw4_]) (by rw [qzkW_N42_, hw3_]) (by rw [qzkG_N42_, hw5_]) (by omega) (by omega) (hnn_.2.trans (by rw [show ze N37_ 1 2 = ze Mz 1 2 by omega])))), (show zCI F_ K_ d_ 1 N42_ by first | rfl | (exact c46_) | exact c46_ | exact hlw_.tr (zLow.f hsN42_ (by decide)) | exact hw7_.tr (zLow.f hsN42_ (by decide)) | exact zRea.st (zs0_n (Nz := N42_) (F := F_) (b := b_) (n := n_) (K := K_) (nm := nm_) p7_ hk2_ hu0_ (by rw [qzkS_N42_, hp1_, qzkS_N29_]) (by rw [qzkW_N42_, hW_]) (by rw [qzkG_N42_, hp3_, qzkG_N29_]) (by omega) (by omega) (hnn_.2.trans (by rw [show ze N37_ 1 2 = ze Mz 1 2 by omega]))) | exact zRea.st (zs0_s (Nz := N42_) (F := F_) (b := b_) (n := n_) (K := K_) (nm := nm_) p7_ hk2_ ⟨hk1_, hky_⟩ hu0_ ⟨hk3_, by omega⟩ (by rw [qzkS_N42_, hp1_, qzkS_N29_, qzkS_N22_]) (by rw [qzkW_N42_, hW_]) (by rw [qzkG_N42_, hp3_, qzkG_N29_, qzkG_N22_]) (by omega) (by omega) (hnn_.2.trans (by rw [show ze N37_ 1 2 = ze N29_ 1 2 by omega, hnx_]))) | exact zRea.st (zs0_w (Nz := N42_) (F := F_) (b := b_) (n := n_) (K := K_) (nm := nm_) p7_ hk2_ hns_ hw0_ hw1_ hw2_ (by rw [qzkS_N42_, hw4_]) (by rw [qzkW_N42_, hw3_]) (by rw [qzkG_N42_, hw5_]) (by omega) (by omega) (hnn_.2.trans (by rw [show ze N37_ 1 2 = ze Mz 1 2 by omega])))), (show zLow d_ Mz N42_ by first | rfl | omega | exact c46_ | exact hlw_.tr (zLow.f hsN42_ (by decide)) | exact hw7_.tr (zLow.f hsN42_ (by decide)) | exact zRea.st (zs0_n (Nz := N42_) (F := F_) (b := b_) (n := n_) (K := K_) (nm := nm_) p7_ hk2_ hu0_ (by rw [qzkS_N42_, hp1_, qzkS_N29_]) (by rw [qzkW_N42_, hW_]) (by rw [qzkG_N42_, hp3_, qzkG_N29_]) (by omega) (by omega) (hnn_.2.trans (by rw [show ze N37_ 1 2 = ze Mz 1 2 by omega]))) | exact zRea.st (zs0_s (Nz := N42_) (F := F_) (b := b_) (n := n_) (K := K_) (nm := nm_) p7_ hk2_ ⟨hk1_, hky_⟩ hu0_ ⟨hk3_, by omega⟩ (by rw [qzkS_N42_, hp1_, qzkS_N29_, qzkS_N22_]) (by rw [qzkW_N42_, hW_]) (by rw [qzkG_N42_, hp3_, qzkG_N29_, qzkG_N22_]) (by omega) (by omega) (hnn_.2.trans (by rw [show ze N37_ 1 2 = ze N29_ 1 2 by omega, hnx_]))) | exact zRea.st (zs0_w (Nz := N42_) (F := F_) (b := b_) (n := n_) (K := K_) (nm := nm_) p7_ hk2_ hns_ hw0_ hw1_ hw2_ (by rw [qzkS_N42_, hw4_]) (by rw [qzkW_N42_, hw3_]) (by rw [qzkG_N42_, hw5_]) (by omega) (by omega) (hnn_.2.trans (by rw [show ze N37_ 1 2 = ze Mz 1 2 by omega])))), (show ze Mz 4 1 + 1 ≤ ze N42_ 4 1 by first | rfl | (exact zo_1044 eA4_1_N29_ eA4_1_N37_ eA4_1_N42_ ha53_1_hp0_N22_) | exact c46_ | exact hlw_.tr (zLow.f hsN42_ (by decide)) | exact hw7_.tr (zLow.f hsN42_ (by decide)) | exact zRea.st (zs0_n (Nz := N42_) (F := F_) (b := b_) (n := n_) (K := K_) (nm := nm_) p7_ hk2_ hu0_ (by rw [qzkS_N42_, hp1_, qzkS_N29_]) (by rw [qzkW_N42_, hW_]) (by rw [qzkG_N42_, hp3_, qzkG_N29_]) (by omega) (by omega) (hnn_.2.trans (by rw [show ze N37_ 1 2 = ze Mz 1 2 by omega]))) | exact zRea.st (zs0_s (Nz := N42_) (F := F_) (b := b_) (n := n_) (K := K_) (nm := nm_) p7_ hk2_ ⟨hk1_, hky_⟩ hu0_ ⟨hk3_, by omega⟩ (by rw [qzkS_N42_, hp1_, qzkS_N29_, qzkS_N22_]) (by rw [qzkW_N42_, hW_]) (by rw [qzkG_N42_, hp3_, qzkG_N29_, qzkG_N22_]) (by omega) (by omega) (hnn_.2.trans (by rw [show ze N37_ 1 2 = ze N29_ 1 2 by omega, hnx_]))) | exact zRea.st (zs0_w (Nz := N42_) (F := F_) (b := b_) (n := n_) (K := K_) (nm := nm_) p7_ hk2_ hns_ hw0_ hw1_ hw2_ (by rw [qzkS_N42_, hw4_]) (by rw [qzkW_N42_, hw3_]) (by rw [qzkG_N42_, hw5_]) (by omega) (by omega) (hnn_.2.trans (by rw [show ze N37_ 1 2 = ze Mz 1 2 by omega])))), (show ze N42_ 4 1 ≤ 30 by first | rfl | (exact zo_1045 eA4_1_N29_ eA4_1_N37_ eA4_1_N42_ ha53_1_hp0_N22_ ha53_2_hp0_N22_ rA4_1_N22_.2) | exact c46_ | exact hlw_.tr (zLow.f hsN42_ (by decide)) | exact hw7_.tr (zLow.f hsN42_ (by decide)) | exact zRea.st (zs0_n (Nz := N42_) (F := F_) (b := b_) (n := n_) (K := K_) (nm := nm_) p7_ hk2_ hu0_ (by rw [qzkS_N42_, hp1_, qzkS_N29_]) (by rw [qzkW_N42_, hW_]) (by rw [qzkG_N42_, hp3_, qzkG_N29_]) (by omega) (by omega) (hnn_.2.trans (by rw [show ze N37_ 1 2 = ze Mz 1 2 by omega]))) | exact zRea.st (zs0_s (Nz := N42_) (F := F_) (b := b_) (n := n_) (K := K_) (nm := nm_) p7_ hk2_ ⟨hk1_, hky_⟩ hu0_ ⟨hk3_, by omega⟩ (by rw [qzkS_N42_, hp1_, qzkS_N29_, qzkS_N22_]) (by rw [qzkW_N42_, hW_]) (by rw [qzkG_N42_, hp3_, qzkG_N29_, qzkG_N22_]) (by omega) (by omega) (hnn_.2.trans (by rw [show ze N37_ 1 2 = ze N29_ 1 2 by omega, hnx_]))) | exact zRea.st (zs0_w (Nz := N42_) (F := F_) (b := b_) (n := n_) (K := K_) (nm := nm_) p7_ hk2_ hns_ hw0_ hw1_ hw2_ (by rw [qzkS_N42_, hw4_]) (by rw [qzkW_N42_, hw3_]) (by rw [qzkG_N42_, hw5_]) (by omega) (by omega) (hnn_.2.trans (by rw [show ze N37_ 1 2 = ze Mz 1 2 by omega]))))⟩))⟩ d_Reader_readOperand_141
                    · skip
                      refine zw_aload_n (pc := 115) (n := 0) (x := 4) rfl (zdal_p dlA_Reader_readOperand_121 (i := 9) rfl) ?_
                      refine zw_iconst (pc := 116) (v := Int32.ofInt 4) (by decide) (zdal_p dlA_Reader_readOperand_121 (i := 10) rfl) ?_
                      refine zk_callV hf_N29_.x (pc := 117) [.int (Int32.ofInt 4)] [] l_Reader_41 (u_Reader_refuse l d_ N29_ (hf_N29_.w hW) 4 (by decide) (by decide)) rfl rfl ((hf_N29_.w hW).ka (o := 4) (by decide)) (by decide) (by decide) (Nat.le_of_ble_eq_true rfl) (zdal_p dlA_Reader_readOperand_121 (i := 11) rfl) ?_
                      rintro _ N47_ ⟨v48_, rfl, ⟨hv48_a, hv48_b⟩, hsN47_, hp0_N47_⟩
                      replace hp0_N47_ : ((v48_ = 0)) := hp0_N47_
                      have hf_N47_ : zFc d_ [(1, 2), (1, 3), (1, 4), (1, 5), (4, 1), (4, 2), (4, 3)] [] [(33, 3)] [25] Mz N47_ := hf_N29_.tr hsN47_ (by decide) (by decide) (by decide) (by decide)
                      have eA1_2_N47_ : ze N47_ 1 2 = ze N29_ 1 2 := hsN47_.ea (hf_N29_.w hW) (by decide)
                      have eA1_3_N47_ : ze N47_ 1 3 = ze N29_ 1 3 := hsN47_.ea (hf_N29_.w hW) (by decide)
                      have eA1_5_N47_ : ze N47_ 1 5 = ze N29_ 1 5 := hsN47_.ea (hf_N29_.w hW) (by decide)
                      have eA4_1_N47_ : ze N47_ 4 1 = ze N29_ 4 1 := hsN47_.ea (hf_N29_.w hW) (by decide)
                      have eD12_7_N47_ : ze N47_ (d_ + 12) 7 = ze N29_ (d_ + 12) 7 := hsN47_.e (by decide)
                      have eD33_2_N47_ : ze N47_ (d_ + 33) 2 = ze N29_ (d_ + 33) 2 := hsN47_.e (by decide)
                      have eD33_3_N47_ : ze N47_ (d_ + 33) 3 = ze N29_ (d_ + 33) 3 := hsN47_.e (by decide)
                      have eD33_4_N47_ : ze N47_ (d_ + 33) 4 = ze N29_ (d_ + 33) 4 := hsN47_.e (by decide)
                      have eD33_5_N47_ : ze N47_ (d_ + 33) 5 = ze N29_ (d_ + 33) 5 := hsN47_.e (by decide)
                      have eD33_6_N47_ : ze N47_ (d_ + 33) 6 = ze N29_ (d_ + 33) 6 := hsN47_.e (by decide)
                      have c53_ : zYt b_ n_ N47_ := zYt.fr (hf_N29_.w hW) hsN47_ hp1_N29_ (by decide)
                      rcases hp0_N47_ with rfl
                      · skip
                        show zW l m_Reader_readOperand (zn Mz + 0, zw Mz + 0) N47_ 120 [some (.ref 4), some (.ref (d_ + 0)), some (.ref (d_ + 33)), some (.int (Int32.ofInt ((ze Mz (d_ + 12) 7) - 1))), some (.int (Int32.ofInt 0))] [.int (Int32.ofInt 0)] _
                        exact zk_iret (pc := 120) (ty := .boolean) rfl (z_narB (by (decide))) ⟨by (exact hv2_a), by (exact hv2_b)⟩ hf_N47_ ⟨c53_, (show ((0 = 1 ∧ zRea (zfs b_ n_ F_ K_ nm_) (zKst 0 F_ d_ Mz) (zKst 1 F_ d_ N47_) ∧ zCI F_ K_ d_ 1 N47_ ∧ zLow d_ Mz N47_ ∧ ze Mz 4 1 + 1 ≤ ze N47_ 4 1 ∧ ze N47_ 4 1 ≤ 30) ∨ (0 = 0 ∧ zRea (zfs b_ n_ F_ K_ nm_) (zKst 0 F_ d_ Mz) zFt)) from Or.inr (⟨(show 0 = 0 by first | rfl | exact hrt_ | (exfalso; omega) | exact zRea.st (zs0_sf (F := F_) (d := d_) (b := b_) (n := n_) (K := K_) (nm := nm_) p7_ hk2_ ⟨hk1_, hky_⟩ (fun q_ => by have := q_.2.2; omega))), (show zRea (zfs b_ n_ F_ K_ nm_) (zKst 0 F_ d_ Mz) zFt by first | rfl | exact hrt_ | (exfalso; omega) | exact zRea.st (zs0_sf (F := F_) (d := d_) (b := b_) (n := n_) (K := K_) (nm := nm_) p7_ hk2_ ⟨hk1_, hky_⟩ (fun q_ => by have := q_.2.2; (exact zo_1046 hFc_ hc_112 hv3_.1 q_.2.2))))⟩))⟩ (zdal_p dlA_Reader_readOperand_121 (i := 12) rfl)
                  · skip
                    exact absurd hc_95 (by decide)
                · skip
                  have hk3_ := ha92_0_hp0_N35_
                  rw [hnx_] at hk3_
                  have hrt_ := zRea.st (zs0_sf (F := F_) (d := d_) (b := b_) (n := n_) (K := K_) (nm := nm_) p7_ hk2_ ⟨hk1_, hky_⟩ (fun q_ => hk3_ q_.2.1))
                  show zW l m_Reader_readOperand (zn Mz + 0, zw Mz + 0) N29_ 95 [some (.ref 4), some (.ref (d_ + 0)), some (.ref (d_ + 33)), some (.int (Int32.ofInt ((ze Mz (d_ + 12) 7) - 1))), some (.int (Int32.ofInt 0))] [.int (Int32.ofInt 0)] _
                  refine zr_if_ne (pc := 95) (tgt := 104) ⟨(by decide), (by decide)⟩ (by decide) (zdal_p dlA_Reader_readOperand_120 (i := 23) rfl) (fun hc_95 => ?_) (fun hc_95 => ?_)
                  · skip
                    exact absurd hc_95 (by decide)
                  · skip
                    refine zw_aload_n (pc := 98) (n := 0) (x := 4) rfl (zdal_p dlA_Reader_readOperand_121 (i := 0) rfl) ?_
                    refine zw_iconst (pc := 99) (v := Int32.ofInt 2) (by decide) (zdal_p dlA_Reader_readOperand_121 (i := 1) rfl) ?_
                    refine zk_callV hf_N29_.x (pc := 100) [.int (Int32.ofInt 2)] [] l_Reader_41 (u_Reader_refuse l d_ N29_ (hf_N29_.w hW) 2 (by decide) (by decide)) rfl rfl ((hf_N29_.w hW).ka (o := 4) (by decide)) (by decide) (by decide) (Nat.le_of_ble_eq_true rfl) (zdal_p dlA_Reader_readOperand_121 (i := 2) rfl) ?_
                    rintro _ N54_ ⟨v55_, rfl, ⟨hv55_a, hv55_b⟩, hsN54_, hp0_N54_⟩
                    replace hp0_N54_ : ((v55_ = 0)) := hp0_N54_
                    have hf_N54_ : zFc d_ [(1, 2), (1, 3), (1, 4), (1, 5), (4, 1), (4, 2), (4, 3)] [] [(33, 3)] [25] Mz N54_ := hf_N29_.tr hsN54_ (by decide) (by decide) (by decide) (by decide)
                    have eA1_2_N54_ : ze N54_ 1 2 = ze N29_ 1 2 := hsN54_.ea (hf_N29_.w hW) (by decide)
                    have eA1_3_N54_ : ze N54_ 1 3 = ze N29_ 1 3 := hsN54_.ea (hf_N29_.w hW) (by decide)
                    have eA1_5_N54_ : ze N54_ 1 5 = ze N29_ 1 5 := hsN54_.ea (hf_N29_.w hW) (by decide)
                    have eA4_1_N54_ : ze N54_ 4 1 = ze N29_ 4 1 := hsN54_.ea (hf_N29_.w hW) (by decide)
                    have eD12_7_N54_ : ze N54_ (d_ + 12) 7 = ze N29_ (d_ + 12) 7 := hsN54_.e (by decide)
                    have eD33_2_N54_ : ze N54_ (d_ + 33) 2 = ze N29_ (d_ + 33) 2 := hsN54_.e (by decide)
                    have eD33_3_N54_ : ze N54_ (d_ + 33) 3 = ze N29_ (d_ + 33) 3 := hsN54_.e (by decide)
                    have eD33_4_N54_ : ze N54_ (d_ + 33) 4 = ze N29_ (d_ + 33) 4 := hsN54_.e (by decide)
                    have eD33_5_N54_ : ze N54_ (d_ + 33) 5 = ze N29_ (d_ + 33) 5 := hsN54_.e (by decide)
                    have eD33_6_N54_ : ze N54_ (d_ + 33) 6 = ze N29_ (d_ + 33) 6 := hsN54_.e (by decide)
                    have c60_ : zYt b_ n_ N54_ := zYt.fr (hf_N29_.w hW) hsN54_ hp1_N29_ (by decide)
                    rcases hp0_N54_ with rfl
                    · skip
                      show zW l m_Reader_readOperand (zn Mz + 0, zw Mz + 0) N54_ 103 [some (.ref 4), some (.ref (d_ + 0)), some (.ref (d_ + 33)), some (.int (Int32.ofInt ((ze Mz (d_ + 12) 7) - 1))), some (.int (Int32.ofInt 0))] [.int (Int32.ofInt 0)] _
                      exact zk_iret (pc := 103) (ty := .boolean) rfl (z_narB (by (decide))) ⟨by (exact hv2_a), by (exact hv2_b)⟩ hf_N54_ ⟨c60_, (show ((0 = 1 ∧ zRea (zfs b_ n_ F_ K_ nm_) (zKst 0 F_ d_ Mz) (zKst 1 F_ d_ N54_) ∧ zCI F_ K_ d_ 1 N54_ ∧ zLow d_ Mz N54_ ∧ ze Mz 4 1 + 1 ≤ ze N54_ 4 1 ∧ ze N54_ 4 1 ≤ 30) ∨ (0 = 0 ∧ zRea (zfs b_ n_ F_ K_ nm_) (zKst 0 F_ d_ Mz) zFt)) from Or.inr (⟨(show 0 = 0 by first | rfl | exact hrt_ | (exfalso; omega) | exact zRea.st (zs0_sf (F := F_) (d := d_) (b := b_) (n := n_) (K := K_) (nm := nm_) p7_ hk2_ ⟨hk1_, hky_⟩ (fun q_ => by have := q_.2.2; omega))), (show zRea (zfs b_ n_ F_ K_ nm_) (zKst 0 F_ d_ Mz) zFt by first | rfl | exact hrt_ | (exfalso; omega) | exact zRea.st (zs0_sf (F := F_) (d := d_) (b := b_) (n := n_) (K := K_) (nm := nm_) p7_ hk2_ ⟨hk1_, hky_⟩ (fun q_ => by have := q_.2.2; omega)))⟩))⟩ (zdal_p dlA_Reader_readOperand_121 (i := 3) rfl)
              · skip
                exact absurd hc_63 (by decide)
            · skip
              exact absurd hc_56 (by decide)
          · skip
            have hrt_ : zRea (zfs b_ n_ F_ K_ nm_) (zKst 0 F_ d_ Mz) zFt := by first | exact zRea.st (zs0_nf (F := F_) (d := d_) (b := b_) (n := n_) (K := K_) (nm := nm_) p7_ hk2_ ha53_0_hp0_N22_) | exact zRea.st (zs0_sf (F := F_) (d := d_) (b := b_) (n := n_) (K := K_) (nm := nm_) p7_ hk2_ ⟨hk1_, hky_⟩ (fun q_ => ha53_0_hp0_N22_ q_.1))
            show zW l m_Reader_readOperand (zn Mz + 0, zw Mz + 0) N22_ 56 [some (.ref 4), some (.ref (d_ + 0)), some (.ref (d_ + 33)), some (.int (Int32.ofInt ((ze Mz (d_ + 12) 7) - 1))), some (.int (Int32.ofInt 0))] [.int (Int32.ofInt 0)] _
            refine zr_if_ne (pc := 56) (tgt := 61) ⟨(by decide), (by decide)⟩ (by decide) d_Reader_readOperand_56 (fun hc_56 => ?_) (fun hc_56 => ?_)
            · skip
              exact absurd hc_56 (by decide)
            · skip
              refine zw_iconst (pc := 59) (v := Int32.ofInt 0) (by decide) (zdal_p dlA_Reader_readOperand_120 (i := 6) rfl) ?_
              exact zk_iret (pc := 60) (ty := .boolean) rfl (z_narB (by (decide))) ⟨by (exact hv2_a), by (exact hv2_b)⟩ hf_N22_ ⟨c25_, (show ((0 = 1 ∧ zRea (zfs b_ n_ F_ K_ nm_) (zKst 0 F_ d_ Mz) (zKst 1 F_ d_ N22_) ∧ zCI F_ K_ d_ 1 N22_ ∧ zLow d_ Mz N22_ ∧ ze Mz 4 1 + 1 ≤ ze N22_ 4 1 ∧ ze N22_ 4 1 ≤ 30) ∨ (0 = 0 ∧ zRea (zfs b_ n_ F_ K_ nm_) (zKst 0 F_ d_ Mz) zFt)) from Or.inr (⟨(show 0 = 0 by first | rfl | exact hrt_ | (exfalso; omega) | exact zRea.st (zs0_sf (F := F_) (d := d_) (b := b_) (n := n_) (K := K_) (nm := nm_) p7_ hk2_ ⟨hk1_, hky_⟩ (fun q_ => by have := q_.2.2; omega))), (show zRea (zfs b_ n_ F_ K_ nm_) (zKst 0 F_ d_ Mz) zFt by first | rfl | exact hrt_ | (exfalso; omega) | exact zRea.st (zs0_sf (F := F_) (d := d_) (b := b_) (n := n_) (K := K_) (nm := nm_) p7_ hk2_ ⟨hk1_, hky_⟩ (fun q_ => by have := q_.2.2; omega)))⟩))⟩ (zdal_p dlA_Reader_readOperand_120 (i := 7) rfl)
        · skip
          exact absurd hc_38 (by decide)
      · skip
        have hns_ := ha35_0_hp0_N20_
        show zW l m_Reader_readOperand (zn Mz + 0, zw Mz + 0) Mz 38 [some (.ref 4), some (.ref (d_ + 0)), some (.ref (d_ + 33)), some (.int (Int32.ofInt ((ze Mz (d_ + 12) 7) - 1))), some (.int (Int32.ofInt 0))] [.int (Int32.ofInt 0)] _
        refine zr_if_ne (pc := 38) (tgt := 51) ⟨(by decide), (by decide)⟩ (by decide) (zdal_p dlA_Reader_readOperand_119 (i := 19) rfl) (fun hc_38 => ?_) (fun hc_38 => ?_)
        · skip
          exact absurd hc_38 (by decide)
        · skip
          refine zw_aload_n (pc := 41) (n := 0) (x := 4) rfl (zdal_p dlA_Reader_readOperand_119 (i := 20) rfl) ?_
          refine zw_aload_n (pc := 42) (n := 1) (x := (d_ + 0)) rfl (zdal_p dlA_Reader_readOperand_119 (i := 21) rfl) ?_
          refine zk_callV hf.x (pc := 43) [.ref (d_ + 0)] [] l_Reader_169 (u_Reader_readNamed l d_ Mz (hf.w hW) b_ n_ F_ K_ hA_ nm_ p0_ p1_ p2_ p3_ p4_ (show 0 ≤ ze Mz 4 1 by first | with_reducible assumption | assumption | omega) (show ze Mz 4 1 ≤ 30 by first | with_reducible assumption | assumption | omega) (show ¬ (zisg b_ n_ (ze Mz 1 2).toNat 45 ∨ zisg b_ n_ (ze Mz 1 2).toNat 40) by first | with_reducible assumption | assumption | omega) (show zkd b_ n_ (ze Mz 1 2).toNat ≠ 2 by first | with_reducible assumption | assumption | omega) (show ¬ (zkd b_ n_ (ze Mz 1 2).toNat = 1 ∧ zkey b_ n_ (ze Mz 1 2).toNat = zkw 3) by first | with_reducible assumption | assumption | omega)) rfl rfl ((hf.w hW).ka (o := 4) (by decide)) (by decide) (by decide) (Nat.le_of_ble_eq_true rfl) (zdal_p dlA_Reader_readOperand_119 (i := 22) rfl) ?_
          rintro _ N61_ ⟨v62_, rfl, ⟨hv62_a, hv62_b⟩, hsN61_, ⟨hp0_N61_, hp1_N61_⟩⟩
          have hf_N61_ : zFc d_ [(1, 2), (1, 3), (1, 4), (1, 5), (4, 1), (4, 2), (4, 3)] [] [(33, 3)] [25] Mz N61_ := hf.tr hsN61_ (by decide) (by decide) (by decide) (by decide)
          have eA1_2_N61_ : ze N61_ 1 2 = ze Mz 1 2 := hsN61_.ea (hf.w hW) (by decide)
          have eA1_3_N61_ : ze N61_ 1 3 = ze Mz 1 3 := hsN61_.ea (hf.w hW) (by decide)
          have eA1_5_N61_ : ze N61_ 1 5 = ze Mz 1 5 := hsN61_.ea (hf.w hW) (by decide)
          have rA4_1_N61_ := ze_r N61_ 4 1
          have eD12_7_N61_ : ze N61_ (d_ + 12) 7 = ze Mz (d_ + 12) 7 := hsN61_.e (by decide)
          have eD33_2_N61_ : ze N61_ (d_ + 33) 2 = ze Mz (d_ + 33) 2 := hsN61_.e (by decide)
          have rD33_3_N61_ := ze_r N61_ (d_ + 33) 3
          have eD33_4_N61_ : ze N61_ (d_ + 33) 4 = ze Mz (d_ + 33) 4 := hsN61_.e (by decide)
          have eD33_5_N61_ : ze N61_ (d_ + 33) 5 = ze Mz (d_ + 33) 5 := hsN61_.e (by decide)
          have eD33_6_N61_ : ze N61_ (d_ + 33) 6 = ze Mz (d_ + 33) 6 := hsN61_.e (by decide)
          have c63_ : zYb b_ n_ N61_ := zYb.fr (hf.w hW) hsN61_ p0_ (by decide)
          rcases hp1_N61_ with ⟨rfl, ha43_0_hp1_N61_, ha43_1_hp1_N61_, ha43_2_hp1_N61_, ha43_3_hp1_N61_, ha43_4_hp1_N61_, ha43_5_hp1_N61_, ha43_6_hp1_N61_, ha43_7_hp1_N61_, ha43_8_hp1_N61_⟩ | ⟨rfl, ha43_0_hp1_N61_⟩
          · skip
            have hw0_ := ha43_0_hp1_N61_
            have hw1_ := ha43_1_hp1_N61_
            obtain ⟨v_, hw2_, hw3_⟩ := ha43_2_hp1_N61_
            have hw4_ := ha43_3_hp1_N61_
            have hw5_ := ha43_4_hp1_N61_
            have hw6_ := ha43_5_hp1_N61_
            have hw7_ := ha43_6_hp1_N61_
            have hw8_ := ha43_7_hp1_N61_
            have hw9_ := ha43_8_hp1_N61_
            show zW l m_Reader_readOperand (zn Mz + 0, zw Mz + 0) N61_ 46 [some (.ref 4), some (.ref (d_ + 0)), some (.ref (d_ + 33)), some (.int (Int32.ofInt ((ze Mz (d_ + 12) 7) - 1))), some (.int (Int32.ofInt 0))] [.int (Int32.ofInt 1)] _
            refine zr_if_ne (pc := 46) (tgt := 133) ⟨(by decide), (by decide)⟩ (by decide) (zdal_p dlA_Reader_readOperand_119 (i := 23) rfl) (fun hc_46 => ?_) (fun hc_46 => ?_)
            · skip
              have hyt_ := hp0_N61_
              have hyx_ := hyt_.x
              refine zw_aload_n (pc := 133) (n := 0) (x := 4) rfl d_Reader_readOperand_133 ?_
              refine zw_getF (pc := 134) f_Reader_15 rfl ((hf_N61_.w hW).ka (o := 4) (by decide)) ((hf_N61_.w hW).la (o := 4) (s := 0) (r := 1) (by decide)) d_Reader_readOperand_134 ?_
              refine zk_callV hf_N61_.x (pc := 137) [] [] l_Reader_44 (u_Tokens_step l d_ N61_ (hf_N61_.w hW) b_ n_ c63_ (show 0 ≤ ze N61_ 1 3 by first | with_reducible assumption | (exact zo_57 hyx_.2.1) | assumption) (show ze N61_ 1 3 ≤ n_ by first | with_reducible assumption | (exact zo_605 hyx_.2.2) | assumption)) rfl rfl ((hf_N61_.w hW).ka (o := 1) (by decide)) (by decide) (by decide) (Nat.le_of_ble_eq_true rfl) d_Reader_readOperand_137 ?_
              rintro _ N66_ ⟨rfl, hsN66_, ⟨hp0_N66_, hp1_N66_⟩⟩
              have hf_N66_ : zFc d_ [(1, 2), (1, 3), (1, 4), (1, 5), (4, 1), (4, 2), (4, 3)] [] [(33, 3)] [25] Mz N66_ := hf_N61_.tr hsN66_ (by decide) (by decide) (by decide) (by decide)
              have rA1_2_N66_ := ze_r N66_ 1 2
              have rA1_3_N66_ := ze_r N66_ 1 3
              have rA1_5_N66_ := ze_r N66_ 1 5
              have eA4_1_N66_ : ze N66_ 4 1 = ze N61_ 4 1 := hsN66_.ea (hf_N61_.w hW) (by decide)
              have eD12_7_N66_ : ze N66_ (d_ + 12) 7 = ze N61_ (d_ + 12) 7 := hsN66_.e (by decide)
              have eD33_2_N66_ : ze N66_ (d_ + 33) 2 = ze N61_ (d_ + 33) 2 := hsN66_.e (by decide)
              have eD33_3_N66_ : ze N66_ (d_ + 33) 3 = ze N61_ (d_ + 33) 3 := hsN66_.e (by decide)
              have eD33_4_N66_ : ze N66_ (d_ + 33) 4 = ze N61_ (d_ + 33) 4 := hsN66_.e (by decide)
              have eD33_5_N66_ : ze N66_ (d_ + 33) 5 = ze N61_ (d_ + 33) 5 := hsN66_.e (by decide)
              have eD33_6_N66_ : ze N66_ (d_ + 33) 6 = ze N61_ (d_ + 33) 6 := hsN66_.e (by decide)
              have qzkS_N66_ : zkS d_ N66_ = zkS d_ N61_ := zkS_q hsN66_ (by decide)
              have qzkG_N66_ : zkG d_ N66_ = zkG d_ N61_ := zkG_q hsN66_ (by decide)
              have qzkW_N66_ : zkW F_ d_ N66_ = zkW F_ d_ N61_ := zkW_q hsN66_ (by decide)
              have c70_ : zCI F_ K_ d_ 1 N66_ := zCI.fr (hf_N61_.w hW) hsN66_ hw6_ (by decide)
              show zW l m_Reader_readOperand (zn Mz + 0, zw Mz + 0) N66_ 140 [some (.ref 4), some (.ref (d_ + 0)), some (.ref (d_ + 33)), some (.int (Int32.ofInt ((ze Mz (d_ + 12) 7) - 1))), some (.int (Int32.ofInt 0))] [] _
              have hnn_ := hyt_.n hp0_N66_
              refine zw_iconst (pc := 140) (v := Int32.ofInt 1) (by decide) d_Reader_readOperand_140 ?_
              exact zk_iret (pc := 141) (ty := .boolean) rfl (z_narB (by (decide))) ⟨by (exact hv62_a), by (exact hv62_b)⟩ hf_N66_ ⟨hp1_N66_, (show ((1 = 1 ∧ zRea (zfs b_ n_ F_ K_ nm_) (zKst 0 F_ d_ Mz) (zKst 1 F_ d_ N66_) ∧ zCI F_ K_ d_ 1 N66_ ∧ zLow d_ Mz N66_ ∧ ze Mz 4 1 + 1 ≤ ze N66_ 4 1 ∧ ze N66_ 4 1 ≤ 30) ∨ (1 = 0 ∧ zRea (zfs b_ n_ F_ K_ nm_) (zKst 0 F_ d_ Mz) zFt)) from Or.inl (⟨(show 1 = 1 by first | rfl | omega | exact c70_ | exact hlw_.tr (zLow.f hsN66_ (by decide)) | exact hw7_.tr (zLow.f hsN66_ (by decide)) | exact zRea.st (zs0_n (Nz := N66_) (F := F_) (b := b_) (n := n_) (K := K_) (nm := nm_) p7_ hk2_ hu0_ (by rw [qzkS_N66_, hp1_, qzkS_Mz]) (by rw [qzkW_N66_, hW_]) (by rw [qzkG_N66_, hp3_, qzkG_Mz]) (by omega) (by omega) (hnn_.2.trans (by rw [show ze N61_ 1 2 = ze Mz 1 2 by omega]))) | exact zRea.st (zs0_s (Nz := N66_) (F := F_) (b := b_) (n := n_) (K := K_) (nm := nm_) p7_ hk2_ ⟨hk1_, hky_⟩ hu0_ ⟨hk3_, by omega⟩ (by rw [qzkS_N66_, hp1_, qzkS_Mz, qzkS_Mz]) (by rw [qzkW_N66_, hW_]) (by rw [qzkG_N66_, hp3_, qzkG_Mz, qzkG_Mz]) (by omega) (by omega) (hnn_.2.trans (by rw [show ze N61_ 1 2 = ze Mz 1 2 by omega, hnx_]))) | exact zRea.st (zs0_w (Nz := N66_) (F := F_) (b := b_) (n := n_) (K := K_) (nm := nm_) p7_ hk2_ hns_ hw0_ hw1_ hw2_ (by rw [qzkS_N66_, hw4_]) (by rw [qzkW_N66_, hw3_]) (by rw [qzkG_N66_, hw5_]) (by omega) (by omega) (hnn_.2.trans (by rw [show ze N61_ 1 2 = ze Mz 1 2 by omega])))), (show zRea (zfs b_ n_ F_ K_ nm_) (zKst 0 F_ d_ Mz) (zKst 1 F_ d_ N66_) by first | rfl | omega | exact c70_ | exact hlw_.tr (zLow.f hsN66_ (by decide)) | exact hw7_.tr (zLow.f hsN66_ (by decide)) | exact zRea.st (zs0_n (Nz := N66_) (F := F_) (b := b_) (n := n_) (K := K_) (nm := nm_) p7_ hk2_ hu0_ (by rw [qzkS_N66_, hp1_, qzkS_Mz]) (by rw [qzkW_N66_, hW_]) (by rw [qzkG_N66_, hp3_, qzkG_Mz]) (by omega) (by omega) (hnn_.2.trans (by rw [show ze N61_ 1 2 = ze Mz 1 2 by omega]))) | exact zRea.st (zs0_s (Nz := N66_) (F := F_) (b := b_) (n := n_) (K := K_) (nm := nm_) p7_ hk2_ ⟨hk1_, hky_⟩ hu0_ ⟨hk3_, by omega⟩ (by rw [qzkS_N66_, hp1_, qzkS_Mz, qzkS_Mz]) (by rw [qzkW_N66_, hW_]) (by rw [qzkG_N66_, hp3_, qzkG_Mz, qzkG_Mz]) (by omega) (by omega) (hnn_.2.trans (by rw [show ze N61_ 1 2 = ze Mz 1 2 by omega, hnx_]))) | exact zRea.st (zs0_w (Nz := N66_) (F := F_) (b := b_) (n := n_) (K := K_) (nm := nm_) p7_ hk2_ hns_ hw0_ hw1_ hw2_ (by rw [qzkS_N66_, hw4_]) (by rw [qzkW_N66_, hw3_]) (by rw [qzkG_N66_, hw5_]) (by (exact zo_1047 eA4_1_N66_ ha43_7_hp1_N61_)) (by (exact p5_)) (hnn_.2.trans (by rw [show ze N61_ 1 2 = ze Mz 1 2 by (exact eA1_2_N61_)])))), (show zCI F_ K_ d_ 1 N66_ by first | rfl | (exact c70_) | exact c70_ | exact hlw_.tr (zLow.f hsN66_ (by decide)) | exact hw7_.tr (zLow.f hsN66_ (by decide)) | exact zRea.st (zs0_n (Nz := N66_) (F := F_) (b := b_) (n := n_) (K := K_) (nm := nm_) p7_ hk2_ hu0_ (by rw [qzkS_N66_, hp1_, qzkS_Mz]) (by rw [qzkW_N66_, hW_]) (by rw [qzkG_N66_, hp3_, qzkG_Mz]) (by omega) (by omega) (hnn_.2.trans (by rw [show ze N61_ 1 2 = ze Mz 1 2 by omega]))) | exact zRea.st (zs0_s (Nz := N66_) (F := F_) (b := b_) (n := n_) (K := K_) (nm := nm_) p7_ hk2_ ⟨hk1_, hky_⟩ hu0_ ⟨hk3_, by omega⟩ (by rw [qzkS_N66_, hp1_, qzkS_Mz, qzkS_Mz]) (by rw [qzkW_N66_, hW_]) (by rw [qzkG_N66_, hp3_, qzkG_Mz, qzkG_Mz]) (by omega) (by omega) (hnn_.2.trans (by rw [show ze N61_ 1 2 = ze Mz 1 2 by omega, hnx_]))) | exact zRea.st (zs0_w (Nz := N66_) (F := F_) (b := b_) (n := n_) (K := K_) (nm := nm_) p7_ hk2_ hns_ hw0_ hw1_ hw2_ (by rw [qzkS_N66_, hw4_]) (by rw [qzkW_N66_, hw3_]) (by rw [qzkG_N66_, hw5_]) (by omega) (by omega) (hnn_.2.trans (by rw [show ze N61_ 1 2 = ze Mz 1 2 by omega])))), (show zLow d_ Mz N66_ by first | rfl | omega | exact c70_ | exact hlw_.tr (zLow.f hsN66_ (by decide)) | exact hw7_.tr (zLow.f hsN66_ (by decide)) | exact zRea.st (zs0_n (Nz := N66_) (F := F_) (b := b_) (n := n_) (K := K_) (nm := nm_) p7_ hk2_ hu0_ (by rw [qzkS_N66_, hp1_, qzkS_Mz]) (by rw [qzkW_N66_, hW_]) (by rw [qzkG_N66_, hp3_, qzkG_Mz]) (by omega) (by omega) (hnn_.2.trans (by rw [show ze N61_ 1 2 = ze Mz 1 2 by omega]))) | exact zRea.st (zs0_s (Nz := N66_) (F := F_) (b := b_) (n := n_) (K := K_) (nm := nm_) p7_ hk2_ ⟨hk1_, hky_⟩ hu0_ ⟨hk3_, by omega⟩ (by rw [qzkS_N66_, hp1_, qzkS_Mz, qzkS_Mz]) (by rw [qzkW_N66_, hW_]) (by rw [qzkG_N66_, hp3_, qzkG_Mz, qzkG_Mz]) (by omega) (by omega) (hnn_.2.trans (by rw [show ze N61_ 1 2 = ze Mz 1 2 by omega, hnx_]))) | exact zRea.st (zs0_w (Nz := N66_) (F := F_) (b := b_) (n := n_) (K := K_) (nm := nm_) p7_ hk2_ hns_ hw0_ hw1_ hw2_ (by rw [qzkS_N66_, hw4_]) (by rw [qzkW_N66_, hw3_]) (by rw [qzkG_N66_, hw5_]) (by omega) (by omega) (hnn_.2.trans (by rw [show ze N61_ 1 2 = ze Mz 1 2 by omega])))), (show ze Mz 4 1 + 1 ≤ ze N66_ 4 1 by first | rfl | (exact zo_1048 eA4_1_N66_ ha43_7_hp1_N61_) | exact c70_ | exact hlw_.tr (zLow.f hsN66_ (by decide)) | exact hw7_.tr (zLow.f hsN66_ (by decide)) | exact zRea.st (zs0_n (Nz := N66_) (F := F_) (b := b_) (n := n_) (K := K_) (nm := nm_) p7_ hk2_ hu0_ (by rw [qzkS_N66_, hp1_, qzkS_Mz]) (by rw [qzkW_N66_, hW_]) (by rw [qzkG_N66_, hp3_, qzkG_Mz]) (by omega) (by omega) (hnn_.2.trans (by rw [show ze N61_ 1 2 = ze Mz 1 2 by omega]))) | exact zRea.st (zs0_s (Nz := N66_) (F := F_) (b := b_) (n := n_) (K := K_) (nm := nm_) p7_ hk2_ ⟨hk1_, hky_⟩ hu0_ ⟨hk3_, by omega⟩ (by rw [qzkS_N66_, hp1_, qzkS_Mz, qzkS_Mz]) (by rw [qzkW_N66_, hW_]) (by rw [qzkG_N66_, hp3_, qzkG_Mz, qzkG_Mz]) (by omega) (by omega) (hnn_.2.trans (by rw [show ze N61_ 1 2 = ze Mz 1 2 by omega, hnx_]))) | exact zRea.st (zs0_w (Nz := N66_) (F := F_) (b := b_) (n := n_) (K := K_) (nm := nm_) p7_ hk2_ hns_ hw0_ hw1_ hw2_ (by rw [qzkS_N66_, hw4_]) (by rw [qzkW_N66_, hw3_]) (by rw [qzkG_N66_, hw5_]) (by omega) (by omega) (hnn_.2.trans (by rw [show ze N61_ 1 2 = ze Mz 1 2 by omega])))), (show ze N66_ 4 1 ≤ 30 by first | rfl | (exact zo_1049 eA4_1_N66_ ha43_7_hp1_N61_ ha43_8_hp1_N61_ rA4_1_N61_.2) | exact c70_ | exact hlw_.tr (zLow.f hsN66_ (by decide)) | exact hw7_.tr (zLow.f hsN66_ (by decide)) | exact zRea.st (zs0_n (Nz := N66_) (F := F_) (b := b_) (n := n_) (K := K_) (nm := nm_) p7_ hk2_ hu0_ (by rw [qzkS_N66_, hp1_, qzkS_Mz]) (by rw [qzkW_N66_, hW_]) (by rw [qzkG_N66_, hp3_, qzkG_Mz]) (by omega) (by omega) (hnn_.2.trans (by rw [show ze N61_ 1 2 = ze Mz 1 2 by omega]))) | exact zRea.st (zs0_s (Nz := N66_) (F := F_) (b := b_) (n := n_) (K := K_) (nm := nm_) p7_ hk2_ ⟨hk1_, hky_⟩ hu0_ ⟨hk3_, by omega⟩ (by rw [qzkS_N66_, hp1_, qzkS_Mz, qzkS_Mz]) (by rw [qzkW_N66_, hW_]) (by rw [qzkG_N66_, hp3_, qzkG_Mz, qzkG_Mz]) (by omega) (by omega) (hnn_.2.trans (by rw [show ze N61_ 1 2 = ze Mz 1 2 by omega, hnx_]))) | exact zRea.st (zs0_w (Nz := N66_) (F := F_) (b := b_) (n := n_) (K := K_) (nm := nm_) p7_ hk2_ hns_ hw0_ hw1_ hw2_ (by rw [qzkS_N66_, hw4_]) (by rw [qzkW_N66_, hw3_]) (by rw [qzkG_N66_, hw5_]) (by omega) (by omega) (hnn_.2.trans (by rw [show ze N61_ 1 2 = ze Mz 1 2 by omega]))))⟩))⟩ d_Reader_readOperand_141
            · skip
              exact absurd hc_46 (by decide)
          · skip
            have hrt_ := ha43_0_hp1_N61_
            show zW l m_Reader_readOperand (zn Mz + 0, zw Mz + 0) N61_ 46 [some (.ref 4), some (.ref (d_ + 0)), some (.ref (d_ + 33)), some (.int (Int32.ofInt ((ze Mz (d_ + 12) 7) - 1))), some (.int (Int32.ofInt 0))] [.int (Int32.ofInt 0)] _
            refine zr_if_ne (pc := 46) (tgt := 133) ⟨(by decide), (by decide)⟩ (by decide) (zdal_p dlA_Reader_readOperand_119 (i := 23) rfl) (fun hc_46 => ?_) (fun hc_46 => ?_)
            · skip
              exact absurd hc_46 (by decide)
            · skip
              refine zw_iconst (pc := 49) (v := Int32.ofInt 0) (by decide) (zdal_p dlA_Reader_readOperand_120 (i := 0) rfl) ?_
              exact zk_iret (pc := 50) (ty := .boolean) rfl (z_narB (by (decide))) ⟨by (exact hv2_a), by (exact hv2_b)⟩ hf_N61_ ⟨hp0_N61_, (show ((0 = 1 ∧ zRea (zfs b_ n_ F_ K_ nm_) (zKst 0 F_ d_ Mz) (zKst 1 F_ d_ N61_) ∧ zCI F_ K_ d_ 1 N61_ ∧ zLow d_ Mz N61_ ∧ ze Mz 4 1 + 1 ≤ ze N61_ 4 1 ∧ ze N61_ 4 1 ≤ 30) ∨ (0 = 0 ∧ zRea (zfs b_ n_ F_ K_ nm_) (zKst 0 F_ d_ Mz) zFt)) from Or.inr (⟨(show 0 = 0 by first | rfl | exact hrt_ | (exfalso; omega) | exact zRea.st (zs0_sf (F := F_) (d := d_) (b := b_) (n := n_) (K := K_) (nm := nm_) p7_ hk2_ ⟨hk1_, hky_⟩ (fun q_ => by have := q_.2.2; omega))), (show zRea (zfs b_ n_ F_ K_ nm_) (zKst 0 F_ d_ Mz) zFt by first | rfl | exact hrt_ | (exfalso; omega) | exact zRea.st (zs0_sf (F := F_) (d := d_) (b := b_) (n := n_) (K := K_) (nm := nm_) p7_ hk2_ ⟨hk1_, hky_⟩ (fun q_ => by have := q_.2.2; omega)))⟩))⟩ (zdal_p dlA_Reader_readOperand_120 (i := 1) rfl)
set_option maxHeartbeats 4000000 in
theorem u_Reader_readBehind (l : Launch) (d_ : Nat) (Mz : zMem) (hW : zKW d_ Mz) (b_ : Nat → Int) (n_ : Nat) (F_ : Nat) (K_ : Nat → Nat → Int) (hA_ : zTA F_ K_) (nm_ : List (Int × (Nat → Int))) (p0_ : zYb b_ n_ Mz) (p1_ : zYt b_ n_ Mz) (p2_ : zKm F_ K_ d_ Mz) (p3_ : zCI F_ K_ d_ 1 Mz) (p4_ : 0 ≤ ze Mz 4 1) (p5_ : ze Mz 4 1 ≤ 30) : zC l m_Reader_readBehind 0 0 [.ref 4, .ref (d_ + 33)] Mz (zqcI d_ [(1, 2), (1, 3), (1, 4), (1, 5), (4, 2), (4, 3)] [] [(33, 2), (33, 3), (33, 4), (33, 5), (33, 6)] [25, 27] Mz (fun v N => zYt b_ n_ N ∧ (((v = 1 ∧ zRea (zfs b_ n_ F_ K_ nm_) (zKst 1 F_ d_ Mz) (zKst 2 F_ d_ N) ∧ zCI F_ K_ d_ 1 N ∧ zLow d_ Mz N ∧ (zkS d_ N).head? ≠ some 1 ∧ ¬ (zisg b_ n_ (ze N 1 2).toNat 41 ∧ 0 ∈ zkS d_ N) ∧ ze N 4 1 = ze Mz 4 1) ∨ (v = 0 ∧ zRea (zfs b_ n_ F_ K_ nm_) (zKst 1 F_ d_ Mz) zFt))))) := by
  refine zC_of (L0 := [some (.ref 4), some (.ref (d_ + 33)), none]) md_Reader_readBehind (Nat.le_of_ble_eq_true rfl) rfl ?_ zQ0
  have hf : zFc d_ [(1, 2), (1, 3), (1, 4), (1, 5), (4, 2), (4, 3)] [] [(33, 2), (33, 3), (33, 4), (33, 5), (33, 6)] [25, 27] Mz Mz := zFc.rf
  have r_A1_2 := ze_r Mz 1 2
  have r_A1_3 := ze_r Mz 1 3
  have r_A1_5 := ze_r Mz 1 5
  have r_A4_1 := ze_r Mz 4 1
  have r_D33_2 := ze_r Mz (d_ + 33) 2
  have r_D33_3 := ze_r Mz (d_ + 33) 3
  have r_D33_4 := ze_r Mz (d_ + 33) 4
  have r_D33_5 := ze_r Mz (d_ + 33) 5
  have r_D33_6 := ze_r Mz (d_ + 33) 6
  have hb0_ := p3_.b
  have hz1_ := zop0_le (zkS d_ Mz)
  obtain ⟨e1_, e2_, e3_, e4_, e5_, e6_, e7_, e8_, e9_⟩ := id p3_
  refine zw_iconst (pc := 0) (v := Int32.ofInt 0) (by decide) (zdal_p dlA_Reader_readBehind_131 (i := 0) rfl) ?_
  refine zw_istore_n (pc := 1) (i := 2) (L2 := [some (.ref 4), some (.ref (d_ + 33)), some (.int (Int32.ofInt 0))]) rfl (by decide) rfl (zdal_p dlA_Reader_readBehind_131 (i := 1) rfl) ?_
  have lp_2 : ∀ (n : Nat) (u1_ : Int) (hu1_a : -2147483648 ≤ u1_) (hu1_b : u1_ < 2147483648) (N2_ : zMem) (hs3_ : zFc d_ [(1, 2), (1, 3), (1, 4), (1, 5)] [] [(33, 2), (33, 3), (33, 4), (33, 5), (33, 6)] [25, 27] Mz N2_) (i4_ : 0 ≤ u1_) (i5_ : u1_ + ze N2_ (d_ + 33) 5 ≤ 7) (i6_ : ze N2_ 4 1 = ze Mz 4 1) (i7_ : zRea (zfs b_ n_ F_ K_ nm_) (zKst 1 F_ d_ Mz) (zKst 1 F_ d_ N2_)) (i8_ : zLow d_ Mz N2_) (i9_ : zYt b_ n_ N2_) (i10_ : zCI F_ K_ d_ 1 N2_), (31 - u1_).toNat < n → zW l m_Reader_readBehind (zn Mz + 0, zw Mz + 0) N2_ 2 [some (.ref 4), some (.ref (d_ + 33)), some (.int (Int32.ofInt u1_))] [] (zqcI d_ [(1, 2), (1, 3), (1, 4), (1, 5), (4, 2), (4, 3)] [] [(33, 2), (33, 3), (33, 4), (33, 5), (33, 6)] [25, 27] Mz (fun v N => zYt b_ n_ N ∧ (((v = 1 ∧ zRea (zfs b_ n_ F_ K_ nm_) (zKst 1 F_ d_ Mz) (zKst 2 F_ d_ N) ∧ zCI F_ K_ d_ 1 N ∧ zLow d_ Mz N ∧ (zkS d_ N).head? ≠ some 1 ∧ ¬ (zisg b_ n_ (ze N 1 2).toNat 41 ∧ 0 ∈ zkS d_ N) ∧ ze N 4 1 = ze Mz 4 1) ∨ (v = 0 ∧ zRea (zfs b_ n_ F_ K_ nm_) (zKst 1 F_ d_ Mz) zFt))))) := by
    intro n
    induction n with
    | zero =>
      intro u1_ hu1_a hu1_b N2_ hs3_ i4_ i5_ i6_ i7_ i8_ i9_ i10_ h0
      exact absurd h0 (Nat.not_lt_zero _)
    | succ n ih_2 =>
      intro u1_ hu1_a hu1_b N2_ hs3_ i4_ i5_ i6_ i7_ i8_ i9_ i10_ hlt_2
      have hf_N2_ : zFc d_ [(1, 2), (1, 3), (1, 4), (1, 5), (4, 2), (4, 3)] [] [(33, 2), (33, 3), (33, 4), (33, 5), (33, 6)] [25, 27] Mz N2_ := hf.tr hs3_ (by decide) (by decide) (by decide) (by decide)
      have rA1_2_N2_ := ze_r N2_ 1 2
      have rA1_3_N2_ := ze_r N2_ 1 3
      have rA1_5_N2_ := ze_r N2_ 1 5
      have eA4_1_N2_ : ze N2_ 4 1 = ze Mz 4 1 := hs3_.ea (hf.w hW) (by decide)
      have rD33_2_N2_ := ze_r N2_ (d_ + 33) 2
      have rD33_3_N2_ := ze_r N2_ (d_ + 33) 3
      have rD33_4_N2_ := ze_r N2_ (d_ + 33) 4
      have rD33_5_N2_ := ze_r N2_ (d_ + 33) 5
      have rD33_6_N2_ := ze_r N2_ (d_ + 33) 6
      have c11_ : zYb b_ n_ N2_ := zYb.fr (hf.w hW) hs3_ p0_ (by decide)
      have c12_ : zKm F_ K_ d_ N2_ := zKm.fr (hf.w hW) hs3_ p2_ (by decide)
      have hrea_ := (show zRea (zfs b_ n_ F_ K_ nm_) (zKst 1 F_ d_ Mz) (zKst 1 F_ d_ N2_) by first | with_reducible assumption | assumption)
      have hlow_ := (show zLow d_ Mz N2_ by first | with_reducible assumption | assumption)
      have hci_ := i10_
      have hb_ := hci_.b
      have hz0_ := zop0_le (zkS d_ N2_)
      obtain ⟨g1_, g2_, g3_, g4_, g5_, g6_, g7_, g8_, g9_⟩ := id hci_
      refine zw_iload_n (pc := 2) (n := 2) (x := Int32.ofInt u1_) rfl (zdal_p dlA_Reader_readBehind_131 (i := 2) rfl) ?_
      refine zw_bipush (pc := 3) (v := Int32.ofInt 30) (by decide) (zdal_p dlA_Reader_readBehind_131 (i := 3) rfl) ?_
      refine zr_icmp_gt (pc := 5) (tgt := 120) ⟨hu1_a, hu1_b⟩ ⟨(by decide), (by decide)⟩ (by decide) (zdal_p dlA_Reader_readBehind_131 (i := 4) rfl) (fun hc_5 => ?_) (fun hc_5 => ?_)
      · skip
        refine zw_aload_n (pc := 120) (n := 0) (x := 4) rfl (zdal_p dlA_Reader_readBehind_133 (i := 8) rfl) ?_
        refine zw_iconst (pc := 121) (v := Int32.ofInt 2) (by decide) (zdal_p dlA_Reader_readBehind_133 (i := 9) rfl) ?_
        refine zk_callV hf_N2_.x (pc := 122) [.int (Int32.ofInt 2)] [] l_Reader_41 (u_Reader_refuse l d_ N2_ (hf_N2_.w hW) 2 (by decide) (by decide)) rfl rfl ((hf_N2_.w hW).ka (o := 4) (by decide)) (by decide) (by decide) (Nat.le_of_ble_eq_true rfl) (zdal_p dlA_Reader_readBehind_133 (i := 10) rfl) ?_
        rintro _ N13_ ⟨v14_, rfl, ⟨hv14_a, hv14_b⟩, hsN13_, hp0_N13_⟩
        replace hp0_N13_ : ((v14_ = 0)) := hp0_N13_
        have hf_N13_ : zFc d_ [(1, 2), (1, 3), (1, 4), (1, 5), (4, 2), (4, 3)] [] [(33, 2), (33, 3), (33, 4), (33, 5), (33, 6)] [25, 27] Mz N13_ := hf_N2_.tr hsN13_ (by decide) (by decide) (by decide) (by decide)
        have eA1_2_N13_ : ze N13_ 1 2 = ze N2_ 1 2 := hsN13_.ea (hf_N2_.w hW) (by decide)
        have eA1_3_N13_ : ze N13_ 1 3 = ze N2_ 1 3 := hsN13_.ea (hf_N2_.w hW) (by decide)
        have eA1_5_N13_ : ze N13_ 1 5 = ze N2_ 1 5 := hsN13_.ea (hf_N2_.w hW) (by decide)
        have eA4_1_N13_ : ze N13_ 4 1 = ze N2_ 4 1 := hsN13_.ea (hf_N2_.w hW) (by decide)
        have eD33_2_N13_ : ze N13_ (d_ + 33) 2 = ze N2_ (d_ + 33) 2 := hsN13_.e (by decide)
        have eD33_3_N13_ : ze N13_ (d_ + 33) 3 = ze N2_ (d_ + 33) 3 := hsN13_.e (by decide)
        have eD33_4_N13_ : ze N13_ (d_ + 33) 4 = ze N2_ (d_ + 33) 4 := hsN13_.e (by decide)
        have eD33_5_N13_ : ze N13_ (d_ + 33) 5 = ze N2_ (d_ + 33) 5 := hsN13_.e (by decide)
        have eD33_6_N13_ : ze N13_ (d_ + 33) 6 = ze N2_ (d_ + 33) 6 := hsN13_.e (by decide)
        have c17_ : zYt b_ n_ N13_ := zYt.fr (hf_N2_.w hW) hsN13_ i9_ (by decide)
        rcases hp0_N13_ with rfl
        · skip
          show zW l m_Reader_readBehind (zn Mz + 0, zw Mz + 0) N13_ 125 [some (.ref 4), some (.ref (d_ + 33)), some (.int (Int32.ofInt u1_))] [.int (Int32.ofInt 0)] _
          exact zk_iret (pc := 125) (ty := .boolean) rfl (z_narB (by (decide))) ⟨by (exact hv14_a), by (exact hv14_b)⟩ hf_N13_ ⟨c17_, (show ((0 = 1 ∧ zRea (zfs b_ n_ F_ K_ nm_) (zKst 1 F_ d_ Mz) (zKst 2 F_ d_ N13_) ∧ zCI F_ K_ d_ 1 N13_ ∧ zLow d_ Mz N13_ ∧ (zkS d_ N13_).head? ≠ some 1 ∧ ¬ (zisg b_ n_ (ze N13_ 1 2).toNat 41 ∧ 0 ∈ zkS d_ N13_) ∧ ze N13_ 4 1 = ze Mz 4 1) ∨ (0 = 0 ∧ zRea (zfs b_ n_ F_ K_ nm_) (zKst 1 F_ d_ Mz) zFt)) from Or.inr (⟨(show 0 = 0 by first | rfl | (exfalso; omega) | exact hrea_.tr (zRea.st (zs1_f (F := F_) (d := d_) (b := b_) (n := n_) (K := K_) (nm := nm_) hP_ (fun q_ => hk3_ q_.1))) | exact hrea_.tr (zRea.st (zs1_f (F := F_) (d := d_) (b := b_) (n := n_) (K := K_) (nm := nm_) hP_ (fun q_ => by have := q_.2; omega)))), (show zRea (zfs b_ n_ F_ K_ nm_) (zKst 1 F_ d_ Mz) zFt by first | rfl | (exfalso; (exact zo_1050 g4_ hc_5 i5_)) | exact hrea_.tr (zRea.st (zs1_f (F := F_) (d := d_) (b := b_) (n := n_) (K := K_) (nm := nm_) hP_ (fun q_ => hk3_ q_.1))) | exact hrea_.tr (zRea.st (zs1_f (F := F_) (d := d_) (b := b_) (n := n_) (K := K_) (nm := nm_) hP_ (fun q_ => by have := q_.2; omega))))⟩))⟩ (zdal_p dlA_Reader_readBehind_133 (i := 11) rfl)
      · skip
        refine zw_aload_n (pc := 8) (n := 0) (x := 4) rfl (zdal_p dlA_Reader_readBehind_131 (i := 5) rfl) ?_
        refine zw_getF (pc := 9) f_Reader_15 rfl ((hf_N2_.w hW).ka (o := 4) (by decide)) ((hf_N2_.w hW).la (o := 4) (s := 0) (r := 1) (by decide)) (zdal_p dlA_Reader_readBehind_131 (i := 6) rfl) ?_
        refine zw_bipush (pc := 12) (v := Int32.ofInt 94) (by decide) (zdal_p dlA_Reader_readBehind_131 (i := 7) rfl) ?_
        refine zk_callV hf_N2_.x (pc := 14) [.int (Int32.ofInt 94)] [] l_Reader_37 (u_Tokens_isSign l d_ N2_ (hf_N2_.w hW) 94 (by decide) (by decide) b_ n_ i9_) rfl rfl ((hf_N2_.w hW).ka (o := 1) (by decide)) (by decide) (by decide) (Nat.le_of_ble_eq_true rfl) (zdal_p dlA_Reader_readBehind_131 (i := 8) rfl) ?_
        rintro _ N19_ ⟨v20_, rfl, ⟨hv20_a, hv20_b⟩, hsN19_, hp0_N19_⟩
        obtain rfl := hsN19_.eq.symm
        replace hp0_N19_ : ((v20_ = 1 ∧ zkd b_ n_ (ze N2_ 1 2).toNat = 3 ∧ b_ (ze N2_ 1 2).toNat = 94) ∨ (v20_ = 0 ∧ ¬ (zkd b_ n_ (ze N2_ 1 2).toNat = 3 ∧ b_ (ze N2_ 1 2).toNat = 94))) := hp0_N19_
        rcases hp0_N19_ with ⟨rfl, ha14_0_hp0_N19_, ha14_1_hp0_N19_⟩ | ⟨rfl, ha14_0_hp0_N19_⟩
        · skip
          have hP_ : zisg b_ n_ (ze N2_ 1 2).toNat 94 := ⟨ha14_0_hp0_N19_, ha14_1_hp0_N19_⟩
          show zW l m_Reader_readBehind (zn Mz + 0, zw Mz + 0) N2_ 17 [some (.ref 4), some (.ref (d_ + 33)), some (.int (Int32.ofInt u1_))] [.int (Int32.ofInt 1)] _
          refine zr_if_eq (pc := 17) (tgt := 73) ⟨(by decide), (by decide)⟩ (by decide) (zdal_p dlA_Reader_readBehind_131 (i := 9) rfl) (fun hc_17 => ?_) (fun hc_17 => ?_)
          · skip
            exact absurd hc_17 (by decide)
          · skip
            have hyt_ := i9_
            have hyx_ := hyt_.x
            refine zw_aload_n (pc := 20) (n := 0) (x := 4) rfl (zdal_p dlA_Reader_readBehind_131 (i := 10) rfl) ?_
            refine zw_getF (pc := 21) f_Reader_15 rfl ((hf_N2_.w hW).ka (o := 4) (by decide)) ((hf_N2_.w hW).la (o := 4) (s := 0) (r := 1) (by decide)) (zdal_p dlA_Reader_readBehind_131 (i := 11) rfl) ?_
            refine zk_callV hf_N2_.x (pc := 24) [] [] l_Reader_44 (u_Tokens_step l d_ N2_ (hf_N2_.w hW) b_ n_ c11_ (show 0 ≤ ze N2_ 1 3 by first | with_reducible assumption | (exact zo_57 hyx_.2.1) | assumption) (show ze N2_ 1 3 ≤ n_ by first | with_reducible assumption | (exact zo_277 hyx_.2.2 rA1_3_N2_.2) | assumption)) rfl rfl ((hf_N2_.w hW).ka (o := 1) (by decide)) (by decide) (by decide) (Nat.le_of_ble_eq_true rfl) (zdal_p dlA_Reader_readBehind_131 (i := 12) rfl) ?_
            rintro _ N21_ ⟨rfl, hsN21_, ⟨hp0_N21_, hp1_N21_⟩⟩
            have hf_N21_ : zFc d_ [(1, 2), (1, 3), (1, 4), (1, 5), (4, 2), (4, 3)] [] [(33, 2), (33, 3), (33, 4), (33, 5), (33, 6)] [25, 27] Mz N21_ := hf_N2_.tr hsN21_ (by decide) (by decide) (by decide) (by decide)
            have hb0_N21_ : zFc d_ [(1, 2), (1, 3), (1, 4), (1, 5)] [] [(33, 2), (33, 3), (33, 4), (33, 5), (33, 6)] [25, 27] Mz N21_ := hs3_.tr hsN21_ (by decide) (by decide) (by decide) (by decide)
            have rA1_2_N21_ := ze_r N21_ 1 2
            have rA1_3_N21_ := ze_r N21_ 1 3
            have rA1_5_N21_ := ze_r N21_ 1 5
            have eA4_1_N21_ : ze N21_ 4 1 = ze N2_ 4 1 := hsN21_.ea (hf_N2_.w hW) (by decide)
            have eD33_2_N21_ : ze N21_ (d_ + 33) 2 = ze N2_ (d_ + 33) 2 := hsN21_.e (by decide)
            have eD33_3_N21_ : ze N21_ (d_ + 33) 3 = ze N2_ (d_ + 33) 3 := hsN21_.e (by decide)
            have eD33_4_N21_ : ze N21_ (d_ + 33) 4 = ze N2_ (d_ + 33) 4 := hsN21_.e (by decide)
            have eD33_5_N21_ : ze N21_ (d_ + 33) 5 = ze N2_ (d_ + 33) 5 := hsN21_.e (by decide)
            have eD33_6_N21_ : ze N21_ (d_ + 33) 6 = ze N2_ (d_ + 33) 6 := hsN21_.e (by decide)
            have qzkS_N21_ : zkS d_ N21_ = zkS d_ N2_ := zkS_q hsN21_ (by decide)
            have qzkG_N21_ : zkG d_ N21_ = zkG d_ N2_ := zkG_q hsN21_ (by decide)
            have qzkW_N21_ : zkW F_ d_ N21_ = zkW F_ d_ N2_ := zkW_q hsN21_ (by decide)
            have c23_ : zYb b_ n_ N21_ := zYb.fr (hf_N2_.w hW) hsN21_ c11_ (by decide)
            have c24_ : zKm F_ K_ d_ N21_ := zKm.fr (hf_N2_.w hW) hsN21_ c12_ (by decide)
            have c25_ : zCI F_ K_ d_ 1 N21_ := zCI.fr (hf_N2_.w hW) hsN21_ i10_ (by decide)
            show zW l m_Reader_readBehind (zn Mz + 0, zw Mz + 0) N21_ 27 [some (.ref 4), some (.ref (d_ + 33)), some (.int (Int32.ofInt u1_))] [] _
            have hnn_ := hyt_.n hp0_N21_
            have hnx_ : (ze N21_ 1 2).toNat = znx b_ n_ (ze N2_ 1 2).toNat := hnn_.2.trans (by rw [show ze N2_ 1 2 = ze N2_ 1 2 by (exact zo_62)])
            refine zw_aload_n (pc := 27) (n := 0) (x := 4) rfl (zdal_p dlA_Reader_readBehind_131 (i := 13) rfl) ?_
            refine zw_getF (pc := 28) f_Reader_15 rfl ((hf_N21_.w hW).ka (o := 4) (by decide)) ((hf_N21_.w hW).la (o := 4) (s := 0) (r := 1) (by decide)) (zdal_p dlA_Reader_readBehind_131 (i := 14) rfl) ?_
            refine zk_callV hf_N21_.x (pc := 31) [] [] l_Reader_53 (u_Tokens_isNumber l d_ N21_ (hf_N21_.w hW) b_ n_ hp1_N21_) rfl rfl ((hf_N21_.w hW).ka (o := 1) (by decide)) (by decide) (by decide) (Nat.le_of_ble_eq_true rfl) (zdal_p dlA_Reader_readBehind_131 (i := 15) rfl) ?_
            rintro _ N26_ ⟨v27_, rfl, ⟨hv27_a, hv27_b⟩, hsN26_, hp0_N26_⟩
            obtain rfl := hsN26_.eq.symm
            replace hp0_N26_ : ((v27_ = 1 ∧ zkd b_ n_ (ze N21_ 1 2).toNat = 2) ∨ (v27_ = 0 ∧ zkd b_ n_ (ze N21_ 1 2).toNat ≠ 2)) := hp0_N26_
            rcases hp0_N26_ with ⟨rfl, ha31_0_hp0_N26_⟩ | ⟨rfl, ha31_0_hp0_N26_⟩
            · skip
              have hk3_ := ha31_0_hp0_N26_
              have hv3_ := hp1_N21_.v2 hk3_
              rw [hnx_] at hk3_ hv3_
              show zW l m_Reader_readBehind (zn Mz + 0, zw Mz + 0) N21_ 34 [some (.ref 4), some (.ref (d_ + 33)), some (.int (Int32.ofInt u1_))] [.int (Int32.ofInt 1)] _
              refine zr_if_eq (pc := 34) (tgt := 49) ⟨(by decide), (by decide)⟩ (by decide) (zdal_p dlA_Reader_readBehind_131 (i := 16) rfl) (fun hc_34 => ?_) (fun hc_34 => ?_)
              · skip
                exact absurd hc_34 (by decide)
              · skip
                refine zw_aload_n (pc := 37) (n := 0) (x := 4) rfl (zdal_p dlA_Reader_readBehind_131 (i := 17) rfl) ?_
                refine zw_getF (pc := 38) f_Reader_15 rfl ((hf_N21_.w hW).ka (o := 4) (by decide)) ((hf_N21_.w hW).la (o := 4) (s := 0) (r := 1) (by decide)) (zdal_p dlA_Reader_readBehind_131 (i := 18) rfl) ?_
                refine zk_getI (pc := 41) f_Reader_57 rfl ((hf_N21_.w hW).ka (o := 1) (by decide)) (zdal_p dlA_Reader_readBehind_131 (i := 19) rfl) ?_
                refine zw_bipush (pc := 44) (v := Int32.ofInt 9) (by decide) (zdal_p dlA_Reader_readBehind_131 (i := 20) rfl) ?_
                refine zr_icmp_le (pc := 46) (tgt := 55) ⟨(ze_r N21_ 1 5).1, (ze_r N21_ 1 5).2⟩ ⟨(by decide), (by decide)⟩ (by decide) (zdal_p dlA_Reader_readBehind_131 (i := 21) rfl) (fun hc_46 => ?_) (fun hc_46 => ?_)
                · skip
                  refine zw_aload_n (pc := 55) (n := 1) (x := (d_ + 33)) rfl (zdal_p dlA_Reader_readBehind_132 (i := 2) rfl) ?_
                  refine zw_aload_n (pc := 56) (n := 0) (x := 4) rfl (zdal_p dlA_Reader_readBehind_132 (i := 3) rfl) ?_
                  refine zw_getF (pc := 57) f_Reader_15 rfl ((hf_N21_.w hW).ka (o := 4) (by decide)) ((hf_N21_.w hW).la (o := 4) (s := 0) (r := 1) (by decide)) (zdal_p dlA_Reader_readBehind_132 (i := 4) rfl) ?_
                  refine zk_getI (pc := 60) f_Reader_57 rfl ((hf_N21_.w hW).ka (o := 1) (by decide)) (zdal_p dlA_Reader_readBehind_132 (i := 5) rfl) ?_
                  refine zk_callV hf_N21_.x (pc := 63) [.int (Int32.ofInt (ze N21_ 1 5))] [] l_Reader_179 (u_Calc_raise l d_ N21_ (hf_N21_.w hW) (ze N21_ 1 5) (ze_r N21_ 1 5).1 (ze_r N21_ 1 5).2 F_ K_ hA_ c24_ c25_ (show 0 ≤ (ze N21_ 1 5) by first | with_reducible assumption | (exact zo_57 hv3_.2.1) | assumption) (show (ze N21_ 1 5) ≤ 9 by first | with_reducible assumption | assumption | omega)) rfl rfl ((hf_N21_.w hW).kr (o := 33) (by decide)) (by decide) (by decide) (Nat.le_of_ble_eq_true rfl) (zdal_p dlA_Reader_readBehind_132 (i := 6) rfl) ?_
                  rintro _ N28_ ⟨rfl, hsN28_, ⟨hp0_N28_, hp1_N28_, hp2_N28_, hp3_N28_, hp4_N28_⟩⟩
                  have hf_N28_ : zFc d_ [(1, 2), (1, 3), (1, 4), (1, 5), (4, 2), (4, 3)] [] [(33, 2), (33, 3), (33, 4), (33, 5), (33, 6)] [25, 27] Mz N28_ := hf_N21_.tr hsN28_ (by decide) (by decide) (by decide) (by decide)
                  have hb0_N28_ : zFc d_ [(1, 2), (1, 3), (1, 4), (1, 5)] [] [(33, 2), (33, 3), (33, 4), (33, 5), (33, 6)] [25, 27] Mz N28_ := hb0_N21_.tr hsN28_ (by decide) (by decide) (by decide) (by decide)
                  have eA1_2_N28_ : ze N28_ 1 2 = ze N21_ 1 2 := hsN28_.ea (hf_N21_.w hW) (by decide)
                  have eA1_3_N28_ : ze N28_ 1 3 = ze N21_ 1 3 := hsN28_.ea (hf_N21_.w hW) (by decide)
                  have eA1_5_N28_ : ze N28_ 1 5 = ze N21_ 1 5 := hsN28_.ea (hf_N21_.w hW) (by decide)
                  have eA4_1_N28_ : ze N28_ 4 1 = ze N21_ 4 1 := hsN28_.ea (hf_N21_.w hW) (by decide)
                  have eD33_2_N28_ : ze N28_ (d_ + 33) 2 = ze N21_ (d_ + 33) 2 := hsN28_.e (by decide)
                  have eD33_3_N28_ : ze N28_ (d_ + 33) 3 = ze N21_ (d_ + 33) 3 := hsN28_.e (by decide)
                  have eD33_4_N28_ : ze N28_ (d_ + 33) 4 = ze N21_ (d_ + 33) 4 := hsN28_.e (by decide)
                  have eD33_5_N28_ : ze N28_ (d_ + 33) 5 = ze N21_ (d_ + 33) 5 := hsN28_.e (by decide)
                  have rD33_6_N28_ := ze_r N28_ (d_ + 33) 6
                  have c30_ : zYb b_ n_ N28_ := zYb.fr (hf_N21_.w hW) hsN28_ c23_ (by decide)
                  have c31_ : zKm F_ K_ d_ N28_ := zKm.fr (hf_N21_.w hW) hsN28_ c24_ (by decide)
                  have c32_ : zYt b_ n_ N28_ := zYt.fr (hf_N21_.w hW) hsN28_ hp1_N21_ (by decide)
                  show zW l m_Reader_readBehind (zn Mz + 0, zw Mz + 0) N28_ 66 [some (.ref 4), some (.ref (d_ + 33)), some (.int (Int32.ofInt u1_))] [] _
                  have hp1_ := hp1_N28_
                  have hp2_ := hp2_N28_
                  have hp3_ := hp3_N28_
                  rw [qzkS_N21_] at hp1_
                  rw [qzkW_N21_, qzkG_N21_] at hp2_ hp3_
                  have hl1_ := (hlow_.tr (zLow.f hsN21_ (by decide))).tr hp4_N28_
                  have hyt_ := c32_
                  have hyx_ := hyt_.x
                  refine zw_aload_n (pc := 66) (n := 0) (x := 4) rfl (zdal_p dlA_Reader_readBehind_132 (i := 7) rfl) ?_
                  refine zw_getF (pc := 67) f_Reader_15 rfl ((hf_N28_.w hW).ka (o := 4) (by decide)) ((hf_N28_.w hW).la (o := 4) (s := 0) (r := 1) (by decide)) (zdal_p dlA_Reader_readBehind_132 (i := 8) rfl) ?_
                  refine zk_callV hf_N28_.x (pc := 70) [] [] l_Reader_44 (u_Tokens_step l d_ N28_ (hf_N28_.w hW) b_ n_ c30_ (show 0 ≤ ze N28_ 1 3 by first | with_reducible assumption | (exact zo_57 hyx_.2.1) | assumption) (show ze N28_ 1 3 ≤ n_ by first | with_reducible assumption | (exact zo_605 hyx_.2.2) | assumption)) rfl rfl ((hf_N28_.w hW).ka (o := 1) (by decide)) (by decide) (by decide) (Nat.le_of_ble_eq_true rfl) (zdal_p dlA_Reader_readBehind_132 (i := 9) rfl) ?_
                  rintro _ N33_ ⟨rfl, hsN33_, ⟨hp0_N33_, hp1_N33_⟩⟩
                  have hf_N33_ : zFc d_ [(1, 2), (1, 3), (1, 4), (1, 5), (4, 2), (4, 3)] [] [(33, 2), (33, 3), (33, 4), (33, 5), (33, 6)] [25, 27] Mz N33_ := hf_N28_.tr hsN33_ (by decide) (by decide) (by decide) (by decide)
                  have hb0_N33_ : zFc d_ [(1, 2), (1, 3), (1, 4), (1, 5)] [] [(33, 2), (33, 3), (33, 4), (33, 5), (33, 6)] [25, 27] Mz N33_ := hb0_N28_.tr hsN33_ (by decide) (by decide) (by decide) (by decide)
                  have rA1_2_N33_ := ze_r N33_ 1 2
                  have rA1_3_N33_ := ze_r N33_ 1 3
                  have rA1_5_N33_ := ze_r N33_ 1 5
                  have eA4_1_N33_ : ze N33_ 4 1 = ze N28_ 4 1 := hsN33_.ea (hf_N28_.w hW) (by decide)
                  have eD33_2_N33_ : ze N33_ (d_ + 33) 2 = ze N28_ (d_ + 33) 2 := hsN33_.e (by decide)
                  have eD33_3_N33_ : ze N33_ (d_ + 33) 3 = ze N28_ (d_ + 33) 3 := hsN33_.e (by decide)
                  have eD33_4_N33_ : ze N33_ (d_ + 33) 4 = ze N28_ (d_ + 33) 4 := hsN33_.e (by decide)
                  have eD33_5_N33_ : ze N33_ (d_ + 33) 5 = ze N28_ (d_ + 33) 5 := hsN33_.e (by decide)
                  have eD33_6_N33_ : ze N33_ (d_ + 33) 6 = ze N28_ (d_ + 33) 6 := hsN33_.e (by decide)
                  have qzkS_N33_ : zkS d_ N33_ = zkS d_ N28_ := zkS_q hsN33_ (by decide)
                  have qzkG_N33_ : zkG d_ N33_ = zkG d_ N28_ := zkG_q hsN33_ (by decide)
                  have qzkW_N33_ : zkW F_ d_ N33_ = zkW F_ d_ N28_ := zkW_q hsN33_ (by decide)
                  have c35_ : zYb b_ n_ N33_ := zYb.fr (hf_N28_.w hW) hsN33_ c30_ (by decide)
                  have c36_ : zKm F_ K_ d_ N33_ := zKm.fr (hf_N28_.w hW) hsN33_ c31_ (by decide)
                  have c37_ : zCI F_ K_ d_ 1 N33_ := zCI.fr (hf_N28_.w hW) hsN33_ hp0_N28_ (by decide)
                  show zW l m_Reader_readBehind (zn Mz + 0, zw Mz + 0) N33_ 73 [some (.ref 4), some (.ref (d_ + 33)), some (.int (Int32.ofInt u1_))] [] _
                  have hnn_ := hyt_.n hp0_N33_
                  have hnx2_ : (ze N33_ 1 2).toNat = znx b_ n_ (znx b_ n_ (ze N2_ 1 2).toNat) := hnn_.2.trans (by rw [show ze N28_ 1 2 = ze N21_ 1 2 by (exact eA1_2_N28_), hnx_])
                  have hl2_ := hl1_.tr (zLow.f hsN33_ (by decide))
                  refine zw_aload_n (pc := 73) (n := 1) (x := (d_ + 33)) rfl (zdal_p dlA_Reader_readBehind_132 (i := 10) rfl) ?_
                  refine zk_callV hf_N33_.x (pc := 74) [] [] l_Reader_182 (u_Calc_negate l d_ N33_ (hf_N33_.w hW) F_ K_ hA_ c36_ c37_) rfl rfl ((hf_N33_.w hW).kr (o := 33) (by decide)) (by decide) (by decide) (Nat.le_of_ble_eq_true rfl) (zdal_p dlA_Reader_readBehind_132 (i := 11) rfl) ?_
                  rintro _ N38_ ⟨rfl, hsN38_, ⟨hp0_N38_, hp1_N38_, hp2_N38_, hp3_N38_, hp4_N38_, hp5_N38_⟩⟩
                  have hf_N38_ : zFc d_ [(1, 2), (1, 3), (1, 4), (1, 5), (4, 2), (4, 3)] [] [(33, 2), (33, 3), (33, 4), (33, 5), (33, 6)] [25, 27] Mz N38_ := hf_N33_.tr hsN38_ (by decide) (by decide) (by decide) (by decide)
                  have hb0_N38_ : zFc d_ [(1, 2), (1, 3), (1, 4), (1, 5)] [] [(33, 2), (33, 3), (33, 4), (33, 5), (33, 6)] [25, 27] Mz N38_ := hb0_N33_.tr hsN38_ (by decide) (by decide) (by decide) (by decide)
                  have eA1_2_N38_ : ze N38_ 1 2 = ze N33_ 1 2 := hsN38_.ea (hf_N33_.w hW) (by decide)
                  have eA1_3_N38_ : ze N38_ 1 3 = ze N33_ 1 3 := hsN38_.ea (hf_N33_.w hW) (by decide)
                  have eA1_5_N38_ : ze N38_ 1 5 = ze N33_ 1 5 := hsN38_.ea (hf_N33_.w hW) (by decide)
                  have eA4_1_N38_ : ze N38_ 4 1 = ze N33_ 4 1 := hsN38_.ea (hf_N33_.w hW) (by decide)
                  have rD33_2_N38_ := ze_r N38_ (d_ + 33) 2
                  have eD33_3_N38_ : ze N38_ (d_ + 33) 3 = ze N33_ (d_ + 33) 3 := hsN38_.e (by decide)
                  have rD33_4_N38_ := ze_r N38_ (d_ + 33) 4
                  have eD33_5_N38_ : ze N38_ (d_ + 33) 5 = ze N33_ (d_ + 33) 5 := hsN38_.e (by decide)
                  have eD33_6_N38_ : ze N38_ (d_ + 33) 6 = ze N33_ (d_ + 33) 6 := hsN38_.e (by decide)
                  have c40_ : zYb b_ n_ N38_ := zYb.fr (hf_N33_.w hW) hsN38_ c35_ (by decide)
                  have c41_ : zKm F_ K_ d_ N38_ := zKm.fr (hf_N33_.w hW) hsN38_ c36_ (by decide)
                  have c42_ : zYt b_ n_ N38_ := zYt.fr (hf_N33_.w hW) hsN38_ hp1_N33_ (by decide)
                  show zW l m_Reader_readBehind (zn Mz + 0, zw Mz + 0) N38_ 77 [some (.ref 4), some (.ref (d_ + 33)), some (.int (Int32.ofInt u1_))] [] _
                  have hn1_ := hp1_N38_
                  have hn2_ := hp2_N38_
                  have hn3_ := hp3_N38_
                  have hl3_ := hp4_N38_
                  have hn5_ := hp5_N38_
                  have hst_ : zRea (zfs b_ n_ F_ K_ nm_) (zKst 1 F_ d_ Mz) (zKst 2 F_ d_ N38_) := hrea_.tr (by first | exact zRea.st (zs1_n (Nz := N38_) (F := F_) (b := b_) (n := n_) (K := K_) (nm := nm_) hP_ hn1_ hn2_ hn3_ (by omega) (by omega)) | exact zRea.st (zs1_p (Nz := N38_) (F := F_) (b := b_) (n := n_) (K := K_) (nm := nm_) hP_ ⟨hk3_, by (exact zo_1051 hc_46 hv3_.1)⟩ (show ze N21_ 1 5 = _ by (exact zo_763 hv3_.1)) (by rw [hn1_, qzkS_N33_, hp1_, qzkW_N33_, hp2_]) (by rw [hn2_, qzkS_N33_, hp1_, qzkW_N33_, hp2_]) (by rw [hn3_, qzkG_N33_, hp3_]) (by (exact zo_52 eA4_1_N21_ eA4_1_N28_ eA4_1_N33_ eA4_1_N38_)) ((show (ze N38_ 1 2).toNat = _ by rw [show ze N38_ 1 2 = ze N33_ 1 2 by (exact eA1_2_N38_)]).trans hnx2_)))
                  have hl4_ : zLow d_ Mz N38_ := by first | exact hlow_.tr hl3_ | exact hl2_.tr hl3_
                  have hcn_ := hp0_N38_
                  have hmn_ := hcn_.m
                  obtain ⟨f1_, f2_, f3_, f4_, f5_, f6_, f7_, f8_, f9_⟩ := id hcn_
                  refine zw_aload_n (pc := 77) (n := 1) (x := (d_ + 33)) rfl (zdal_p dlA_Reader_readBehind_132 (i := 12) rfl) ?_
                  refine zk_getI (pc := 78) f_Reader_142 rfl ((hf_N38_.w hW).kr (o := 33) (by decide)) (zdal_p dlA_Reader_readBehind_132 (i := 13) rfl) ?_
                  refine zr_if_le (pc := 81) (tgt := 96) ⟨(ze_r N38_ (d_ + 33) 5).1, (ze_r N38_ (d_ + 33) 5).2⟩ (by decide) (zdal_p dlA_Reader_readBehind_132 (i := 14) rfl) (fun hc_81 => ?_) (fun hc_81 => ?_)
                  · skip
                    refine zw_iconst (pc := 96) (v := Int32.ofInt 1) (by decide) d_Reader_readBehind_96 ?_
                    exact zk_iret (pc := 97) (ty := .boolean) rfl (z_narB (by (decide))) ⟨by (exact hv20_a), by (exact hv20_b)⟩ hf_N38_ ⟨c42_, (show ((1 = 1 ∧ zRea (zfs b_ n_ F_ K_ nm_) (zKst 1 F_ d_ Mz) (zKst 2 F_ d_ N38_) ∧ zCI F_ K_ d_ 1 N38_ ∧ zLow d_ Mz N38_ ∧ (zkS d_ N38_).head? ≠ some 1 ∧ ¬ (zisg b_ n_ (ze N38_ 1 2).toNat 41 ∧ 0 ∈ zkS d_ N38_) ∧ ze N38_ 4 1 = ze Mz 4 1) ∨ (1 = 0 ∧ zRea (zfs b_ n_ F_ K_ nm_) (zKst 1 F_ d_ Mz) zFt)) from Or.inl (⟨(show 1 = 1 by first | rfl | omega | exact hst_ | exact hcn_ | exact hl4_ | exact hn5_ | exact (fun q_ => hC_ q_.1) | (rintro ⟨q1_, q2_⟩; have := hmn_.mpr q2_; omega)), (show zRea (zfs b_ n_ F_ K_ nm_) (zKst 1 F_ d_ Mz) (zKst 2 F_ d_ N38_) by first | rfl | (exact hst_) | exact hst_ | exact hcn_ | exact hl4_ | exact hn5_ | exact (fun q_ => hC_ q_.1) | (rintro ⟨q1_, q2_⟩; have := hmn_.mpr q2_; omega)), (show zCI F_ K_ d_ 1 N38_ by first | rfl | (exact hp0_N38_) | exact hst_ | exact hcn_ | exact hl4_ | exact hn5_ | exact (fun q_ => hC_ q_.1) | (rintro ⟨q1_, q2_⟩; have := hmn_.mpr q2_; omega)), (show zLow d_ Mz N38_ by first | rfl | (exact hl4_) | exact hst_ | exact hcn_ | exact hl4_ | exact hn5_ | exact (fun q_ => hC_ q_.1) | (rintro ⟨q1_, q2_⟩; have := hmn_.mpr q2_; omega)), (show (zkS d_ N38_).head? ≠ some 1 by first | rfl | (exact hp5_N38_) | exact hst_ | exact hcn_ | exact hl4_ | exact hn5_ | exact (fun q_ => hC_ q_.1) | (rintro ⟨q1_, q2_⟩; have := hmn_.mpr q2_; omega)), (show ¬ (zisg b_ n_ (ze N38_ 1 2).toNat 41 ∧ 0 ∈ zkS d_ N38_) by first | rfl | omega | exact hst_ | exact hcn_ | exact hl4_ | exact hn5_ | exact (fun q_ => hC_ q_.1) | (rintro ⟨q1_, q2_⟩; have := hmn_.mpr q2_; (exact zo_1052 hc_81 this))), (show ze N38_ 4 1 = ze Mz 4 1 by first | rfl | (exact zo_1053 eA4_1_N21_ eA4_1_N28_ eA4_1_N33_ eA4_1_N38_ i6_) | exact hst_ | exact hcn_ | exact hl4_ | exact hn5_ | exact (fun q_ => hC_ q_.1) | (rintro ⟨q1_, q2_⟩; have := hmn_.mpr q2_; omega))⟩))⟩ d_Reader_readBehind_97
                  · skip
                    refine zw_aload_n (pc := 84) (n := 0) (x := 4) rfl (zdal_p dlA_Reader_readBehind_132 (i := 15) rfl) ?_
                    refine zw_getF (pc := 85) f_Reader_15 rfl ((hf_N38_.w hW).ka (o := 4) (by decide)) ((hf_N38_.w hW).la (o := 4) (s := 0) (r := 1) (by decide)) (zdal_p dlA_Reader_readBehind_132 (i := 16) rfl) ?_
                    refine zw_bipush (pc := 88) (v := Int32.ofInt 41) (by decide) (zdal_p dlA_Reader_readBehind_132 (i := 17) rfl) ?_
                    refine zk_callV hf_N38_.x (pc := 90) [.int (Int32.ofInt 41)] [] l_Reader_37 (u_Tokens_isSign l d_ N38_ (hf_N38_.w hW) 41 (by decide) (by decide) b_ n_ c42_) rfl rfl ((hf_N38_.w hW).ka (o := 1) (by decide)) (by decide) (by decide) (Nat.le_of_ble_eq_true rfl) (zdal_p dlA_Reader_readBehind_132 (i := 18) rfl) ?_
                    rintro _ N43_ ⟨v44_, rfl, ⟨hv44_a, hv44_b⟩, hsN43_, hp0_N43_⟩
                    obtain rfl := hsN43_.eq.symm
                    replace hp0_N43_ : ((v44_ = 1 ∧ zkd b_ n_ (ze N38_ 1 2).toNat = 3 ∧ b_ (ze N38_ 1 2).toNat = 41) ∨ (v44_ = 0 ∧ ¬ (zkd b_ n_ (ze N38_ 1 2).toNat = 3 ∧ b_ (ze N38_ 1 2).toNat = 41))) := hp0_N43_
                    rcases hp0_N43_ with ⟨rfl, ha90_0_hp0_N43_, ha90_1_hp0_N43_⟩ | ⟨rfl, ha90_0_hp0_N43_⟩
                    · skip
                      have hC_ : zisg b_ n_ (ze N38_ 1 2).toNat 41 := ⟨ha90_0_hp0_N43_, ha90_1_hp0_N43_⟩
                      show zW l m_Reader_readBehind (zn Mz + 0, zw Mz + 0) N38_ 93 [some (.ref 4), some (.ref (d_ + 33)), some (.int (Int32.ofInt u1_))] [.int (Int32.ofInt 1)] _
                      refine zr_if_ne (pc := 93) (tgt := 98) ⟨(by decide), (by decide)⟩ (by decide) d_Reader_readBehind_93 (fun hc_93 => ?_) (fun hc_93 => ?_)
                      · skip
                        refine zw_aload_n (pc := 98) (n := 1) (x := (d_ + 33)) rfl (zdal_p dlA_Reader_readBehind_132 (i := 22) rfl) ?_
                        refine zw_iconst (pc := 99) (v := Int32.ofInt 0) (by decide) (zdal_p dlA_Reader_readBehind_132 (i := 23) rfl) ?_
                        refine zk_callV hf_N38_.x (pc := 100) [.int (Int32.ofInt 0)] [] l_Reader_145 (u_Calc_reckon l d_ N38_ (hf_N38_.w hW) 0 (by decide) (by decide) (by (decide)) F_ K_ hA_ c41_ hp0_N38_ (show (zkS d_ N38_).head? ≠ some 1 by exact hn5_)) rfl rfl ((hf_N38_.w hW).kr (o := 33) (by decide)) (by decide) (by decide) (Nat.le_of_ble_eq_true rfl) (zdal_p dlA_Reader_readBehind_133 (i := 0) rfl) ?_
                        rintro _ N45_ ⟨rfl, hsN45_, ⟨hp0_N45_, hp1_N45_, hp2_N45_, hp3_N45_, hp4_N45_⟩⟩
                        have hf_N45_ : zFc d_ [(1, 2), (1, 3), (1, 4), (1, 5), (4, 2), (4, 3)] [] [(33, 2), (33, 3), (33, 4), (33, 5), (33, 6)] [25, 27] Mz N45_ := hf_N38_.tr hsN45_ (by decide) (by decide) (by decide) (by decide)
                        have hb0_N45_ : zFc d_ [(1, 2), (1, 3), (1, 4), (1, 5)] [] [(33, 2), (33, 3), (33, 4), (33, 5), (33, 6)] [25, 27] Mz N45_ := hb0_N38_.tr hsN45_ (by decide) (by decide) (by decide) (by decide)
                        have eA1_2_N45_ : ze N45_ 1 2 = ze N38_ 1 2 := hsN45_.ea (hf_N38_.w hW) (by decide)
                        have eA1_3_N45_ : ze N45_ 1 3 = ze N38_ 1 3 := hsN45_.ea (hf_N38_.w hW) (by decide)
                        have eA1_5_N45_ : ze N45_ 1 5 = ze N38_ 1 5 := hsN45_.ea (hf_N38_.w hW) (by decide)
                        have eA4_1_N45_ : ze N45_ 4 1 = ze N38_ 4 1 := hsN45_.ea (hf_N38_.w hW) (by decide)
                        have rD33_2_N45_ := ze_r N45_ (d_ + 33) 2
                        have rD33_3_N45_ := ze_r N45_ (d_ + 33) 3
                        have eD33_4_N45_ : ze N45_ (d_ + 33) 4 = ze N38_ (d_ + 33) 4 := hsN45_.e (by decide)
                        have eD33_5_N45_ : ze N45_ (d_ + 33) 5 = ze N38_ (d_ + 33) 5 := hsN45_.e (by decide)
                        have rD33_6_N45_ := ze_r N45_ (d_ + 33) 6
                        have c47_ : zYb b_ n_ N45_ := zYb.fr (hf_N38_.w hW) hsN45_ c40_ (by decide)
                        have c49_ : zYt b_ n_ N45_ := zYt.fr (hf_N38_.w hW) hsN45_ c42_ (by decide)
                        show zW l m_Reader_readBehind (zn Mz + 0, zw Mz + 0) N45_ 103 [some (.ref 4), some (.ref (d_ + 33)), some (.int (Int32.ofInt u1_))] [] _
                        have hr1_ := hp1_N45_
                        have hl5_ := hl4_.tr hp2_N45_
                        have hr3_ := hp3_N45_
                        have hr4_ := hp4_N45_
                        have hcr_ := hp0_N45_
                        obtain ⟨i1_, i2_, i3_, i4_, i5_, i6_, i7_, i8_, i9_⟩ := id hcr_
                        have hzh_ := hcr_.h (by (exact zo_1054 eD33_5_N45_ hc_81 i4_)) hr3_ hr4_
                        refine zw_aload_n (pc := 103) (n := 1) (x := (d_ + 33)) rfl (zdal_p dlA_Reader_readBehind_133 (i := 1) rfl) ?_
                        refine zk_callV hf_N45_.x (pc := 104) [] [] l_Reader_185 (u_Calc_close l d_ N45_ (hf_N45_.w hW) F_ K_ hA_ hp0_N45_ (show (zkS d_ N45_).head? = some 0 by exact hzh_)) rfl rfl ((hf_N45_.w hW).kr (o := 33) (by decide)) (by decide) (by decide) (Nat.le_of_ble_eq_true rfl) (zdal_p dlA_Reader_readBehind_133 (i := 2) rfl) ?_
                        rintro _ N50_ ⟨rfl, hsN50_, ⟨hp0_N50_, hp1_N50_, hp2_N50_, hp3_N50_⟩⟩
                        have hf_N50_ : zFc d_ [(1, 2), (1, 3), (1, 4), (1, 5), (4, 2), (4, 3)] [] [(33, 2), (33, 3), (33, 4), (33, 5), (33, 6)] [25, 27] Mz N50_ := hf_N45_.tr hsN50_ (by decide) (by decide) (by decide) (by decide)
                        have hb0_N50_ : zFc d_ [(1, 2), (1, 3), (1, 4), (1, 5)] [] [(33, 2), (33, 3), (33, 4), (33, 5), (33, 6)] [25, 27] Mz N50_ := hb0_N45_.tr hsN50_ (by decide) (by decide) (by decide) (by decide)
                        have eA1_2_N50_ : ze N50_ 1 2 = ze N45_ 1 2 := hsN50_.ea (hf_N45_.w hW) (by decide)
                        have eA1_3_N50_ : ze N50_ 1 3 = ze N45_ 1 3 := hsN50_.ea (hf_N45_.w hW) (by decide)
                        have eA1_5_N50_ : ze N50_ 1 5 = ze N45_ 1 5 := hsN50_.ea (hf_N45_.w hW) (by decide)
                        have eA4_1_N50_ : ze N50_ 4 1 = ze N45_ 4 1 := hsN50_.ea (hf_N45_.w hW) (by decide)
                        have rD33_2_N50_ := ze_r N50_ (d_ + 33) 2
                        have eD33_3_N50_ : ze N50_ (d_ + 33) 3 = ze N45_ (d_ + 33) 3 := hsN50_.e (by decide)
                        have rD33_4_N50_ := ze_r N50_ (d_ + 33) 4
                        have rD33_5_N50_ := ze_r N50_ (d_ + 33) 5
                        have eD33_6_N50_ : ze N50_ (d_ + 33) 6 = ze N45_ (d_ + 33) 6 := hsN50_.e (by decide)
                        have c52_ : zYb b_ n_ N50_ := zYb.fr (hf_N45_.w hW) hsN50_ c47_ (by decide)
                        have c54_ : zYt b_ n_ N50_ := zYt.fr (hf_N45_.w hW) hsN50_ c49_ (by decide)
                        show zW l m_Reader_readBehind (zn Mz + 0, zw Mz + 0) N50_ 107 [some (.ref 4), some (.ref (d_ + 33)), some (.int (Int32.ofInt u1_))] [] _
                        have hd1_ := hp1_N50_
                        have hd2_ := hp2_N50_
                        have hd3_ := hp3_N50_
                        have hl6_ := hl5_.tr (zLow.f hsN50_ (by decide))
                        have hcd_ := hp0_N50_
                        have hz5_ := zop0_t hzh_
                        rw [← hd1_] at hz5_
                        obtain ⟨k1_, k2_, k3_, k4_, k5_, k6_, k7_, k8_, k9_⟩ := id hcd_
                        have hyt_ := c54_
                        have hyx_ := hyt_.x
                        refine zw_aload_n (pc := 107) (n := 0) (x := 4) rfl (zdal_p dlA_Reader_readBehind_133 (i := 3) rfl) ?_
                        refine zw_getF (pc := 108) f_Reader_15 rfl ((hf_N50_.w hW).ka (o := 4) (by decide)) ((hf_N50_.w hW).la (o := 4) (s := 0) (r := 1) (by decide)) (zdal_p dlA_Reader_readBehind_133 (i := 4) rfl) ?_
                        refine zk_callV hf_N50_.x (pc := 111) [] [] l_Reader_44 (u_Tokens_step l d_ N50_ (hf_N50_.w hW) b_ n_ c52_ (show 0 ≤ ze N50_ 1 3 by first | with_reducible assumption | (exact zo_57 hyx_.2.1) | assumption) (show ze N50_ 1 3 ≤ n_ by first | with_reducible assumption | (exact zo_605 hyx_.2.2) | assumption)) rfl rfl ((hf_N50_.w hW).ka (o := 1) (by decide)) (by decide) (by decide) (Nat.le_of_ble_eq_true rfl) (zdal_p dlA_Reader_readBehind_133 (i := 5) rfl) ?_
                        rintro _ N55_ ⟨rfl, hsN55_, ⟨hp0_N55_, hp1_N55_⟩⟩
                        have hf_N55_ : zFc d_ [(1, 2), (1, 3), (1, 4), (1, 5), (4, 2), (4, 3)] [] [(33, 2), (33, 3), (33, 4), (33, 5), (33, 6)] [25, 27] Mz N55_ := hf_N50_.tr hsN55_ (by decide) (by decide) (by decide) (by decide)
                        have hb0_N55_ : zFc d_ [(1, 2), (1, 3), (1, 4), (1, 5)] [] [(33, 2), (33, 3), (33, 4), (33, 5), (33, 6)] [25, 27] Mz N55_ := hb0_N50_.tr hsN55_ (by decide) (by decide) (by decide) (by decide)
                        have rA1_2_N55_ := ze_r N55_ 1 2
                        have rA1_3_N55_ := ze_r N55_ 1 3
                        have rA1_5_N55_ := ze_r N55_ 1 5
                        have eA4_1_N55_ : ze N55_ 4 1 = ze N50_ 4 1 := hsN55_.ea (hf_N50_.w hW) (by decide)
                        have eD33_2_N55_ : ze N55_ (d_ + 33) 2 = ze N50_ (d_ + 33) 2 := hsN55_.e (by decide)
                        have eD33_3_N55_ : ze N55_ (d_ + 33) 3 = ze N50_ (d_ + 33) 3 := hsN55_.e (by decide)
                        have eD33_4_N55_ : ze N55_ (d_ + 33) 4 = ze N50_ (d_ + 33) 4 := hsN55_.e (by decide)
                        have eD33_5_N55_ : ze N55_ (d_ + 33) 5 = ze N50_ (d_ + 33) 5 := hsN55_.e (by decide)
                        have eD33_6_N55_ : ze N55_ (d_ + 33) 6 = ze N50_ (d_ + 33) 6 := hsN55_.e (by decide)
                        have qzkS_N55_ : zkS d_ N55_ = zkS d_ N50_ := zkS_q hsN55_ (by decide)
                        have qzkG_N55_ : zkG d_ N55_ = zkG d_ N50_ := zkG_q hsN55_ (by decide)
                        have qzkW_N55_ : zkW F_ d_ N55_ = zkW F_ d_ N50_ := zkW_q hsN55_ (by decide)
                        have c59_ : zCI F_ K_ d_ 1 N55_ := zCI.fr (hf_N50_.w hW) hsN55_ hp0_N50_ (by decide)
                        show zW l m_Reader_readBehind (zn Mz + 0, zw Mz + 0) N55_ 114 [some (.ref 4), some (.ref (d_ + 33)), some (.int (Int32.ofInt u1_))] [] _
                        have hnn_ := hyt_.n hp0_N55_
                        have hl7_ := hl6_.tr (zLow.f hsN55_ (by decide))
                        have hst2_ := hst_.tr (zRea.st (zs2_c (Nz := N55_) (Rz := N45_) (c := (0, 0)) (F := F_) (b := b_) (n := n_) (K := K_) (nm := nm_) hC_ (hmn_.mp (by (exact hc_81))) hr1_ (by rw [qzkS_N55_, hd1_]) (by rw [qzkW_N55_, hd2_]) (by rw [qzkG_N55_, hd3_]) (by (exact zo_19 eA4_1_N45_ eA4_1_N50_ eA4_1_N55_)) (hnn_.2.trans (by rw [show ze N50_ 1 2 = ze N38_ 1 2 by (exact zo_53 eA1_2_N45_ eA1_2_N50_)]))))
                        refine zr_iinc (pc := 114) (i := 2) (a := u1_) (n := 1) (L2 := [some (.ref 4), some (.ref (d_ + 33)), some (.int (Int32.ofInt (u1_ + 1)))]) rfl (by decide) rfl (zdal_p dlA_Reader_readBehind_133 (i := 6) rfl) ?_
                        refine zw_goto (pc := 117) (tgt := 2) (by decide) (zdal_p dlA_Reader_readBehind_133 (i := 7) rfl) ?_
                        exact ih_2 (u1_ + 1) (by (exact zo_679 hu1_a)) (by (exact zo_1055 hc_5)) N55_ hb0_N55_ (show 0 ≤ (u1_ + 1) by first | with_reducible assumption | assumption | omega) (show (u1_ + 1) + ze N55_ (d_ + 33) 5 ≤ 7 by omega) (show ze N55_ 4 1 = ze Mz 4 1 by first | with_reducible assumption | (exact zo_1056 eA4_1_N21_ eA4_1_N28_ eA4_1_N2_ eA4_1_N33_ eA4_1_N38_ eA4_1_N45_ eA4_1_N50_ eA4_1_N55_) | assumption) (show zRea (zfs b_ n_ F_ K_ nm_) (zKst 1 F_ d_ Mz) (zKst 1 F_ d_ N55_) by exact hst2_) (show zLow d_ Mz N55_ by exact hl7_) hp1_N55_ c59_ (by (exact zo_1057 hc_5 hlt_2 hu1_a))
                      · skip
                        exact absurd hc_93 (by decide)
                    · skip
                      have hC_ := ha90_0_hp0_N43_
                      show zW l m_Reader_readBehind (zn Mz + 0, zw Mz + 0) N38_ 93 [some (.ref 4), some (.ref (d_ + 33)), some (.int (Int32.ofInt u1_))] [.int (Int32.ofInt 0)] _
                      refine zr_if_ne (pc := 93) (tgt := 98) ⟨(by decide), (by decide)⟩ (by decide) d_Reader_readBehind_93 (fun hc_93 => ?_) (fun hc_93 => ?_)
                      · skip
                        exact absurd hc_93 (by decide)
                      · skip
                        refine zw_iconst (pc := 96) (v := Int32.ofInt 1) (by decide) d_Reader_readBehind_96 ?_
                        exact zk_iret (pc := 97) (ty := .boolean) rfl (z_narB (by (decide))) ⟨by (exact hv20_a), by (exact hv20_b)⟩ hf_N38_ ⟨c42_, (show ((1 = 1 ∧ zRea (zfs b_ n_ F_ K_ nm_) (zKst 1 F_ d_ Mz) (zKst 2 F_ d_ N38_) ∧ zCI F_ K_ d_ 1 N38_ ∧ zLow d_ Mz N38_ ∧ (zkS d_ N38_).head? ≠ some 1 ∧ ¬ (zisg b_ n_ (ze N38_ 1 2).toNat 41 ∧ 0 ∈ zkS d_ N38_) ∧ ze N38_ 4 1 = ze Mz 4 1) ∨ (1 = 0 ∧ zRea (zfs b_ n_ F_ K_ nm_) (zKst 1 F_ d_ Mz) zFt)) from Or.inl (⟨(show 1 = 1 by first | rfl | omega | exact hst_ | exact hcn_ | exact hl4_ | exact hn5_ | exact (fun q_ => hC_ q_.1) | (rintro ⟨q1_, q2_⟩; have := hmn_.mpr q2_; omega)), (show zRea (zfs b_ n_ F_ K_ nm_) (zKst 1 F_ d_ Mz) (zKst 2 F_ d_ N38_) by first | rfl | (exact hst_) | exact hst_ | exact hcn_ | exact hl4_ | exact hn5_ | exact (fun q_ => hC_ q_.1) | (rintro ⟨q1_, q2_⟩; have := hmn_.mpr q2_; omega)), (show zCI F_ K_ d_ 1 N38_ by first | rfl | (exact hp0_N38_) | exact hst_ | exact hcn_ | exact hl4_ | exact hn5_ | exact (fun q_ => hC_ q_.1) | (rintro ⟨q1_, q2_⟩; have := hmn_.mpr q2_; omega)), (show zLow d_ Mz N38_ by first | rfl | (exact hl4_) | exact hst_ | exact hcn_ | exact hl4_ | exact hn5_ | exact (fun q_ => hC_ q_.1) | (rintro ⟨q1_, q2_⟩; have := hmn_.mpr q2_; omega)), (show (zkS d_ N38_).head? ≠ some 1 by first | rfl | (exact hp5_N38_) | exact hst_ | exact hcn_ | exact hl4_ | exact hn5_ | exact (fun q_ => hC_ q_.1) | (rintro ⟨q1_, q2_⟩; have := hmn_.mpr q2_; omega)), (show ¬ (zisg b_ n_ (ze N38_ 1 2).toNat 41 ∧ 0 ∈ zkS d_ N38_) by first | rfl | omega | exact hst_ | exact hcn_ | exact hl4_ | exact hn5_ | exact (fun q_ => hC_ q_.1) | (rintro ⟨q1_, q2_⟩; have := hmn_.mpr q2_; omega)), (show ze N38_ 4 1 = ze Mz 4 1 by first | rfl | (exact zo_1053 eA4_1_N21_ eA4_1_N28_ eA4_1_N33_ eA4_1_N38_ i6_) | exact hst_ | exact hcn_ | exact hl4_ | exact hn5_ | exact (fun q_ => hC_ q_.1) | (rintro ⟨q1_, q2_⟩; have := hmn_.mpr q2_; omega))⟩))⟩ d_Reader_readBehind_97
                · skip
                  refine zw_aload_n (pc := 49) (n := 0) (x := 4) rfl (zdal_p dlA_Reader_readBehind_131 (i := 22) rfl) ?_
                  refine zw_iconst (pc := 50) (v := Int32.ofInt 2) (by decide) (zdal_p dlA_Reader_readBehind_131 (i := 23) rfl) ?_
                  refine zk_callV hf_N21_.x (pc := 51) [.int (Int32.ofInt 2)] [] l_Reader_41 (u_Reader_refuse l d_ N21_ (hf_N21_.w hW) 2 (by decide) (by decide)) rfl rfl ((hf_N21_.w hW).ka (o := 4) (by decide)) (by decide) (by decide) (Nat.le_of_ble_eq_true rfl) (zdal_p dlA_Reader_readBehind_132 (i := 0) rfl) ?_
                  rintro _ N60_ ⟨v61_, rfl, ⟨hv61_a, hv61_b⟩, hsN60_, hp0_N60_⟩
                  replace hp0_N60_ : ((v61_ = 0)) := hp0_N60_
                  have hf_N60_ : zFc d_ [(1, 2), (1, 3), (1, 4), (1, 5), (4, 2), (4, 3)] [] [(33, 2), (33, 3), (33, 4), (33, 5), (33, 6)] [25, 27] Mz N60_ := hf_N21_.tr hsN60_ (by decide) (by decide) (by decide) (by decide)
                  have eA1_2_N60_ : ze N60_ 1 2 = ze N21_ 1 2 := hsN60_.ea (hf_N21_.w hW) (by decide)
                  have eA1_3_N60_ : ze N60_ 1 3 = ze N21_ 1 3 := hsN60_.ea (hf_N21_.w hW) (by decide)
                  have eA1_5_N60_ : ze N60_ 1 5 = ze N21_ 1 5 := hsN60_.ea (hf_N21_.w hW) (by decide)
                  have eA4_1_N60_ : ze N60_ 4 1 = ze N21_ 4 1 := hsN60_.ea (hf_N21_.w hW) (by decide)
                  have eD33_2_N60_ : ze N60_ (d_ + 33) 2 = ze N21_ (d_ + 33) 2 := hsN60_.e (by decide)
                  have eD33_3_N60_ : ze N60_ (d_ + 33) 3 = ze N21_ (d_ + 33) 3 := hsN60_.e (by decide)
                  have eD33_4_N60_ : ze N60_ (d_ + 33) 4 = ze N21_ (d_ + 33) 4 := hsN60_.e (by decide)
                  have eD33_5_N60_ : ze N60_ (d_ + 33) 5 = ze N21_ (d_ + 33) 5 := hsN60_.e (by decide)
                  have eD33_6_N60_ : ze N60_ (d_ + 33) 6 = ze N21_ (d_ + 33) 6 := hsN60_.e (by decide)
                  have c65_ : zYt b_ n_ N60_ := zYt.fr (hf_N21_.w hW) hsN60_ hp1_N21_ (by decide)
                  rcases hp0_N60_ with rfl
                  · skip
                    show zW l m_Reader_readBehind (zn Mz + 0, zw Mz + 0) N60_ 54 [some (.ref 4), some (.ref (d_ + 33)), some (.int (Int32.ofInt u1_))] [.int (Int32.ofInt 0)] _
                    exact zk_iret (pc := 54) (ty := .boolean) rfl (z_narB (by (decide))) ⟨by (exact hv61_a), by (exact hv61_b)⟩ hf_N60_ ⟨c65_, (show ((0 = 1 ∧ zRea (zfs b_ n_ F_ K_ nm_) (zKst 1 F_ d_ Mz) (zKst 2 F_ d_ N60_) ∧ zCI F_ K_ d_ 1 N60_ ∧ zLow d_ Mz N60_ ∧ (zkS d_ N60_).head? ≠ some 1 ∧ ¬ (zisg b_ n_ (ze N60_ 1 2).toNat 41 ∧ 0 ∈ zkS d_ N60_) ∧ ze N60_ 4 1 = ze Mz 4 1) ∨ (0 = 0 ∧ zRea (zfs b_ n_ F_ K_ nm_) (zKst 1 F_ d_ Mz) zFt)) from Or.inr (⟨(show 0 = 0 by first | rfl | (exfalso; omega) | exact hrea_.tr (zRea.st (zs1_f (F := F_) (d := d_) (b := b_) (n := n_) (K := K_) (nm := nm_) hP_ (fun q_ => hk3_ q_.1))) | exact hrea_.tr (zRea.st (zs1_f (F := F_) (d := d_) (b := b_) (n := n_) (K := K_) (nm := nm_) hP_ (fun q_ => by have := q_.2; omega)))), (show zRea (zfs b_ n_ F_ K_ nm_) (zKst 1 F_ d_ Mz) zFt by first | rfl | (exfalso; omega) | exact hrea_.tr (zRea.st (zs1_f (F := F_) (d := d_) (b := b_) (n := n_) (K := K_) (nm := nm_) hP_ (fun q_ => hk3_ q_.1))) | exact hrea_.tr (zRea.st (zs1_f (F := F_) (d := d_) (b := b_) (n := n_) (K := K_) (nm := nm_) hP_ (fun q_ => by have := q_.2; (exact zo_1058 hc_46 hv3_.1 q_.2)))))⟩))⟩ (zdal_p dlA_Reader_readBehind_132 (i := 1) rfl)
            · skip
              have hk3_ := ha31_0_hp0_N26_
              rw [hnx_] at hk3_
              show zW l m_Reader_readBehind (zn Mz + 0, zw Mz + 0) N21_ 34 [some (.ref 4), some (.ref (d_ + 33)), some (.int (Int32.ofInt u1_))] [.int (Int32.ofInt 0)] _
              refine zr_if_eq (pc := 34) (tgt := 49) ⟨(by decide), (by decide)⟩ (by decide) (zdal_p dlA_Reader_readBehind_131 (i := 16) rfl) (fun hc_34 => ?_) (fun hc_34 => ?_)
              · skip
                refine zw_aload_n (pc := 49) (n := 0) (x := 4) rfl (zdal_p dlA_Reader_readBehind_131 (i := 22) rfl) ?_
                refine zw_iconst (pc := 50) (v := Int32.ofInt 2) (by decide) (zdal_p dlA_Reader_readBehind_131 (i := 23) rfl) ?_
                refine zk_callV hf_N21_.x (pc := 51) [.int (Int32.ofInt 2)] [] l_Reader_41 (u_Reader_refuse l d_ N21_ (hf_N21_.w hW) 2 (by decide) (by decide)) rfl rfl ((hf_N21_.w hW).ka (o := 4) (by decide)) (by decide) (by decide) (Nat.le_of_ble_eq_true rfl) (zdal_p dlA_Reader_readBehind_132 (i := 0) rfl) ?_
                rintro _ N66_ ⟨v67_, rfl, ⟨hv67_a, hv67_b⟩, hsN66_, hp0_N66_⟩
                replace hp0_N66_ : ((v67_ = 0)) := hp0_N66_
                have hf_N66_ : zFc d_ [(1, 2), (1, 3), (1, 4), (1, 5), (4, 2), (4, 3)] [] [(33, 2), (33, 3), (33, 4), (33, 5), (33, 6)] [25, 27] Mz N66_ := hf_N21_.tr hsN66_ (by decide) (by decide) (by decide) (by decide)
                have eA1_2_N66_ : ze N66_ 1 2 = ze N21_ 1 2 := hsN66_.ea (hf_N21_.w hW) (by decide)
                have eA1_3_N66_ : ze N66_ 1 3 = ze N21_ 1 3 := hsN66_.ea (hf_N21_.w hW) (by decide)
                have eA1_5_N66_ : ze N66_ 1 5 = ze N21_ 1 5 := hsN66_.ea (hf_N21_.w hW) (by decide)
                have eA4_1_N66_ : ze N66_ 4 1 = ze N21_ 4 1 := hsN66_.ea (hf_N21_.w hW) (by decide)
                have eD33_2_N66_ : ze N66_ (d_ + 33) 2 = ze N21_ (d_ + 33) 2 := hsN66_.e (by decide)
                have eD33_3_N66_ : ze N66_ (d_ + 33) 3 = ze N21_ (d_ + 33) 3 := hsN66_.e (by decide)
                have eD33_4_N66_ : ze N66_ (d_ + 33) 4 = ze N21_ (d_ + 33) 4 := hsN66_.e (by decide)
                have eD33_5_N66_ : ze N66_ (d_ + 33) 5 = ze N21_ (d_ + 33) 5 := hsN66_.e (by decide)
                have eD33_6_N66_ : ze N66_ (d_ + 33) 6 = ze N21_ (d_ + 33) 6 := hsN66_.e (by decide)
                have c71_ : zYt b_ n_ N66_ := zYt.fr (hf_N21_.w hW) hsN66_ hp1_N21_ (by decide)
                rcases hp0_N66_ with rfl
                · skip
                  show zW l m_Reader_readBehind (zn Mz + 0, zw Mz + 0) N66_ 54 [some (.ref 4), some (.ref (d_ + 33)), some (.int (Int32.ofInt u1_))] [.int (Int32.ofInt 0)] _
                  exact zk_iret (pc := 54) (ty := .boolean) rfl (z_narB (by (decide))) ⟨by (exact hv27_a), by (exact hv27_b)⟩ hf_N66_ ⟨c71_, (show ((0 = 1 ∧ zRea (zfs b_ n_ F_ K_ nm_) (zKst 1 F_ d_ Mz) (zKst 2 F_ d_ N66_) ∧ zCI F_ K_ d_ 1 N66_ ∧ zLow d_ Mz N66_ ∧ (zkS d_ N66_).head? ≠ some 1 ∧ ¬ (zisg b_ n_ (ze N66_ 1 2).toNat 41 ∧ 0 ∈ zkS d_ N66_) ∧ ze N66_ 4 1 = ze Mz 4 1) ∨ (0 = 0 ∧ zRea (zfs b_ n_ F_ K_ nm_) (zKst 1 F_ d_ Mz) zFt)) from Or.inr (⟨(show 0 = 0 by first | rfl | (exfalso; omega) | exact hrea_.tr (zRea.st (zs1_f (F := F_) (d := d_) (b := b_) (n := n_) (K := K_) (nm := nm_) hP_ (fun q_ => hk3_ q_.1))) | exact hrea_.tr (zRea.st (zs1_f (F := F_) (d := d_) (b := b_) (n := n_) (K := K_) (nm := nm_) hP_ (fun q_ => by have := q_.2; omega)))), (show zRea (zfs b_ n_ F_ K_ nm_) (zKst 1 F_ d_ Mz) zFt by first | rfl | (exfalso; omega) | exact hrea_.tr (zRea.st (zs1_f (F := F_) (d := d_) (b := b_) (n := n_) (K := K_) (nm := nm_) hP_ (fun q_ => hk3_ q_.1))) | exact hrea_.tr (zRea.st (zs1_f (F := F_) (d := d_) (b := b_) (n := n_) (K := K_) (nm := nm_) hP_ (fun q_ => by have := q_.2; omega))))⟩))⟩ (zdal_p dlA_Reader_readBehind_132 (i := 1) rfl)
              · skip
                exact absurd hc_34 (by decide)
        · skip
          have hP_ := ha14_0_hp0_N19_
          show zW l m_Reader_readBehind (zn Mz + 0, zw Mz + 0) N2_ 17 [some (.ref 4), some (.ref (d_ + 33)), some (.int (Int32.ofInt u1_))] [.int (Int32.ofInt 0)] _
          refine zr_if_eq (pc := 17) (tgt := 73) ⟨(by decide), (by decide)⟩ (by decide) (zdal_p dlA_Reader_readBehind_131 (i := 9) rfl) (fun hc_17 => ?_) (fun hc_17 => ?_)
          · skip
            refine zw_aload_n (pc := 73) (n := 1) (x := (d_ + 33)) rfl (zdal_p dlA_Reader_readBehind_132 (i := 10) rfl) ?_
            refine zk_callV hf_N2_.x (pc := 74) [] [] l_Reader_182 (u_Calc_negate l d_ N2_ (hf_N2_.w hW) F_ K_ hA_ c12_ i10_) rfl rfl ((hf_N2_.w hW).kr (o := 33) (by decide)) (by decide) (by decide) (Nat.le_of_ble_eq_true rfl) (zdal_p dlA_Reader_readBehind_132 (i := 11) rfl) ?_
            rintro _ N72_ ⟨rfl, hsN72_, ⟨hp0_N72_, hp1_N72_, hp2_N72_, hp3_N72_, hp4_N72_, hp5_N72_⟩⟩
            have hf_N72_ : zFc d_ [(1, 2), (1, 3), (1, 4), (1, 5), (4, 2), (4, 3)] [] [(33, 2), (33, 3), (33, 4), (33, 5), (33, 6)] [25, 27] Mz N72_ := hf_N2_.tr hsN72_ (by decide) (by decide) (by decide) (by decide)
            have hb0_N72_ : zFc d_ [(1, 2), (1, 3), (1, 4), (1, 5)] [] [(33, 2), (33, 3), (33, 4), (33, 5), (33, 6)] [25, 27] Mz N72_ := hs3_.tr hsN72_ (by decide) (by decide) (by decide) (by decide)
            have eA1_2_N72_ : ze N72_ 1 2 = ze N2_ 1 2 := hsN72_.ea (hf_N2_.w hW) (by decide)
            have eA1_3_N72_ : ze N72_ 1 3 = ze N2_ 1 3 := hsN72_.ea (hf_N2_.w hW) (by decide)
            have eA1_5_N72_ : ze N72_ 1 5 = ze N2_ 1 5 := hsN72_.ea (hf_N2_.w hW) (by decide)
            have eA4_1_N72_ : ze N72_ 4 1 = ze N2_ 4 1 := hsN72_.ea (hf_N2_.w hW) (by decide)
            have rD33_2_N72_ := ze_r N72_ (d_ + 33) 2
            have eD33_3_N72_ : ze N72_ (d_ + 33) 3 = ze N2_ (d_ + 33) 3 := hsN72_.e (by decide)
            have rD33_4_N72_ := ze_r N72_ (d_ + 33) 4
            have eD33_5_N72_ : ze N72_ (d_ + 33) 5 = ze N2_ (d_ + 33) 5 := hsN72_.e (by decide)
            have eD33_6_N72_ : ze N72_ (d_ + 33) 6 = ze N2_ (d_ + 33) 6 := hsN72_.e (by decide)
            have c74_ : zYb b_ n_ N72_ := zYb.fr (hf_N2_.w hW) hsN72_ c11_ (by decide)
            have c75_ : zKm F_ K_ d_ N72_ := zKm.fr (hf_N2_.w hW) hsN72_ c12_ (by decide)
            have c76_ : zYt b_ n_ N72_ := zYt.fr (hf_N2_.w hW) hsN72_ i9_ (by decide)
            show zW l m_Reader_readBehind (zn Mz + 0, zw Mz + 0) N72_ 77 [some (.ref 4), some (.ref (d_ + 33)), some (.int (Int32.ofInt u1_))] [] _
            have hn1_ := hp1_N72_
            have hn2_ := hp2_N72_
            have hn3_ := hp3_N72_
            have hl3_ := hp4_N72_
            have hn5_ := hp5_N72_
            have hst_ : zRea (zfs b_ n_ F_ K_ nm_) (zKst 1 F_ d_ Mz) (zKst 2 F_ d_ N72_) := hrea_.tr (by first | exact zRea.st (zs1_n (Nz := N72_) (F := F_) (b := b_) (n := n_) (K := K_) (nm := nm_) hP_ hn1_ hn2_ hn3_ (by (exact eA4_1_N72_)) (by (exact eA1_2_N72_))) | exact zRea.st (zs1_p (Nz := N72_) (F := F_) (b := b_) (n := n_) (K := K_) (nm := nm_) hP_ ⟨hk3_, by omega⟩ (show ze Mz 1 5 = _ by omega) (by rw [hn1_, qzkS_N2_, hp1_, qzkW_N2_, hp2_]) (by rw [hn2_, qzkS_N2_, hp1_, qzkW_N2_, hp2_]) (by rw [hn3_, qzkG_N2_, hp3_]) (by omega) ((show (ze N72_ 1 2).toNat = _ by rw [show ze N72_ 1 2 = ze N2_ 1 2 by omega]).trans hnx2_)))
            have hl4_ : zLow d_ Mz N72_ := by first | exact hlow_.tr hl3_ | exact hl2_.tr hl3_
            have hcn_ := hp0_N72_
            have hmn_ := hcn_.m
            obtain ⟨f1_, f2_, f3_, f4_, f5_, f6_, f7_, f8_, f9_⟩ := id hcn_
            refine zw_aload_n (pc := 77) (n := 1) (x := (d_ + 33)) rfl (zdal_p dlA_Reader_readBehind_132 (i := 12) rfl) ?_
            refine zk_getI (pc := 78) f_Reader_142 rfl ((hf_N72_.w hW).kr (o := 33) (by decide)) (zdal_p dlA_Reader_readBehind_132 (i := 13) rfl) ?_
            refine zr_if_le (pc := 81) (tgt := 96) ⟨(ze_r N72_ (d_ + 33) 5).1, (ze_r N72_ (d_ + 33) 5).2⟩ (by decide) (zdal_p dlA_Reader_readBehind_132 (i := 14) rfl) (fun hc_81 => ?_) (fun hc_81 => ?_)
            · skip
              refine zw_iconst (pc := 96) (v := Int32.ofInt 1) (by decide) d_Reader_readBehind_96 ?_
              exact zk_iret (pc := 97) (ty := .boolean) rfl (z_narB (by (decide))) ⟨by (decide), by (decide)⟩ hf_N72_ ⟨c76_, (show ((1 = 1 ∧ zRea (zfs b_ n_ F_ K_ nm_) (zKst 1 F_ d_ Mz) (zKst 2 F_ d_ N72_) ∧ zCI F_ K_ d_ 1 N72_ ∧ zLow d_ Mz N72_ ∧ (zkS d_ N72_).head? ≠ some 1 ∧ ¬ (zisg b_ n_ (ze N72_ 1 2).toNat 41 ∧ 0 ∈ zkS d_ N72_) ∧ ze N72_ 4 1 = ze Mz 4 1) ∨ (1 = 0 ∧ zRea (zfs b_ n_ F_ K_ nm_) (zKst 1 F_ d_ Mz) zFt)) from Or.inl (⟨(show 1 = 1 by first | rfl | omega | exact hst_ | exact hcn_ | exact hl4_ | exact hn5_ | exact (fun q_ => hC_ q_.1) | (rintro ⟨q1_, q2_⟩; have := hmn_.mpr q2_; omega)), (show zRea (zfs b_ n_ F_ K_ nm_) (zKst 1 F_ d_ Mz) (zKst 2 F_ d_ N72_) by first | rfl | (exact hst_) | exact hst_ | exact hcn_ | exact hl4_ | exact hn5_ | exact (fun q_ => hC_ q_.1) | (rintro ⟨q1_, q2_⟩; have := hmn_.mpr q2_; omega)), (show zCI F_ K_ d_ 1 N72_ by first | rfl | (exact hp0_N72_) | exact hst_ | exact hcn_ | exact hl4_ | exact hn5_ | exact (fun q_ => hC_ q_.1) | (rintro ⟨q1_, q2_⟩; have := hmn_.mpr q2_; omega)), (show zLow d_ Mz N72_ by first | rfl | (exact hl4_) | exact hst_ | exact hcn_ | exact hl4_ | exact hn5_ | exact (fun q_ => hC_ q_.1) | (rintro ⟨q1_, q2_⟩; have := hmn_.mpr q2_; omega)), (show (zkS d_ N72_).head? ≠ some 1 by first | rfl | (exact hp5_N72_) | exact hst_ | exact hcn_ | exact hl4_ | exact hn5_ | exact (fun q_ => hC_ q_.1) | (rintro ⟨q1_, q2_⟩; have := hmn_.mpr q2_; omega)), (show ¬ (zisg b_ n_ (ze N72_ 1 2).toNat 41 ∧ 0 ∈ zkS d_ N72_) by first | rfl | omega | exact hst_ | exact hcn_ | exact hl4_ | exact hn5_ | exact (fun q_ => hC_ q_.1) | (rintro ⟨q1_, q2_⟩; have := hmn_.mpr q2_; (exact zo_1052 hc_81 this))), (show ze N72_ 4 1 = ze Mz 4 1 by first | rfl | (exact zo_794 eA4_1_N72_ i6_) | exact hst_ | exact hcn_ | exact hl4_ | exact hn5_ | exact (fun q_ => hC_ q_.1) | (rintro ⟨q1_, q2_⟩; have := hmn_.mpr q2_; omega))⟩))⟩ d_Reader_readBehind_97
            · skip
              refine zw_aload_n (pc := 84) (n := 0) (x := 4) rfl (zdal_p dlA_Reader_readBehind_132 (i := 15) rfl) ?_
              refine zw_getF (pc := 85) f_Reader_15 rfl ((hf_N72_.w hW).ka (o := 4) (by decide)) ((hf_N72_.w hW).la (o := 4) (s := 0) (r := 1) (by decide)) (zdal_p dlA_Reader_readBehind_132 (i := 16) rfl) ?_
              refine zw_bipush (pc := 88) (v := Int32.ofInt 41) (by decide) (zdal_p dlA_Reader_readBehind_132 (i := 17) rfl) ?_
              refine zk_callV hf_N72_.x (pc := 90) [.int (Int32.ofInt 41)] [] l_Reader_37 (u_Tokens_isSign l d_ N72_ (hf_N72_.w hW) 41 (by decide) (by decide) b_ n_ c76_) rfl rfl ((hf_N72_.w hW).ka (o := 1) (by decide)) (by decide) (by decide) (Nat.le_of_ble_eq_true rfl) (zdal_p dlA_Reader_readBehind_132 (i := 18) rfl) ?_
              rintro _ N77_ ⟨v78_, rfl, ⟨hv78_a, hv78_b⟩, hsN77_, hp0_N77_⟩
              obtain rfl := hsN77_.eq.symm
              replace hp0_N77_ : ((v78_ = 1 ∧ zkd b_ n_ (ze N72_ 1 2).toNat = 3 ∧ b_ (ze N72_ 1 2).toNat = 41) ∨ (v78_ = 0 ∧ ¬ (zkd b_ n_ (ze N72_ 1 2).toNat = 3 ∧ b_ (ze N72_ 1 2).toNat = 41))) := hp0_N77_
              rcases hp0_N77_ with ⟨rfl, ha90_0_hp0_N77_, ha90_1_hp0_N77_⟩ | ⟨rfl, ha90_0_hp0_N77_⟩
              · skip
                have hC_ : zisg b_ n_ (ze N72_ 1 2).toNat 41 := ⟨ha90_0_hp0_N77_, ha90_1_hp0_N77_⟩
                show zW l m_Reader_readBehind (zn Mz + 0, zw Mz + 0) N72_ 93 [some (.ref 4), some (.ref (d_ + 33)), some (.int (Int32.ofInt u1_))] [.int (Int32.ofInt 1)] _
                refine zr_if_ne (pc := 93) (tgt := 98) ⟨(by decide), (by decide)⟩ (by decide) d_Reader_readBehind_93 (fun hc_93 => ?_) (fun hc_93 => ?_)
                · skip
                  refine zw_aload_n (pc := 98) (n := 1) (x := (d_ + 33)) rfl (zdal_p dlA_Reader_readBehind_132 (i := 22) rfl) ?_
                  refine zw_iconst (pc := 99) (v := Int32.ofInt 0) (by decide) (zdal_p dlA_Reader_readBehind_132 (i := 23) rfl) ?_
                  refine zk_callV hf_N72_.x (pc := 100) [.int (Int32.ofInt 0)] [] l_Reader_145 (u_Calc_reckon l d_ N72_ (hf_N72_.w hW) 0 (by decide) (by decide) (by (decide)) F_ K_ hA_ c75_ hp0_N72_ (show (zkS d_ N72_).head? ≠ some 1 by exact hn5_)) rfl rfl ((hf_N72_.w hW).kr (o := 33) (by decide)) (by decide) (by decide) (Nat.le_of_ble_eq_true rfl) (zdal_p dlA_Reader_readBehind_133 (i := 0) rfl) ?_
                  rintro _ N79_ ⟨rfl, hsN79_, ⟨hp0_N79_, hp1_N79_, hp2_N79_, hp3_N79_, hp4_N79_⟩⟩
                  have hf_N79_ : zFc d_ [(1, 2), (1, 3), (1, 4), (1, 5), (4, 2), (4, 3)] [] [(33, 2), (33, 3), (33, 4), (33, 5), (33, 6)] [25, 27] Mz N79_ := hf_N72_.tr hsN79_ (by decide) (by decide) (by decide) (by decide)
                  have hb0_N79_ : zFc d_ [(1, 2), (1, 3), (1, 4), (1, 5)] [] [(33, 2), (33, 3), (33, 4), (33, 5), (33, 6)] [25, 27] Mz N79_ := hb0_N72_.tr hsN79_ (by decide) (by decide) (by decide) (by decide)
                  have eA1_2_N79_ : ze N79_ 1 2 = ze N72_ 1 2 := hsN79_.ea (hf_N72_.w hW) (by decide)
                  have eA1_3_N79_ : ze N79_ 1 3 = ze N72_ 1 3 := hsN79_.ea (hf_N72_.w hW) (by decide)
                  have eA1_5_N79_ : ze N79_ 1 5 = ze N72_ 1 5 := hsN79_.ea (hf_N72_.w hW) (by decide)
                  have eA4_1_N79_ : ze N79_ 4 1 = ze N72_ 4 1 := hsN79_.ea (hf_N72_.w hW) (by decide)
                  have rD33_2_N79_ := ze_r N79_ (d_ + 33) 2
                  have rD33_3_N79_ := ze_r N79_ (d_ + 33) 3
                  have eD33_4_N79_ : ze N79_ (d_ + 33) 4 = ze N72_ (d_ + 33) 4 := hsN79_.e (by decide)
                  have eD33_5_N79_ : ze N79_ (d_ + 33) 5 = ze N72_ (d_ + 33) 5 := hsN79_.e (by decide)
                  have rD33_6_N79_ := ze_r N79_ (d_ + 33) 6
                  have c81_ : zYb b_ n_ N79_ := zYb.fr (hf_N72_.w hW) hsN79_ c74_ (by decide)
                  have c83_ : zYt b_ n_ N79_ := zYt.fr (hf_N72_.w hW) hsN79_ c76_ (by decide)
                  show zW l m_Reader_readBehind (zn Mz + 0, zw Mz + 0) N79_ 103 [some (.ref 4), some (.ref (d_ + 33)), some (.int (Int32.ofInt u1_))] [] _
                  have hr1_ := hp1_N79_
                  have hl5_ := hl4_.tr hp2_N79_
                  have hr3_ := hp3_N79_
                  have hr4_ := hp4_N79_
                  have hcr_ := hp0_N79_
                  obtain ⟨i1_, i2_, i3_, i4_, i5_, i6_, i7_, i8_, i9_⟩ := id hcr_
                  have hzh_ := hcr_.h (by (exact zo_1054 eD33_5_N79_ hc_81 i4_)) hr3_ hr4_
                  refine zw_aload_n (pc := 103) (n := 1) (x := (d_ + 33)) rfl (zdal_p dlA_Reader_readBehind_133 (i := 1) rfl) ?_
                  refine zk_callV hf_N79_.x (pc := 104) [] [] l_Reader_185 (u_Calc_close l d_ N79_ (hf_N79_.w hW) F_ K_ hA_ hp0_N79_ (show (zkS d_ N79_).head? = some 0 by exact hzh_)) rfl rfl ((hf_N79_.w hW).kr (o := 33) (by decide)) (by decide) (by decide) (Nat.le_of_ble_eq_true rfl) (zdal_p dlA_Reader_readBehind_133 (i := 2) rfl) ?_
                  rintro _ N84_ ⟨rfl, hsN84_, ⟨hp0_N84_, hp1_N84_, hp2_N84_, hp3_N84_⟩⟩
                  have hf_N84_ : zFc d_ [(1, 2), (1, 3), (1, 4), (1, 5), (4, 2), (4, 3)] [] [(33, 2), (33, 3), (33, 4), (33, 5), (33, 6)] [25, 27] Mz N84_ := hf_N79_.tr hsN84_ (by decide) (by decide) (by decide) (by decide)
                  have hb0_N84_ : zFc d_ [(1, 2), (1, 3), (1, 4), (1, 5)] [] [(33, 2), (33, 3), (33, 4), (33, 5), (33, 6)] [25, 27] Mz N84_ := hb0_N79_.tr hsN84_ (by decide) (by decide) (by decide) (by decide)
                  have eA1_2_N84_ : ze N84_ 1 2 = ze N79_ 1 2 := hsN84_.ea (hf_N79_.w hW) (by decide)
                  have eA1_3_N84_ : ze N84_ 1 3 = ze N79_ 1 3 := hsN84_.ea (hf_N79_.w hW) (by decide)
                  have eA1_5_N84_ : ze N84_ 1 5 = ze N79_ 1 5 := hsN84_.ea (hf_N79_.w hW) (by decide)
                  have eA4_1_N84_ : ze N84_ 4 1 = ze N79_ 4 1 := hsN84_.ea (hf_N79_.w hW) (by decide)
                  have rD33_2_N84_ := ze_r N84_ (d_ + 33) 2
                  have eD33_3_N84_ : ze N84_ (d_ + 33) 3 = ze N79_ (d_ + 33) 3 := hsN84_.e (by decide)
                  have rD33_4_N84_ := ze_r N84_ (d_ + 33) 4
                  have rD33_5_N84_ := ze_r N84_ (d_ + 33) 5
                  have eD33_6_N84_ : ze N84_ (d_ + 33) 6 = ze N79_ (d_ + 33) 6 := hsN84_.e (by decide)
                  have c86_ : zYb b_ n_ N84_ := zYb.fr (hf_N79_.w hW) hsN84_ c81_ (by decide)
                  have c88_ : zYt b_ n_ N84_ := zYt.fr (hf_N79_.w hW) hsN84_ c83_ (by decide)
                  show zW l m_Reader_readBehind (zn Mz + 0, zw Mz + 0) N84_ 107 [some (.ref 4), some (.ref (d_ + 33)), some (.int (Int32.ofInt u1_))] [] _
                  have hd1_ := hp1_N84_
                  have hd2_ := hp2_N84_
                  have hd3_ := hp3_N84_
                  have hl6_ := hl5_.tr (zLow.f hsN84_ (by decide))
                  have hcd_ := hp0_N84_
                  have hz5_ := zop0_t hzh_
                  rw [← hd1_] at hz5_
                  obtain ⟨k1_, k2_, k3_, k4_, k5_, k6_, k7_, k8_, k9_⟩ := id hcd_
                  have hyt_ := c88_
                  have hyx_ := hyt_.x
                  refine zw_aload_n (pc := 107) (n := 0) (x := 4) rfl (zdal_p dlA_Reader_readBehind_133 (i := 3) rfl) ?_
                  refine zw_getF (pc := 108) f_Reader_15 rfl ((hf_N84_.w hW).ka (o := 4) (by decide)) ((hf_N84_.w hW).la (o := 4) (s := 0) (r := 1) (by decide)) (zdal_p dlA_Reader_readBehind_133 (i := 4) rfl) ?_
                  refine zk_callV hf_N84_.x (pc := 111) [] [] l_Reader_44 (u_Tokens_step l d_ N84_ (hf_N84_.w hW) b_ n_ c86_ (show 0 ≤ ze N84_ 1 3 by first | with_reducible assumption | (exact zo_57 hyx_.2.1) | assumption) (show ze N84_ 1 3 ≤ n_ by first | with_reducible assumption | (exact zo_605 hyx_.2.2) | assumption)) rfl rfl ((hf_N84_.w hW).ka (o := 1) (by decide)) (by decide) (by decide) (Nat.le_of_ble_eq_true rfl) (zdal_p dlA_Reader_readBehind_133 (i := 5) rfl) ?_
                  rintro _ N89_ ⟨rfl, hsN89_, ⟨hp0_N89_, hp1_N89_⟩⟩
                  have hf_N89_ : zFc d_ [(1, 2), (1, 3), (1, 4), (1, 5), (4, 2), (4, 3)] [] [(33, 2), (33, 3), (33, 4), (33, 5), (33, 6)] [25, 27] Mz N89_ := hf_N84_.tr hsN89_ (by decide) (by decide) (by decide) (by decide)
                  have hb0_N89_ : zFc d_ [(1, 2), (1, 3), (1, 4), (1, 5)] [] [(33, 2), (33, 3), (33, 4), (33, 5), (33, 6)] [25, 27] Mz N89_ := hb0_N84_.tr hsN89_ (by decide) (by decide) (by decide) (by decide)
                  have rA1_2_N89_ := ze_r N89_ 1 2
                  have rA1_3_N89_ := ze_r N89_ 1 3
                  have rA1_5_N89_ := ze_r N89_ 1 5
                  have eA4_1_N89_ : ze N89_ 4 1 = ze N84_ 4 1 := hsN89_.ea (hf_N84_.w hW) (by decide)
                  have eD33_2_N89_ : ze N89_ (d_ + 33) 2 = ze N84_ (d_ + 33) 2 := hsN89_.e (by decide)
                  have eD33_3_N89_ : ze N89_ (d_ + 33) 3 = ze N84_ (d_ + 33) 3 := hsN89_.e (by decide)
                  have eD33_4_N89_ : ze N89_ (d_ + 33) 4 = ze N84_ (d_ + 33) 4 := hsN89_.e (by decide)
                  have eD33_5_N89_ : ze N89_ (d_ + 33) 5 = ze N84_ (d_ + 33) 5 := hsN89_.e (by decide)
                  have eD33_6_N89_ : ze N89_ (d_ + 33) 6 = ze N84_ (d_ + 33) 6 := hsN89_.e (by decide)
                  have qzkS_N89_ : zkS d_ N89_ = zkS d_ N84_ := zkS_q hsN89_ (by decide)
                  have qzkG_N89_ : zkG d_ N89_ = zkG d_ N84_ := zkG_q hsN89_ (by decide)
                  have qzkW_N89_ : zkW F_ d_ N89_ = zkW F_ d_ N84_ := zkW_q hsN89_ (by decide)
                  have c93_ : zCI F_ K_ d_ 1 N89_ := zCI.fr (hf_N84_.w hW) hsN89_ hp0_N84_ (by decide)
                  show zW l m_Reader_readBehind (zn Mz + 0, zw Mz + 0) N89_ 114 [some (.ref 4), some (.ref (d_ + 33)), some (.int (Int32.ofInt u1_))] [] _
                  have hnn_ := hyt_.n hp0_N89_
                  have hl7_ := hl6_.tr (zLow.f hsN89_ (by decide))
                  have hst2_ := hst_.tr (zRea.st (zs2_c (Nz := N89_) (Rz := N79_) (c := (0, 0)) (F := F_) (b := b_) (n := n_) (K := K_) (nm := nm_) hC_ (hmn_.mp (by (exact hc_81))) hr1_ (by rw [qzkS_N89_, hd1_]) (by rw [qzkW_N89_, hd2_]) (by rw [qzkG_N89_, hd3_]) (by (exact zo_19 eA4_1_N79_ eA4_1_N84_ eA4_1_N89_)) (hnn_.2.trans (by rw [show ze N84_ 1 2 = ze N72_ 1 2 by (exact zo_53 eA1_2_N79_ eA1_2_N84_)]))))
                  refine zr_iinc (pc := 114) (i := 2) (a := u1_) (n := 1) (L2 := [some (.ref 4), some (.ref (d_ + 33)), some (.int (Int32.ofInt (u1_ + 1)))]) rfl (by decide) rfl (zdal_p dlA_Reader_readBehind_133 (i := 6) rfl) ?_
                  refine zw_goto (pc := 117) (tgt := 2) (by decide) (zdal_p dlA_Reader_readBehind_133 (i := 7) rfl) ?_
                  exact ih_2 (u1_ + 1) (by (exact zo_679 hu1_a)) (by (exact zo_1055 hc_5)) N89_ hb0_N89_ (show 0 ≤ (u1_ + 1) by first | with_reducible assumption | assumption | omega) (show (u1_ + 1) + ze N89_ (d_ + 33) 5 ≤ 7 by omega) (show ze N89_ 4 1 = ze Mz 4 1 by first | with_reducible assumption | (exact zo_1059 eA4_1_N2_ eA4_1_N72_ eA4_1_N79_ eA4_1_N84_ eA4_1_N89_) | assumption) (show zRea (zfs b_ n_ F_ K_ nm_) (zKst 1 F_ d_ Mz) (zKst 1 F_ d_ N89_) by exact hst2_) (show zLow d_ Mz N89_ by exact hl7_) hp1_N89_ c93_ (by (exact zo_1057 hc_5 hlt_2 hu1_a))
                · skip
                  exact absurd hc_93 (by decide)
              · skip
                have hC_ := ha90_0_hp0_N77_
                show zW l m_Reader_readBehind (zn Mz + 0, zw Mz + 0) N72_ 93 [some (.ref 4), some (.ref (d_ + 33)), some (.int (Int32.ofInt u1_))] [.int (Int32.ofInt 0)] _
                refine zr_if_ne (pc := 93) (tgt := 98) ⟨(by decide), (by decide)⟩ (by decide) d_Reader_readBehind_93 (fun hc_93 => ?_) (fun hc_93 => ?_)
                · skip
                  exact absurd hc_93 (by decide)
                · skip
                  refine zw_iconst (pc := 96) (v := Int32.ofInt 1) (by decide) d_Reader_readBehind_96 ?_
                  exact zk_iret (pc := 97) (ty := .boolean) rfl (z_narB (by (decide))) ⟨by (decide), by (decide)⟩ hf_N72_ ⟨c76_, (show ((1 = 1 ∧ zRea (zfs b_ n_ F_ K_ nm_) (zKst 1 F_ d_ Mz) (zKst 2 F_ d_ N72_) ∧ zCI F_ K_ d_ 1 N72_ ∧ zLow d_ Mz N72_ ∧ (zkS d_ N72_).head? ≠ some 1 ∧ ¬ (zisg b_ n_ (ze N72_ 1 2).toNat 41 ∧ 0 ∈ zkS d_ N72_) ∧ ze N72_ 4 1 = ze Mz 4 1) ∨ (1 = 0 ∧ zRea (zfs b_ n_ F_ K_ nm_) (zKst 1 F_ d_ Mz) zFt)) from Or.inl (⟨(show 1 = 1 by first | rfl | omega | exact hst_ | exact hcn_ | exact hl4_ | exact hn5_ | exact (fun q_ => hC_ q_.1) | (rintro ⟨q1_, q2_⟩; have := hmn_.mpr q2_; omega)), (show zRea (zfs b_ n_ F_ K_ nm_) (zKst 1 F_ d_ Mz) (zKst 2 F_ d_ N72_) by first | rfl | (exact hst_) | exact hst_ | exact hcn_ | exact hl4_ | exact hn5_ | exact (fun q_ => hC_ q_.1) | (rintro ⟨q1_, q2_⟩; have := hmn_.mpr q2_; omega)), (show zCI F_ K_ d_ 1 N72_ by first | rfl | (exact hp0_N72_) | exact hst_ | exact hcn_ | exact hl4_ | exact hn5_ | exact (fun q_ => hC_ q_.1) | (rintro ⟨q1_, q2_⟩; have := hmn_.mpr q2_; omega)), (show zLow d_ Mz N72_ by first | rfl | (exact hl4_) | exact hst_ | exact hcn_ | exact hl4_ | exact hn5_ | exact (fun q_ => hC_ q_.1) | (rintro ⟨q1_, q2_⟩; have := hmn_.mpr q2_; omega)), (show (zkS d_ N72_).head? ≠ some 1 by first | rfl | (exact hp5_N72_) | exact hst_ | exact hcn_ | exact hl4_ | exact hn5_ | exact (fun q_ => hC_ q_.1) | (rintro ⟨q1_, q2_⟩; have := hmn_.mpr q2_; omega)), (show ¬ (zisg b_ n_ (ze N72_ 1 2).toNat 41 ∧ 0 ∈ zkS d_ N72_) by first | rfl | omega | exact hst_ | exact hcn_ | exact hl4_ | exact hn5_ | exact (fun q_ => hC_ q_.1) | (rintro ⟨q1_, q2_⟩; have := hmn_.mpr q2_; omega)), (show ze N72_ 4 1 = ze Mz 4 1 by first | rfl | (exact zo_794 eA4_1_N72_ i6_) | exact hst_ | exact hcn_ | exact hl4_ | exact hn5_ | exact (fun q_ => hC_ q_.1) | (rintro ⟨q1_, q2_⟩; have := hmn_.mpr q2_; omega))⟩))⟩ d_Reader_readBehind_97
          · skip
            exact absurd hc_17 (by decide)
  exact lp_2 _ 0 (by decide) (by decide) Mz zFc.rf (show 0 ≤ (0 : Int) by first | with_reducible assumption | (decide) | assumption) (show (0 : Int) + ze Mz (d_ + 33) 5 ≤ 7 by first | with_reducible assumption | (exact zo_1060 e4_ e8_ hz1_ r_D33_5.2) | assumption) (show ze Mz 4 1 = ze Mz 4 1 by first | with_reducible assumption | (exact zo_62) | assumption) (show zRea (zfs b_ n_ F_ K_ nm_) (zKst 1 F_ d_ Mz) (zKst 1 F_ d_ Mz) by exact zRea.rf) (show zLow d_ Mz Mz by exact zLow.rf) p1_ p3_ (Nat.lt_succ_self _)
set_option maxHeartbeats 4000000 in
theorem u_Reader_readSum (l : Launch) (d_ : Nat) (Mz : zMem) (hW : zKW d_ Mz) (b_ : Nat → Int) (n_ : Nat) (F_ : Nat) (K_ : Nat → Nat → Int) (hA_ : zTA F_ K_) (nm_ : List (Int × (Nat → Int))) (p0_ : zYb b_ n_ Mz) (p1_ : zYt b_ n_ Mz) (p2_ : zKm F_ K_ d_ Mz) (p3_ : zNm nm_ F_ K_ d_ Mz) : zC l m_Reader_readSum 0 0 [.ref 4, .ref (d_ + 0)] Mz (zqcI d_ [(1, 2), (1, 3), (1, 4), (1, 5), (4, 1), (4, 2), (4, 3)] [] [(33, 2), (33, 3), (33, 4), (33, 5), (33, 6)] [25, 27, 35] Mz (fun v N => zYt b_ n_ N ∧ (((v = 1 ∧ zRea (zfs b_ n_ F_ K_ nm_) (0, (ze Mz 1 2).toNat, [], [], 0, false) (zKst 3 F_ d_ N) ∧ zCI F_ K_ d_ 1 N ∧ zLow d_ Mz N ∧ zkS d_ N = []) ∨ (v = 0 ∧ zRea (zfs b_ n_ F_ K_ nm_) (0, (ze Mz 1 2).toNat, [], [], 0, false) zFt))))) := by
  refine zC_of (L0 := [some (.ref 4), some (.ref (d_ + 0)), none, none, none]) md_Reader_readSum (Nat.le_of_ble_eq_true rfl) rfl ?_ zQ0
  have hf : zFc d_ [(1, 2), (1, 3), (1, 4), (1, 5), (4, 1), (4, 2), (4, 3)] [] [(33, 2), (33, 3), (33, 4), (33, 5), (33, 6)] [25, 27, 35] Mz Mz := zFc.rf
  have r_A1_2 := ze_r Mz 1 2
  have r_A1_3 := ze_r Mz 1 3
  have r_A1_5 := ze_r Mz 1 5
  have r_A4_1 := ze_r Mz 4 1
  have r_D33_2 := ze_r Mz (d_ + 33) 2
  have r_D33_3 := ze_r Mz (d_ + 33) 3
  have r_D33_4 := ze_r Mz (d_ + 33) 4
  have r_D33_5 := ze_r Mz (d_ + 33) 5
  have r_D33_6 := ze_r Mz (d_ + 33) 6
  obtain ⟨⟨hF1_, hF27_⟩, hAr_⟩ := id hA_
  refine zw_aload_n (pc := 0) (n := 1) (x := (d_ + 0)) rfl (zdal_p dlA_Reader_readSum_109 (i := 0) rfl) ?_
  refine zw_getF (pc := 1) f_Reader_111 rfl ((hf.w hW).kr (o := 0) (by decide)) ((hf.w hW).lr (o := 0) (s := 4) (r := 33) (by decide)) (zdal_p dlA_Reader_readSum_109 (i := 1) rfl) ?_
  refine zw_astore_n (pc := 4) (i := 2) (L2 := [some (.ref 4), some (.ref (d_ + 0)), some (.ref (d_ + 33)), none, none]) rfl (by decide) rfl (zdal_p dlA_Reader_readSum_109 (i := 2) rfl) ?_
  refine zw_aload_n (pc := 5) (n := 2) (x := (d_ + 33)) rfl (zdal_p dlA_Reader_readSum_109 (i := 3) rfl) ?_
  refine zk_callV hf.x (pc := 6) [] [] l_Reader_124 (u_Calc_begin l d_ Mz (hf.w hW) F_ K_ hA_) rfl rfl ((hf.w hW).kr (o := 33) (by decide)) (by decide) (by decide) (Nat.le_of_ble_eq_true rfl) (zdal_p dlA_Reader_readSum_109 (i := 4) rfl) ?_
  rintro _ N1_ ⟨rfl, hsN1_, ⟨hp0_N1_, hp1_N1_, hp2_N1_, hp3_N1_⟩⟩
  have hf_N1_ : zFc d_ [(1, 2), (1, 3), (1, 4), (1, 5), (4, 1), (4, 2), (4, 3)] [] [(33, 2), (33, 3), (33, 4), (33, 5), (33, 6)] [25, 27, 35] Mz N1_ := hf.tr hsN1_ (by decide) (by decide) (by decide) (by decide)
  have eA1_2_N1_ : ze N1_ 1 2 = ze Mz 1 2 := hsN1_.ea (hf.w hW) (by decide)
  have eA1_3_N1_ : ze N1_ 1 3 = ze Mz 1 3 := hsN1_.ea (hf.w hW) (by decide)
  have eA1_5_N1_ : ze N1_ 1 5 = ze Mz 1 5 := hsN1_.ea (hf.w hW) (by decide)
  have eA4_1_N1_ : ze N1_ 4 1 = ze Mz 4 1 := hsN1_.ea (hf.w hW) (by decide)
  have rD33_2_N1_ := ze_r N1_ (d_ + 33) 2
  have rD33_3_N1_ := ze_r N1_ (d_ + 33) 3
  have rD33_4_N1_ := ze_r N1_ (d_ + 33) 4
  have rD33_5_N1_ := ze_r N1_ (d_ + 33) 5
  have rD33_6_N1_ := ze_r N1_ (d_ + 33) 6
  have c3_ : zYb b_ n_ N1_ := zYb.fr (hf.w hW) hsN1_ p0_ (by decide)
  have c4_ : zYt b_ n_ N1_ := zYt.fr (hf.w hW) hsN1_ p1_ (by decide)
  have c5_ : zKm F_ K_ d_ N1_ := zKm.fr (hf.w hW) hsN1_ p2_ (by decide)
  have c6_ : zNm nm_ F_ K_ d_ N1_ := zNm.fr (hf.w hW) hsN1_ p3_ (by decide)
  show zW l m_Reader_readSum (zn Mz + 0, zw Mz + 0) N1_ 9 [some (.ref 4), some (.ref (d_ + 0)), some (.ref (d_ + 33)), none, none] [] _
  have hi1_ := hp1_N1_
  have hi2_ := hp2_N1_
  have hi3_ := hp3_N1_
  refine zw_aload_n (pc := 9) (n := 0) (x := 4) rfl (zdal_p dlA_Reader_readSum_109 (i := 5) rfl) ?_
  refine zw_iconst (pc := 10) (v := Int32.ofInt 0) (by decide) (zdal_p dlA_Reader_readSum_109 (i := 6) rfl) ?_
  refine zk_putA (pc := 11) (hf_N1_.w hW) (by decide) f_Reader_126 rfl rfl ((hf_N1_.w hW).ka (o := 4) (by decide)) ⟨by (decide), by (decide)⟩ rfl rfl (zdal_p dlA_Reader_readSum_109 (i := 7) rfl) (fun N7_ hsN7_ hvN7_ => ?_)
  have hf_N7_ : zFc d_ [(1, 2), (1, 3), (1, 4), (1, 5), (4, 1), (4, 2), (4, 3)] [] [(33, 2), (33, 3), (33, 4), (33, 5), (33, 6)] [25, 27, 35] Mz N7_ := hf_N1_.tr hsN7_ (by decide) (by decide) (by decide) (by decide)
  have eA1_2_N7_ : ze N7_ 1 2 = ze N1_ 1 2 := hsN7_.ea (hf_N1_.w hW) (by decide)
  have eA1_3_N7_ : ze N7_ 1 3 = ze N1_ 1 3 := hsN7_.ea (hf_N1_.w hW) (by decide)
  have eA1_5_N7_ : ze N7_ 1 5 = ze N1_ 1 5 := hsN7_.ea (hf_N1_.w hW) (by decide)
  have rA4_1_N7_ := ze_r N7_ 4 1
  have eD33_2_N7_ : ze N7_ (d_ + 33) 2 = ze N1_ (d_ + 33) 2 := hsN7_.e (by decide)
  have eD33_3_N7_ : ze N7_ (d_ + 33) 3 = ze N1_ (d_ + 33) 3 := hsN7_.e (by decide)
  have eD33_4_N7_ : ze N7_ (d_ + 33) 4 = ze N1_ (d_ + 33) 4 := hsN7_.e (by decide)
  have eD33_5_N7_ : ze N7_ (d_ + 33) 5 = ze N1_ (d_ + 33) 5 := hsN7_.e (by decide)
  have eD33_6_N7_ : ze N7_ (d_ + 33) 6 = ze N1_ (d_ + 33) 6 := hsN7_.e (by decide)
  have qzkS_N7_ : zkS d_ N7_ = zkS d_ N1_ := zkS_q hsN7_ (by decide)
  have qzkG_N7_ : zkG d_ N7_ = zkG d_ N1_ := zkG_q hsN7_ (by decide)
  have qzkW_N7_ : zkW F_ d_ N7_ = zkW F_ d_ N1_ := zkW_q hsN7_ (by decide)
  have c8_ : zYb b_ n_ N7_ := zYb.fr (hf_N1_.w hW) hsN7_ c3_ (by decide)
  have c9_ : zYt b_ n_ N7_ := zYt.fr (hf_N1_.w hW) hsN7_ c4_ (by decide)
  have c10_ : zKm F_ K_ d_ N7_ := zKm.fr (hf_N1_.w hW) hsN7_ c5_ (by decide)
  have c11_ : zNm nm_ F_ K_ d_ N7_ := zNm.fr (hf_N1_.w hW) hsN7_ c6_ (by decide)
  have c12_ : zCI F_ K_ d_ 0 N7_ := zCI.fr (hf_N1_.w hW) hsN7_ hp0_N1_ (by decide)
  have hst0_ : zRea (zfs b_ n_ F_ K_ nm_) (0, (ze Mz 1 2).toNat, [], [], 0, false) (zKst 0 F_ d_ N7_) := (by unfold zKst; rw [qzkS_N7_, qzkW_N7_, qzkG_N7_, hi1_, hi2_, hi3_, show ze N7_ 1 2 = ze Mz 1 2 by (exact zo_53 eA1_2_N1_ eA1_2_N7_), show (ze N7_ 4 1).toNat = 0 by (exact zo_1061 hvN7_)]; exact zRea.rf)
  have hlw0_ := (zLow.f hsN1_ (by decide)).tr (zLow.f hsN7_ (by decide))
  refine zw_iconst (pc := 14) (v := Int32.ofInt 1) (by decide) (zdal_p dlA_Reader_readSum_109 (i := 8) rfl) ?_
  refine zw_istore_n (pc := 15) (i := 3) (L2 := [some (.ref 4), some (.ref (d_ + 0)), some (.ref (d_ + 33)), some (.int (Int32.ofInt 1)), none]) rfl (by decide) rfl (zdal_p dlA_Reader_readSum_109 (i := 9) rfl) ?_
  refine zw_iconst (pc := 16) (v := Int32.ofInt 0) (by decide) (zdal_p dlA_Reader_readSum_109 (i := 10) rfl) ?_
  refine zw_istore (pc := 17) (i := 4) (L2 := [some (.ref 4), some (.ref (d_ + 0)), some (.ref (d_ + 33)), some (.int (Int32.ofInt 1)), some (.int (Int32.ofInt 0))]) (by decide) rfl (zdal_p dlA_Reader_readSum_109 (i := 11) rfl) ?_
  have lp_19 : ∀ (n : Nat) (u13_ : Int) (hu13_a : -2147483648 ≤ u13_) (hu13_b : u13_ < 2147483648) (hu13_z : u13_ = 0 ∨ u13_ = 1) (u14_ : Int) (hu14_a : -2147483648 ≤ u14_) (hu14_b : u14_ < 2147483648) (N15_ : zMem) (hs16_ : zFc d_ [(1, 2), (1, 3), (1, 4), (1, 5), (4, 1), (4, 2), (4, 3)] [] [(33, 2), (33, 3), (33, 4), (33, 5), (33, 6)] [25, 27, 35] N7_ N15_) (i17_ : 0 ≤ u14_) (i18_ : u14_ ≤ ze N15_ 4 1) (i19_ : ze N15_ 4 1 ≤ 30) (i20_ : zLow d_ Mz N15_) (i21_ : zYt b_ n_ N15_) (i22_ : zNm nm_ F_ K_ d_ N15_) (i23_ : (u13_ = 1 ∧ zRea (zfs b_ n_ F_ K_ nm_) (0, (ze Mz 1 2).toNat, [], [], 0, false) (zKst 0 F_ d_ N15_) ∧ zCI F_ K_ d_ 0 N15_) ∨ (u13_ = 0 ∧ zRea (zfs b_ n_ F_ K_ nm_) (0, (ze Mz 1 2).toNat, [], [], 0, false) (zKst 2 F_ d_ N15_) ∧ zCI F_ K_ d_ 1 N15_ ∧ (zkS d_ N15_).head? ≠ some 1 ∧ ¬ (zisg b_ n_ (ze N15_ 1 2).toNat 42 ∨ zisg b_ n_ (ze N15_ 1 2).toNat 43 ∨ zisg b_ n_ (ze N15_ 1 2).toNat 45) ∧ ¬ (zisg b_ n_ (ze N15_ 1 2).toNat 41 ∧ 0 ∈ zkS d_ N15_))), (31 - u14_).toNat < n → zW l m_Reader_readSum (zn Mz + 0, zw Mz + 0) N15_ 19 [some (.ref 4), some (.ref (d_ + 0)), some (.ref (d_ + 33)), some (.int (Int32.ofInt u13_)), some (.int (Int32.ofInt u14_))] [] (zqcI d_ [(1, 2), (1, 3), (1, 4), (1, 5), (4, 1), (4, 2), (4, 3)] [] [(33, 2), (33, 3), (33, 4), (33, 5), (33, 6)] [25, 27, 35] Mz (fun v N => zYt b_ n_ N ∧ (((v = 1 ∧ zRea (zfs b_ n_ F_ K_ nm_) (0, (ze Mz 1 2).toNat, [], [], 0, false) (zKst 3 F_ d_ N) ∧ zCI F_ K_ d_ 1 N ∧ zLow d_ Mz N ∧ zkS d_ N = []) ∨ (v = 0 ∧ zRea (zfs b_ n_ F_ K_ nm_) (0, (ze Mz 1 2).toNat, [], [], 0, false) zFt))))) := by
    clear hsN1_ hp0_N1_ hp1_N1_ hp2_N1_ hp3_N1_ hf_N1_ eA1_2_N1_ eA1_3_N1_ eA1_5_N1_ eA4_1_N1_ rD33_2_N1_ rD33_3_N1_ rD33_4_N1_ rD33_5_N1_ rD33_6_N1_ c3_ c4_ c5_ c6_ hsN7_ eA1_2_N7_ eA1_3_N7_ eA1_5_N7_ eD33_2_N7_ eD33_3_N7_ eD33_4_N7_ eD33_5_N7_ eD33_6_N7_ qzkS_N7_ qzkG_N7_ qzkW_N7_
    intro n
    induction n with
    | zero =>
      intro u13_ hu13_a hu13_b hu13_z u14_ hu14_a hu14_b N15_ hs16_ i17_ i18_ i19_ i20_ i21_ i22_ i23_ h0
      exact absurd h0 (Nat.not_lt_zero _)
    | succ n ih_19 =>
      intro u13_ hu13_a hu13_b hu13_z u14_ hu14_a hu14_b N15_ hs16_ i17_ i18_ i19_ i20_ i21_ i22_ i23_ hlt_19
      have hf_N15_ : zFc d_ [(1, 2), (1, 3), (1, 4), (1, 5), (4, 1), (4, 2), (4, 3)] [] [(33, 2), (33, 3), (33, 4), (33, 5), (33, 6)] [25, 27, 35] Mz N15_ := hf_N7_.tr hs16_ (by decide) (by decide) (by decide) (by decide)
      have rA1_2_N15_ := ze_r N15_ 1 2
      have rA1_3_N15_ := ze_r N15_ 1 3
      have rA1_5_N15_ := ze_r N15_ 1 5
      have rA4_1_N15_ := ze_r N15_ 4 1
      have rD33_2_N15_ := ze_r N15_ (d_ + 33) 2
      have rD33_3_N15_ := ze_r N15_ (d_ + 33) 3
      have rD33_4_N15_ := ze_r N15_ (d_ + 33) 4
      have rD33_5_N15_ := ze_r N15_ (d_ + 33) 5
      have rD33_6_N15_ := ze_r N15_ (d_ + 33) 6
      have c24_ : zYb b_ n_ N15_ := zYb.fr (hf_N7_.w hW) hs16_ c8_ (by decide)
      have c25_ : zKm F_ K_ d_ N15_ := zKm.fr (hf_N7_.w hW) hs16_ c10_ (by decide)
      rcases i23_ with ⟨rfl, hl19_0_i23_, hl19_1_i23_⟩ | ⟨rfl, hl19_0_i23_, hl19_1_i23_, hl19_2_i23_, hl19_3_i23_, hl19_4_i23_⟩
      · skip
        have hr0_ := hl19_0_i23_
        have hc0_ := hl19_1_i23_
        have hlow_ := (show zLow d_ Mz N15_ by first | with_reducible assumption | assumption)
        refine zw_iload (pc := 19) (i := 4) (x := Int32.ofInt u14_) rfl (zdal_p dlA_Reader_readSum_109 (i := 12) rfl) ?_
        refine zw_bipush (pc := 21) (v := Int32.ofInt 30) (by decide) (zdal_p dlA_Reader_readSum_109 (i := 13) rfl) ?_
        refine zr_icmp_gt (pc := 23) (tgt := 126) ⟨hu14_a, hu14_b⟩ ⟨(by decide), (by decide)⟩ (by decide) (zdal_p dlA_Reader_readSum_109 (i := 14) rfl) (fun hc_23 => ?_) (fun hc_23 => ?_)
        · skip
          exfalso; (exact zo_1062 hc_23 i18_ i19_)
        · skip
          refine zw_iload_n (pc := 26) (n := 3) (x := Int32.ofInt 1) rfl (zdal_p dlA_Reader_readSum_109 (i := 15) rfl) ?_
          refine zr_if_eq (pc := 27) (tgt := 126) ⟨(by decide), (by decide)⟩ (by decide) (zdal_p dlA_Reader_readSum_109 (i := 16) rfl) (fun hc_27 => ?_) (fun hc_27 => ?_)
          · skip
            exact absurd hc_27 (by decide)
          · skip
            refine zw_aload_n (pc := 30) (n := 0) (x := 4) rfl (zdal_p dlA_Reader_readSum_109 (i := 17) rfl) ?_
            refine zw_aload_n (pc := 31) (n := 2) (x := (d_ + 33)) rfl (zdal_p dlA_Reader_readSum_109 (i := 18) rfl) ?_
            refine zk_callV hf_N15_.x (pc := 32) [.ref (d_ + 33)] [] l_Reader_129 (u_Reader_readAhead l d_ N15_ (hf_N15_.w hW) b_ n_ F_ K_ hA_ nm_ c24_ i21_ hc0_ (show 0 ≤ ze N15_ 4 1 by first | with_reducible assumption | (exact zo_1063 i17_ i18_ rA4_1_N15_.1) | assumption) (show ze N15_ 4 1 ≤ 30 by first | with_reducible assumption | assumption | omega)) rfl rfl ((hf_N15_.w hW).ka (o := 4) (by decide)) (by decide) (by decide) (Nat.le_of_ble_eq_true rfl) (zdal_p dlA_Reader_readSum_109 (i := 19) rfl) ?_
            rintro _ N26_ ⟨v27_, rfl, ⟨hv27_a, hv27_b⟩, hsN26_, ⟨hp0_N26_, hp1_N26_⟩⟩
            have hf_N26_ : zFc d_ [(1, 2), (1, 3), (1, 4), (1, 5), (4, 1), (4, 2), (4, 3)] [] [(33, 2), (33, 3), (33, 4), (33, 5), (33, 6)] [25, 27, 35] Mz N26_ := hf_N15_.tr hsN26_ (by decide) (by decide) (by decide) (by decide)
            have hb0_N26_ : zFc d_ [(1, 2), (1, 3), (1, 4), (1, 5), (4, 1), (4, 2), (4, 3)] [] [(33, 2), (33, 3), (33, 4), (33, 5), (33, 6)] [25, 27, 35] N7_ N26_ := hs16_.tr hsN26_ (by decide) (by decide) (by decide) (by decide)
            have rA1_2_N26_ := ze_r N26_ 1 2
            have rA1_3_N26_ := ze_r N26_ 1 3
            have rA1_5_N26_ := ze_r N26_ 1 5
            have rA4_1_N26_ := ze_r N26_ 4 1
            have rD33_2_N26_ := ze_r N26_ (d_ + 33) 2
            have eD33_3_N26_ : ze N26_ (d_ + 33) 3 = ze N15_ (d_ + 33) 3 := hsN26_.e (by decide)
            have rD33_4_N26_ := ze_r N26_ (d_ + 33) 4
            have rD33_5_N26_ := ze_r N26_ (d_ + 33) 5
            have eD33_6_N26_ : ze N26_ (d_ + 33) 6 = ze N15_ (d_ + 33) 6 := hsN26_.e (by decide)
            have c28_ : zYb b_ n_ N26_ := zYb.fr (hf_N15_.w hW) hsN26_ c24_ (by decide)
            have c29_ : zKm F_ K_ d_ N26_ := zKm.fr (hf_N15_.w hW) hsN26_ c25_ (by decide)
            have c30_ : zNm nm_ F_ K_ d_ N26_ := zNm.fr (hf_N15_.w hW) hsN26_ i22_ (by decide)
            rcases hp1_N26_ with ⟨rfl, ha32_0_hp1_N26_, ha32_1_hp1_N26_, ha32_2_hp1_N26_, ha32_3_hp1_N26_, ha32_4_hp1_N26_⟩ | ⟨rfl, ha32_0_hp1_N26_⟩
            · skip
              have hx0_ := hr0_.tr ha32_0_hp1_N26_
              have hx1_ := ha32_1_hp1_N26_
              have hx2_ := ha32_2_hp1_N26_
              have hx3_ := ha32_3_hp1_N26_
              have hx4_ := ha32_4_hp1_N26_
              have hlx_ := hlow_.tr (zLow.f hsN26_ (by decide))
              show zW l m_Reader_readSum (zn Mz + 0, zw Mz + 0) N26_ 35 [some (.ref 4), some (.ref (d_ + 0)), some (.ref (d_ + 33)), some (.int (Int32.ofInt 1)), some (.int (Int32.ofInt u14_))] [.int (Int32.ofInt 1)] _
              refine zr_if_eq (pc := 35) (tgt := 54) ⟨(by decide), (by decide)⟩ (by decide) (zdal_p dlA_Reader_readSum_109 (i := 20) rfl) (fun hc_35 => ?_) (fun hc_35 => ?_)
              · skip
                exact absurd hc_35 (by decide)
              · skip
                refine zw_aload_n (pc := 38) (n := 0) (x := 4) rfl (zdal_p dlA_Reader_readSum_109 (i := 21) rfl) ?_
                refine zw_aload_n (pc := 39) (n := 1) (x := (d_ + 0)) rfl (zdal_p dlA_Reader_readSum_109 (i := 22) rfl) ?_
                refine zk_callV hf_N26_.x (pc := 40) [.ref (d_ + 0)] [] l_Reader_133 (u_Reader_readOperand l d_ N26_ (hf_N26_.w hW) b_ n_ F_ K_ hA_ nm_ c28_ hp0_N26_ c29_ hx1_ c30_ (show 0 ≤ ze N26_ 4 1 by first | with_reducible assumption | (exact zo_1064 ha32_3_hp1_N26_ i17_ i18_ rA4_1_N26_.1) | assumption) (show ze N26_ 4 1 ≤ 30 by first | with_reducible assumption | assumption | omega) (show ¬ (zisg b_ n_ (ze N26_ 1 2).toNat 45 ∨ zisg b_ n_ (ze N26_ 1 2).toNat 40) by first | with_reducible assumption | assumption | omega)) rfl rfl ((hf_N26_.w hW).ka (o := 4) (by decide)) (by decide) (by decide) (Nat.le_of_ble_eq_true rfl) (zdal_p dlA_Reader_readSum_109 (i := 23) rfl) ?_
                rintro _ N31_ ⟨v32_, rfl, ⟨hv32_a, hv32_b⟩, hsN31_, ⟨hp0_N31_, hp1_N31_⟩⟩
                have hf_N31_ : zFc d_ [(1, 2), (1, 3), (1, 4), (1, 5), (4, 1), (4, 2), (4, 3)] [] [(33, 2), (33, 3), (33, 4), (33, 5), (33, 6)] [25, 27, 35] Mz N31_ := hf_N26_.tr hsN31_ (by decide) (by decide) (by decide) (by decide)
                have hb0_N31_ : zFc d_ [(1, 2), (1, 3), (1, 4), (1, 5), (4, 1), (4, 2), (4, 3)] [] [(33, 2), (33, 3), (33, 4), (33, 5), (33, 6)] [25, 27, 35] N7_ N31_ := hb0_N26_.tr hsN31_ (by decide) (by decide) (by decide) (by decide)
                have rA1_2_N31_ := ze_r N31_ 1 2
                have rA1_3_N31_ := ze_r N31_ 1 3
                have rA1_5_N31_ := ze_r N31_ 1 5
                have rA4_1_N31_ := ze_r N31_ 4 1
                have eD33_2_N31_ : ze N31_ (d_ + 33) 2 = ze N26_ (d_ + 33) 2 := hsN31_.e (by decide)
                have rD33_3_N31_ := ze_r N31_ (d_ + 33) 3
                have eD33_4_N31_ : ze N31_ (d_ + 33) 4 = ze N26_ (d_ + 33) 4 := hsN31_.e (by decide)
                have eD33_5_N31_ : ze N31_ (d_ + 33) 5 = ze N26_ (d_ + 33) 5 := hsN31_.e (by decide)
                have eD33_6_N31_ : ze N31_ (d_ + 33) 6 = ze N26_ (d_ + 33) 6 := hsN31_.e (by decide)
                have c33_ : zYb b_ n_ N31_ := zYb.fr (hf_N26_.w hW) hsN31_ c28_ (by decide)
                have c34_ : zKm F_ K_ d_ N31_ := zKm.fr (hf_N26_.w hW) hsN31_ c29_ (by decide)
                rcases hp1_N31_ with ⟨rfl, ha40_0_hp1_N31_, ha40_1_hp1_N31_, ha40_2_hp1_N31_, ha40_3_hp1_N31_, ha40_4_hp1_N31_⟩ | ⟨rfl, ha40_0_hp1_N31_⟩
                · skip
                  have hy0_ := hx0_.tr ha40_0_hp1_N31_
                  have hy1_ := ha40_1_hp1_N31_
                  have hly_ := hlx_.tr ha40_2_hp1_N31_
                  have hy3_ := ha40_3_hp1_N31_
                  have hy4_ := ha40_4_hp1_N31_
                  show zW l m_Reader_readSum (zn Mz + 0, zw Mz + 0) N31_ 43 [some (.ref 4), some (.ref (d_ + 0)), some (.ref (d_ + 33)), some (.int (Int32.ofInt 1)), some (.int (Int32.ofInt u14_))] [.int (Int32.ofInt 1)] _
                  refine zr_if_eq (pc := 43) (tgt := 54) ⟨(by decide), (by decide)⟩ (by decide) (zdal_p dlA_Reader_readSum_110 (i := 0) rfl) (fun hc_43 => ?_) (fun hc_43 => ?_)
                  · skip
                    exact absurd hc_43 (by decide)
                  · skip
                    refine zw_aload_n (pc := 46) (n := 0) (x := 4) rfl (zdal_p dlA_Reader_readSum_110 (i := 1) rfl) ?_
                    refine zw_aload_n (pc := 47) (n := 2) (x := (d_ + 33)) rfl (zdal_p dlA_Reader_readSum_110 (i := 2) rfl) ?_
                    refine zk_callV hf_N31_.x (pc := 48) [.ref (d_ + 33)] [] l_Reader_136 (u_Reader_readBehind l d_ N31_ (hf_N31_.w hW) b_ n_ F_ K_ hA_ nm_ c33_ hp0_N31_ c34_ hy1_ (show 0 ≤ ze N31_ 4 1 by first | with_reducible assumption | (exact zo_1065 ha32_3_hp1_N26_ ha40_3_hp1_N31_ i17_ i18_ rA4_1_N31_.1) | assumption) (show ze N31_ 4 1 ≤ 30 by first | with_reducible assumption | assumption | omega)) rfl rfl ((hf_N31_.w hW).ka (o := 4) (by decide)) (by decide) (by decide) (Nat.le_of_ble_eq_true rfl) (zdal_p dlA_Reader_readSum_110 (i := 3) rfl) ?_
                    rintro _ N35_ ⟨v36_, rfl, ⟨hv36_a, hv36_b⟩, hsN35_, ⟨hp0_N35_, hp1_N35_⟩⟩
                    have hf_N35_ : zFc d_ [(1, 2), (1, 3), (1, 4), (1, 5), (4, 1), (4, 2), (4, 3)] [] [(33, 2), (33, 3), (33, 4), (33, 5), (33, 6)] [25, 27, 35] Mz N35_ := hf_N31_.tr hsN35_ (by decide) (by decide) (by decide) (by decide)
                    have hb0_N35_ : zFc d_ [(1, 2), (1, 3), (1, 4), (1, 5), (4, 1), (4, 2), (4, 3)] [] [(33, 2), (33, 3), (33, 4), (33, 5), (33, 6)] [25, 27, 35] N7_ N35_ := hb0_N31_.tr hsN35_ (by decide) (by decide) (by decide) (by decide)
                    have rA1_2_N35_ := ze_r N35_ 1 2
                    have rA1_3_N35_ := ze_r N35_ 1 3
                    have rA1_5_N35_ := ze_r N35_ 1 5
                    have eA4_1_N35_ : ze N35_ 4 1 = ze N31_ 4 1 := hsN35_.ea (hf_N31_.w hW) (by decide)
                    have rD33_2_N35_ := ze_r N35_ (d_ + 33) 2
                    have rD33_3_N35_ := ze_r N35_ (d_ + 33) 3
                    have rD33_4_N35_ := ze_r N35_ (d_ + 33) 4
                    have rD33_5_N35_ := ze_r N35_ (d_ + 33) 5
                    have rD33_6_N35_ := ze_r N35_ (d_ + 33) 6
                    have c37_ : zYb b_ n_ N35_ := zYb.fr (hf_N31_.w hW) hsN35_ c33_ (by decide)
                    have c38_ : zKm F_ K_ d_ N35_ := zKm.fr (hf_N31_.w hW) hsN35_ c34_ (by decide)
                    rcases hp1_N35_ with ⟨rfl, ha48_0_hp1_N35_, ha48_1_hp1_N35_, ha48_2_hp1_N35_, ha48_3_hp1_N35_, ha48_4_hp1_N35_, ha48_5_hp1_N35_⟩ | ⟨rfl, ha48_0_hp1_N35_⟩
                    · skip
                      have hz0_ := hy0_.tr ha48_0_hp1_N35_
                      have hz1_ := ha48_1_hp1_N35_
                      have hlz_ := hly_.tr ha48_2_hp1_N35_
                      have hz3_ := ha48_3_hp1_N35_
                      have hz4_ := ha48_4_hp1_N35_
                      have hz5_ := ha48_5_hp1_N35_
                      have hnmz_ := p3_.l hf_N35_ hlz_ hF27_ (by decide)
                      show zW l m_Reader_readSum (zn Mz + 0, zw Mz + 0) N35_ 51 [some (.ref 4), some (.ref (d_ + 0)), some (.ref (d_ + 33)), some (.int (Int32.ofInt 1)), some (.int (Int32.ofInt u14_))] [.int (Int32.ofInt 1)] _
                      refine zr_if_ne (pc := 51) (tgt := 56) ⟨(by decide), (by decide)⟩ (by decide) (zdal_p dlA_Reader_readSum_110 (i := 4) rfl) (fun hc_51 => ?_) (fun hc_51 => ?_)
                      · skip
                        refine zw_aload_n (pc := 56) (n := 0) (x := 4) rfl (zdal_p dlA_Reader_readSum_110 (i := 7) rfl) ?_
                        refine zw_getF (pc := 57) f_Reader_15 rfl ((hf_N35_.w hW).ka (o := 4) (by decide)) ((hf_N35_.w hW).la (o := 4) (s := 0) (r := 1) (by decide)) (zdal_p dlA_Reader_readSum_110 (i := 8) rfl) ?_
                        refine zw_bipush (pc := 60) (v := Int32.ofInt 43) (by decide) (zdal_p dlA_Reader_readSum_110 (i := 9) rfl) ?_
                        refine zk_callV hf_N35_.x (pc := 62) [.int (Int32.ofInt 43)] [] l_Reader_37 (u_Tokens_isSign l d_ N35_ (hf_N35_.w hW) 43 (by decide) (by decide) b_ n_ hp0_N35_) rfl rfl ((hf_N35_.w hW).ka (o := 1) (by decide)) (by decide) (by decide) (Nat.le_of_ble_eq_true rfl) (zdal_p dlA_Reader_readSum_110 (i := 10) rfl) ?_
                        rintro _ N39_ ⟨v40_, rfl, ⟨hv40_a, hv40_b⟩, hsN39_, hp0_N39_⟩
                        obtain rfl := hsN39_.eq.symm
                        replace hp0_N39_ : ((v40_ = 1 ∧ zkd b_ n_ (ze N35_ 1 2).toNat = 3 ∧ b_ (ze N35_ 1 2).toNat = 43) ∨ (v40_ = 0 ∧ ¬ (zkd b_ n_ (ze N35_ 1 2).toNat = 3 ∧ b_ (ze N35_ 1 2).toNat = 43))) := hp0_N39_
                        rcases hp0_N39_ with ⟨rfl, ha62_0_hp0_N39_, ha62_1_hp0_N39_⟩ | ⟨rfl, ha62_0_hp0_N39_⟩
                        · skip
                          have hk0_ := ha62_0_hp0_N39_
                          have hk1_ := ha62_1_hp0_N39_
                          show zW l m_Reader_readSum (zn Mz + 0, zw Mz + 0) N35_ 65 [some (.ref 4), some (.ref (d_ + 0)), some (.ref (d_ + 33)), some (.int (Int32.ofInt 1)), some (.int (Int32.ofInt u14_))] [.int (Int32.ofInt 1)] _
                          refine zr_if_ne (pc := 65) (tgt := 92) ⟨(by decide), (by decide)⟩ (by decide) (zdal_p dlA_Reader_readSum_110 (i := 11) rfl) (fun hc_65 => ?_) (fun hc_65 => ?_)
                          · skip
                            refine zw_iconst (pc := 92) (v := Int32.ofInt 1) (by decide) d_Reader_readSum_92 ?_
                            refine zw_goto (pc := 93) (tgt := 97) (by decide) d_Reader_readSum_93 ?_
                            refine zw_istore_n (pc := 97) (i := 3) (L2 := [some (.ref 4), some (.ref (d_ + 0)), some (.ref (d_ + 33)), some (.int (Int32.ofInt 1)), some (.int (Int32.ofInt u14_))]) rfl (by decide) rfl d_Reader_readSum_97 ?_
                            refine zw_iload_n (pc := 98) (n := 3) (x := Int32.ofInt 1) rfl d_Reader_readSum_98 ?_
                            refine zr_if_eq (pc := 99) (tgt := 120) ⟨(by decide), (by decide)⟩ (by decide) d_Reader_readSum_99 (fun hc_99 => ?_) (fun hc_99 => ?_)
                            · skip
                              exact absurd hc_99 (by decide)
                            · skip
                              have hvt_ : ze N35_ 1 5 = b_ (ze N35_ 1 2).toNat := hp0_N35_.2.2.2.2.2 hk0_
                              refine zw_aload_n (pc := 102) (n := 2) (x := (d_ + 33)) rfl d_Reader_readSum_102 ?_
                              refine zw_aload_n (pc := 103) (n := 0) (x := 4) rfl d_Reader_readSum_103 ?_
                              refine zw_getF (pc := 104) f_Reader_15 rfl ((hf_N35_.w hW).ka (o := 4) (by decide)) ((hf_N35_.w hW).la (o := 4) (s := 0) (r := 1) (by decide)) d_Reader_readSum_104 ?_
                              refine zk_getI (pc := 107) f_Reader_57 rfl ((hf_N35_.w hW).ka (o := 1) (by decide)) d_Reader_readSum_107 ?_
                              refine zk_callV hf_N35_.x (pc := 110) [.int (Int32.ofInt (ze N35_ 1 5))] [] l_Reader_139 (u_Calc_put l d_ N35_ (hf_N35_.w hW) (ze N35_ 1 5) (ze_r N35_ 1 5).1 (ze_r N35_ 1 5).2 F_ K_ hA_ c38_ hz1_ (show (zkS d_ N35_).head? ≠ some 1 by first | with_reducible assumption | assumption | omega) (show ((ze N35_ 1 5) = 42 ∨ (ze N35_ 1 5) = 43 ∨ (ze N35_ 1 5) = 45) by first | with_reducible assumption | (exact zo_1066 ha62_1_hp0_N39_ hvt_ rA1_5_N35_.1 rA1_5_N35_.2) | assumption)) rfl rfl ((hf_N35_.w hW).kr (o := 33) (by decide)) (by decide) (by decide) (Nat.le_of_ble_eq_true rfl) d_Reader_readSum_110 ?_
                              rintro _ N41_ ⟨rfl, hsN41_, ⟨hp0_N41_, hp1_N41_, hp2_N41_, hp3_N41_, hp4_N41_⟩⟩
                              have hf_N41_ : zFc d_ [(1, 2), (1, 3), (1, 4), (1, 5), (4, 1), (4, 2), (4, 3)] [] [(33, 2), (33, 3), (33, 4), (33, 5), (33, 6)] [25, 27, 35] Mz N41_ := hf_N35_.tr hsN41_ (by decide) (by decide) (by decide) (by decide)
                              have hb0_N41_ : zFc d_ [(1, 2), (1, 3), (1, 4), (1, 5), (4, 1), (4, 2), (4, 3)] [] [(33, 2), (33, 3), (33, 4), (33, 5), (33, 6)] [25, 27, 35] N7_ N41_ := hb0_N35_.tr hsN41_ (by decide) (by decide) (by decide) (by decide)
                              have eA1_2_N41_ : ze N41_ 1 2 = ze N35_ 1 2 := hsN41_.ea (hf_N35_.w hW) (by decide)
                              have eA4_1_N41_ : ze N41_ 4 1 = ze N35_ 4 1 := hsN41_.ea (hf_N35_.w hW) (by decide)
                              have c43_ : zYb b_ n_ N41_ := zYb.fr (hf_N35_.w hW) hsN41_ c37_ (by decide)
                              have c45_ : zYt b_ n_ N41_ := zYt.fr (hf_N35_.w hW) hsN41_ hp0_N35_ (by decide)
                              show zW l m_Reader_readSum (zn Mz + 0, zw Mz + 0) N41_ 113 [some (.ref 4), some (.ref (d_ + 0)), some (.ref (d_ + 33)), some (.int (Int32.ofInt 1)), some (.int (Int32.ofInt u14_))] [] _
                              have ht1_ := hp1_N41_
                              have ht2_ := hp2_N41_
                              have ht3_ := hp3_N41_
                              have hlt_ := hlz_.tr hp4_N41_
                              have hct_ := hp0_N41_
                              have hyt_ := c45_
                              have hyx_ := hyt_.x
                              refine zw_aload_n (pc := 113) (n := 0) (x := 4) rfl d_Reader_readSum_113 ?_
                              refine zw_getF (pc := 114) f_Reader_15 rfl ((hf_N41_.w hW).ka (o := 4) (by decide)) ((hf_N41_.w hW).la (o := 4) (s := 0) (r := 1) (by decide)) d_Reader_readSum_114 ?_
                              refine zk_callV hf_N41_.x (pc := 117) [] [] l_Reader_44 (u_Tokens_step l d_ N41_ (hf_N41_.w hW) b_ n_ c43_ (show 0 ≤ ze N41_ 1 3 by first | with_reducible assumption | (exact zo_57 hyx_.2.1) | assumption) (show ze N41_ 1 3 ≤ n_ by first | with_reducible assumption | (exact zo_605 hyx_.2.2) | assumption)) rfl rfl ((hf_N41_.w hW).ka (o := 1) (by decide)) (by decide) (by decide) (Nat.le_of_ble_eq_true rfl) d_Reader_readSum_117 ?_
                              rintro _ N46_ ⟨rfl, hsN46_, ⟨hp0_N46_, hp1_N46_⟩⟩
                              have hf_N46_ : zFc d_ [(1, 2), (1, 3), (1, 4), (1, 5), (4, 1), (4, 2), (4, 3)] [] [(33, 2), (33, 3), (33, 4), (33, 5), (33, 6)] [25, 27, 35] Mz N46_ := hf_N41_.tr hsN46_ (by decide) (by decide) (by decide) (by decide)
                              have hb0_N46_ : zFc d_ [(1, 2), (1, 3), (1, 4), (1, 5), (4, 1), (4, 2), (4, 3)] [] [(33, 2), (33, 3), (33, 4), (33, 5), (33, 6)] [25, 27, 35] N7_ N46_ := hb0_N41_.tr hsN46_ (by decide) (by decide) (by decide) (by decide)
                              have eA4_1_N46_ : ze N46_ 4 1 = ze N41_ 4 1 := hsN46_.ea (hf_N41_.w hW) (by decide)
                              have qzkS_N46_ : zkS d_ N46_ = zkS d_ N41_ := zkS_q hsN46_ (by decide)
                              have qzkG_N46_ : zkG d_ N46_ = zkG d_ N41_ := zkG_q hsN46_ (by decide)
                              have qzkW_N46_ : zkW F_ d_ N46_ = zkW F_ d_ N41_ := zkW_q hsN46_ (by decide)
                              have c50_ : zCI F_ K_ d_ 0 N46_ := zCI.fr (hf_N41_.w hW) hsN46_ hp0_N41_ (by decide)
                              show zW l m_Reader_readSum (zn Mz + 0, zw Mz + 0) N46_ 120 [some (.ref 4), some (.ref (d_ + 0)), some (.ref (d_ + 33)), some (.int (Int32.ofInt 1)), some (.int (Int32.ofInt u14_))] [] _
                              have hnn_ := hyt_.n hp0_N46_
                              have hst1_ := hz0_.tr (zRea.st (zs2_s (Nz := N46_) (F := F_) (b := b_) (n := n_) (K := K_) (nm := nm_) hk0_ hvt_.symm (by (exact zo_1066 ha62_1_hp0_N39_ hvt_ rA1_5_N35_.1 rA1_5_N35_.2)) (by rw [qzkS_N46_]; exact ht1_) (by rw [qzkW_N46_]; exact ht2_) (by rw [qzkG_N46_]; exact ht3_) (by (exact zo_53 eA4_1_N41_ eA4_1_N46_)) (hnn_.2.trans (by rw [show ze N41_ 1 2 = ze N35_ 1 2 by (exact eA1_2_N41_)]))))
                              have hlu_ := hlt_.tr (zLow.f hsN46_ (by decide))
                              have hcu_ := c50_
                              refine zr_iinc (pc := 120) (i := 4) (a := u14_) (n := 1) (L2 := [some (.ref 4), some (.ref (d_ + 0)), some (.ref (d_ + 33)), some (.int (Int32.ofInt 1)), some (.int (Int32.ofInt (u14_ + 1)))]) rfl (by decide) rfl d_Reader_readSum_120 ?_
                              refine zw_goto (pc := 123) (tgt := 19) (by decide) d_Reader_readSum_123 ?_
                              have hnmu_ := p3_.l hf_N46_ (by first | exact hlu_ | exact hlz_) hF27_ (by decide)
                              exact ih_19 1 (by decide) (by decide) (by (exact hu13_z)) (u14_ + 1) (by (exact zo_74 i17_)) (by (exact zo_1055 hc_23)) N46_ hb0_N46_ (show 0 ≤ (u14_ + 1) by first | with_reducible assumption | (exact zo_76 i17_) | assumption) (show (u14_ + 1) ≤ ze N46_ 4 1 by first | with_reducible assumption | (exact zo_1067 eA4_1_N35_ eA4_1_N41_ eA4_1_N46_ ha32_3_hp1_N26_ ha40_3_hp1_N31_ hc_23 i18_ rA4_1_N31_.1) | assumption) (show ze N46_ 4 1 ≤ 30 by first | with_reducible assumption | (exact zo_1068 eA4_1_N35_ eA4_1_N41_ eA4_1_N46_ ha40_4_hp1_N31_) | assumption) (show zLow d_ Mz N46_ by first | exact hlu_ | exact hlz_) hp1_N46_ hnmu_ (show ((1 : Int) = 1 ∧ zRea (zfs b_ n_ F_ K_ nm_) (0, (ze Mz 1 2).toNat, [], [], 0, false) (zKst 0 F_ d_ N46_) ∧ zCI F_ K_ d_ 0 N46_) ∨ ((1 : Int) = 0 ∧ zRea (zfs b_ n_ F_ K_ nm_) (0, (ze Mz 1 2).toNat, [], [], 0, false) (zKst 2 F_ d_ N46_) ∧ zCI F_ K_ d_ 1 N46_ ∧ (zkS d_ N46_).head? ≠ some 1 ∧ ¬ (zisg b_ n_ (ze N46_ 1 2).toNat 42 ∨ zisg b_ n_ (ze N46_ 1 2).toNat 43 ∨ zisg b_ n_ (ze N46_ 1 2).toNat 45) ∧ ¬ (zisg b_ n_ (ze N46_ 1 2).toNat 41 ∧ 0 ∈ zkS d_ N46_)) from Or.inl (⟨(show (1 : Int) = 1 by first | rfl | with_reducible assumption | exact hst1_ | exact hcu_ | assumption), (show zRea (zfs b_ n_ F_ K_ nm_) (0, (ze Mz 1 2).toNat, [], [], 0, false) (zKst 0 F_ d_ N46_) by first | rfl | with_reducible assumption | exact hst1_ | exact hcu_ | assumption), (show zCI F_ K_ d_ 0 N46_ by first | rfl | with_reducible assumption | exact hst1_ | exact hcu_ | assumption)⟩)) (by (exact zo_1069 hc_23 hlt_19 i17_))
                          · skip
                            exact absurd hc_65 (by decide)
                        · skip
                          have hm0_ := ha62_0_hp0_N39_
                          show zW l m_Reader_readSum (zn Mz + 0, zw Mz + 0) N35_ 65 [some (.ref 4), some (.ref (d_ + 0)), some (.ref (d_ + 33)), some (.int (Int32.ofInt 1)), some (.int (Int32.ofInt u14_))] [.int (Int32.ofInt 0)] _
                          refine zr_if_ne (pc := 65) (tgt := 92) ⟨(by decide), (by decide)⟩ (by decide) (zdal_p dlA_Reader_readSum_110 (i := 11) rfl) (fun hc_65 => ?_) (fun hc_65 => ?_)
                          · skip
                            exact absurd hc_65 (by decide)
                          · skip
                            refine zw_aload_n (pc := 68) (n := 0) (x := 4) rfl (zdal_p dlA_Reader_readSum_110 (i := 12) rfl) ?_
                            refine zw_getF (pc := 69) f_Reader_15 rfl ((hf_N35_.w hW).ka (o := 4) (by decide)) ((hf_N35_.w hW).la (o := 4) (s := 0) (r := 1) (by decide)) (zdal_p dlA_Reader_readSum_110 (i := 13) rfl) ?_
                            refine zw_bipush (pc := 72) (v := Int32.ofInt 45) (by decide) (zdal_p dlA_Reader_readSum_110 (i := 14) rfl) ?_
                            refine zk_callV hf_N35_.x (pc := 74) [.int (Int32.ofInt 45)] [] l_Reader_37 (u_Tokens_isSign l d_ N35_ (hf_N35_.w hW) 45 (by decide) (by decide) b_ n_ hp0_N35_) rfl rfl ((hf_N35_.w hW).ka (o := 1) (by decide)) (by decide) (by decide) (Nat.le_of_ble_eq_true rfl) (zdal_p dlA_Reader_readSum_110 (i := 15) rfl) ?_
                            rintro _ N51_ ⟨v52_, rfl, ⟨hv52_a, hv52_b⟩, hsN51_, hp0_N51_⟩
                            obtain rfl := hsN51_.eq.symm
                            replace hp0_N51_ : ((v52_ = 1 ∧ zkd b_ n_ (ze N35_ 1 2).toNat = 3 ∧ b_ (ze N35_ 1 2).toNat = 45) ∨ (v52_ = 0 ∧ ¬ (zkd b_ n_ (ze N35_ 1 2).toNat = 3 ∧ b_ (ze N35_ 1 2).toNat = 45))) := hp0_N51_
                            rcases hp0_N51_ with ⟨rfl, ha74_0_hp0_N51_, ha74_1_hp0_N51_⟩ | ⟨rfl, ha74_0_hp0_N51_⟩
                            · skip
                              have hk0_ := ha74_0_hp0_N51_
                              have hk1_ := ha74_1_hp0_N51_
                              show zW l m_Reader_readSum (zn Mz + 0, zw Mz + 0) N35_ 77 [some (.ref 4), some (.ref (d_ + 0)), some (.ref (d_ + 33)), some (.int (Int32.ofInt 1)), some (.int (Int32.ofInt u14_))] [.int (Int32.ofInt 1)] _
                              refine zr_if_ne (pc := 77) (tgt := 92) ⟨(by decide), (by decide)⟩ (by decide) (zdal_p dlA_Reader_readSum_110 (i := 16) rfl) (fun hc_77 => ?_) (fun hc_77 => ?_)
                              · skip
                                refine zw_iconst (pc := 92) (v := Int32.ofInt 1) (by decide) d_Reader_readSum_92 ?_
                                refine zw_goto (pc := 93) (tgt := 97) (by decide) d_Reader_readSum_93 ?_
                                refine zw_istore_n (pc := 97) (i := 3) (L2 := [some (.ref 4), some (.ref (d_ + 0)), some (.ref (d_ + 33)), some (.int (Int32.ofInt 1)), some (.int (Int32.ofInt u14_))]) rfl (by decide) rfl d_Reader_readSum_97 ?_
                                refine zw_iload_n (pc := 98) (n := 3) (x := Int32.ofInt 1) rfl d_Reader_readSum_98 ?_
                                refine zr_if_eq (pc := 99) (tgt := 120) ⟨(by decide), (by decide)⟩ (by decide) d_Reader_readSum_99 (fun hc_99 => ?_) (fun hc_99 => ?_)
                                · skip
                                  exact absurd hc_99 (by decide)
                                · skip
                                  have hvt_ : ze N35_ 1 5 = b_ (ze N35_ 1 2).toNat := hp0_N35_.2.2.2.2.2 hk0_
                                  refine zw_aload_n (pc := 102) (n := 2) (x := (d_ + 33)) rfl d_Reader_readSum_102 ?_
                                  refine zw_aload_n (pc := 103) (n := 0) (x := 4) rfl d_Reader_readSum_103 ?_
                                  refine zw_getF (pc := 104) f_Reader_15 rfl ((hf_N35_.w hW).ka (o := 4) (by decide)) ((hf_N35_.w hW).la (o := 4) (s := 0) (r := 1) (by decide)) d_Reader_readSum_104 ?_
                                  refine zk_getI (pc := 107) f_Reader_57 rfl ((hf_N35_.w hW).ka (o := 1) (by decide)) d_Reader_readSum_107 ?_
                                  refine zk_callV hf_N35_.x (pc := 110) [.int (Int32.ofInt (ze N35_ 1 5))] [] l_Reader_139 (u_Calc_put l d_ N35_ (hf_N35_.w hW) (ze N35_ 1 5) (ze_r N35_ 1 5).1 (ze_r N35_ 1 5).2 F_ K_ hA_ c38_ hz1_ (show (zkS d_ N35_).head? ≠ some 1 by first | with_reducible assumption | assumption | omega) (show ((ze N35_ 1 5) = 42 ∨ (ze N35_ 1 5) = 43 ∨ (ze N35_ 1 5) = 45) by first | with_reducible assumption | (exact zo_1070 ha74_1_hp0_N51_ hvt_ rA1_5_N35_.1 rA1_5_N35_.2) | assumption)) rfl rfl ((hf_N35_.w hW).kr (o := 33) (by decide)) (by decide) (by decide) (Nat.le_of_ble_eq_true rfl) d_Reader_readSum_110 ?_
                                  rintro _ N53_ ⟨rfl, hsN53_, ⟨hp0_N53_, hp1_N53_, hp2_N53_, hp3_N53_, hp4_N53_⟩⟩
                                  have hf_N53_ : zFc d_ [(1, 2), (1, 3), (1, 4), (1, 5), (4, 1), (4, 2), (4, 3)] [] [(33, 2), (33, 3), (33, 4), (33, 5), (33, 6)] [25, 27, 35] Mz N53_ := hf_N35_.tr hsN53_ (by decide) (by decide) (by decide) (by decide)
                                  have hb0_N53_ : zFc d_ [(1, 2), (1, 3), (1, 4), (1, 5), (4, 1), (4, 2), (4, 3)] [] [(33, 2), (33, 3), (33, 4), (33, 5), (33, 6)] [25, 27, 35] N7_ N53_ := hb0_N35_.tr hsN53_ (by decide) (by decide) (by decide) (by decide)
                                  have eA1_2_N53_ : ze N53_ 1 2 = ze N35_ 1 2 := hsN53_.ea (hf_N35_.w hW) (by decide)
                                  have eA4_1_N53_ : ze N53_ 4 1 = ze N35_ 4 1 := hsN53_.ea (hf_N35_.w hW) (by decide)
                                  have c55_ : zYb b_ n_ N53_ := zYb.fr (hf_N35_.w hW) hsN53_ c37_ (by decide)
                                  have c57_ : zYt b_ n_ N53_ := zYt.fr (hf_N35_.w hW) hsN53_ hp0_N35_ (by decide)
                                  show zW l m_Reader_readSum (zn Mz + 0, zw Mz + 0) N53_ 113 [some (.ref 4), some (.ref (d_ + 0)), some (.ref (d_ + 33)), some (.int (Int32.ofInt 1)), some (.int (Int32.ofInt u14_))] [] _
                                  have ht1_ := hp1_N53_
                                  have ht2_ := hp2_N53_
                                  have ht3_ := hp3_N53_
                                  have hlt_ := hlz_.tr hp4_N53_
                                  have hct_ := hp0_N53_
                                  have hyt_ := c57_
                                  have hyx_ := hyt_.x
                                  refine zw_aload_n (pc := 113) (n := 0) (x := 4) rfl d_Reader_readSum_113 ?_
                                  refine zw_getF (pc := 114) f_Reader_15 rfl ((hf_N53_.w hW).ka (o := 4) (by decide)) ((hf_N53_.w hW).la (o := 4) (s := 0) (r := 1) (by decide)) d_Reader_readSum_114 ?_
                                  refine zk_callV hf_N53_.x (pc := 117) [] [] l_Reader_44 (u_Tokens_step l d_ N53_ (hf_N53_.w hW) b_ n_ c55_ (show 0 ≤ ze N53_ 1 3 by first | with_reducible assumption | (exact zo_57 hyx_.2.1) | assumption) (show ze N53_ 1 3 ≤ n_ by first | with_reducible assumption | (exact zo_605 hyx_.2.2) | assumption)) rfl rfl ((hf_N53_.w hW).ka (o := 1) (by decide)) (by decide) (by decide) (Nat.le_of_ble_eq_true rfl) d_Reader_readSum_117 ?_
                                  rintro _ N58_ ⟨rfl, hsN58_, ⟨hp0_N58_, hp1_N58_⟩⟩
                                  have hf_N58_ : zFc d_ [(1, 2), (1, 3), (1, 4), (1, 5), (4, 1), (4, 2), (4, 3)] [] [(33, 2), (33, 3), (33, 4), (33, 5), (33, 6)] [25, 27, 35] Mz N58_ := hf_N53_.tr hsN58_ (by decide) (by decide) (by decide) (by decide)
                                  have hb0_N58_ : zFc d_ [(1, 2), (1, 3), (1, 4), (1, 5), (4, 1), (4, 2), (4, 3)] [] [(33, 2), (33, 3), (33, 4), (33, 5), (33, 6)] [25, 27, 35] N7_ N58_ := hb0_N53_.tr hsN58_ (by decide) (by decide) (by decide) (by decide)
                                  have eA4_1_N58_ : ze N58_ 4 1 = ze N53_ 4 1 := hsN58_.ea (hf_N53_.w hW) (by decide)
                                  have qzkS_N58_ : zkS d_ N58_ = zkS d_ N53_ := zkS_q hsN58_ (by decide)
                                  have qzkG_N58_ : zkG d_ N58_ = zkG d_ N53_ := zkG_q hsN58_ (by decide)
                                  have qzkW_N58_ : zkW F_ d_ N58_ = zkW F_ d_ N53_ := zkW_q hsN58_ (by decide)
                                  have c62_ : zCI F_ K_ d_ 0 N58_ := zCI.fr (hf_N53_.w hW) hsN58_ hp0_N53_ (by decide)
                                  show zW l m_Reader_readSum (zn Mz + 0, zw Mz + 0) N58_ 120 [some (.ref 4), some (.ref (d_ + 0)), some (.ref (d_ + 33)), some (.int (Int32.ofInt 1)), some (.int (Int32.ofInt u14_))] [] _
                                  have hnn_ := hyt_.n hp0_N58_
                                  have hst1_ := hz0_.tr (zRea.st (zs2_s (Nz := N58_) (F := F_) (b := b_) (n := n_) (K := K_) (nm := nm_) hk0_ hvt_.symm (by (exact zo_1070 ha74_1_hp0_N51_ hvt_ rA1_5_N35_.1 rA1_5_N35_.2)) (by rw [qzkS_N58_]; exact ht1_) (by rw [qzkW_N58_]; exact ht2_) (by rw [qzkG_N58_]; exact ht3_) (by (exact zo_53 eA4_1_N53_ eA4_1_N58_)) (hnn_.2.trans (by rw [show ze N53_ 1 2 = ze N35_ 1 2 by (exact eA1_2_N53_)]))))
                                  have hlu_ := hlt_.tr (zLow.f hsN58_ (by decide))
                                  have hcu_ := c62_
                                  refine zr_iinc (pc := 120) (i := 4) (a := u14_) (n := 1) (L2 := [some (.ref 4), some (.ref (d_ + 0)), some (.ref (d_ + 33)), some (.int (Int32.ofInt 1)), some (.int (Int32.ofInt (u14_ + 1)))]) rfl (by decide) rfl d_Reader_readSum_120 ?_
                                  refine zw_goto (pc := 123) (tgt := 19) (by decide) d_Reader_readSum_123 ?_
                                  have hnmu_ := p3_.l hf_N58_ (by first | exact hlu_ | exact hlz_) hF27_ (by decide)
                                  exact ih_19 1 (by decide) (by decide) (by (exact hu13_z)) (u14_ + 1) (by (exact zo_74 i17_)) (by (exact zo_1055 hc_23)) N58_ hb0_N58_ (show 0 ≤ (u14_ + 1) by first | with_reducible assumption | (exact zo_76 i17_) | assumption) (show (u14_ + 1) ≤ ze N58_ 4 1 by first | with_reducible assumption | (exact zo_1067 eA4_1_N35_ eA4_1_N53_ eA4_1_N58_ ha32_3_hp1_N26_ ha40_3_hp1_N31_ hc_23 i18_ rA4_1_N31_.1) | assumption) (show ze N58_ 4 1 ≤ 30 by first | with_reducible assumption | (exact zo_1068 eA4_1_N35_ eA4_1_N53_ eA4_1_N58_ ha40_4_hp1_N31_) | assumption) (show zLow d_ Mz N58_ by first | exact hlu_ | exact hlz_) hp1_N58_ hnmu_ (show ((1 : Int) = 1 ∧ zRea (zfs b_ n_ F_ K_ nm_) (0, (ze Mz 1 2).toNat, [], [], 0, false) (zKst 0 F_ d_ N58_) ∧ zCI F_ K_ d_ 0 N58_) ∨ ((1 : Int) = 0 ∧ zRea (zfs b_ n_ F_ K_ nm_) (0, (ze Mz 1 2).toNat, [], [], 0, false) (zKst 2 F_ d_ N58_) ∧ zCI F_ K_ d_ 1 N58_ ∧ (zkS d_ N58_).head? ≠ some 1 ∧ ¬ (zisg b_ n_ (ze N58_ 1 2).toNat 42 ∨ zisg b_ n_ (ze N58_ 1 2).toNat 43 ∨ zisg b_ n_ (ze N58_ 1 2).toNat 45) ∧ ¬ (zisg b_ n_ (ze N58_ 1 2).toNat 41 ∧ 0 ∈ zkS d_ N58_)) from Or.inl (⟨(show (1 : Int) = 1 by first | rfl | with_reducible assumption | exact hst1_ | exact hcu_ | assumption), (show zRea (zfs b_ n_ F_ K_ nm_) (0, (ze Mz 1 2).toNat, [], [], 0, false) (zKst 0 F_ d_ N58_) by first | rfl | with_reducible assumption | exact hst1_ | exact hcu_ | assumption), (show zCI F_ K_ d_ 0 N58_ by first | rfl | with_reducible assumption | exact hst1_ | exact hcu_ | assumption)⟩)) (by (exact zo_1069 hc_23 hlt_19 i17_))
                              · skip
                                exact absurd hc_77 (by decide)
                            · skip
                              have hm1_ := ha74_0_hp0_N51_
                              show zW l m_Reader_readSum (zn Mz + 0, zw Mz + 0) N35_ 77 [some (.ref 4), some (.ref (d_ + 0)), some (.ref (d_ + 33)), some (.int (Int32.ofInt 1)), some (.int (Int32.ofInt u14_))] [.int (Int32.ofInt 0)] _
                              refine zr_if_ne (pc := 77) (tgt := 92) ⟨(by decide), (by decide)⟩ (by decide) (zdal_p dlA_Reader_readSum_110 (i := 16) rfl) (fun hc_77 => ?_) (fun hc_77 => ?_)
                              · skip
                                exact absurd hc_77 (by decide)
                              · skip
                                refine zw_aload_n (pc := 80) (n := 0) (x := 4) rfl (zdal_p dlA_Reader_readSum_110 (i := 17) rfl) ?_
                                refine zw_getF (pc := 81) f_Reader_15 rfl ((hf_N35_.w hW).ka (o := 4) (by decide)) ((hf_N35_.w hW).la (o := 4) (s := 0) (r := 1) (by decide)) (zdal_p dlA_Reader_readSum_110 (i := 18) rfl) ?_
                                refine zw_bipush (pc := 84) (v := Int32.ofInt 42) (by decide) (zdal_p dlA_Reader_readSum_110 (i := 19) rfl) ?_
                                refine zk_callV hf_N35_.x (pc := 86) [.int (Int32.ofInt 42)] [] l_Reader_37 (u_Tokens_isSign l d_ N35_ (hf_N35_.w hW) 42 (by decide) (by decide) b_ n_ hp0_N35_) rfl rfl ((hf_N35_.w hW).ka (o := 1) (by decide)) (by decide) (by decide) (Nat.le_of_ble_eq_true rfl) (zdal_p dlA_Reader_readSum_110 (i := 20) rfl) ?_
                                rintro _ N63_ ⟨v64_, rfl, ⟨hv64_a, hv64_b⟩, hsN63_, hp0_N63_⟩
                                obtain rfl := hsN63_.eq.symm
                                replace hp0_N63_ : ((v64_ = 1 ∧ zkd b_ n_ (ze N35_ 1 2).toNat = 3 ∧ b_ (ze N35_ 1 2).toNat = 42) ∨ (v64_ = 0 ∧ ¬ (zkd b_ n_ (ze N35_ 1 2).toNat = 3 ∧ b_ (ze N35_ 1 2).toNat = 42))) := hp0_N63_
                                rcases hp0_N63_ with ⟨rfl, ha86_0_hp0_N63_, ha86_1_hp0_N63_⟩ | ⟨rfl, ha86_0_hp0_N63_⟩
                                · skip
                                  have hk0_ := ha86_0_hp0_N63_
                                  have hk1_ := ha86_1_hp0_N63_
                                  show zW l m_Reader_readSum (zn Mz + 0, zw Mz + 0) N35_ 89 [some (.ref 4), some (.ref (d_ + 0)), some (.ref (d_ + 33)), some (.int (Int32.ofInt 1)), some (.int (Int32.ofInt u14_))] [.int (Int32.ofInt 1)] _
                                  refine zr_if_eq (pc := 89) (tgt := 96) ⟨(by decide), (by decide)⟩ (by decide) (zdal_p dlA_Reader_readSum_110 (i := 21) rfl) (fun hc_89 => ?_) (fun hc_89 => ?_)
                                  · skip
                                    exact absurd hc_89 (by decide)
                                  · skip
                                    refine zw_iconst (pc := 92) (v := Int32.ofInt 1) (by decide) d_Reader_readSum_92 ?_
                                    refine zw_goto (pc := 93) (tgt := 97) (by decide) d_Reader_readSum_93 ?_
                                    refine zw_istore_n (pc := 97) (i := 3) (L2 := [some (.ref 4), some (.ref (d_ + 0)), some (.ref (d_ + 33)), some (.int (Int32.ofInt 1)), some (.int (Int32.ofInt u14_))]) rfl (by decide) rfl d_Reader_readSum_97 ?_
                                    refine zw_iload_n (pc := 98) (n := 3) (x := Int32.ofInt 1) rfl d_Reader_readSum_98 ?_
                                    refine zr_if_eq (pc := 99) (tgt := 120) ⟨(by decide), (by decide)⟩ (by decide) d_Reader_readSum_99 (fun hc_99 => ?_) (fun hc_99 => ?_)
                                    · skip
                                      exact absurd hc_99 (by decide)
                                    · skip
                                      have hvt_ : ze N35_ 1 5 = b_ (ze N35_ 1 2).toNat := hp0_N35_.2.2.2.2.2 hk0_
                                      refine zw_aload_n (pc := 102) (n := 2) (x := (d_ + 33)) rfl d_Reader_readSum_102 ?_
                                      refine zw_aload_n (pc := 103) (n := 0) (x := 4) rfl d_Reader_readSum_103 ?_
                                      refine zw_getF (pc := 104) f_Reader_15 rfl ((hf_N35_.w hW).ka (o := 4) (by decide)) ((hf_N35_.w hW).la (o := 4) (s := 0) (r := 1) (by decide)) d_Reader_readSum_104 ?_
                                      refine zk_getI (pc := 107) f_Reader_57 rfl ((hf_N35_.w hW).ka (o := 1) (by decide)) d_Reader_readSum_107 ?_
                                      refine zk_callV hf_N35_.x (pc := 110) [.int (Int32.ofInt (ze N35_ 1 5))] [] l_Reader_139 (u_Calc_put l d_ N35_ (hf_N35_.w hW) (ze N35_ 1 5) (ze_r N35_ 1 5).1 (ze_r N35_ 1 5).2 F_ K_ hA_ c38_ hz1_ (show (zkS d_ N35_).head? ≠ some 1 by first | with_reducible assumption | assumption | omega) (show ((ze N35_ 1 5) = 42 ∨ (ze N35_ 1 5) = 43 ∨ (ze N35_ 1 5) = 45) by first | with_reducible assumption | (exact zo_1071 ha86_1_hp0_N63_ hvt_ rA1_5_N35_.1 rA1_5_N35_.2) | assumption)) rfl rfl ((hf_N35_.w hW).kr (o := 33) (by decide)) (by decide) (by decide) (Nat.le_of_ble_eq_true rfl) d_Reader_readSum_110 ?_
                                      rintro _ N65_ ⟨rfl, hsN65_, ⟨hp0_N65_, hp1_N65_, hp2_N65_, hp3_N65_, hp4_N65_⟩⟩
                                      have hf_N65_ : zFc d_ [(1, 2), (1, 3), (1, 4), (1, 5), (4, 1), (4, 2), (4, 3)] [] [(33, 2), (33, 3), (33, 4), (33, 5), (33, 6)] [25, 27, 35] Mz N65_ := hf_N35_.tr hsN65_ (by decide) (by decide) (by decide) (by decide)
                                      have hb0_N65_ : zFc d_ [(1, 2), (1, 3), (1, 4), (1, 5), (4, 1), (4, 2), (4, 3)] [] [(33, 2), (33, 3), (33, 4), (33, 5), (33, 6)] [25, 27, 35] N7_ N65_ := hb0_N35_.tr hsN65_ (by decide) (by decide) (by decide) (by decide)
                                      have eA1_2_N65_ : ze N65_ 1 2 = ze N35_ 1 2 := hsN65_.ea (hf_N35_.w hW) (by decide)
                                      have eA4_1_N65_ : ze N65_ 4 1 = ze N35_ 4 1 := hsN65_.ea (hf_N35_.w hW) (by decide)
                                      have c67_ : zYb b_ n_ N65_ := zYb.fr (hf_N35_.w hW) hsN65_ c37_ (by decide)
                                      have c69_ : zYt b_ n_ N65_ := zYt.fr (hf_N35_.w hW) hsN65_ hp0_N35_ (by decide)
                                      show zW l m_Reader_readSum (zn Mz + 0, zw Mz + 0) N65_ 113 [some (.ref 4), some (.ref (d_ + 0)), some (.ref (d_ + 33)), some (.int (Int32.ofInt 1)), some (.int (Int32.ofInt u14_))] [] _
                                      have ht1_ := hp1_N65_
                                      have ht2_ := hp2_N65_
                                      have ht3_ := hp3_N65_
                                      have hlt_ := hlz_.tr hp4_N65_
                                      have hct_ := hp0_N65_
                                      have hyt_ := c69_
                                      have hyx_ := hyt_.x
                                      refine zw_aload_n (pc := 113) (n := 0) (x := 4) rfl d_Reader_readSum_113 ?_
                                      refine zw_getF (pc := 114) f_Reader_15 rfl ((hf_N65_.w hW).ka (o := 4) (by decide)) ((hf_N65_.w hW).la (o := 4) (s := 0) (r := 1) (by decide)) d_Reader_readSum_114 ?_
                                      refine zk_callV hf_N65_.x (pc := 117) [] [] l_Reader_44 (u_Tokens_step l d_ N65_ (hf_N65_.w hW) b_ n_ c67_ (show 0 ≤ ze N65_ 1 3 by first | with_reducible assumption | (exact zo_57 hyx_.2.1) | assumption) (show ze N65_ 1 3 ≤ n_ by first | with_reducible assumption | (exact zo_605 hyx_.2.2) | assumption)) rfl rfl ((hf_N65_.w hW).ka (o := 1) (by decide)) (by decide) (by decide) (Nat.le_of_ble_eq_true rfl) d_Reader_readSum_117 ?_
                                      rintro _ N70_ ⟨rfl, hsN70_, ⟨hp0_N70_, hp1_N70_⟩⟩
                                      have hf_N70_ : zFc d_ [(1, 2), (1, 3), (1, 4), (1, 5), (4, 1), (4, 2), (4, 3)] [] [(33, 2), (33, 3), (33, 4), (33, 5), (33, 6)] [25, 27, 35] Mz N70_ := hf_N65_.tr hsN70_ (by decide) (by decide) (by decide) (by decide)
                                      have hb0_N70_ : zFc d_ [(1, 2), (1, 3), (1, 4), (1, 5), (4, 1), (4, 2), (4, 3)] [] [(33, 2), (33, 3), (33, 4), (33, 5), (33, 6)] [25, 27, 35] N7_ N70_ := hb0_N65_.tr hsN70_ (by decide) (by decide) (by decide) (by decide)
                                      have eA4_1_N70_ : ze N70_ 4 1 = ze N65_ 4 1 := hsN70_.ea (hf_N65_.w hW) (by decide)
                                      have qzkS_N70_ : zkS d_ N70_ = zkS d_ N65_ := zkS_q hsN70_ (by decide)
                                      have qzkG_N70_ : zkG d_ N70_ = zkG d_ N65_ := zkG_q hsN70_ (by decide)
                                      have qzkW_N70_ : zkW F_ d_ N70_ = zkW F_ d_ N65_ := zkW_q hsN70_ (by decide)
                                      have c74_ : zCI F_ K_ d_ 0 N70_ := zCI.fr (hf_N65_.w hW) hsN70_ hp0_N65_ (by decide)
                                      show zW l m_Reader_readSum (zn Mz + 0, zw Mz + 0) N70_ 120 [some (.ref 4), some (.ref (d_ + 0)), some (.ref (d_ + 33)), some (.int (Int32.ofInt 1)), some (.int (Int32.ofInt u14_))] [] _
                                      have hnn_ := hyt_.n hp0_N70_
                                      have hst1_ := hz0_.tr (zRea.st (zs2_s (Nz := N70_) (F := F_) (b := b_) (n := n_) (K := K_) (nm := nm_) hk0_ hvt_.symm (by (exact zo_1071 ha86_1_hp0_N63_ hvt_ rA1_5_N35_.1 rA1_5_N35_.2)) (by rw [qzkS_N70_]; exact ht1_) (by rw [qzkW_N70_]; exact ht2_) (by rw [qzkG_N70_]; exact ht3_) (by (exact zo_53 eA4_1_N65_ eA4_1_N70_)) (hnn_.2.trans (by rw [show ze N65_ 1 2 = ze N35_ 1 2 by (exact eA1_2_N65_)]))))
                                      have hlu_ := hlt_.tr (zLow.f hsN70_ (by decide))
                                      have hcu_ := c74_
                                      refine zr_iinc (pc := 120) (i := 4) (a := u14_) (n := 1) (L2 := [some (.ref 4), some (.ref (d_ + 0)), some (.ref (d_ + 33)), some (.int (Int32.ofInt 1)), some (.int (Int32.ofInt (u14_ + 1)))]) rfl (by decide) rfl d_Reader_readSum_120 ?_
                                      refine zw_goto (pc := 123) (tgt := 19) (by decide) d_Reader_readSum_123 ?_
                                      have hnmu_ := p3_.l hf_N70_ (by first | exact hlu_ | exact hlz_) hF27_ (by decide)
                                      exact ih_19 1 (by decide) (by decide) (by (exact hu13_z)) (u14_ + 1) (by (exact zo_74 i17_)) (by (exact zo_1055 hc_23)) N70_ hb0_N70_ (show 0 ≤ (u14_ + 1) by first | with_reducible assumption | (exact zo_76 i17_) | assumption) (show (u14_ + 1) ≤ ze N70_ 4 1 by first | with_reducible assumption | (exact zo_1067 eA4_1_N35_ eA4_1_N65_ eA4_1_N70_ ha32_3_hp1_N26_ ha40_3_hp1_N31_ hc_23 i18_ rA4_1_N31_.1) | assumption) (show ze N70_ 4 1 ≤ 30 by first | with_reducible assumption | (exact zo_1068 eA4_1_N35_ eA4_1_N65_ eA4_1_N70_ ha40_4_hp1_N31_) | assumption) (show zLow d_ Mz N70_ by first | exact hlu_ | exact hlz_) hp1_N70_ hnmu_ (show ((1 : Int) = 1 ∧ zRea (zfs b_ n_ F_ K_ nm_) (0, (ze Mz 1 2).toNat, [], [], 0, false) (zKst 0 F_ d_ N70_) ∧ zCI F_ K_ d_ 0 N70_) ∨ ((1 : Int) = 0 ∧ zRea (zfs b_ n_ F_ K_ nm_) (0, (ze Mz 1 2).toNat, [], [], 0, false) (zKst 2 F_ d_ N70_) ∧ zCI F_ K_ d_ 1 N70_ ∧ (zkS d_ N70_).head? ≠ some 1 ∧ ¬ (zisg b_ n_ (ze N70_ 1 2).toNat 42 ∨ zisg b_ n_ (ze N70_ 1 2).toNat 43 ∨ zisg b_ n_ (ze N70_ 1 2).toNat 45) ∧ ¬ (zisg b_ n_ (ze N70_ 1 2).toNat 41 ∧ 0 ∈ zkS d_ N70_)) from Or.inl (⟨(show (1 : Int) = 1 by first | rfl | with_reducible assumption | exact hst1_ | exact hcu_ | assumption), (show zRea (zfs b_ n_ F_ K_ nm_) (0, (ze Mz 1 2).toNat, [], [], 0, false) (zKst 0 F_ d_ N70_) by first | rfl | with_reducible assumption | exact hst1_ | exact hcu_ | assumption), (show zCI F_ K_ d_ 0 N70_ by first | rfl | with_reducible assumption | exact hst1_ | exact hcu_ | assumption)⟩)) (by (exact zo_1069 hc_23 hlt_19 i17_))
                                · skip
                                  have hm2_ := ha86_0_hp0_N63_
                                  have hq4_ : ¬ (zisg b_ n_ (ze N35_ 1 2).toNat 42 ∨ zisg b_ n_ (ze N35_ 1 2).toNat 43 ∨ zisg b_ n_ (ze N35_ 1 2).toNat 45) := fun q_ => q_.elim hm2_ (fun q_ => q_.elim hm0_ hm1_)
                                  show zW l m_Reader_readSum (zn Mz + 0, zw Mz + 0) N35_ 89 [some (.ref 4), some (.ref (d_ + 0)), some (.ref (d_ + 33)), some (.int (Int32.ofInt 1)), some (.int (Int32.ofInt u14_))] [.int (Int32.ofInt 0)] _
                                  refine zr_if_eq (pc := 89) (tgt := 96) ⟨(by decide), (by decide)⟩ (by decide) (zdal_p dlA_Reader_readSum_110 (i := 21) rfl) (fun hc_89 => ?_) (fun hc_89 => ?_)
                                  · skip
                                    refine zw_iconst (pc := 96) (v := Int32.ofInt 0) (by decide) (zdal_p dlA_Reader_readSum_111 (i := 0) rfl) ?_
                                    refine zw_istore_n (pc := 97) (i := 3) (L2 := [some (.ref 4), some (.ref (d_ + 0)), some (.ref (d_ + 33)), some (.int (Int32.ofInt 0)), some (.int (Int32.ofInt u14_))]) rfl (by decide) rfl d_Reader_readSum_97 ?_
                                    refine zw_iload_n (pc := 98) (n := 3) (x := Int32.ofInt 0) rfl d_Reader_readSum_98 ?_
                                    refine zr_if_eq (pc := 99) (tgt := 120) ⟨(by decide), (by decide)⟩ (by decide) d_Reader_readSum_99 (fun hc_99 => ?_) (fun hc_99 => ?_)
                                    · skip
                                      refine zr_iinc (pc := 120) (i := 4) (a := u14_) (n := 1) (L2 := [some (.ref 4), some (.ref (d_ + 0)), some (.ref (d_ + 33)), some (.int (Int32.ofInt 0)), some (.int (Int32.ofInt (u14_ + 1)))]) rfl (by decide) rfl d_Reader_readSum_120 ?_
                                      refine zw_goto (pc := 123) (tgt := 19) (by decide) d_Reader_readSum_123 ?_
                                      have hnmu_ := p3_.l hf_N35_ (by first | exact hlu_ | exact hlz_) hF27_ (by decide)
                                      exact ih_19 0 (by decide) (by decide) (by (decide)) (u14_ + 1) (by (exact zo_74 i17_)) (by (exact zo_1055 hc_23)) N35_ hb0_N35_ (show 0 ≤ (u14_ + 1) by first | with_reducible assumption | (exact zo_76 i17_) | assumption) (show (u14_ + 1) ≤ ze N35_ 4 1 by first | with_reducible assumption | (exact zo_1072 eA4_1_N35_ ha32_3_hp1_N26_ ha40_3_hp1_N31_ hc_23 i18_ rA4_1_N31_.1) | assumption) (show ze N35_ 4 1 ≤ 30 by first | with_reducible assumption | (exact zo_773 eA4_1_N35_ ha40_4_hp1_N31_) | assumption) (show zLow d_ Mz N35_ by first | exact hlu_ | exact hlz_) hp0_N35_ hnmu_ (show ((0 : Int) = 1 ∧ zRea (zfs b_ n_ F_ K_ nm_) (0, (ze Mz 1 2).toNat, [], [], 0, false) (zKst 0 F_ d_ N35_) ∧ zCI F_ K_ d_ 0 N35_) ∨ ((0 : Int) = 0 ∧ zRea (zfs b_ n_ F_ K_ nm_) (0, (ze Mz 1 2).toNat, [], [], 0, false) (zKst 2 F_ d_ N35_) ∧ zCI F_ K_ d_ 1 N35_ ∧ (zkS d_ N35_).head? ≠ some 1 ∧ ¬ (zisg b_ n_ (ze N35_ 1 2).toNat 42 ∨ zisg b_ n_ (ze N35_ 1 2).toNat 43 ∨ zisg b_ n_ (ze N35_ 1 2).toNat 45) ∧ ¬ (zisg b_ n_ (ze N35_ 1 2).toNat 41 ∧ 0 ∈ zkS d_ N35_)) from Or.inr (⟨(show (0 : Int) = 0 by first | rfl | with_reducible assumption | exact hst1_ | exact hcu_ | assumption), (show zRea (zfs b_ n_ F_ K_ nm_) (0, (ze Mz 1 2).toNat, [], [], 0, false) (zKst 2 F_ d_ N35_) by first | rfl | with_reducible assumption | exact hst1_ | exact hcu_ | assumption), (show zCI F_ K_ d_ 1 N35_ by first | rfl | with_reducible assumption | exact hst1_ | exact hcu_ | assumption), (show (zkS d_ N35_).head? ≠ some 1 by first | rfl | with_reducible assumption | exact hst1_ | exact hcu_ | assumption), (show ¬ (zisg b_ n_ (ze N35_ 1 2).toNat 42 ∨ zisg b_ n_ (ze N35_ 1 2).toNat 43 ∨ zisg b_ n_ (ze N35_ 1 2).toNat 45) by first | rfl | with_reducible assumption | exact hst1_ | exact hcu_ | assumption), (show ¬ (zisg b_ n_ (ze N35_ 1 2).toNat 41 ∧ 0 ∈ zkS d_ N35_) by first | rfl | with_reducible assumption | exact hst1_ | exact hcu_ | assumption)⟩)) (by (exact zo_1069 hc_23 hlt_19 i17_))
                                    · skip
                                      exact absurd hc_99 (by decide)
                                  · skip
                                    exact absurd hc_89 (by decide)
                      · skip
                        exact absurd hc_51 (by decide)
                    · skip
                      have hrt_ := hy0_.tr ha48_0_hp1_N35_
                      show zW l m_Reader_readSum (zn Mz + 0, zw Mz + 0) N35_ 51 [some (.ref 4), some (.ref (d_ + 0)), some (.ref (d_ + 33)), some (.int (Int32.ofInt 1)), some (.int (Int32.ofInt u14_))] [.int (Int32.ofInt 0)] _
                      refine zr_if_ne (pc := 51) (tgt := 56) ⟨(by decide), (by decide)⟩ (by decide) (zdal_p dlA_Reader_readSum_110 (i := 4) rfl) (fun hc_51 => ?_) (fun hc_51 => ?_)
                      · skip
                        exact absurd hc_51 (by decide)
                      · skip
                        refine zw_iconst (pc := 54) (v := Int32.ofInt 0) (by decide) d_Reader_readSum_54 ?_
                        exact zk_iret (pc := 55) (ty := .boolean) rfl (z_narB (by (decide))) ⟨by (exact hv36_a), by (exact hv36_b)⟩ hf_N35_ ⟨hp0_N35_, (show ((0 = 1 ∧ zRea (zfs b_ n_ F_ K_ nm_) (0, (ze Mz 1 2).toNat, [], [], 0, false) (zKst 3 F_ d_ N35_) ∧ zCI F_ K_ d_ 1 N35_ ∧ zLow d_ Mz N35_ ∧ zkS d_ N35_ = []) ∨ (0 = 0 ∧ zRea (zfs b_ n_ F_ K_ nm_) (0, (ze Mz 1 2).toNat, [], [], 0, false) zFt)) from Or.inr (⟨(show 0 = 0 by first | rfl | exact hrt_ | exact hr2_.tr (zRea.st (zs2_f (F := F_) (d := d_) (b := b_) (n := n_) (K := K_) (nm := nm_) hn4_ hn1_ (hc2_.m.mp (by omega)))) | (exfalso; omega)), (show zRea (zfs b_ n_ F_ K_ nm_) (0, (ze Mz 1 2).toNat, [], [], 0, false) zFt by first | rfl | exact hrt_ | exact hr2_.tr (zRea.st (zs2_f (F := F_) (d := d_) (b := b_) (n := n_) (K := K_) (nm := nm_) hn4_ hn1_ (hc2_.m.mp (by omega)))) | (exfalso; omega))⟩))⟩ d_Reader_readSum_55
                · skip
                  have hrt_ := hx0_.tr ha40_0_hp1_N31_
                  show zW l m_Reader_readSum (zn Mz + 0, zw Mz + 0) N31_ 43 [some (.ref 4), some (.ref (d_ + 0)), some (.ref (d_ + 33)), some (.int (Int32.ofInt 1)), some (.int (Int32.ofInt u14_))] [.int (Int32.ofInt 0)] _
                  refine zr_if_eq (pc := 43) (tgt := 54) ⟨(by decide), (by decide)⟩ (by decide) (zdal_p dlA_Reader_readSum_110 (i := 0) rfl) (fun hc_43 => ?_) (fun hc_43 => ?_)
                  · skip
                    refine zw_iconst (pc := 54) (v := Int32.ofInt 0) (by decide) d_Reader_readSum_54 ?_
                    exact zk_iret (pc := 55) (ty := .boolean) rfl (z_narB (by (decide))) ⟨by (exact hv32_a), by (exact hv32_b)⟩ hf_N31_ ⟨hp0_N31_, (show ((0 = 1 ∧ zRea (zfs b_ n_ F_ K_ nm_) (0, (ze Mz 1 2).toNat, [], [], 0, false) (zKst 3 F_ d_ N31_) ∧ zCI F_ K_ d_ 1 N31_ ∧ zLow d_ Mz N31_ ∧ zkS d_ N31_ = []) ∨ (0 = 0 ∧ zRea (zfs b_ n_ F_ K_ nm_) (0, (ze Mz 1 2).toNat, [], [], 0, false) zFt)) from Or.inr (⟨(show 0 = 0 by first | rfl | exact hrt_ | exact hr2_.tr (zRea.st (zs2_f (F := F_) (d := d_) (b := b_) (n := n_) (K := K_) (nm := nm_) hn4_ hn1_ (hc2_.m.mp (by omega)))) | (exfalso; omega)), (show zRea (zfs b_ n_ F_ K_ nm_) (0, (ze Mz 1 2).toNat, [], [], 0, false) zFt by first | rfl | exact hrt_ | exact hr2_.tr (zRea.st (zs2_f (F := F_) (d := d_) (b := b_) (n := n_) (K := K_) (nm := nm_) hn4_ hn1_ (hc2_.m.mp (by omega)))) | (exfalso; omega))⟩))⟩ d_Reader_readSum_55
                  · skip
                    exact absurd hc_43 (by decide)
            · skip
              have hrt_ := hr0_.tr ha32_0_hp1_N26_
              show zW l m_Reader_readSum (zn Mz + 0, zw Mz + 0) N26_ 35 [some (.ref 4), some (.ref (d_ + 0)), some (.ref (d_ + 33)), some (.int (Int32.ofInt 1)), some (.int (Int32.ofInt u14_))] [.int (Int32.ofInt 0)] _
              refine zr_if_eq (pc := 35) (tgt := 54) ⟨(by decide), (by decide)⟩ (by decide) (zdal_p dlA_Reader_readSum_109 (i := 20) rfl) (fun hc_35 => ?_) (fun hc_35 => ?_)
              · skip
                refine zw_iconst (pc := 54) (v := Int32.ofInt 0) (by decide) d_Reader_readSum_54 ?_
                exact zk_iret (pc := 55) (ty := .boolean) rfl (z_narB (by (decide))) ⟨by (exact hv27_a), by (exact hv27_b)⟩ hf_N26_ ⟨hp0_N26_, (show ((0 = 1 ∧ zRea (zfs b_ n_ F_ K_ nm_) (0, (ze Mz 1 2).toNat, [], [], 0, false) (zKst 3 F_ d_ N26_) ∧ zCI F_ K_ d_ 1 N26_ ∧ zLow d_ Mz N26_ ∧ zkS d_ N26_ = []) ∨ (0 = 0 ∧ zRea (zfs b_ n_ F_ K_ nm_) (0, (ze Mz 1 2).toNat, [], [], 0, false) zFt)) from Or.inr (⟨(show 0 = 0 by first | rfl | exact hrt_ | exact hr2_.tr (zRea.st (zs2_f (F := F_) (d := d_) (b := b_) (n := n_) (K := K_) (nm := nm_) hn4_ hn1_ (hc2_.m.mp (by omega)))) | (exfalso; omega)), (show zRea (zfs b_ n_ F_ K_ nm_) (0, (ze Mz 1 2).toNat, [], [], 0, false) zFt by first | rfl | exact hrt_ | exact hr2_.tr (zRea.st (zs2_f (F := F_) (d := d_) (b := b_) (n := n_) (K := K_) (nm := nm_) hn4_ hn1_ (hc2_.m.mp (by omega)))) | (exfalso; omega))⟩))⟩ d_Reader_readSum_55
              · skip
                exact absurd hc_35 (by decide)
      · skip
        have hr2_ := hl19_0_i23_
        have hc2_ := hl19_1_i23_
        have hh2_ := hl19_2_i23_
        have hn4_ := hl19_3_i23_
        have hn1_ := hl19_4_i23_
        have hlow_ := (show zLow d_ Mz N15_ by first | with_reducible assumption | assumption)
        refine zw_iload (pc := 19) (i := 4) (x := Int32.ofInt u14_) rfl (zdal_p dlA_Reader_readSum_109 (i := 12) rfl) ?_
        refine zw_bipush (pc := 21) (v := Int32.ofInt 30) (by decide) (zdal_p dlA_Reader_readSum_109 (i := 13) rfl) ?_
        refine zr_icmp_gt (pc := 23) (tgt := 126) ⟨hu14_a, hu14_b⟩ ⟨(by decide), (by decide)⟩ (by decide) (zdal_p dlA_Reader_readSum_109 (i := 14) rfl) (fun hc_23 => ?_) (fun hc_23 => ?_)
        · skip
          refine zw_aload_n (pc := 126) (n := 2) (x := (d_ + 33)) rfl (zdal_p dlA_Reader_readSum_111 (i := 14) rfl) ?_
          refine zk_getI (pc := 127) f_Reader_142 rfl ((hf_N15_.w hW).kr (o := 33) (by decide)) (zdal_p dlA_Reader_readSum_111 (i := 15) rfl) ?_
          refine zr_if_le (pc := 130) (tgt := 139) ⟨(ze_r N15_ (d_ + 33) 5).1, (ze_r N15_ (d_ + 33) 5).2⟩ (by decide) (zdal_p dlA_Reader_readSum_111 (i := 16) rfl) (fun hc_130 => ?_) (fun hc_130 => ?_)
          · skip
            have hnb_ : ¬ 0 ∈ zkS d_ N15_ := fun q_ => by have := hc2_.m.mpr q_; (exact zo_1052 hc_130 this)
            refine zw_aload_n (pc := 139) (n := 2) (x := (d_ + 33)) rfl (zdal_p dlA_Reader_readSum_111 (i := 21) rfl) ?_
            refine zw_iconst (pc := 140) (v := Int32.ofInt 0) (by decide) (zdal_p dlA_Reader_readSum_111 (i := 22) rfl) ?_
            refine zk_callV hf_N15_.x (pc := 141) [.int (Int32.ofInt 0)] [] l_Reader_145 (u_Calc_reckon l d_ N15_ (hf_N15_.w hW) 0 (by decide) (by decide) (by (exact hu13_z)) F_ K_ hA_ c25_ hc2_ (show (zkS d_ N15_).head? ≠ some 1 by first | with_reducible assumption | assumption | omega)) rfl rfl ((hf_N15_.w hW).kr (o := 33) (by decide)) (by decide) (by decide) (Nat.le_of_ble_eq_true rfl) (zdal_p dlA_Reader_readSum_111 (i := 23) rfl) ?_
            rintro _ N75_ ⟨rfl, hsN75_, ⟨hp0_N75_, hp1_N75_, hp2_N75_, hp3_N75_, hp4_N75_⟩⟩
            have hf_N75_ : zFc d_ [(1, 2), (1, 3), (1, 4), (1, 5), (4, 1), (4, 2), (4, 3)] [] [(33, 2), (33, 3), (33, 4), (33, 5), (33, 6)] [25, 27, 35] Mz N75_ := hf_N15_.tr hsN75_ (by decide) (by decide) (by decide) (by decide)
            have eA1_2_N75_ : ze N75_ 1 2 = ze N15_ 1 2 := hsN75_.ea (hf_N15_.w hW) (by decide)
            have eA1_3_N75_ : ze N75_ 1 3 = ze N15_ 1 3 := hsN75_.ea (hf_N15_.w hW) (by decide)
            have eA1_5_N75_ : ze N75_ 1 5 = ze N15_ 1 5 := hsN75_.ea (hf_N15_.w hW) (by decide)
            have eA4_1_N75_ : ze N75_ 4 1 = ze N15_ 4 1 := hsN75_.ea (hf_N15_.w hW) (by decide)
            have rD33_2_N75_ := ze_r N75_ (d_ + 33) 2
            have rD33_3_N75_ := ze_r N75_ (d_ + 33) 3
            have eD33_4_N75_ : ze N75_ (d_ + 33) 4 = ze N15_ (d_ + 33) 4 := hsN75_.e (by decide)
            have eD33_5_N75_ : ze N75_ (d_ + 33) 5 = ze N15_ (d_ + 33) 5 := hsN75_.e (by decide)
            have rD33_6_N75_ := ze_r N75_ (d_ + 33) 6
            have c79_ : zYt b_ n_ N75_ := zYt.fr (hf_N15_.w hW) hsN75_ i21_ (by decide)
            show zW l m_Reader_readSum (zn Mz + 0, zw Mz + 0) N75_ 144 [some (.ref 4), some (.ref (d_ + 0)), some (.ref (d_ + 33)), some (.int (Int32.ofInt 0)), some (.int (Int32.ofInt u14_))] [] _
            have hr1_ := hp1_N75_
            have hlr_ := hlow_.tr hp2_N75_
            have hr3_ := hp3_N75_
            have hr4_ := hp4_N75_
            have hcr_ := hp0_N75_
            refine zw_iconst (pc := 144) (v := Int32.ofInt 1) (by decide) (zdal_p dlA_Reader_readSum_112 (i := 0) rfl) ?_
            exact zk_iret (pc := 145) (ty := .boolean) rfl (z_narB (by (decide))) ⟨by (decide), by (decide)⟩ hf_N75_ ⟨c79_, (show ((1 = 1 ∧ zRea (zfs b_ n_ F_ K_ nm_) (0, (ze Mz 1 2).toNat, [], [], 0, false) (zKst 3 F_ d_ N75_) ∧ zCI F_ K_ d_ 1 N75_ ∧ zLow d_ Mz N75_ ∧ zkS d_ N75_ = []) ∨ (1 = 0 ∧ zRea (zfs b_ n_ F_ K_ nm_) (0, (ze Mz 1 2).toNat, [], [], 0, false) zFt)) from Or.inl (⟨(show 1 = 1 by first | rfl | exact hcr_ | exact hlr_ | exact hcr_.z (by omega) hr3_ hr4_ | exact hr2_.tr (zRea.st (zs2_e (Nz := N75_) (F := F_) (b := b_) (n := n_) (K := K_) (nm := nm_) hn4_ hnb_ hr1_ (by omega) (by omega)))), (show zRea (zfs b_ n_ F_ K_ nm_) (0, (ze Mz 1 2).toNat, [], [], 0, false) (zKst 3 F_ d_ N75_) by first | rfl | exact hcr_ | exact hlr_ | exact hcr_.z (by (exact zo_1073 eD33_5_N75_ hc_130)) hr3_ hr4_ | exact hr2_.tr (zRea.st (zs2_e (Nz := N75_) (F := F_) (b := b_) (n := n_) (K := K_) (nm := nm_) hn4_ hnb_ hr1_ (by (exact eA4_1_N75_)) (by (exact eA1_2_N75_))))), (show zCI F_ K_ d_ 1 N75_ by first | rfl | exact hcr_ | exact hlr_ | exact hcr_.z (by omega) hr3_ hr4_ | exact hr2_.tr (zRea.st (zs2_e (Nz := N75_) (F := F_) (b := b_) (n := n_) (K := K_) (nm := nm_) hn4_ hnb_ hr1_ (by omega) (by omega)))), (show zLow d_ Mz N75_ by first | rfl | exact hcr_ | exact hlr_ | exact hcr_.z (by omega) hr3_ hr4_ | exact hr2_.tr (zRea.st (zs2_e (Nz := N75_) (F := F_) (b := b_) (n := n_) (K := K_) (nm := nm_) hn4_ hnb_ hr1_ (by omega) (by omega)))), (show zkS d_ N75_ = [] by first | rfl | exact hcr_ | exact hlr_ | exact hcr_.z (by (exact zo_1073 eD33_5_N75_ hc_130)) hr3_ hr4_ | exact hr2_.tr (zRea.st (zs2_e (Nz := N75_) (F := F_) (b := b_) (n := n_) (K := K_) (nm := nm_) hn4_ hnb_ hr1_ (by omega) (by omega))))⟩))⟩ (zdal_p dlA_Reader_readSum_112 (i := 1) rfl)
          · skip
            refine zw_aload_n (pc := 133) (n := 0) (x := 4) rfl (zdal_p dlA_Reader_readSum_111 (i := 17) rfl) ?_
            refine zw_iconst (pc := 134) (v := Int32.ofInt 2) (by decide) (zdal_p dlA_Reader_readSum_111 (i := 18) rfl) ?_
            refine zk_callV hf_N15_.x (pc := 135) [.int (Int32.ofInt 2)] [] l_Reader_41 (u_Reader_refuse l d_ N15_ (hf_N15_.w hW) 2 (by decide) (by decide)) rfl rfl ((hf_N15_.w hW).ka (o := 4) (by decide)) (by decide) (by decide) (Nat.le_of_ble_eq_true rfl) (zdal_p dlA_Reader_readSum_111 (i := 19) rfl) ?_
            rintro _ N80_ ⟨v81_, rfl, ⟨hv81_a, hv81_b⟩, hsN80_, hp0_N80_⟩
            replace hp0_N80_ : ((v81_ = 0)) := hp0_N80_
            have hf_N80_ : zFc d_ [(1, 2), (1, 3), (1, 4), (1, 5), (4, 1), (4, 2), (4, 3)] [] [(33, 2), (33, 3), (33, 4), (33, 5), (33, 6)] [25, 27, 35] Mz N80_ := hf_N15_.tr hsN80_ (by decide) (by decide) (by decide) (by decide)
            have eA1_2_N80_ : ze N80_ 1 2 = ze N15_ 1 2 := hsN80_.ea (hf_N15_.w hW) (by decide)
            have eA1_3_N80_ : ze N80_ 1 3 = ze N15_ 1 3 := hsN80_.ea (hf_N15_.w hW) (by decide)
            have eA1_5_N80_ : ze N80_ 1 5 = ze N15_ 1 5 := hsN80_.ea (hf_N15_.w hW) (by decide)
            have eA4_1_N80_ : ze N80_ 4 1 = ze N15_ 4 1 := hsN80_.ea (hf_N15_.w hW) (by decide)
            have eD33_2_N80_ : ze N80_ (d_ + 33) 2 = ze N15_ (d_ + 33) 2 := hsN80_.e (by decide)
            have eD33_3_N80_ : ze N80_ (d_ + 33) 3 = ze N15_ (d_ + 33) 3 := hsN80_.e (by decide)
            have eD33_4_N80_ : ze N80_ (d_ + 33) 4 = ze N15_ (d_ + 33) 4 := hsN80_.e (by decide)
            have eD33_5_N80_ : ze N80_ (d_ + 33) 5 = ze N15_ (d_ + 33) 5 := hsN80_.e (by decide)
            have eD33_6_N80_ : ze N80_ (d_ + 33) 6 = ze N15_ (d_ + 33) 6 := hsN80_.e (by decide)
            have c84_ : zYt b_ n_ N80_ := zYt.fr (hf_N15_.w hW) hsN80_ i21_ (by decide)
            rcases hp0_N80_ with rfl
            · skip
              show zW l m_Reader_readSum (zn Mz + 0, zw Mz + 0) N80_ 138 [some (.ref 4), some (.ref (d_ + 0)), some (.ref (d_ + 33)), some (.int (Int32.ofInt 0)), some (.int (Int32.ofInt u14_))] [.int (Int32.ofInt 0)] _
              exact zk_iret (pc := 138) (ty := .boolean) rfl (z_narB (by (exact hu13_z))) ⟨by (exact hu13_a), by (exact hu13_b)⟩ hf_N80_ ⟨c84_, (show ((0 = 1 ∧ zRea (zfs b_ n_ F_ K_ nm_) (0, (ze Mz 1 2).toNat, [], [], 0, false) (zKst 3 F_ d_ N80_) ∧ zCI F_ K_ d_ 1 N80_ ∧ zLow d_ Mz N80_ ∧ zkS d_ N80_ = []) ∨ (0 = 0 ∧ zRea (zfs b_ n_ F_ K_ nm_) (0, (ze Mz 1 2).toNat, [], [], 0, false) zFt)) from Or.inr (⟨(show 0 = 0 by first | rfl | exact hrt_ | exact hr2_.tr (zRea.st (zs2_f (F := F_) (d := d_) (b := b_) (n := n_) (K := K_) (nm := nm_) hn4_ hn1_ (hc2_.m.mp (by omega)))) | (exfalso; omega)), (show zRea (zfs b_ n_ F_ K_ nm_) (0, (ze Mz 1 2).toNat, [], [], 0, false) zFt by first | rfl | exact hrt_ | exact hr2_.tr (zRea.st (zs2_f (F := F_) (d := d_) (b := b_) (n := n_) (K := K_) (nm := nm_) hn4_ hn1_ (hc2_.m.mp (by (exact hc_130))))) | (exfalso; omega))⟩))⟩ (zdal_p dlA_Reader_readSum_111 (i := 20) rfl)
        · skip
          refine zw_iload_n (pc := 26) (n := 3) (x := Int32.ofInt 0) rfl (zdal_p dlA_Reader_readSum_109 (i := 15) rfl) ?_
          refine zr_if_eq (pc := 27) (tgt := 126) ⟨(by decide), (by decide)⟩ (by decide) (zdal_p dlA_Reader_readSum_109 (i := 16) rfl) (fun hc_27 => ?_) (fun hc_27 => ?_)
          · skip
            refine zw_aload_n (pc := 126) (n := 2) (x := (d_ + 33)) rfl (zdal_p dlA_Reader_readSum_111 (i := 14) rfl) ?_
            refine zk_getI (pc := 127) f_Reader_142 rfl ((hf_N15_.w hW).kr (o := 33) (by decide)) (zdal_p dlA_Reader_readSum_111 (i := 15) rfl) ?_
            refine zr_if_le (pc := 130) (tgt := 139) ⟨(ze_r N15_ (d_ + 33) 5).1, (ze_r N15_ (d_ + 33) 5).2⟩ (by decide) (zdal_p dlA_Reader_readSum_111 (i := 16) rfl) (fun hc_130 => ?_) (fun hc_130 => ?_)
            · skip
              have hnb_ : ¬ 0 ∈ zkS d_ N15_ := fun q_ => by have := hc2_.m.mpr q_; (exact zo_1052 hc_130 this)
              refine zw_aload_n (pc := 139) (n := 2) (x := (d_ + 33)) rfl (zdal_p dlA_Reader_readSum_111 (i := 21) rfl) ?_
              refine zw_iconst (pc := 140) (v := Int32.ofInt 0) (by decide) (zdal_p dlA_Reader_readSum_111 (i := 22) rfl) ?_
              refine zk_callV hf_N15_.x (pc := 141) [.int (Int32.ofInt 0)] [] l_Reader_145 (u_Calc_reckon l d_ N15_ (hf_N15_.w hW) 0 (by decide) (by decide) (by (exact hu13_z)) F_ K_ hA_ c25_ hc2_ (show (zkS d_ N15_).head? ≠ some 1 by first | with_reducible assumption | assumption | omega)) rfl rfl ((hf_N15_.w hW).kr (o := 33) (by decide)) (by decide) (by decide) (Nat.le_of_ble_eq_true rfl) (zdal_p dlA_Reader_readSum_111 (i := 23) rfl) ?_
              rintro _ N87_ ⟨rfl, hsN87_, ⟨hp0_N87_, hp1_N87_, hp2_N87_, hp3_N87_, hp4_N87_⟩⟩
              have hf_N87_ : zFc d_ [(1, 2), (1, 3), (1, 4), (1, 5), (4, 1), (4, 2), (4, 3)] [] [(33, 2), (33, 3), (33, 4), (33, 5), (33, 6)] [25, 27, 35] Mz N87_ := hf_N15_.tr hsN87_ (by decide) (by decide) (by decide) (by decide)
              have eA1_2_N87_ : ze N87_ 1 2 = ze N15_ 1 2 := hsN87_.ea (hf_N15_.w hW) (by decide)
              have eA1_3_N87_ : ze N87_ 1 3 = ze N15_ 1 3 := hsN87_.ea (hf_N15_.w hW) (by decide)
              have eA1_5_N87_ : ze N87_ 1 5 = ze N15_ 1 5 := hsN87_.ea (hf_N15_.w hW) (by decide)
              have eA4_1_N87_ : ze N87_ 4 1 = ze N15_ 4 1 := hsN87_.ea (hf_N15_.w hW) (by decide)
              have rD33_2_N87_ := ze_r N87_ (d_ + 33) 2
              have rD33_3_N87_ := ze_r N87_ (d_ + 33) 3
              have eD33_4_N87_ : ze N87_ (d_ + 33) 4 = ze N15_ (d_ + 33) 4 := hsN87_.e (by decide)
              have eD33_5_N87_ : ze N87_ (d_ + 33) 5 = ze N15_ (d_ + 33) 5 := hsN87_.e (by decide)
              have rD33_6_N87_ := ze_r N87_ (d_ + 33) 6
              have c91_ : zYt b_ n_ N87_ := zYt.fr (hf_N15_.w hW) hsN87_ i21_ (by decide)
              show zW l m_Reader_readSum (zn Mz + 0, zw Mz + 0) N87_ 144 [some (.ref 4), some (.ref (d_ + 0)), some (.ref (d_ + 33)), some (.int (Int32.ofInt 0)), some (.int (Int32.ofInt u14_))] [] _
              have hr1_ := hp1_N87_
              have hlr_ := hlow_.tr hp2_N87_
              have hr3_ := hp3_N87_
              have hr4_ := hp4_N87_
              have hcr_ := hp0_N87_
              refine zw_iconst (pc := 144) (v := Int32.ofInt 1) (by decide) (zdal_p dlA_Reader_readSum_112 (i := 0) rfl) ?_
              exact zk_iret (pc := 145) (ty := .boolean) rfl (z_narB (by (decide))) ⟨by (decide), by (decide)⟩ hf_N87_ ⟨c91_, (show ((1 = 1 ∧ zRea (zfs b_ n_ F_ K_ nm_) (0, (ze Mz 1 2).toNat, [], [], 0, false) (zKst 3 F_ d_ N87_) ∧ zCI F_ K_ d_ 1 N87_ ∧ zLow d_ Mz N87_ ∧ zkS d_ N87_ = []) ∨ (1 = 0 ∧ zRea (zfs b_ n_ F_ K_ nm_) (0, (ze Mz 1 2).toNat, [], [], 0, false) zFt)) from Or.inl (⟨(show 1 = 1 by first | rfl | exact hcr_ | exact hlr_ | exact hcr_.z (by omega) hr3_ hr4_ | exact hr2_.tr (zRea.st (zs2_e (Nz := N87_) (F := F_) (b := b_) (n := n_) (K := K_) (nm := nm_) hn4_ hnb_ hr1_ (by omega) (by omega)))), (show zRea (zfs b_ n_ F_ K_ nm_) (0, (ze Mz 1 2).toNat, [], [], 0, false) (zKst 3 F_ d_ N87_) by first | rfl | exact hcr_ | exact hlr_ | exact hcr_.z (by (exact zo_1073 eD33_5_N87_ hc_130)) hr3_ hr4_ | exact hr2_.tr (zRea.st (zs2_e (Nz := N87_) (F := F_) (b := b_) (n := n_) (K := K_) (nm := nm_) hn4_ hnb_ hr1_ (by (exact eA4_1_N87_)) (by (exact eA1_2_N87_))))), (show zCI F_ K_ d_ 1 N87_ by first | rfl | exact hcr_ | exact hlr_ | exact hcr_.z (by omega) hr3_ hr4_ | exact hr2_.tr (zRea.st (zs2_e (Nz := N87_) (F := F_) (b := b_) (n := n_) (K := K_) (nm := nm_) hn4_ hnb_ hr1_ (by omega) (by omega)))), (show zLow d_ Mz N87_ by first | rfl | exact hcr_ | exact hlr_ | exact hcr_.z (by omega) hr3_ hr4_ | exact hr2_.tr (zRea.st (zs2_e (Nz := N87_) (F := F_) (b := b_) (n := n_) (K := K_) (nm := nm_) hn4_ hnb_ hr1_ (by omega) (by omega)))), (show zkS d_ N87_ = [] by first | rfl | exact hcr_ | exact hlr_ | exact hcr_.z (by (exact zo_1073 eD33_5_N87_ hc_130)) hr3_ hr4_ | exact hr2_.tr (zRea.st (zs2_e (Nz := N87_) (F := F_) (b := b_) (n := n_) (K := K_) (nm := nm_) hn4_ hnb_ hr1_ (by omega) (by omega))))⟩))⟩ (zdal_p dlA_Reader_readSum_112 (i := 1) rfl)
            · skip
              refine zw_aload_n (pc := 133) (n := 0) (x := 4) rfl (zdal_p dlA_Reader_readSum_111 (i := 17) rfl) ?_
              refine zw_iconst (pc := 134) (v := Int32.ofInt 2) (by decide) (zdal_p dlA_Reader_readSum_111 (i := 18) rfl) ?_
              refine zk_callV hf_N15_.x (pc := 135) [.int (Int32.ofInt 2)] [] l_Reader_41 (u_Reader_refuse l d_ N15_ (hf_N15_.w hW) 2 (by decide) (by decide)) rfl rfl ((hf_N15_.w hW).ka (o := 4) (by decide)) (by decide) (by decide) (Nat.le_of_ble_eq_true rfl) (zdal_p dlA_Reader_readSum_111 (i := 19) rfl) ?_
              rintro _ N92_ ⟨v93_, rfl, ⟨hv93_a, hv93_b⟩, hsN92_, hp0_N92_⟩
              replace hp0_N92_ : ((v93_ = 0)) := hp0_N92_
              have hf_N92_ : zFc d_ [(1, 2), (1, 3), (1, 4), (1, 5), (4, 1), (4, 2), (4, 3)] [] [(33, 2), (33, 3), (33, 4), (33, 5), (33, 6)] [25, 27, 35] Mz N92_ := hf_N15_.tr hsN92_ (by decide) (by decide) (by decide) (by decide)
              have eA1_2_N92_ : ze N92_ 1 2 = ze N15_ 1 2 := hsN92_.ea (hf_N15_.w hW) (by decide)
              have eA1_3_N92_ : ze N92_ 1 3 = ze N15_ 1 3 := hsN92_.ea (hf_N15_.w hW) (by decide)
              have eA1_5_N92_ : ze N92_ 1 5 = ze N15_ 1 5 := hsN92_.ea (hf_N15_.w hW) (by decide)
              have eA4_1_N92_ : ze N92_ 4 1 = ze N15_ 4 1 := hsN92_.ea (hf_N15_.w hW) (by decide)
              have eD33_2_N92_ : ze N92_ (d_ + 33) 2 = ze N15_ (d_ + 33) 2 := hsN92_.e (by decide)
              have eD33_3_N92_ : ze N92_ (d_ + 33) 3 = ze N15_ (d_ + 33) 3 := hsN92_.e (by decide)
              have eD33_4_N92_ : ze N92_ (d_ + 33) 4 = ze N15_ (d_ + 33) 4 := hsN92_.e (by decide)
              have eD33_5_N92_ : ze N92_ (d_ + 33) 5 = ze N15_ (d_ + 33) 5 := hsN92_.e (by decide)
              have eD33_6_N92_ : ze N92_ (d_ + 33) 6 = ze N15_ (d_ + 33) 6 := hsN92_.e (by decide)
              have c96_ : zYt b_ n_ N92_ := zYt.fr (hf_N15_.w hW) hsN92_ i21_ (by decide)
              rcases hp0_N92_ with rfl
              · skip
                show zW l m_Reader_readSum (zn Mz + 0, zw Mz + 0) N92_ 138 [some (.ref 4), some (.ref (d_ + 0)), some (.ref (d_ + 33)), some (.int (Int32.ofInt 0)), some (.int (Int32.ofInt u14_))] [.int (Int32.ofInt 0)] _
                exact zk_iret (pc := 138) (ty := .boolean) rfl (z_narB (by (exact hu13_z))) ⟨by (exact hu13_a), by (exact hu13_b)⟩ hf_N92_ ⟨c96_, (show ((0 = 1 ∧ zRea (zfs b_ n_ F_ K_ nm_) (0, (ze Mz 1 2).toNat, [], [], 0, false) (zKst 3 F_ d_ N92_) ∧ zCI F_ K_ d_ 1 N92_ ∧ zLow d_ Mz N92_ ∧ zkS d_ N92_ = []) ∨ (0 = 0 ∧ zRea (zfs b_ n_ F_ K_ nm_) (0, (ze Mz 1 2).toNat, [], [], 0, false) zFt)) from Or.inr (⟨(show 0 = 0 by first | rfl | exact hrt_ | exact hr2_.tr (zRea.st (zs2_f (F := F_) (d := d_) (b := b_) (n := n_) (K := K_) (nm := nm_) hn4_ hn1_ (hc2_.m.mp (by omega)))) | (exfalso; omega)), (show zRea (zfs b_ n_ F_ K_ nm_) (0, (ze Mz 1 2).toNat, [], [], 0, false) zFt by first | rfl | exact hrt_ | exact hr2_.tr (zRea.st (zs2_f (F := F_) (d := d_) (b := b_) (n := n_) (K := K_) (nm := nm_) hn4_ hn1_ (hc2_.m.mp (by (exact hc_130))))) | (exfalso; omega))⟩))⟩ (zdal_p dlA_Reader_readSum_111 (i := 20) rfl)
          · skip
            exact absurd hc_27 (by decide)
  exact lp_19 _ 1 (by decide) (by decide) (by (decide)) 0 (by decide) (by decide) N7_ zFc.rf (show 0 ≤ (0 : Int) by first | with_reducible assumption | (decide) | assumption) (show (0 : Int) ≤ ze N7_ 4 1 by first | with_reducible assumption | (exact zo_718 hvN7_) | assumption) (show ze N7_ 4 1 ≤ 30 by first | with_reducible assumption | (exact zo_1074 hvN7_) | assumption) (show zLow d_ Mz N7_ by exact hlw0_) c9_ c11_ (show ((1 : Int) = 1 ∧ zRea (zfs b_ n_ F_ K_ nm_) (0, (ze Mz 1 2).toNat, [], [], 0, false) (zKst 0 F_ d_ N7_) ∧ zCI F_ K_ d_ 0 N7_) ∨ ((1 : Int) = 0 ∧ zRea (zfs b_ n_ F_ K_ nm_) (0, (ze Mz 1 2).toNat, [], [], 0, false) (zKst 2 F_ d_ N7_) ∧ zCI F_ K_ d_ 1 N7_ ∧ (zkS d_ N7_).head? ≠ some 1 ∧ ¬ (zisg b_ n_ (ze N7_ 1 2).toNat 42 ∨ zisg b_ n_ (ze N7_ 1 2).toNat 43 ∨ zisg b_ n_ (ze N7_ 1 2).toNat 45) ∧ ¬ (zisg b_ n_ (ze N7_ 1 2).toNat 41 ∧ 0 ∈ zkS d_ N7_)) from Or.inl (⟨(show (1 : Int) = 1 by first | rfl | with_reducible assumption | exact hst0_ | assumption), (show zRea (zfs b_ n_ F_ K_ nm_) (0, (ze Mz 1 2).toNat, [], [], 0, false) (zKst 0 F_ d_ N7_) by first | rfl | with_reducible assumption | exact hst0_ | assumption), (show zCI F_ K_ d_ 0 N7_ by first | rfl | with_reducible assumption | exact hst0_ | assumption)⟩)) (Nat.lt_succ_self _)
def zrg {α : Type} (stp : α → α) : Nat → α → α
  | 0, s => s
  | n + 1, s => zrg stp n (stp s)
def zRg {α : Type} (stp : α → α) (s t : α) : Prop := ∃ n, zrg stp n s = t
theorem zrg_add {α : Type} {stp : α → α} : ∀ (n m : Nat) (s : α), zrg stp (n + m) s = zrg stp m (zrg stp n s)
  | 0, m, s => by rw [Nat.zero_add]; rfl
  | n + 1, m, s => by
    rw [show n + 1 + m = (n + m) + 1 by omega]
    exact zrg_add n m (stp s)
theorem zRg.rf {α : Type} {stp : α → α} {s : α} : zRg stp s s := ⟨0, rfl⟩
theorem zRg.tr {α : Type} {stp : α → α} {s t u : α} (h : zRg stp s t) (h2 : zRg stp t u) : zRg stp s u := by
  obtain ⟨n, rfl⟩ := h
  obtain ⟨m, rfl⟩ := h2
  exact ⟨n + m, zrg_add n m s⟩
theorem zRg.st {α : Type} {stp : α → α} {s t : α} (h : stp s = t) : zRg stp s t := ⟨1, h⟩
theorem zrg_fix {α : Type} {stp : α → α} {t : α} (h : stp t = t) : ∀ n, zrg stp n t = t
  | 0 => rfl
  | n + 1 => by
    show zrg stp n (stp t) = t
    rw [h]
    exact zrg_fix h n
theorem zRg.end {α : Type} {stp : α → α} {s t u : α} (h : zRg stp s t) (h2 : zRg stp s u) (ht : stp t = t) (hu : stp u = u) : t = u := by
  obtain ⟨n, rfl⟩ := h
  obtain ⟨m, rfl⟩ := h2
  rcases Nat.le_total n m with e | e
  · obtain ⟨k, rfl⟩ := Nat.exists_eq_add_of_le e
    rw [zrg_add, zrg_fix ht]
  · obtain ⟨k, rfl⟩ := Nat.exists_eq_add_of_le e
    rw [zrg_add, zrg_fix hu]
noncomputable def zfe (stp : zFst → zFst) (s : zFst) : zFst := @dite _ (∃ t, zRea stp s t ∧ stp t = t) (Classical.propDecidable _) (fun h => Classical.choose h) (fun _ => zFt)
theorem zfe_s {stp : zFst → zFst} {s t : zFst} (h : zRea stp s t) (ht : stp t = t) : zfe stp s = t := by
  have hx : ∃ t, zRea stp s t ∧ stp t = t := ⟨t, h, ht⟩
  unfold zfe
  rw [dif_pos hx]
  have hc := Classical.choose_spec hx
  exact zRea.end hc.1 h hc.2 ht
abbrev zLst : Type := Nat × Nat × List (Int × (Nat → Int))
def zLf : zLst := (2, 0, [])
noncomputable def zle (b : Nat → Int) (n : Nat) (w : Int) (nm : List (Int × (Nat → Int))) : zFst → zLst
  | (3, q, _, v :: _, _, false) => zif (zisg b n q 59) (0, znx b n q, nm ++ [(w, v)]) zLf
  | _ => zLf
noncomputable def zls (b : Nat → Int) (n F : Nat) (K : Nat → Nat → Int) : zLst → zLst
  | (0, p, nm) =>
    zif (zkd b n p = 1 ∧ zkey b n p = zkw 2)
      (zif (nm.length < 8 ∧ zisn b n (znx b n p) ∧ zfd nm (zkey b n (znx b n p)) = none ∧ zisg b n (znx b n (znx b n p)) 61)
        (zle b n (zkey b n (znx b n p)) nm (zfe (zfs b n F K nm) (0, znx b n (znx b n (znx b n p)), [], [], 0, false)))
        zLf)
      (zif (zkd b n p = 0) (1, p, nm) zLf)
  | s => s
section ZLS
variable {b : Nat → Int} {n F p : Nat} {K : Nat → Nat → Int} {nm : List (Int × (Nat → Int))}
theorem zls_0 : zls b n F K (0, p, nm) = zif (zkd b n p = 1 ∧ zkey b n p = zkw 2)
      (zif (nm.length < 8 ∧ zisn b n (znx b n p) ∧ zfd nm (zkey b n (znx b n p)) = none ∧ zisg b n (znx b n (znx b n p)) 61)
        (zle b n (zkey b n (znx b n p)) nm (zfe (zfs b n F K nm) (0, znx b n (znx b n (znx b n p)), [], [], 0, false)))
        zLf)
      (zif (zkd b n p = 0) (1, p, nm) zLf) := rfl
theorem zls_1 : zls b n F K (1, p, nm) = (1, p, nm) := rfl
theorem zls_2 : zls b n F K zLf = zLf := rfl
theorem zfs_F : zfs b n F K nm zFt = zFt := rfl
theorem zls_f (h : zkd b n p = 1 ∧ zkey b n p = zkw 2) (h2 : ¬ (nm.length < 8 ∧ zisn b n (znx b n p) ∧ zfd nm (zkey b n (znx b n p)) = none ∧ zisg b n (znx b n (znx b n p)) 61)) : zls b n F K (0, p, nm) = zLf := by
  rw [zls_0, zif_t h, zif_f h2]
theorem zls_e (h : ¬ (zkd b n p = 1 ∧ zkey b n p = zkw 2)) (h0 : zkd b n p = 0) : zls b n F K (0, p, nm) = (1, p, nm) := by
  rw [zls_0, zif_f h, zif_t h0]
theorem zls_ef (h : ¬ (zkd b n p = 1 ∧ zkey b n p = zkw 2)) (h0 : zkd b n p ≠ 0) : zls b n F K (0, p, nm) = zLf := by
  rw [zls_0, zif_f h, zif_f h0]
theorem zls_g (h : zkd b n p = 1 ∧ zkey b n p = zkw 2) (h2 : nm.length < 8 ∧ zisn b n (znx b n p) ∧ zfd nm (zkey b n (znx b n p)) = none ∧ zisg b n (znx b n (znx b n p)) 61) {t : zFst} (h3 : zRea (zfs b n F K nm) (0, znx b n (znx b n (znx b n p)), [], [], 0, false) t) (ht : zfs b n F K nm t = t) : zls b n F K (0, p, nm) = zle b n (zkey b n (znx b n p)) nm t := by
  rw [zls_0, zif_t h, zif_t h2, zfe_s h3 ht]
theorem zle_f {w : Int} : zle b n w nm zFt = zLf := rfl
theorem zle_b {w : Int} {q un : Nat} {sg : List Nat} {vs : List (Nat → Int)} : zle b n w nm (3, q, sg, vs, un, true) = zLf := by
  cases vs <;> rfl
theorem zle_n {w : Int} {q un : Nat} {sg : List Nat} {vs : List (Nat → Int)} {g : Bool} (h : ¬ zisg b n q 59) : zle b n w nm (3, q, sg, vs, un, g) = zLf := by
  cases g with
  | true => exact zle_b
  | false =>
    cases vs with
    | nil => rfl
    | cons v r =>
      show zif (zisg b n q 59) (0, znx b n q, nm ++ [(w, v)]) zLf = zLf
      rw [zif_f h]
theorem zle_t {w : Int} {q un : Nat} {sg : List Nat} {v : Nat → Int} {vs : List (Nat → Int)} (h : zisg b n q 59) : zle b n w nm (3, q, sg, v :: vs, un, false) = (0, znx b n q, nm ++ [(w, v)]) := by
  show zif (zisg b n q 59) (0, znx b n q, nm ++ [(w, v)]) zLf = _
  rw [zif_t h]
end ZLS
section ZLK
variable {d F n : Nat} {b : Nat → Int} {K : Nat → Nat → Int} {nm : List (Int × (Nat → Int))} {Mz Nz : zMem} {FA : List (Nat × Nat)} {CA : List Nat} {FR : List (Nat × Nat)} {CR : List Nat}
theorem zNm.len (h : zNm nm F K d Mz) : (nm.length : Int) = ze Mz (d + 0) 6 := by
  rw [← h.2.1]
  unfold zNl
  rw [zup_l]
  have := h.1
  omega
theorem zNm.u {w : Int} (h : zNm nm F K d Mz) (h6 : ze Nz (d + 0) 6 = ze Mz (d + 0) 6 + 1) (h8 : ze Mz (d + 0) 6 ≤ 7) (hw : ze Nz (d + 37) (ze Mz (d + 0) 6).toNat = w) (ho : ∀ k : Nat, (k : Int) < ze Mz (d + 0) 6 → ze Nz (d + 37) k = ze Mz (d + 37) k) (hv : zvc F d Nz (1 + ze Mz (d + 0) 6) = zvc F d Mz 21) (hvo : ∀ k : Nat, (k : Int) < ze Mz (d + 0) 6 → zvc F d Nz (1 + k) = zvc F d Mz (1 + k)) (hf : zfit F K (zvc F d Mz 21)) : zNm (nm ++ [(w, zvc F d Mz 21)]) F K d Nz := by
  obtain ⟨a1, a2, a3⟩ := h
  refine ⟨by omega, ?_, fun k hk => ?_⟩
  · rw [← a2]
    unfold zNl
    rw [h6, show (ze Mz (d + 0) 6 + 1).toNat = (ze Mz (d + 0) 6).toNat + 1 by omega, zup_s, Nat.zero_add]
    congr 1
    · exact zup_c _ _ (fun j _ hj => by
        unfold zNe
        rw [ho j (by omega), hvo j (by omega)])
    · unfold zNe
      rw [hw, show (1 : Int) + ((ze Mz (d + 0) 6).toNat : Int) = 1 + ze Mz (d + 0) 6 by omega, hv]
  · by_cases g : (k : Int) = ze Mz (d + 0) 6
    · rw [g, hv]
      exact hf
    · rw [hvo k (by omega)]
      exact a3 k (by omega)
theorem zKst_3 (hS : zkS d Mz = []) (hI : zCI F K d 1 Mz) : ze Mz (d + 33) 3 = 1 ∧ zfit F K (zvc F d Mz 21) ∧ ((ze Mz (d + 33) 6 = 0 ∧ zKst 3 F d Mz = (3, (ze Mz 1 2).toNat, [], [zvc F d Mz 21], (ze Mz 4 1).toNat, false)) ∨ (ze Mz (d + 33) 6 = 1 ∧ zKst 3 F d Mz = (3, (ze Mz 1 2).toNat, [], [], (ze Mz 4 1).toNat, true))) := by
  obtain ⟨a1, a2, a3, a4, a5, a6, a7, a8, a9⟩ := hI
  have h3 : ze Mz (d + 33) 3 = 1 := by
    rw [hS] at a5
    exact a5
  refine ⟨h3, a9 21 (by omega) (by omega), ?_⟩
  rcases a6 with h | h
  · have hG : zkG d Mz = false := by
      unfold zkG
      rw [h]
      rfl
    refine Or.inl ⟨h, ?_⟩
    unfold zKst zkW
    rw [hS, hG]
    unfold zkV
    rw [h3]
    rfl
  · have hG : zkG d Mz = true := by
      unfold zkG
      rw [h]
      rfl
    refine Or.inr ⟨h, ?_⟩
    unfold zKst zkW
    rw [hS, hG]
    rfl
end ZLK
