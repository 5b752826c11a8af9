set_option maxHeartbeats 4000000 in
theorem u_Reader_readOperand (l : Launch) (d_ : Nat) (Mz : zMem) (hW : zKW d_ Mz) (b_ : Nat → Int) (n_ : Nat) (F_ : Nat) (K_ : Nat → Nat → Int) (hA_ : zTA F_ K_) (nm_ : List (Int × (Nat → Int))) (p0_ : zYb b_ n_ Mz) (p1_ : zYt b_ n_ Mz) (p2_ : zKm F_ K_ d_ Mz) (p3_ : zCI F_ K_ d_ 0 Mz) (p4_ : zNm nm_ F_ K_ d_ Mz) (p5_ : 0 ≤ ze Mz 4 1) (p6_ : ze Mz 4 1 ≤ 30) (p7_ : ¬ (zisg b_ n_ (ze Mz 1 2).toNat 45 ∨ zisg b_ n_ (ze Mz 1 2).toNat 40)) : zC l m_Reader_readOperand 0 0 [.ref 4, .ref (d_ + 0)] Mz (zqcI d_ [(1, 2), (1, 3), (1, 4), (1, 5), (4, 1), (4, 2), (4, 3)] [] [(33, 3)] [25] Mz (fun v N => zYt b_ n_ N ∧ (((v = 1 ∧ zRea (zfs b_ n_ F_ K_ nm_) (zKst 0 F_ d_ Mz) (zKst 1 F_ d_ N) ∧ zCI F_ K_ d_ 1 N ∧ zLow d_ Mz N ∧ ze Mz 4 1 + 1 ≤ ze N 4 1 ∧ ze N 4 1 ≤ 30) ∨ (v = 0 ∧ zRea (zfs b_ n_ F_ K_ nm_) (zKst 0 F_ d_ Mz) zFt ∧ zLow d_ Mz N))))) := by
  refine zC_of (L0 := [some (.ref 4), some (.ref (d_ + 0)), none, none, none]) md_Reader_readOperand (Nat.le_of_ble_eq_true rfl) rfl ?_ zQ0
  have hf : zFc d_ [(1, 2), (1, 3), (1, 4), (1, 5), (4, 1), (4, 2), (4, 3)] [] [(33, 3)] [25] Mz Mz := zFc.rf
  have r_A1_2 := ze_r Mz 1 2
  have r_A1_3 := ze_r Mz 1 3
  have r_A1_5 := ze_r Mz 1 5
  have r_A4_1 := ze_r Mz 4 1
  have r_D12_7 := ze_r Mz (d_ + 12) 7
  have r_D33_2 := ze_r Mz (d_ + 33) 2
  have r_D33_3 := ze_r Mz (d_ + 33) 3
  have r_D33_4 := ze_r Mz (d_ + 33) 4
  have r_D33_5 := ze_r Mz (d_ + 33) 5
  have r_D33_6 := ze_r Mz (d_ + 33) 6
  obtain ⟨⟨hF1_, hF27_⟩, hAr_⟩ := id hA_
  obtain ⟨hFc_, hKt_⟩ := id p2_
  have hb_ := p3_.b
  have hz0_ := zop0_le (zkS d_ Mz)
  have hq0_ := p1_.x
  have dv0 : zLow d_ Mz Mz := zLow.rf
  refine zw_aload_n (pc := 0) (n := 1) (x := (d_ + 0)) rfl (zdal_p dlA_Reader_readOperand_119 (i := 0) rfl) ?_
  refine zw_getF (pc := 1) f_Reader_111 rfl ((hf.w hW).kr (o := 0) (by decide)) ((hf.w hW).lr (o := 0) (s := 4) (r := 33) (by decide)) (zdal_p dlA_Reader_readOperand_119 (i := 1) rfl) ?_
  refine zw_astore_n (pc := 4) (i := 2) (L2 := [some (.ref 4), some (.ref (d_ + 0)), some (.ref (d_ + 33)), none, none]) rfl (by decide) rfl (zdal_p dlA_Reader_readOperand_119 (i := 2) rfl) ?_
  refine zw_aload_n (pc := 5) (n := 1) (x := (d_ + 0)) rfl (zdal_p dlA_Reader_readOperand_119 (i := 3) rfl) ?_
  refine zw_getF (pc := 6) f_Reader_158 rfl ((hf.w hW).kr (o := 0) (by decide)) ((hf.w hW).lr (o := 0) (s := 1) (r := 12) (by decide)) (zdal_p dlA_Reader_readOperand_119 (i := 4) rfl) ?_
  refine zk_getI (pc := 9) f_Reader_162 rfl ((hf.w hW).kr (o := 12) (by decide)) (zdal_p dlA_Reader_readOperand_119 (i := 5) rfl) ?_
  refine zw_iconst (pc := 12) (v := Int32.ofInt 1) (by decide) (zdal_p dlA_Reader_readOperand_119 (i := 6) rfl) ?_
  refine zr_isub (pc := 13) (zdal_p dlA_Reader_readOperand_119 (i := 7) rfl) ?_
  refine zw_istore_n (pc := 14) (i := 3) (L2 := [some (.ref 4), some (.ref (d_ + 0)), some (.ref (d_ + 33)), some (.int (Int32.ofInt ((ze Mz (d_ + 12) 7) - 1))), none]) rfl (by decide) rfl (zdal_p dlA_Reader_readOperand_119 (i := 8) rfl) ?_
  refine zw_aload_n (pc := 15) (n := 0) (x := 4) rfl (zdal_p dlA_Reader_readOperand_119 (i := 9) rfl) ?_
  refine zw_getF (pc := 16) f_Reader_15 rfl ((hf.w hW).ka (o := 4) (by decide)) ((hf.w hW).la (o := 4) (s := 0) (r := 1) (by decide)) (zdal_p dlA_Reader_readOperand_119 (i := 10) rfl) ?_
  refine zk_callV hf.x (pc := 19) [] [] l_Reader_53 (u_Tokens_isNumber l d_ Mz (hf.w hW) b_ n_ p1_) rfl rfl ((hf.w hW).ka (o := 1) (by decide)) (by decide) (by decide) (Nat.le_of_ble_eq_true rfl) (zdal_p dlA_Reader_readOperand_119 (i := 11) rfl) ?_
  rintro _ N1_ ⟨v2_, rfl, ⟨hv2_a, hv2_b⟩, hsN1_, hp0_N1_⟩
  obtain rfl := hsN1_.eq.symm
  replace hp0_N1_ : ((v2_ = 1 ∧ zkd b_ n_ (ze Mz 1 2).toNat = 2) ∨ (v2_ = 0 ∧ zkd b_ n_ (ze Mz 1 2).toNat ≠ 2)) := hp0_N1_
  rcases hp0_N1_ with ⟨rfl, ha19_0_hp0_N1_⟩ | ⟨rfl, ha19_0_hp0_N1_⟩
  · skip
    have hk2_ := ha19_0_hp0_N1_
    have hv2_ := p1_.v2 hk2_
    show zW l m_Reader_readOperand (zn Mz + 0, zw Mz + 0) Mz 22 [some (.ref 4), some (.ref (d_ + 0)), some (.ref (d_ + 33)), some (.int (Int32.ofInt ((ze Mz (d_ + 12) 7) - 1))), none] [.int (Int32.ofInt 1)] _
    refine zw_istore (pc := 22) (i := 4) (L2 := [some (.ref 4), some (.ref (d_ + 0)), some (.ref (d_ + 33)), some (.int (Int32.ofInt ((ze Mz (d_ + 12) 7) - 1))), some (.int (Int32.ofInt 1))]) (by decide) rfl (zdal_p dlA_Reader_readOperand_119 (i := 12) rfl) ?_
    refine zw_iload (pc := 24) (i := 4) (x := Int32.ofInt 1) rfl (zdal_p dlA_Reader_readOperand_119 (i := 13) rfl) ?_
    refine zr_if_ne (pc := 26) (tgt := 51) ⟨(by decide), (by decide)⟩ (by decide) (zdal_p dlA_Reader_readOperand_119 (i := 14) rfl) (fun hc_26 => ?_) (fun hc_26 => ?_)
    · skip
      refine zw_aload_n (pc := 51) (n := 0) (x := 4) rfl (zdal_p dlA_Reader_readOperand_120 (i := 2) rfl) ?_
      refine zw_aload_n (pc := 52) (n := 2) (x := (d_ + 33)) rfl (zdal_p dlA_Reader_readOperand_120 (i := 3) rfl) ?_
      refine zk_callV hf.x (pc := 53) [.ref (d_ + 33)] [] l_Reader_152 (u_Reader_countUnit l d_ Mz (hf.w hW) F_ K_ hA_ p3_ (show 0 ≤ ze Mz 4 1 by first | with_reducible assumption | assumption | omega) (show ze Mz 4 1 ≤ 30 by first | with_reducible assumption | assumption | omega)) rfl rfl ((hf.w hW).ka (o := 4) (by decide)) (by decide) (by decide) (Nat.le_of_ble_eq_true rfl) (zdal_p dlA_Reader_readOperand_120 (i := 4) rfl) ?_
      rintro _ N3_ ⟨v4_, rfl, ⟨hv4_a, hv4_b⟩, hsN3_, hp0_N3_⟩
      replace hp0_N3_ : ((v4_ = 1 ∧ zuo (zkS d_ Mz) (ze Mz 4 1).toNat ∧ ze N3_ 4 1 = ze Mz 4 1 + 1 ∧ ze Mz 4 1 ≤ 29) ∨ (v4_ = 0 ∧ ¬ zuo (zkS d_ Mz) (ze Mz 4 1).toNat)) := hp0_N3_
      have hf_N3_ : zFc d_ [(1, 2), (1, 3), (1, 4), (1, 5), (4, 1), (4, 2), (4, 3)] [] [(33, 3)] [25] Mz N3_ := hf.tr hsN3_ (by decide) (by decide) (by decide) (by decide)
      have eA1_2_N3_ : ze N3_ 1 2 = ze Mz 1 2 := hsN3_.ea (hf.w hW) (by decide)
      have eA1_3_N3_ : ze N3_ 1 3 = ze Mz 1 3 := hsN3_.ea (hf.w hW) (by decide)
      have eA1_5_N3_ : ze N3_ 1 5 = ze Mz 1 5 := hsN3_.ea (hf.w hW) (by decide)
      have rA4_1_N3_ := ze_r N3_ 4 1
      have eD12_7_N3_ : ze N3_ (d_ + 12) 7 = ze Mz (d_ + 12) 7 := hsN3_.e (by decide)
      have eD33_2_N3_ : ze N3_ (d_ + 33) 2 = ze Mz (d_ + 33) 2 := hsN3_.e (by decide)
      have eD33_3_N3_ : ze N3_ (d_ + 33) 3 = ze Mz (d_ + 33) 3 := hsN3_.e (by decide)
      have eD33_4_N3_ : ze N3_ (d_ + 33) 4 = ze Mz (d_ + 33) 4 := hsN3_.e (by decide)
      have eD33_5_N3_ : ze N3_ (d_ + 33) 5 = ze Mz (d_ + 33) 5 := hsN3_.e (by decide)
      have eD33_6_N3_ : ze N3_ (d_ + 33) 6 = ze Mz (d_ + 33) 6 := hsN3_.e (by decide)
      have qzkS_N3_ : zkS d_ N3_ = zkS d_ Mz := zkS_q hsN3_ (by decide)
      have qzkG_N3_ : zkG d_ N3_ = zkG d_ Mz := zkG_q hsN3_ (by decide)
      have qzkW_N3_ : zkW F_ d_ N3_ = zkW F_ d_ Mz := zkW_q hsN3_ (by decide)
      have c5_ : zYb b_ n_ N3_ := zYb.fr (hf.w hW) hsN3_ p0_ (by decide)
      have c6_ : zYt b_ n_ N3_ := zYt.fr (hf.w hW) hsN3_ p1_ (by decide)
      have c7_ : zKm F_ K_ d_ N3_ := zKm.fr (hf.w hW) hsN3_ p2_ (by decide)
      have c8_ : zCI F_ K_ d_ 0 N3_ := zCI.fr (hf.w hW) hsN3_ p3_ (by decide)
      have c9_ : zNm nm_ F_ K_ d_ N3_ := zNm.fr (hf.w hW) hsN3_ p4_ (by decide)
      have c10_ : zLow d_ Mz N3_ := zLow.fr (hf.w hW) hsN3_ dv0 (by decide)
      rcases hp0_N3_ with ⟨rfl, ha53_0_hp0_N3_, ha53_1_hp0_N3_, ha53_2_hp0_N3_⟩ | ⟨rfl, ha53_0_hp0_N3_⟩
      · skip
        have hu0_ := ha53_0_hp0_N3_
        have hu1_ := ha53_1_hp0_N3_
        have hu2_ := ha53_2_hp0_N3_
        have hfc3_ : ze N3_ (d_ + 12) 7 = F_ := c7_.1
        show zW l m_Reader_readOperand (zn Mz + 0, zw Mz + 0) N3_ 56 [some (.ref 4), some (.ref (d_ + 0)), some (.ref (d_ + 33)), some (.int (Int32.ofInt ((ze Mz (d_ + 12) 7) - 1))), some (.int (Int32.ofInt 1))] [.int (Int32.ofInt 1)] _
        refine zr_if_ne (pc := 56) (tgt := 61) ⟨(by decide), (by decide)⟩ (by decide) (zdal_p dlA_Reader_readOperand_120 (i := 5) rfl) (fun hc_56 => ?_) (fun hc_56 => ?_)
        · skip
          refine zw_iload (pc := 61) (i := 4) (x := Int32.ofInt 1) rfl (zdal_p dlA_Reader_readOperand_120 (i := 8) rfl) ?_
          refine zr_if_eq (pc := 63) (tgt := 81) ⟨(by decide), (by decide)⟩ (by decide) (zdal_p dlA_Reader_readOperand_120 (i := 9) rfl) (fun hc_63 => ?_) (fun hc_63 => ?_)
          · skip
            exact absurd hc_63 (by decide)
          · skip
            refine zw_aload_n (pc := 66) (n := 2) (x := (d_ + 33)) rfl (zdal_p dlA_Reader_readOperand_120 (i := 10) rfl) ?_
            refine zw_iload_n (pc := 67) (n := 3) (x := Int32.ofInt ((ze Mz (d_ + 12) 7) - 1)) rfl (zdal_p dlA_Reader_readOperand_120 (i := 11) rfl) ?_
            refine zw_aload_n (pc := 68) (n := 0) (x := 4) rfl (zdal_p dlA_Reader_readOperand_120 (i := 12) rfl) ?_
            refine zw_getF (pc := 69) f_Reader_15 rfl ((hf_N3_.w hW).ka (o := 4) (by decide)) ((hf_N3_.w hW).la (o := 4) (s := 0) (r := 1) (by decide)) (zdal_p dlA_Reader_readOperand_120 (i := 13) rfl) ?_
            refine zk_getI (pc := 72) f_Reader_57 rfl ((hf_N3_.w hW).ka (o := 1) (by decide)) (zdal_p dlA_Reader_readOperand_120 (i := 14) rfl) ?_
            refine zk_callV hf_N3_.x (pc := 75) [.int (Int32.ofInt ((ze Mz (d_ + 12) 7) - 1)), .int (Int32.ofInt (ze N3_ 1 5))] [] l_Reader_172 (u_Calc_pushSingle l d_ N3_ (hf_N3_.w hW) ((ze Mz (d_ + 12) 7) - 1) (by (exact zo_786 hFc_ r_D12_7.1)) (by (exact zo_601 r_D12_7.2)) (ze N3_ 1 5) (ze_r N3_ 1 5).1 (ze_r N3_ 1 5).2 F_ K_ hA_ c7_ c8_ (show 0 ≤ ((ze Mz (d_ + 12) 7) - 1) by first | with_reducible assumption | (exact zo_791 hF1_ hFc_) | assumption) (show ((ze Mz (d_ + 12) 7) - 1) < F_ by first | with_reducible assumption | (exact zo_792 hFc_ r_D12_7.2) | assumption) (show 0 ≤ (ze N3_ 1 5) by first | with_reducible assumption | (exact zo_720 eA1_5_N3_ hv2_.2.1) | assumption) (show (ze N3_ 1 5) ≤ 999 by first | with_reducible assumption | (exact zo_793 eA1_5_N3_ hv2_.2.2) | assumption)) rfl rfl ((hf_N3_.w hW).kr (o := 33) (by decide)) (by decide) (by decide) (Nat.le_of_ble_eq_true rfl) (zdal_p dlA_Reader_readOperand_120 (i := 15) rfl) ?_
            rintro _ N11_ ⟨rfl, hsN11_, ⟨hp0_N11_, hp1_N11_, hp2_N11_, hp3_N11_, hp4_N11_⟩⟩
            have hf_N11_ : zFc d_ [(1, 2), (1, 3), (1, 4), (1, 5), (4, 1), (4, 2), (4, 3)] [] [(33, 3)] [25] Mz N11_ := hf_N3_.tr hsN11_ (by decide) (by decide) (by decide) (by decide)
            have eA1_2_N11_ : ze N11_ 1 2 = ze N3_ 1 2 := hsN11_.ea (hf_N3_.w hW) (by decide)
            have eA1_3_N11_ : ze N11_ 1 3 = ze N3_ 1 3 := hsN11_.ea (hf_N3_.w hW) (by decide)
            have eA1_5_N11_ : ze N11_ 1 5 = ze N3_ 1 5 := hsN11_.ea (hf_N3_.w hW) (by decide)
            have eA4_1_N11_ : ze N11_ 4 1 = ze N3_ 4 1 := hsN11_.ea (hf_N3_.w hW) (by decide)
            have eD12_7_N11_ : ze N11_ (d_ + 12) 7 = ze N3_ (d_ + 12) 7 := hsN11_.e (by decide)
            have eD33_2_N11_ : ze N11_ (d_ + 33) 2 = ze N3_ (d_ + 33) 2 := hsN11_.e (by decide)
            have rD33_3_N11_ := ze_r N11_ (d_ + 33) 3
            have eD33_4_N11_ : ze N11_ (d_ + 33) 4 = ze N3_ (d_ + 33) 4 := hsN11_.e (by decide)
            have eD33_5_N11_ : ze N11_ (d_ + 33) 5 = ze N3_ (d_ + 33) 5 := hsN11_.e (by decide)
            have eD33_6_N11_ : ze N11_ (d_ + 33) 6 = ze N3_ (d_ + 33) 6 := hsN11_.e (by decide)
            have qzkS_N11_ : zkS d_ N11_ = zkS d_ N3_ := zkS_q hsN11_ (by decide)
            have qzkG_N11_ : zkG d_ N11_ = zkG d_ N3_ := zkG_q hsN11_ (by decide)
            have c13_ : zYb b_ n_ N11_ := zYb.fr (hf_N3_.w hW) hsN11_ c5_ (by decide)
            have c14_ : zYt b_ n_ N11_ := zYt.fr (hf_N3_.w hW) hsN11_ c6_ (by decide)
            have c15_ : zKm F_ K_ d_ N11_ := zKm.fr (hf_N3_.w hW) hsN11_ c7_ (by decide)
            show zW l m_Reader_readOperand (zn Mz + 0, zw Mz + 0) N11_ 78 [some (.ref 4), some (.ref (d_ + 0)), some (.ref (d_ + 33)), some (.int (Int32.ofInt ((ze Mz (d_ + 12) 7) - 1))), some (.int (Int32.ofInt 1))] [] _
            have hp1_ := hp1_N11_
            have hp2_ := hp2_N11_
            have hp3_ := hp3_N11_
            have hlw_ := (zLow.f hsN3_ (by decide)).tr hp4_N11_
            have hW_ := hp2_.trans (by rw [qzkG_N3_, qzkW_N3_, show ((ze Mz (d_ + 12) 7) - 1) = (F_ : Int) - 1 by (exact zo_795 hFc_ r_D12_7.2), show ze N3_ 1 5 = znu b_ n_ (ze Mz 1 2).toNat by (exact zo_794 eA1_5_N3_ hv2_.1)] : _ = zpu (zkG d_ Mz) (zone ((F_ : Int) - 1) (znu b_ n_ (ze Mz 1 2).toNat)) (zkW F_ d_ Mz))
            refine zw_goto (pc := 78) (tgt := 133) (by decide) (zdal_p dlA_Reader_readOperand_120 (i := 16) rfl) ?_
            have hyt_ := c14_
            have hyx_ := hyt_.x
            refine zw_aload_n (pc := 133) (n := 0) (x := 4) rfl (zdal_p dlA_Reader_readOperand_121 (i := 19) rfl) ?_
            refine zw_getF (pc := 134) f_Reader_15 rfl ((hf_N11_.w hW).ka (o := 4) (by decide)) ((hf_N11_.w hW).la (o := 4) (s := 0) (r := 1) (by decide)) (zdal_p dlA_Reader_readOperand_121 (i := 20) rfl) ?_
            refine zk_callV hf_N11_.x (pc := 137) [] [] l_Reader_44 (u_Tokens_step l d_ N11_ (hf_N11_.w hW) b_ n_ c13_ (show 0 ≤ ze N11_ 1 3 by first | with_reducible assumption | (exact zo_57 hyx_.2.1) | assumption) (show ze N11_ 1 3 ≤ n_ by first | with_reducible assumption | (exact zo_605 hyx_.2.2) | assumption)) rfl rfl ((hf_N11_.w hW).ka (o := 1) (by decide)) (by decide) (by decide) (Nat.le_of_ble_eq_true rfl) (zdal_p dlA_Reader_readOperand_121 (i := 21) rfl) ?_
            rintro _ N16_ ⟨rfl, hsN16_, ⟨hp0_N16_, hp1_N16_⟩⟩
            have hf_N16_ : zFc d_ [(1, 2), (1, 3), (1, 4), (1, 5), (4, 1), (4, 2), (4, 3)] [] [(33, 3)] [25] Mz N16_ := hf_N11_.tr hsN16_ (by decide) (by decide) (by decide) (by decide)
            have rA1_2_N16_ := ze_r N16_ 1 2
            have rA1_3_N16_ := ze_r N16_ 1 3
            have rA1_5_N16_ := ze_r N16_ 1 5
            have eA4_1_N16_ : ze N16_ 4 1 = ze N11_ 4 1 := hsN16_.ea (hf_N11_.w hW) (by decide)
            have eD12_7_N16_ : ze N16_ (d_ + 12) 7 = ze N11_ (d_ + 12) 7 := hsN16_.e (by decide)
            have eD33_2_N16_ : ze N16_ (d_ + 33) 2 = ze N11_ (d_ + 33) 2 := hsN16_.e (by decide)
            have eD33_3_N16_ : ze N16_ (d_ + 33) 3 = ze N11_ (d_ + 33) 3 := hsN16_.e (by decide)
            have eD33_4_N16_ : ze N16_ (d_ + 33) 4 = ze N11_ (d_ + 33) 4 := hsN16_.e (by decide)
            have eD33_5_N16_ : ze N16_ (d_ + 33) 5 = ze N11_ (d_ + 33) 5 := hsN16_.e (by decide)
            have eD33_6_N16_ : ze N16_ (d_ + 33) 6 = ze N11_ (d_ + 33) 6 := hsN16_.e (by decide)
            have qzkS_N16_ : zkS d_ N16_ = zkS d_ N11_ := zkS_q hsN16_ (by decide)
            have qzkG_N16_ : zkG d_ N16_ = zkG d_ N11_ := zkG_q hsN16_ (by decide)
            have qzkW_N16_ : zkW F_ d_ N16_ = zkW F_ d_ N11_ := zkW_q hsN16_ (by decide)
            have c18_ : zYb b_ n_ N16_ := zYb.fr (hf_N11_.w hW) hsN16_ c13_ (by decide)
            have c19_ : zKm F_ K_ d_ N16_ := zKm.fr (hf_N11_.w hW) hsN16_ c15_ (by decide)
            have c20_ : zCI F_ K_ d_ 1 N16_ := zCI.fr (hf_N11_.w hW) hsN16_ hp0_N11_ (by decide)
            show zW l m_Reader_readOperand (zn Mz + 0, zw Mz + 0) N16_ 140 [some (.ref 4), some (.ref (d_ + 0)), some (.ref (d_ + 33)), some (.int (Int32.ofInt ((ze Mz (d_ + 12) 7) - 1))), some (.int (Int32.ofInt 1))] [] _
            have hnn_ := hyt_.n hp0_N16_
            refine zw_iconst (pc := 140) (v := Int32.ofInt 1) (by decide) (zdal_p dlA_Reader_readOperand_121 (i := 22) rfl) ?_
            exact zk_iret (pc := 141) (ty := .boolean) rfl (z_narB (by (decide))) ⟨by (exact hv2_a), by (exact hv2_b)⟩ hf_N16_ ⟨hp1_N16_, (show ((1 = 1 ∧ zRea (zfs b_ n_ F_ K_ nm_) (zKst 0 F_ d_ Mz) (zKst 1 F_ d_ N16_) ∧ zCI F_ K_ d_ 1 N16_ ∧ zLow d_ Mz N16_ ∧ ze Mz 4 1 + 1 ≤ ze N16_ 4 1 ∧ ze N16_ 4 1 ≤ 30) ∨ (1 = 0 ∧ zRea (zfs b_ n_ F_ K_ nm_) (zKst 0 F_ d_ Mz) zFt ∧ zLow d_ Mz N16_)) from Or.inl (⟨(show 1 = 1 by first | rfl | omega | exact c20_ | exact hlw_.tr (zLow.f hsN16_ (by decide)) | exact hw7_.tr (zLow.f hsN16_ (by decide)) | exact zRea.st (zs0_n (Nz := N16_) (F := F_) (b := b_) (n := n_) (K := K_) (nm := nm_) p7_ hk2_ hu0_ (by rw [qzkS_N16_, hp1_, qzkS_N3_]) (by rw [qzkW_N16_, hW_]) (by rw [qzkG_N16_, hp3_, qzkG_N3_]) (by omega) (by omega) (hnn_.2.trans (by rw [show ze N11_ 1 2 = ze Mz 1 2 by omega]))) | exact zRea.st (zs0_s (Nz := N16_) (F := F_) (b := b_) (n := n_) (K := K_) (nm := nm_) p7_ hk2_ ⟨hk1_, hky_⟩ hu0_ ⟨hk3_, by omega⟩ (by rw [qzkS_N16_, hp1_, qzkS_N3_, qzkS_Mz]) (by rw [qzkW_N16_, hW_]) (by rw [qzkG_N16_, hp3_, qzkG_N3_, qzkG_Mz]) (by omega) (by omega) (hnn_.2.trans (by rw [show ze N11_ 1 2 = ze N3_ 1 2 by omega, hnx_]))) | exact zRea.st (zs0_w (Nz := N16_) (F := F_) (b := b_) (n := n_) (K := K_) (nm := nm_) p7_ hk2_ hns_ hw0_ hw1_ hw2_ (by rw [qzkS_N16_, hw4_]) (by rw [qzkW_N16_, hw3_]) (by rw [qzkG_N16_, hw5_]) (by omega) (by omega) (hnn_.2.trans (by rw [show ze N11_ 1 2 = ze Mz 1 2 by omega])))), (show zRea (zfs b_ n_ F_ K_ nm_) (zKst 0 F_ d_ Mz) (zKst 1 F_ d_ N16_) by first | rfl | omega | exact c20_ | exact hlw_.tr (zLow.f hsN16_ (by decide)) | exact hw7_.tr (zLow.f hsN16_ (by decide)) | exact zRea.st (zs0_n (Nz := N16_) (F := F_) (b := b_) (n := n_) (K := K_) (nm := nm_) p7_ hk2_ hu0_ (by rw [qzkS_N16_, hp1_, qzkS_N3_]) (by rw [qzkW_N16_, hW_]) (by rw [qzkG_N16_, hp3_, qzkG_N3_]) (by (exact zo_1037 eA4_1_N11_ eA4_1_N16_ ha53_1_hp0_N3_)) (by (exact p5_)) (hnn_.2.trans (by rw [show ze N11_ 1 2 = ze Mz 1 2 by (exact zo_1038 eA1_2_N11_ eA1_2_N3_ hyx_.1.1 r_A1_2.2)]))) | exact zRea.st (zs0_s (Nz := N16_) (F := F_) (b := b_) (n := n_) (K := K_) (nm := nm_) p7_ hk2_ ⟨hk1_, hky_⟩ hu0_ ⟨hk3_, by omega⟩ (by rw [qzkS_N16_, hp1_, qzkS_N3_, qzkS_Mz]) (by rw [qzkW_N16_, hW_]) (by rw [qzkG_N16_, hp3_, qzkG_N3_, qzkG_Mz]) (by omega) (by omega) (hnn_.2.trans (by rw [show ze N11_ 1 2 = ze N3_ 1 2 by omega, hnx_]))) | exact zRea.st (zs0_w (Nz := N16_) (F := F_) (b := b_) (n := n_) (K := K_) (nm := nm_) p7_ hk2_ hns_ hw0_ hw1_ hw2_ (by rw [qzkS_N16_, hw4_]) (by rw [qzkW_N16_, hw3_]) (by rw [qzkG_N16_, hw5_]) (by omega) (by omega) (hnn_.2.trans (by rw [show ze N11_ 1 2 = ze Mz 1 2 by omega])))), (show zCI F_ K_ d_ 1 N16_ by first | rfl | (exact c20_) | exact c20_ | exact hlw_.tr (zLow.f hsN16_ (by decide)) | exact hw7_.tr (zLow.f hsN16_ (by decide)) | exact zRea.st (zs0_n (Nz := N16_) (F := F_) (b := b_) (n := n_) (K := K_) (nm := nm_) p7_ hk2_ hu0_ (by rw [qzkS_N16_, hp1_, qzkS_N3_]) (by rw [qzkW_N16_, hW_]) (by rw [qzkG_N16_, hp3_, qzkG_N3_]) (by omega) (by omega) (hnn_.2.trans (by rw [show ze N11_ 1 2 = ze Mz 1 2 by omega]))) | exact zRea.st (zs0_s (Nz := N16_) (F := F_) (b := b_) (n := n_) (K := K_) (nm := nm_) p7_ hk2_ ⟨hk1_, hky_⟩ hu0_ ⟨hk3_, by omega⟩ (by rw [qzkS_N16_, hp1_, qzkS_N3_, qzkS_Mz]) (by rw [qzkW_N16_, hW_]) (by rw [qzkG_N16_, hp3_, qzkG_N3_, qzkG_Mz]) (by omega) (by omega) (hnn_.2.trans (by rw [show ze N11_ 1 2 = ze N3_ 1 2 by omega, hnx_]))) | exact zRea.st (zs0_w (Nz := N16_) (F := F_) (b := b_) (n := n_) (K := K_) (nm := nm_) p7_ hk2_ hns_ hw0_ hw1_ hw2_ (by rw [qzkS_N16_, hw4_]) (by rw [qzkW_N16_, hw3_]) (by rw [qzkG_N16_, hw5_]) (by omega) (by omega) (hnn_.2.trans (by rw [show ze N11_ 1 2 = ze Mz 1 2 by omega])))), (show zLow d_ Mz N16_ by first | rfl | omega | exact c20_ | exact hlw_.tr (zLow.f hsN16_ (by decide)) | exact hw7_.tr (zLow.f hsN16_ (by decide)) | exact zRea.st (zs0_n (Nz := N16_) (F := F_) (b := b_) (n := n_) (K := K_) (nm := nm_) p7_ hk2_ hu0_ (by rw [qzkS_N16_, hp1_, qzkS_N3_]) (by rw [qzkW_N16_, hW_]) (by rw [qzkG_N16_, hp3_, qzkG_N3_]) (by omega) (by omega) (hnn_.2.trans (by rw [show ze N11_ 1 2 = ze Mz 1 2 by omega]))) | exact zRea.st (zs0_s (Nz := N16_) (F := F_) (b := b_) (n := n_) (K := K_) (nm := nm_) p7_ hk2_ ⟨hk1_, hky_⟩ hu0_ ⟨hk3_, by omega⟩ (by rw [qzkS_N16_, hp1_, qzkS_N3_, qzkS_Mz]) (by rw [qzkW_N16_, hW_]) (by rw [qzkG_N16_, hp3_, qzkG_N3_, qzkG_Mz]) (by omega) (by omega) (hnn_.2.trans (by rw [show ze N11_ 1 2 = ze N3_ 1 2 by omega, hnx_]))) | exact zRea.st (zs0_w (Nz := N16_) (F := F_) (b := b_) (n := n_) (K := K_) (nm := nm_) p7_ hk2_ hns_ hw0_ hw1_ hw2_ (by rw [qzkS_N16_, hw4_]) (by rw [qzkW_N16_, hw3_]) (by rw [qzkG_N16_, hw5_]) (by omega) (by omega) (hnn_.2.trans (by rw [show ze N11_ 1 2 = ze Mz 1 2 by omega])))), (show ze Mz 4 1 + 1 ≤ ze N16_ 4 1 by first | rfl | (exact zo_1039 eA4_1_N11_ eA4_1_N16_ ha53_1_hp0_N3_) | exact c20_ | exact hlw_.tr (zLow.f hsN16_ (by decide)) | exact hw7_.tr (zLow.f hsN16_ (by decide)) | exact zRea.st (zs0_n (Nz := N16_) (F := F_) (b := b_) (n := n_) (K := K_) (nm := nm_) p7_ hk2_ hu0_ (by rw [qzkS_N16_, hp1_, qzkS_N3_]) (by rw [qzkW_N16_, hW_]) (by rw [qzkG_N16_, hp3_, qzkG_N3_]) (by omega) (by omega) (hnn_.2.trans (by rw [show ze N11_ 1 2 = ze Mz 1 2 by omega]))) | exact zRea.st (zs0_s (Nz := N16_) (F := F_) (b := b_) (n := n_) (K := K_) (nm := nm_) p7_ hk2_ ⟨hk1_, hky_⟩ hu0_ ⟨hk3_, by omega⟩ (by rw [qzkS_N16_, hp1_, qzkS_N3_, qzkS_Mz]) (by rw [qzkW_N16_, hW_]) (by rw [qzkG_N16_, hp3_, qzkG_N3_, qzkG_Mz]) (by omega) (by omega) (hnn_.2.trans (by rw [show ze N11_ 1 2 = ze N3_ 1 2 by omega, hnx_]))) | exact zRea.st (zs0_w (Nz := N16_) (F := F_) (b := b_) (n := n_) (K := K_) (nm := nm_) p7_ hk2_ hns_ hw0_ hw1_ hw2_ (by rw [qzkS_N16_, hw4_]) (by rw [qzkW_N16_, hw3_]) (by rw [qzkG_N16_, hw5_]) (by omega) (by omega) (hnn_.2.trans (by rw [show ze N11_ 1 2 = ze Mz 1 2 by omega])))), (show ze N16_ 4 1 ≤ 30 by first | rfl | (exact zo_1040 eA4_1_N11_ eA4_1_N16_ ha53_1_hp0_N3_ ha53_2_hp0_N3_ rA4_1_N3_.2) | exact c20_ | exact hlw_.tr (zLow.f hsN16_ (by decide)) | exact hw7_.tr (zLow.f hsN16_ (by decide)) | exact zRea.st (zs0_n (Nz := N16_) (F := F_) (b := b_) (n := n_) (K := K_) (nm := nm_) p7_ hk2_ hu0_ (by rw [qzkS_N16_, hp1_, qzkS_N3_]) (by rw [qzkW_N16_, hW_]) (by rw [qzkG_N16_, hp3_, qzkG_N3_]) (by omega) (by omega) (hnn_.2.trans (by rw [show ze N11_ 1 2 = ze Mz 1 2 by omega]))) | exact zRea.st (zs0_s (Nz := N16_) (F := F_) (b := b_) (n := n_) (K := K_) (nm := nm_) p7_ hk2_ ⟨hk1_, hky_⟩ hu0_ ⟨hk3_, by omega⟩ (by rw [qzkS_N16_, hp1_, qzkS_N3_, qzkS_Mz]) (by rw [qzkW_N16_, hW_]) (by rw [qzkG_N16_, hp3_, qzkG_N3_, qzkG_Mz]) (by omega) (by omega) (hnn_.2.trans (by rw [show ze N11_ 1 2 = ze N3_ 1 2 by omega, hnx_]))) | exact zRea.st (zs0_w (Nz := N16_) (F := F_) (b := b_) (n := n_) (K := K_) (nm := nm_) p7_ hk2_ hns_ hw0_ hw1_ hw2_ (by rw [qzkS_N16_, hw4_]) (by rw [qzkW_N16_, hw3_]) (by rw [qzkG_N16_, hw5_]) (by omega) (by omega) (hnn_.2.trans (by rw [show ze N11_ 1 2 = ze Mz 1 2 by omega]))))⟩))⟩ (zdal_p dlA_Reader_readOperand_121 (i := 23) rfl)
        · skip
          exact absurd hc_56 (by decide)
      · skip
        have hrt_ : zRea (zfs b_ n_ F_ K_ nm_) (zKst 0 F_ d_ Mz) zFt := by first | exact zRea.st (zs0_nf (F := F_) (d := d_) (b := b_) (n := n_) (K := K_) (nm := nm_) p7_ hk2_ ha53_0_hp0_N3_) | exact zRea.st (zs0_sf (F := F_) (d := d_) (b := b_) (n := n_) (K := K_) (nm := nm_) p7_ hk2_ ⟨hk1_, hky_⟩ (fun q_ => ha53_0_hp0_N3_ q_.1))
        show zW l m_Reader_readOperand (zn Mz + 0, zw Mz + 0) N3_ 56 [some (.ref 4), some (.ref (d_ + 0)), some (.ref (d_ + 33)), some (.int (Int32.ofInt ((ze Mz (d_ + 12) 7) - 1))), some (.int (Int32.ofInt 1))] [.int (Int32.ofInt 0)] _
        refine zr_if_ne (pc := 56) (tgt := 61) ⟨(by decide), (by decide)⟩ (by decide) (zdal_p dlA_Reader_readOperand_120 (i := 5) rfl) (fun hc_56 => ?_) (fun hc_56 => ?_)
        · skip
          exact absurd hc_56 (by decide)
        · skip
          refine zw_iconst (pc := 59) (v := Int32.ofInt 0) (by decide) (zdal_p dlA_Reader_readOperand_120 (i := 6) rfl) ?_
          exact zk_iret (pc := 60) (ty := .boolean) rfl (z_narB (by (decide))) ⟨by (exact hv4_a), by (exact hv4_b)⟩ hf_N3_ ⟨c6_, (show ((0 = 1 ∧ zRea (zfs b_ n_ F_ K_ nm_) (zKst 0 F_ d_ Mz) (zKst 1 F_ d_ N3_) ∧ zCI F_ K_ d_ 1 N3_ ∧ zLow d_ Mz N3_ ∧ ze Mz 4 1 + 1 ≤ ze N3_ 4 1 ∧ ze N3_ 4 1 ≤ 30) ∨ (0 = 0 ∧ zRea (zfs b_ n_ F_ K_ nm_) (zKst 0 F_ d_ Mz) zFt ∧ zLow d_ Mz N3_)) from Or.inr (⟨(show 0 = 0 by first | rfl | exact hrt_ | (exfalso; omega) | exact zRea.st (zs0_sf (F := F_) (d := d_) (b := b_) (n := n_) (K := K_) (nm := nm_) p7_ hk2_ ⟨hk1_, hky_⟩ (fun q_ => by have := q_.2.2; omega)) | exact c10_), (show zRea (zfs b_ n_ F_ K_ nm_) (zKst 0 F_ d_ Mz) zFt by first | rfl | exact hrt_ | (exfalso; omega) | exact zRea.st (zs0_sf (F := F_) (d := d_) (b := b_) (n := n_) (K := K_) (nm := nm_) p7_ hk2_ ⟨hk1_, hky_⟩ (fun q_ => by have := q_.2.2; omega)) | exact c10_), (show zLow d_ Mz N3_ by first | rfl | exact hrt_ | (exfalso; omega) | exact zRea.st (zs0_sf (F := F_) (d := d_) (b := b_) (n := n_) (K := K_) (nm := nm_) p7_ hk2_ ⟨hk1_, hky_⟩ (fun q_ => by have := q_.2.2; omega)) | exact c10_)⟩))⟩ (zdal_p dlA_Reader_readOperand_120 (i := 7) rfl)
    · skip
      exact absurd hc_26 (by decide)
  · skip
    have hk2_ := ha19_0_hp0_N1_
    show zW l m_Reader_readOperand (zn Mz + 0, zw Mz + 0) Mz 22 [some (.ref 4), some (.ref (d_ + 0)), some (.ref (d_ + 33)), some (.int (Int32.ofInt ((ze Mz (d_ + 12) 7) - 1))), none] [.int (Int32.ofInt 0)] _
    refine zw_istore (pc := 22) (i := 4) (L2 := [some (.ref 4), some (.ref (d_ + 0)), some (.ref (d_ + 33)), some (.int (Int32.ofInt ((ze Mz (d_ + 12) 7) - 1))), some (.int (Int32.ofInt 0))]) (by decide) rfl (zdal_p dlA_Reader_readOperand_119 (i := 12) rfl) ?_
    refine zw_iload (pc := 24) (i := 4) (x := Int32.ofInt 0) rfl (zdal_p dlA_Reader_readOperand_119 (i := 13) rfl) ?_
    refine zr_if_ne (pc := 26) (tgt := 51) ⟨(by decide), (by decide)⟩ (by decide) (zdal_p dlA_Reader_readOperand_119 (i := 14) rfl) (fun hc_26 => ?_) (fun hc_26 => ?_)
    · skip
      exact absurd hc_26 (by decide)
    · skip
      refine zw_aload_n (pc := 29) (n := 0) (x := 4) rfl (zdal_p dlA_Reader_readOperand_119 (i := 15) rfl) ?_
      refine zw_getF (pc := 30) f_Reader_15 rfl ((hf.w hW).ka (o := 4) (by decide)) ((hf.w hW).la (o := 4) (s := 0) (r := 1) (by decide)) (zdal_p dlA_Reader_readOperand_119 (i := 16) rfl) ?_
      refine zw_ldcs (pc := 33) (i := 3) (List.mem_of_getElem? (i := 7) rfl) (zdal_p dlA_Reader_readOperand_119 (i := 17) rfl) ?_
      refine zk_callV hf.x (pc := 35) [.ref (zK 3)] [] l_Reader_49 (u_Tokens_isWord l d_ Mz (hf.w hW) 3 (by decide) b_ n_ p0_ p1_) rfl rfl ((hf.w hW).ka (o := 1) (by decide)) (by decide) (by decide) (Nat.le_of_ble_eq_true rfl) (zdal_p dlA_Reader_readOperand_119 (i := 18) rfl) ?_
      rintro _ N21_ ⟨v22_, rfl, ⟨hv22_a, hv22_b⟩, hsN21_, hp0_N21_⟩
      obtain rfl := hsN21_.eq.symm
      replace hp0_N21_ : ((v22_ = 1 ∧ zkd b_ n_ (ze Mz 1 2).toNat = 1 ∧ zkey b_ n_ (ze Mz 1 2).toNat = zkw 3) ∨ (v22_ = 0 ∧ ¬ (zkd b_ n_ (ze Mz 1 2).toNat = 1 ∧ zkey b_ n_ (ze Mz 1 2).toNat = zkw 3))) := hp0_N21_
      rcases hp0_N21_ with ⟨rfl, ha35_0_hp0_N21_, ha35_1_hp0_N21_⟩ | ⟨rfl, ha35_0_hp0_N21_⟩
      · skip
        have hk1_ := ha35_0_hp0_N21_
        have hky_ := ha35_1_hp0_N21_
        show zW l m_Reader_readOperand (zn Mz + 0, zw Mz + 0) Mz 38 [some (.ref 4), some (.ref (d_ + 0)), some (.ref (d_ + 33)), some (.int (Int32.ofInt ((ze Mz (d_ + 12) 7) - 1))), some (.int (Int32.ofInt 0))] [.int (Int32.ofInt 1)] _
        refine zr_if_ne (pc := 38) (tgt := 51) ⟨(by decide), (by decide)⟩ (by decide) (zdal_p dlA_Reader_readOperand_119 (i := 19) rfl) (fun hc_38 => ?_) (fun hc_38 => ?_)
        · skip
          refine zw_aload_n (pc := 51) (n := 0) (x := 4) rfl (zdal_p dlA_Reader_readOperand_120 (i := 2) rfl) ?_
          refine zw_aload_n (pc := 52) (n := 2) (x := (d_ + 33)) rfl (zdal_p dlA_Reader_readOperand_120 (i := 3) rfl) ?_
          refine zk_callV hf.x (pc := 53) [.ref (d_ + 33)] [] l_Reader_152 (u_Reader_countUnit l d_ Mz (hf.w hW) F_ K_ hA_ p3_ (show 0 ≤ ze Mz 4 1 by first | with_reducible assumption | assumption | omega) (show ze Mz 4 1 ≤ 30 by first | with_reducible assumption | assumption | omega)) rfl rfl ((hf.w hW).ka (o := 4) (by decide)) (by decide) (by decide) (Nat.le_of_ble_eq_true rfl) (zdal_p dlA_Reader_readOperand_120 (i := 4) rfl) ?_
          rintro _ N23_ ⟨v24_, rfl, ⟨hv24_a, hv24_b⟩, hsN23_, hp0_N23_⟩
          replace hp0_N23_ : ((v24_ = 1 ∧ zuo (zkS d_ Mz) (ze Mz 4 1).toNat ∧ ze N23_ 4 1 = ze Mz 4 1 + 1 ∧ ze Mz 4 1 ≤ 29) ∨ (v24_ = 0 ∧ ¬ zuo (zkS d_ Mz) (ze Mz 4 1).toNat)) := hp0_N23_
          have hf_N23_ : zFc d_ [(1, 2), (1, 3), (1, 4), (1, 5), (4, 1), (4, 2), (4, 3)] [] [(33, 3)] [25] Mz N23_ := hf.tr hsN23_ (by decide) (by decide) (by decide) (by decide)
          have eA1_2_N23_ : ze N23_ 1 2 = ze Mz 1 2 := hsN23_.ea (hf.w hW) (by decide)
          have eA1_3_N23_ : ze N23_ 1 3 = ze Mz 1 3 := hsN23_.ea (hf.w hW) (by decide)
          have eA1_5_N23_ : ze N23_ 1 5 = ze Mz 1 5 := hsN23_.ea (hf.w hW) (by decide)
          have rA4_1_N23_ := ze_r N23_ 4 1
          have eD12_7_N23_ : ze N23_ (d_ + 12) 7 = ze Mz (d_ + 12) 7 := hsN23_.e (by decide)
          have eD33_2_N23_ : ze N23_ (d_ + 33) 2 = ze Mz (d_ + 33) 2 := hsN23_.e (by decide)
          have eD33_3_N23_ : ze N23_ (d_ + 33) 3 = ze Mz (d_ + 33) 3 := hsN23_.e (by decide)
          have eD33_4_N23_ : ze N23_ (d_ + 33) 4 = ze Mz (d_ + 33) 4 := hsN23_.e (by decide)
          have eD33_5_N23_ : ze N23_ (d_ + 33) 5 = ze Mz (d_ + 33) 5 := hsN23_.e (by decide)
          have eD33_6_N23_ : ze N23_ (d_ + 33) 6 = ze Mz (d_ + 33) 6 := hsN23_.e (by decide)
          have qzkS_N23_ : zkS d_ N23_ = zkS d_ Mz := zkS_q hsN23_ (by decide)
          have qzkG_N23_ : zkG d_ N23_ = zkG d_ Mz := zkG_q hsN23_ (by decide)
          have qzkW_N23_ : zkW F_ d_ N23_ = zkW F_ d_ Mz := zkW_q hsN23_ (by decide)
          have c25_ : zYb b_ n_ N23_ := zYb.fr (hf.w hW) hsN23_ p0_ (by decide)
          have c26_ : zYt b_ n_ N23_ := zYt.fr (hf.w hW) hsN23_ p1_ (by decide)
          have c27_ : zKm F_ K_ d_ N23_ := zKm.fr (hf.w hW) hsN23_ p2_ (by decide)
          have c28_ : zCI F_ K_ d_ 0 N23_ := zCI.fr (hf.w hW) hsN23_ p3_ (by decide)
          have c29_ : zNm nm_ F_ K_ d_ N23_ := zNm.fr (hf.w hW) hsN23_ p4_ (by decide)
          have c30_ : zLow d_ Mz N23_ := zLow.fr (hf.w hW) hsN23_ dv0 (by decide)
          rcases hp0_N23_ with ⟨rfl, ha53_0_hp0_N23_, ha53_1_hp0_N23_, ha53_2_hp0_N23_⟩ | ⟨rfl, ha53_0_hp0_N23_⟩
          · skip
            have hu0_ := ha53_0_hp0_N23_
            have hu1_ := ha53_1_hp0_N23_
            have hu2_ := ha53_2_hp0_N23_
            have hfc3_ : ze N23_ (d_ + 12) 7 = F_ := c27_.1
            show zW l m_Reader_readOperand (zn Mz + 0, zw Mz + 0) N23_ 56 [some (.ref 4), some (.ref (d_ + 0)), some (.ref (d_ + 33)), some (.int (Int32.ofInt ((ze Mz (d_ + 12) 7) - 1))), some (.int (Int32.ofInt 0))] [.int (Int32.ofInt 1)] _
            refine zr_if_ne (pc := 56) (tgt := 61) ⟨(by decide), (by decide)⟩ (by decide) (zdal_p dlA_Reader_readOperand_120 (i := 5) rfl) (fun hc_56 => ?_) (fun hc_56 => ?_)
            · skip
              refine zw_iload (pc := 61) (i := 4) (x := Int32.ofInt 0) rfl (zdal_p dlA_Reader_readOperand_120 (i := 8) rfl) ?_
              refine zr_if_eq (pc := 63) (tgt := 81) ⟨(by decide), (by decide)⟩ (by decide) (zdal_p dlA_Reader_readOperand_120 (i := 9) rfl) (fun hc_63 => ?_) (fun hc_63 => ?_)
              · skip
                have hyt_ := c26_
                have hyx_ := hyt_.x
                refine zw_aload_n (pc := 81) (n := 0) (x := 4) rfl (zdal_p dlA_Reader_readOperand_120 (i := 17) rfl) ?_
                refine zw_getF (pc := 82) f_Reader_15 rfl ((hf_N23_.w hW).ka (o := 4) (by decide)) ((hf_N23_.w hW).la (o := 4) (s := 0) (r := 1) (by decide)) (zdal_p dlA_Reader_readOperand_120 (i := 18) rfl) ?_
                refine zk_callV hf_N23_.x (pc := 85) [] [] l_Reader_44 (u_Tokens_step l d_ N23_ (hf_N23_.w hW) b_ n_ c25_ (show 0 ≤ ze N23_ 1 3 by first | with_reducible assumption | (exact zo_57 hyx_.2.1) | assumption) (show ze N23_ 1 3 ≤ n_ by first | with_reducible assumption | (exact zo_605 hyx_.2.2) | assumption)) rfl rfl ((hf_N23_.w hW).ka (o := 1) (by decide)) (by decide) (by decide) (Nat.le_of_ble_eq_true rfl) (zdal_p dlA_Reader_readOperand_120 (i := 19) rfl) ?_
                rintro _ N31_ ⟨rfl, hsN31_, ⟨hp0_N31_, hp1_N31_⟩⟩
                have hf_N31_ : zFc d_ [(1, 2), (1, 3), (1, 4), (1, 5), (4, 1), (4, 2), (4, 3)] [] [(33, 3)] [25] Mz N31_ := hf_N23_.tr hsN31_ (by decide) (by decide) (by decide) (by decide)
                have rA1_2_N31_ := ze_r N31_ 1 2
                have rA1_3_N31_ := ze_r N31_ 1 3
                have rA1_5_N31_ := ze_r N31_ 1 5
                have eA4_1_N31_ : ze N31_ 4 1 = ze N23_ 4 1 := hsN31_.ea (hf_N23_.w hW) (by decide)
                have eD12_7_N31_ : ze N31_ (d_ + 12) 7 = ze N23_ (d_ + 12) 7 := hsN31_.e (by decide)
                have eD33_2_N31_ : ze N31_ (d_ + 33) 2 = ze N23_ (d_ + 33) 2 := hsN31_.e (by decide)
                have eD33_3_N31_ : ze N31_ (d_ + 33) 3 = ze N23_ (d_ + 33) 3 := hsN31_.e (by decide)
                have eD33_4_N31_ : ze N31_ (d_ + 33) 4 = ze N23_ (d_ + 33) 4 := hsN31_.e (by decide)
                have eD33_5_N31_ : ze N31_ (d_ + 33) 5 = ze N23_ (d_ + 33) 5 := hsN31_.e (by decide)
                have eD33_6_N31_ : ze N31_ (d_ + 33) 6 = ze N23_ (d_ + 33) 6 := hsN31_.e (by decide)
                have qzkS_N31_ : zkS d_ N31_ = zkS d_ N23_ := zkS_q hsN31_ (by decide)
                have qzkG_N31_ : zkG d_ N31_ = zkG d_ N23_ := zkG_q hsN31_ (by decide)
                have qzkW_N31_ : zkW F_ d_ N31_ = zkW F_ d_ N23_ := zkW_q hsN31_ (by decide)
                have c33_ : zYb b_ n_ N31_ := zYb.fr (hf_N23_.w hW) hsN31_ c25_ (by decide)
                have c34_ : zKm F_ K_ d_ N31_ := zKm.fr (hf_N23_.w hW) hsN31_ c27_ (by decide)
                have c35_ : zCI F_ K_ d_ 0 N31_ := zCI.fr (hf_N23_.w hW) hsN31_ c28_ (by decide)
                have c36_ : zNm nm_ F_ K_ d_ N31_ := zNm.fr (hf_N23_.w hW) hsN31_ c29_ (by decide)
                have c37_ : zLow d_ Mz N31_ := zLow.fr (hf_N23_.w hW) hsN31_ c30_ (by decide)
                show zW l m_Reader_readOperand (zn Mz + 0, zw Mz + 0) N31_ 88 [some (.ref 4), some (.ref (d_ + 0)), some (.ref (d_ + 33)), some (.int (Int32.ofInt ((ze Mz (d_ + 12) 7) - 1))), some (.int (Int32.ofInt 0))] [] _
                have hnn_ := hyt_.n hp0_N31_
                have hnx_ : (ze N31_ 1 2).toNat = znx b_ n_ (ze Mz 1 2).toNat := hnn_.2.trans (by rw [show ze N23_ 1 2 = ze Mz 1 2 by (exact eA1_2_N23_)])
                refine zw_aload_n (pc := 88) (n := 0) (x := 4) rfl (zdal_p dlA_Reader_readOperand_120 (i := 20) rfl) ?_
                refine zw_getF (pc := 89) f_Reader_15 rfl ((hf_N31_.w hW).ka (o := 4) (by decide)) ((hf_N31_.w hW).la (o := 4) (s := 0) (r := 1) (by decide)) (zdal_p dlA_Reader_readOperand_120 (i := 21) rfl) ?_
                refine zk_callV hf_N31_.x (pc := 92) [] [] l_Reader_53 (u_Tokens_isNumber l d_ N31_ (hf_N31_.w hW) b_ n_ hp1_N31_) rfl rfl ((hf_N31_.w hW).ka (o := 1) (by decide)) (by decide) (by decide) (Nat.le_of_ble_eq_true rfl) (zdal_p dlA_Reader_readOperand_120 (i := 22) rfl) ?_
                rintro _ N38_ ⟨v39_, rfl, ⟨hv39_a, hv39_b⟩, hsN38_, hp0_N38_⟩
                obtain rfl := hsN38_.eq.symm
                replace hp0_N38_ : ((v39_ = 1 ∧ zkd b_ n_ (ze N31_ 1 2).toNat = 2) ∨ (v39_ = 0 ∧ zkd b_ n_ (ze N31_ 1 2).toNat ≠ 2)) := hp0_N38_
                rcases hp0_N38_ with ⟨rfl, ha92_0_hp0_N38_⟩ | ⟨rfl, ha92_0_hp0_N38_⟩
                · skip
                  have hk3_ := ha92_0_hp0_N38_
                  have hv3_ := hp1_N31_.v2 hk3_
                  rw [hnx_] at hk3_ hv3_
                  show zW l m_Reader_readOperand (zn Mz + 0, zw Mz + 0) N31_ 95 [some (.ref 4), some (.ref (d_ + 0)), some (.ref (d_ + 33)), some (.int (Int32.ofInt ((ze Mz (d_ + 12) 7) - 1))), some (.int (Int32.ofInt 0))] [.int (Int32.ofInt 1)] _
                  refine zr_if_ne (pc := 95) (tgt := 104) ⟨(by decide), (by decide)⟩ (by decide) (zdal_p dlA_Reader_readOperand_120 (i := 23) rfl) (fun hc_95 => ?_) (fun hc_95 => ?_)
                  · skip
                    refine zw_aload_n (pc := 104) (n := 0) (x := 4) rfl (zdal_p dlA_Reader_readOperand_121 (i := 4) rfl) ?_
                    refine zw_getF (pc := 105) f_Reader_15 rfl ((hf_N31_.w hW).ka (o := 4) (by decide)) ((hf_N31_.w hW).la (o := 4) (s := 0) (r := 1) (by decide)) (zdal_p dlA_Reader_readOperand_121 (i := 5) rfl) ?_
                    refine zk_getI (pc := 108) f_Reader_57 rfl ((hf_N31_.w hW).ka (o := 1) (by decide)) (zdal_p dlA_Reader_readOperand_121 (i := 6) rfl) ?_
                    refine zw_iload_n (pc := 111) (n := 3) (x := Int32.ofInt ((ze Mz (d_ + 12) 7) - 1)) rfl (zdal_p dlA_Reader_readOperand_121 (i := 7) rfl) ?_
                    refine zr_icmp_le (pc := 112) (tgt := 121) ⟨(ze_r N31_ 1 5).1, (ze_r N31_ 1 5).2⟩ ⟨(by (exact zo_786 hFc_ r_D12_7.1)), (by (exact zo_601 r_D12_7.2))⟩ (by decide) (zdal_p dlA_Reader_readOperand_121 (i := 8) rfl) (fun hc_112 => ?_) (fun hc_112 => ?_)
                    · skip
                      refine zw_aload_n (pc := 121) (n := 2) (x := (d_ + 33)) rfl (zdal_p dlA_Reader_readOperand_121 (i := 13) rfl) ?_
                      refine zw_aload_n (pc := 122) (n := 0) (x := 4) rfl (zdal_p dlA_Reader_readOperand_121 (i := 14) rfl) ?_
                      refine zw_getF (pc := 123) f_Reader_15 rfl ((hf_N31_.w hW).ka (o := 4) (by decide)) ((hf_N31_.w hW).la (o := 4) (s := 0) (r := 1) (by decide)) (zdal_p dlA_Reader_readOperand_121 (i := 15) rfl) ?_
                      refine zk_getI (pc := 126) f_Reader_57 rfl ((hf_N31_.w hW).ka (o := 1) (by decide)) (zdal_p dlA_Reader_readOperand_121 (i := 16) rfl) ?_
                      refine zw_iconst (pc := 129) (v := Int32.ofInt 1) (by decide) (zdal_p dlA_Reader_readOperand_121 (i := 17) rfl) ?_
                      refine zk_callV hf_N31_.x (pc := 130) [.int (Int32.ofInt (ze N31_ 1 5)), .int (Int32.ofInt 1)] [] l_Reader_172 (u_Calc_pushSingle l d_ N31_ (hf_N31_.w hW) (ze N31_ 1 5) (ze_r N31_ 1 5).1 (ze_r N31_ 1 5).2 1 (by decide) (by decide) F_ K_ hA_ c34_ c35_ (show 0 ≤ (ze N31_ 1 5) by first | with_reducible assumption | (exact zo_57 hv3_.2.1) | assumption) (show (ze N31_ 1 5) < F_ by first | with_reducible assumption | (exact zo_1041 hFc_ hc_112 hv3_.2.2) | assumption) (show 0 ≤ 1 by first | with_reducible assumption | (decide) | assumption) (show 1 ≤ 999 by first | with_reducible assumption | (decide) | assumption)) rfl rfl ((hf_N31_.w hW).kr (o := 33) (by decide)) (by decide) (by decide) (Nat.le_of_ble_eq_true rfl) (zdal_p dlA_Reader_readOperand_121 (i := 18) rfl) ?_
                      rintro _ N40_ ⟨rfl, hsN40_, ⟨hp0_N40_, hp1_N40_, hp2_N40_, hp3_N40_, hp4_N40_⟩⟩
                      have hf_N40_ : zFc d_ [(1, 2), (1, 3), (1, 4), (1, 5), (4, 1), (4, 2), (4, 3)] [] [(33, 3)] [25] Mz N40_ := hf_N31_.tr hsN40_ (by decide) (by decide) (by decide) (by decide)
                      have eA1_2_N40_ : ze N40_ 1 2 = ze N31_ 1 2 := hsN40_.ea (hf_N31_.w hW) (by decide)
                      have eA1_3_N40_ : ze N40_ 1 3 = ze N31_ 1 3 := hsN40_.ea (hf_N31_.w hW) (by decide)
                      have eA1_5_N40_ : ze N40_ 1 5 = ze N31_ 1 5 := hsN40_.ea (hf_N31_.w hW) (by decide)
                      have eA4_1_N40_ : ze N40_ 4 1 = ze N31_ 4 1 := hsN40_.ea (hf_N31_.w hW) (by decide)
                      have eD12_7_N40_ : ze N40_ (d_ + 12) 7 = ze N31_ (d_ + 12) 7 := hsN40_.e (by decide)
                      have eD33_2_N40_ : ze N40_ (d_ + 33) 2 = ze N31_ (d_ + 33) 2 := hsN40_.e (by decide)
                      have rD33_3_N40_ := ze_r N40_ (d_ + 33) 3
                      have eD33_4_N40_ : ze N40_ (d_ + 33) 4 = ze N31_ (d_ + 33) 4 := hsN40_.e (by decide)
                      have eD33_5_N40_ : ze N40_ (d_ + 33) 5 = ze N31_ (d_ + 33) 5 := hsN40_.e (by decide)
                      have eD33_6_N40_ : ze N40_ (d_ + 33) 6 = ze N31_ (d_ + 33) 6 := hsN40_.e (by decide)
                      have qzkS_N40_ : zkS d_ N40_ = zkS d_ N31_ := zkS_q hsN40_ (by decide)
                      have qzkG_N40_ : zkG d_ N40_ = zkG d_ N31_ := zkG_q hsN40_ (by decide)
                      have c42_ : zYb b_ n_ N40_ := zYb.fr (hf_N31_.w hW) hsN40_ c33_ (by decide)
                      have c43_ : zKm F_ K_ d_ N40_ := zKm.fr (hf_N31_.w hW) hsN40_ c34_ (by decide)
                      have c44_ : zYt b_ n_ N40_ := zYt.fr (hf_N31_.w hW) hsN40_ hp1_N31_ (by decide)
                      show zW l m_Reader_readOperand (zn Mz + 0, zw Mz + 0) N40_ 133 [some (.ref 4), some (.ref (d_ + 0)), some (.ref (d_ + 33)), some (.int (Int32.ofInt ((ze Mz (d_ + 12) 7) - 1))), some (.int (Int32.ofInt 0))] [] _
                      have hp1_ := hp1_N40_
                      have hp2_ := hp2_N40_
                      have hp3_ := hp3_N40_
                      have hlw_ := ((zLow.f hsN23_ (by decide)).tr (zLow.f hsN31_ (by decide))).tr hp4_N40_
                      have hW_ := hp2_.trans (by rw [qzkG_N31_, qzkW_N31_, qzkG_N23_, qzkW_N23_, show ze N31_ 1 5 = znu b_ n_ (znx b_ n_ (ze Mz 1 2).toNat) by (exact zo_763 hv3_.1)] : _ = zpu (zkG d_ Mz) (zone (znu b_ n_ (znx b_ n_ (ze Mz 1 2).toNat)) 1) (zkW F_ d_ Mz))
                      have hyt_ := c44_
                      have hyx_ := hyt_.x
                      refine zw_aload_n (pc := 133) (n := 0) (x := 4) rfl (zdal_p dlA_Reader_readOperand_121 (i := 19) rfl) ?_
                      refine zw_getF (pc := 134) f_Reader_15 rfl ((hf_N40_.w hW).ka (o := 4) (by decide)) ((hf_N40_.w hW).la (o := 4) (s := 0) (r := 1) (by decide)) (zdal_p dlA_Reader_readOperand_121 (i := 20) rfl) ?_
                      refine zk_callV hf_N40_.x (pc := 137) [] [] l_Reader_44 (u_Tokens_step l d_ N40_ (hf_N40_.w hW) b_ n_ c42_ (show 0 ≤ ze N40_ 1 3 by first | with_reducible assumption | (exact zo_57 hyx_.2.1) | assumption) (show ze N40_ 1 3 ≤ n_ by first | with_reducible assumption | (exact zo_605 hyx_.2.2) | assumption)) rfl rfl ((hf_N40_.w hW).ka (o := 1) (by decide)) (by decide) (by decide) (Nat.le_of_ble_eq_true rfl) (zdal_p dlA_Reader_readOperand_121 (i := 21) rfl) ?_
                      rintro _ N45_ ⟨rfl, hsN45_, ⟨hp0_N45_, hp1_N45_⟩⟩
                      have hf_N45_ : zFc d_ [(1, 2), (1, 3), (1, 4), (1, 5), (4, 1), (4, 2), (4, 3)] [] [(33, 3)] [25] Mz N45_ := hf_N40_.tr hsN45_ (by decide) (by decide) (by decide) (by decide)
                      have rA1_2_N45_ := ze_r N45_ 1 2
                      have rA1_3_N45_ := ze_r N45_ 1 3
                      have rA1_5_N45_ := ze_r N45_ 1 5
                      have eA4_1_N45_ : ze N45_ 4 1 = ze N40_ 4 1 := hsN45_.ea (hf_N40_.w hW) (by decide)
                      have eD12_7_N45_ : ze N45_ (d_ + 12) 7 = ze N40_ (d_ + 12) 7 := hsN45_.e (by decide)
                      have eD33_2_N45_ : ze N45_ (d_ + 33) 2 = ze N40_ (d_ + 33) 2 := hsN45_.e (by decide)
                      have eD33_3_N45_ : ze N45_ (d_ + 33) 3 = ze N40_ (d_ + 33) 3 := hsN45_.e (by decide)
                      have eD33_4_N45_ : ze N45_ (d_ + 33) 4 = ze N40_ (d_ + 33) 4 := hsN45_.e (by decide)
                      have eD33_5_N45_ : ze N45_ (d_ + 33) 5 = ze N40_ (d_ + 33) 5 := hsN45_.e (by decide)
                      have eD33_6_N45_ : ze N45_ (d_ + 33) 6 = ze N40_ (d_ + 33) 6 := hsN45_.e (by decide)
                      have qzkS_N45_ : zkS d_ N45_ = zkS d_ N40_ := zkS_q hsN45_ (by decide)
                      have qzkG_N45_ : zkG d_ N45_ = zkG d_ N40_ := zkG_q hsN45_ (by decide)
                      have qzkW_N45_ : zkW F_ d_ N45_ = zkW F_ d_ N40_ := zkW_q hsN45_ (by decide)
                      have c47_ : zYb b_ n_ N45_ := zYb.fr (hf_N40_.w hW) hsN45_ c42_ (by decide)
                      have c48_ : zKm F_ K_ d_ N45_ := zKm.fr (hf_N40_.w hW) hsN45_ c43_ (by decide)
                      have c49_ : zCI F_ K_ d_ 1 N45_ := zCI.fr (hf_N40_.w hW) hsN45_ hp0_N40_ (by decide)
                      show zW l m_Reader_readOperand (zn Mz + 0, zw Mz + 0) N45_ 140 [some (.ref 4), some (.ref (d_ + 0)), some (.ref (d_ + 33)), some (.int (Int32.ofInt ((ze Mz (d_ + 12) 7) - 1))), some (.int (Int32.ofInt 0))] [] _
                      have hnn_ := hyt_.n hp0_N45_
                      refine zw_iconst (pc := 140) (v := Int32.ofInt 1) (by decide) (zdal_p dlA_Reader_readOperand_121 (i := 22) rfl) ?_
                      exact zk_iret (pc := 141) (ty := .boolean) rfl (z_narB (by (decide))) ⟨by (exact hv22_a), by (exact hv22_b)⟩ hf_N45_ ⟨hp1_N45_, (show ((1 = 1 ∧ zRea (zfs b_ n_ F_ K_ nm_) (zKst 0 F_ d_ Mz) (zKst 1 F_ d_ N45_) ∧ zCI F_ K_ d_ 1 N45_ ∧ zLow d_ Mz N45_ ∧ ze Mz 4 1 + 1 ≤ ze N45_ 4 1 ∧ ze N45_ 4 1 ≤ 30) ∨ (1 = 0 ∧ zRea (zfs b_ n_ F_ K_ nm_) (zKst 0 F_ d_ Mz) zFt ∧ zLow d_ Mz N45_)) from Or.inl (⟨(show 1 = 1 by first | rfl | omega | exact c49_ | exact hlw_.tr (zLow.f hsN45_ (by decide)) | exact hw7_.tr (zLow.f hsN45_ (by decide)) | exact zRea.st (zs0_n (Nz := N45_) (F := F_) (b := b_) (n := n_) (K := K_) (nm := nm_) p7_ hk2_ hu0_ (by rw [qzkS_N45_, hp1_, qzkS_N31_]) (by rw [qzkW_N45_, hW_]) (by rw [qzkG_N45_, hp3_, qzkG_N31_]) (by omega) (by omega) (hnn_.2.trans (by rw [show ze N40_ 1 2 = ze Mz 1 2 by omega]))) | exact zRea.st (zs0_s (Nz := N45_) (F := F_) (b := b_) (n := n_) (K := K_) (nm := nm_) p7_ hk2_ ⟨hk1_, hky_⟩ hu0_ ⟨hk3_, by omega⟩ (by rw [qzkS_N45_, hp1_, qzkS_N31_, qzkS_N23_]) (by rw [qzkW_N45_, hW_]) (by rw [qzkG_N45_, hp3_, qzkG_N31_, qzkG_N23_]) (by omega) (by omega) (hnn_.2.trans (by rw [show ze N40_ 1 2 = ze N31_ 1 2 by omega, hnx_]))) | exact zRea.st (zs0_w (Nz := N45_) (F := F_) (b := b_) (n := n_) (K := K_) (nm := nm_) p7_ hk2_ hns_ hw0_ hw1_ hw2_ (by rw [qzkS_N45_, hw4_]) (by rw [qzkW_N45_, hw3_]) (by rw [qzkG_N45_, hw5_]) (by omega) (by omega) (hnn_.2.trans (by rw [show ze N40_ 1 2 = ze Mz 1 2 by omega])))), (show zRea (zfs b_ n_ F_ K_ nm_) (zKst 0 F_ d_ Mz) (zKst 1 F_ d_ N45_) by first | rfl | omega | exact c49_ | exact hlw_.tr (zLow.f hsN45_ (by decide)) | exact hw7_.tr (zLow.f hsN45_ (by decide)) | exact zRea.st (zs0_n (Nz := N45_) (F := F_) (b := b_) (n := n_) (K := K_) (nm := nm_) p7_ hk2_ hu0_ (by rw [qzkS_N45_, hp1_, qzkS_N31_]) (by rw [qzkW_N45_, hW_]) (by rw [qzkG_N45_, hp3_, qzkG_N31_]) (by omega) (by omega) (hnn_.2.trans (by rw [show ze N40_ 1 2 = ze Mz 1 2 by omega]))) | exact zRea.st (zs0_s (Nz := N45_) (F := F_) (b := b_) (n := n_) (K := K_) (nm := nm_) p7_ hk2_ ⟨hk1_, hky_⟩ hu0_ ⟨hk3_, by (exact zo_1042 hFc_ hc_112 hv3_.1 hv3_.2.2)⟩ (by rw [qzkS_N45_, hp1_, qzkS_N31_, qzkS_N23_]) (by rw [qzkW_N45_, hW_]) (by rw [qzkG_N45_, hp3_, qzkG_N31_, qzkG_N23_]) (by (exact zo_1043 eA4_1_N31_ eA4_1_N40_ eA4_1_N45_ ha53_1_hp0_N23_)) (by (exact p5_)) (hnn_.2.trans (by rw [show ze N40_ 1 2 = ze N31_ 1 2 by (exact eA1_2_N40_), hnx_]))) | exact zRea.st (zs0_w (Nz := N45_) (F := F_) (b := b_) (n := n_) (K := K_) (nm := nm_) p7_ hk2_ hns_ hw0_ hw1_ hw2_ (by rw [qzkS_N45_, hw4_]) (by rw [qzkW_N45_, hw3_]) (by rw [qzkG_N45_, hw5_]) (by omega) (by omega) (hnn_.2.trans (by rw [show ze N40_ 1 2 = ze Mz 1 2 by omega])))), (show zCI F_ K_ d_ 1 N45_ by first | rfl | (exact c49_) | exact c49_ | exact hlw_.tr (zLow.f hsN45_ (by decide)) | exact hw7_.tr (zLow.f hsN45_ (by decide)) | exact zRea.st (zs0_n (Nz := N45_) (F := F_) (b := b_) (n := n_) (K := K_) (nm := nm_) p7_ hk2_ hu0_ (by rw [qzkS_N45_, hp1_, qzkS_N31_]) (by rw [qzkW_N45_, hW_]) (by rw [qzkG_N45_, hp3_, qzkG_N31_]) (by omega) (by omega) (hnn_.2.trans (by rw [show ze N40_ 1 2 = ze Mz 1 2 by omega]))) | exact zRea.st (zs0_s (Nz := N45_) (F := F_) (b := b_) (n := n_) (K := K_) (nm := nm_) p7_ hk2_ ⟨hk1_, hky_⟩ hu0_ ⟨hk3_, by omega⟩ (by rw [qzkS_N45_, hp1_, qzkS_N31_, qzkS_N23_]) (by rw [qzkW_N45_, hW_]) (by rw [qzkG_N45_, hp3_, qzkG_N31_, qzkG_N23_]) (by omega) (by omega) (hnn_.2.trans (by rw [show ze N40_ 1 2 = ze N31_ 1 2 by omega, hnx_]))) | exact zRea.st (zs0_w (Nz := N45_) (F := F_) (b := b_) (n := n_) (K := K_) (nm := nm_) p7_ hk2_ hns_ hw0_ hw1_ hw2_ (by rw [qzkS_N45_, hw4_]) (by rw [qzkW_N45_, hw3_]) (by rw [qzkG_N45_, hw5_]) (by omega) (by omega) (hnn_.2.trans (by rw [show ze N40_ 1 2 = ze Mz 1 2 by omega])))), (show zLow d_ Mz N45_ by first | rfl | omega | exact c49_ | exact hlw_.tr (zLow.f hsN45_ (by decide)) | exact hw7_.tr (zLow.f hsN45_ (by decide)) | exact zRea.st (zs0_n (Nz := N45_) (F := F_) (b := b_) (n := n_) (K := K_) (nm := nm_) p7_ hk2_ hu0_ (by rw [qzkS_N45_, hp1_, qzkS_N31_]) (by rw [qzkW_N45_, hW_]) (by rw [qzkG_N45_, hp3_, qzkG_N31_]) (by omega) (by omega) (hnn_.2.trans (by rw [show ze N40_ 1 2 = ze Mz 1 2 by omega]))) | exact zRea.st (zs0_s (Nz := N45_) (F := F_) (b := b_) (n := n_) (K := K_) (nm := nm_) p7_ hk2_ ⟨hk1_, hky_⟩ hu0_ ⟨hk3_, by omega⟩ (by rw [qzkS_N45_, hp1_, qzkS_N31_, qzkS_N23_]) (by rw [qzkW_N45_, hW_]) (by rw [qzkG_N45_, hp3_, qzkG_N31_, qzkG_N23_]) (by omega) (by omega) (hnn_.2.trans (by rw [show ze N40_ 1 2 = ze N31_ 1 2 by omega, hnx_]))) | exact zRea.st (zs0_w (Nz := N45_) (F := F_) (b := b_) (n := n_) (K := K_) (nm := nm_) p7_ hk2_ hns_ hw0_ hw1_ hw2_ (by rw [qzkS_N45_, hw4_]) (by rw [qzkW_N45_, hw3_]) (by rw [qzkG_N45_, hw5_]) (by omega) (by omega) (hnn_.2.trans (by rw [show ze N40_ 1 2 = ze Mz 1 2 by omega])))), (show ze Mz 4 1 + 1 ≤ ze N45_ 4 1 by first | rfl | (exact zo_1044 eA4_1_N31_ eA4_1_N40_ eA4_1_N45_ ha53_1_hp0_N23_) | exact c49_ | exact hlw_.tr (zLow.f hsN45_ (by decide)) | exact hw7_.tr (zLow.f hsN45_ (by decide)) | exact zRea.st (zs0_n (Nz := N45_) (F := F_) (b := b_) (n := n_) (K := K_) (nm := nm_) p7_ hk2_ hu0_ (by rw [qzkS_N45_, hp1_, qzkS_N31_]) (by rw [qzkW_N45_, hW_]) (by rw [qzkG_N45_, hp3_, qzkG_N31_]) (by omega) (by omega) (hnn_.2.trans (by rw [show ze N40_ 1 2 = ze Mz 1 2 by omega]))) | exact zRea.st (zs0_s (Nz := N45_) (F := F_) (b := b_) (n := n_) (K := K_) (nm := nm_) p7_ hk2_ ⟨hk1_, hky_⟩ hu0_ ⟨hk3_, by omega⟩ (by rw [qzkS_N45_, hp1_, qzkS_N31_, qzkS_N23_]) (by rw [qzkW_N45_, hW_]) (by rw [qzkG_N45_, hp3_, qzkG_N31_, qzkG_N23_]) (by omega) (by omega) (hnn_.2.trans (by rw [show ze N40_ 1 2 = ze N31_ 1 2 by omega, hnx_]))) | exact zRea.st (zs0_w (Nz := N45_) (F := F_) (b := b_) (n := n_) (K := K_) (nm := nm_) p7_ hk2_ hns_ hw0_ hw1_ hw2_ (by rw [qzkS_N45_, hw4_]) (by rw [qzkW_N45_, hw3_]) (by rw [qzkG_N45_, hw5_]) (by omega) (by omega) (hnn_.2.trans (by rw [show ze N40_ 1 2 = ze Mz 1 2 by omega])))), (show ze N45_ 4 1 ≤ 30 by first | rfl | (exact zo_1045 eA4_1_N31_ eA4_1_N40_ eA4_1_N45_ ha53_1_hp0_N23_ ha53_2_hp0_N23_ rA4_1_N23_.2) | exact c49_ | exact hlw_.tr (zLow.f hsN45_ (by decide)) | exact hw7_.tr (zLow.f hsN45_ (by decide)) | exact zRea.st (zs0_n (Nz := N45_) (F := F_) (b := b_) (n := n_) (K := K_) (nm := nm_) p7_ hk2_ hu0_ (by rw [qzkS_N45_, hp1_, qzkS_N31_]) (by rw [qzkW_N45_, hW_]) (by rw [qzkG_N45_, hp3_, qzkG_N31_]) (by omega) (by omega) (hnn_.2.trans (by rw [show ze N40_ 1 2 = ze Mz 1 2 by omega]))) | exact zRea.st (zs0_s (Nz := N45_) (F := F_) (b := b_) (n := n_) (K := K_) (nm := nm_) p7_ hk2_ ⟨hk1_, hky_⟩ hu0_ ⟨hk3_, by omega⟩ (by rw [qzkS_N45_, hp1_, qzkS_N31_, qzkS_N23_]) (by rw [qzkW_N45_, hW_]) (by rw [qzkG_N45_, hp3_, qzkG_N31_, qzkG_N23_]) (by omega) (by omega) (hnn_.2.trans (by rw [show ze N40_ 1 2 = ze N31_ 1 2 by omega, hnx_]))) | exact zRea.st (zs0_w (Nz := N45_) (F := F_) (b := b_) (n := n_) (K := K_) (nm := nm_) p7_ hk2_ hns_ hw0_ hw1_ hw2_ (by rw [qzkS_N45_, hw4_]) (by rw [qzkW_N45_, hw3_]) (by rw [qzkG_N45_, hw5_]) (by omega) (by omega) (hnn_.2.trans (by rw [show ze N40_ 1 2 = ze Mz 1 2 by omega]))))⟩))⟩ (zdal_p dlA_Reader_readOperand_121 (i := 23) rfl)
                    · skip
                      refine zw_aload_n (pc := 115) (n := 0) (x := 4) rfl (zdal_p dlA_Reader_readOperand_121 (i := 9) rfl) ?_
                      refine zw_iconst (pc := 116) (v := Int32.ofInt 4) (by decide) (zdal_p dlA_Reader_readOperand_121 (i := 10) rfl) ?_
                      refine zk_callV hf_N31_.x (pc := 117) [.int (Int32.ofInt 4)] [] l_Reader_41 (u_Reader_refuse l d_ N31_ (hf_N31_.w hW) 4 (by decide) (by decide)) rfl rfl ((hf_N31_.w hW).ka (o := 4) (by decide)) (by decide) (by decide) (Nat.le_of_ble_eq_true rfl) (zdal_p dlA_Reader_readOperand_121 (i := 11) rfl) ?_
                      rintro _ N50_ ⟨v51_, rfl, ⟨hv51_a, hv51_b⟩, hsN50_, hp0_N50_⟩
                      replace hp0_N50_ : ((v51_ = 0)) := hp0_N50_
                      have hf_N50_ : zFc d_ [(1, 2), (1, 3), (1, 4), (1, 5), (4, 1), (4, 2), (4, 3)] [] [(33, 3)] [25] Mz N50_ := hf_N31_.tr hsN50_ (by decide) (by decide) (by decide) (by decide)
                      have eA1_2_N50_ : ze N50_ 1 2 = ze N31_ 1 2 := hsN50_.ea (hf_N31_.w hW) (by decide)
                      have eA1_3_N50_ : ze N50_ 1 3 = ze N31_ 1 3 := hsN50_.ea (hf_N31_.w hW) (by decide)
                      have eA1_5_N50_ : ze N50_ 1 5 = ze N31_ 1 5 := hsN50_.ea (hf_N31_.w hW) (by decide)
                      have eA4_1_N50_ : ze N50_ 4 1 = ze N31_ 4 1 := hsN50_.ea (hf_N31_.w hW) (by decide)
                      have eD12_7_N50_ : ze N50_ (d_ + 12) 7 = ze N31_ (d_ + 12) 7 := hsN50_.e (by decide)
                      have eD33_2_N50_ : ze N50_ (d_ + 33) 2 = ze N31_ (d_ + 33) 2 := hsN50_.e (by decide)
                      have eD33_3_N50_ : ze N50_ (d_ + 33) 3 = ze N31_ (d_ + 33) 3 := hsN50_.e (by decide)
                      have eD33_4_N50_ : ze N50_ (d_ + 33) 4 = ze N31_ (d_ + 33) 4 := hsN50_.e (by decide)
                      have eD33_5_N50_ : ze N50_ (d_ + 33) 5 = ze N31_ (d_ + 33) 5 := hsN50_.e (by decide)
                      have eD33_6_N50_ : ze N50_ (d_ + 33) 6 = ze N31_ (d_ + 33) 6 := hsN50_.e (by decide)
                      have qzkS_N50_ : zkS d_ N50_ = zkS d_ N31_ := zkS_q hsN50_ (by decide)
                      have qzkG_N50_ : zkG d_ N50_ = zkG d_ N31_ := zkG_q hsN50_ (by decide)
                      have qzkW_N50_ : zkW F_ d_ N50_ = zkW F_ d_ N31_ := zkW_q hsN50_ (by decide)
                      have c52_ : zYb b_ n_ N50_ := zYb.fr (hf_N31_.w hW) hsN50_ c33_ (by decide)
                      have c53_ : zKm F_ K_ d_ N50_ := zKm.fr (hf_N31_.w hW) hsN50_ c34_ (by decide)
                      have c54_ : zCI F_ K_ d_ 0 N50_ := zCI.fr (hf_N31_.w hW) hsN50_ c35_ (by decide)
                      have c55_ : zNm nm_ F_ K_ d_ N50_ := zNm.fr (hf_N31_.w hW) hsN50_ c36_ (by decide)
                      have c56_ : zLow d_ Mz N50_ := zLow.fr (hf_N31_.w hW) hsN50_ c37_ (by decide)
                      have c57_ : zYt b_ n_ N50_ := zYt.fr (hf_N31_.w hW) hsN50_ hp1_N31_ (by decide)
                      rcases hp0_N50_ with rfl
                      · skip
                        show zW l m_Reader_readOperand (zn Mz + 0, zw Mz + 0) N50_ 120 [some (.ref 4), some (.ref (d_ + 0)), some (.ref (d_ + 33)), some (.int (Int32.ofInt ((ze Mz (d_ + 12) 7) - 1))), some (.int (Int32.ofInt 0))] [.int (Int32.ofInt 0)] _
                        exact zk_iret (pc := 120) (ty := .boolean) rfl (z_narB (by (decide))) ⟨by (exact hv2_a), by (exact hv2_b)⟩ hf_N50_ ⟨c57_, (show ((0 = 1 ∧ zRea (zfs b_ n_ F_ K_ nm_) (zKst 0 F_ d_ Mz) (zKst 1 F_ d_ N50_) ∧ zCI F_ K_ d_ 1 N50_ ∧ zLow d_ Mz N50_ ∧ ze Mz 4 1 + 1 ≤ ze N50_ 4 1 ∧ ze N50_ 4 1 ≤ 30) ∨ (0 = 0 ∧ zRea (zfs b_ n_ F_ K_ nm_) (zKst 0 F_ d_ Mz) zFt ∧ zLow d_ Mz N50_)) from Or.inr (⟨(show 0 = 0 by first | rfl | exact hrt_ | (exfalso; omega) | exact zRea.st (zs0_sf (F := F_) (d := d_) (b := b_) (n := n_) (K := K_) (nm := nm_) p7_ hk2_ ⟨hk1_, hky_⟩ (fun q_ => by have := q_.2.2; omega)) | exact c56_), (show zRea (zfs b_ n_ F_ K_ nm_) (zKst 0 F_ d_ Mz) zFt by first | rfl | exact hrt_ | (exfalso; omega) | exact zRea.st (zs0_sf (F := F_) (d := d_) (b := b_) (n := n_) (K := K_) (nm := nm_) p7_ hk2_ ⟨hk1_, hky_⟩ (fun q_ => by have := q_.2.2; (exact zo_1046 hFc_ hc_112 hv3_.1 q_.2.2))) | exact c56_), (show zLow d_ Mz N50_ by first | rfl | exact hrt_ | (exfalso; omega) | exact zRea.st (zs0_sf (F := F_) (d := d_) (b := b_) (n := n_) (K := K_) (nm := nm_) p7_ hk2_ ⟨hk1_, hky_⟩ (fun q_ => by have := q_.2.2; (exact zo_1046 hFc_ hc_112 hv3_.1 q_.2.2))) | exact c56_)⟩))⟩ (zdal_p dlA_Reader_readOperand_121 (i := 12) rfl)
                  · skip
                    exact absurd hc_95 (by decide)
                · skip
                  have hk3_ := ha92_0_hp0_N38_
                  rw [hnx_] at hk3_
                  have hrt_ := zRea.st (zs0_sf (F := F_) (d := d_) (b := b_) (n := n_) (K := K_) (nm := nm_) p7_ hk2_ ⟨hk1_, hky_⟩ (fun q_ => hk3_ q_.2.1))
                  show zW l m_Reader_readOperand (zn Mz + 0, zw Mz + 0) N31_ 95 [some (.ref 4), some (.ref (d_ + 0)), some (.ref (d_ + 33)), some (.int (Int32.ofInt ((ze Mz (d_ + 12) 7) - 1))), some (.int (Int32.ofInt 0))] [.int (Int32.ofInt 0)] _
                  refine zr_if_ne (pc := 95) (tgt := 104) ⟨(by decide), (by decide)⟩ (by decide) (zdal_p dlA_Reader_readOperand_120 (i := 23) rfl) (fun hc_95 => ?_) (fun hc_95 => ?_)
                  · skip
                    exact absurd hc_95 (by decide)
                  · skip
                    refine zw_aload_n (pc := 98) (n := 0) (x := 4) rfl (zdal_p dlA_Reader_readOperand_121 (i := 0) rfl) ?_
                    refine zw_iconst (pc := 99) (v := Int32.ofInt 2) (by decide) (zdal_p dlA_Reader_readOperand_121 (i := 1) rfl) ?_
                    refine zk_callV hf_N31_.x (pc := 100) [.int (Int32.ofInt 2)] [] l_Reader_41 (u_Reader_refuse l d_ N31_ (hf_N31_.w hW) 2 (by decide) (by decide)) rfl rfl ((hf_N31_.w hW).ka (o := 4) (by decide)) (by decide) (by decide) (Nat.le_of_ble_eq_true rfl) (zdal_p dlA_Reader_readOperand_121 (i := 2) rfl) ?_
                    rintro _ N58_ ⟨v59_, rfl, ⟨hv59_a, hv59_b⟩, hsN58_, hp0_N58_⟩
                    replace hp0_N58_ : ((v59_ = 0)) := hp0_N58_
                    have hf_N58_ : zFc d_ [(1, 2), (1, 3), (1, 4), (1, 5), (4, 1), (4, 2), (4, 3)] [] [(33, 3)] [25] Mz N58_ := hf_N31_.tr hsN58_ (by decide) (by decide) (by decide) (by decide)
                    have eA1_2_N58_ : ze N58_ 1 2 = ze N31_ 1 2 := hsN58_.ea (hf_N31_.w hW) (by decide)
                    have eA1_3_N58_ : ze N58_ 1 3 = ze N31_ 1 3 := hsN58_.ea (hf_N31_.w hW) (by decide)
                    have eA1_5_N58_ : ze N58_ 1 5 = ze N31_ 1 5 := hsN58_.ea (hf_N31_.w hW) (by decide)
                    have eA4_1_N58_ : ze N58_ 4 1 = ze N31_ 4 1 := hsN58_.ea (hf_N31_.w hW) (by decide)
                    have eD12_7_N58_ : ze N58_ (d_ + 12) 7 = ze N31_ (d_ + 12) 7 := hsN58_.e (by decide)
                    have eD33_2_N58_ : ze N58_ (d_ + 33) 2 = ze N31_ (d_ + 33) 2 := hsN58_.e (by decide)
                    have eD33_3_N58_ : ze N58_ (d_ + 33) 3 = ze N31_ (d_ + 33) 3 := hsN58_.e (by decide)
                    have eD33_4_N58_ : ze N58_ (d_ + 33) 4 = ze N31_ (d_ + 33) 4 := hsN58_.e (by decide)
                    have eD33_5_N58_ : ze N58_ (d_ + 33) 5 = ze N31_ (d_ + 33) 5 := hsN58_.e (by decide)
                    have eD33_6_N58_ : ze N58_ (d_ + 33) 6 = ze N31_ (d_ + 33) 6 := hsN58_.e (by decide)
                    have qzkS_N58_ : zkS d_ N58_ = zkS d_ N31_ := zkS_q hsN58_ (by decide)
                    have qzkG_N58_ : zkG d_ N58_ = zkG d_ N31_ := zkG_q hsN58_ (by decide)
                    have qzkW_N58_ : zkW F_ d_ N58_ = zkW F_ d_ N31_ := zkW_q hsN58_ (by decide)
                    have c60_ : zYb b_ n_ N58_ := zYb.fr (hf_N31_.w hW) hsN58_ c33_ (by decide)
                    have c61_ : zKm F_ K_ d_ N58_ := zKm.fr (hf_N31_.w hW) hsN58_ c34_ (by decide)
                    have c62_ : zCI F_ K_ d_ 0 N58_ := zCI.fr (hf_N31_.w hW) hsN58_ c35_ (by decide)
                    have c63_ : zNm nm_ F_ K_ d_ N58_ := zNm.fr (hf_N31_.w hW) hsN58_ c36_ (by decide)
                    have c64_ : zLow d_ Mz N58_ := zLow.fr (hf_N31_.w hW) hsN58_ c37_ (by decide)
                    have c65_ : zYt b_ n_ N58_ := zYt.fr (hf_N31_.w hW) hsN58_ hp1_N31_ (by decide)
                    rcases hp0_N58_ with rfl
                    · skip
                      show zW l m_Reader_readOperand (zn Mz + 0, zw Mz + 0) N58_ 103 [some (.ref 4), some (.ref (d_ + 0)), some (.ref (d_ + 33)), some (.int (Int32.ofInt ((ze Mz (d_ + 12) 7) - 1))), some (.int (Int32.ofInt 0))] [.int (Int32.ofInt 0)] _
                      exact zk_iret (pc := 103) (ty := .boolean) rfl (z_narB (by (decide))) ⟨by (exact hv2_a), by (exact hv2_b)⟩ hf_N58_ ⟨c65_, (show ((0 = 1 ∧ zRea (zfs b_ n_ F_ K_ nm_) (zKst 0 F_ d_ Mz) (zKst 1 F_ d_ N58_) ∧ zCI F_ K_ d_ 1 N58_ ∧ zLow d_ Mz N58_ ∧ ze Mz 4 1 + 1 ≤ ze N58_ 4 1 ∧ ze N58_ 4 1 ≤ 30) ∨ (0 = 0 ∧ zRea (zfs b_ n_ F_ K_ nm_) (zKst 0 F_ d_ Mz) zFt ∧ zLow d_ Mz N58_)) from Or.inr (⟨(show 0 = 0 by first | rfl | exact hrt_ | (exfalso; omega) | exact zRea.st (zs0_sf (F := F_) (d := d_) (b := b_) (n := n_) (K := K_) (nm := nm_) p7_ hk2_ ⟨hk1_, hky_⟩ (fun q_ => by have := q_.2.2; omega)) | exact c64_), (show zRea (zfs b_ n_ F_ K_ nm_) (zKst 0 F_ d_ Mz) zFt by first | rfl | exact hrt_ | (exfalso; omega) | exact zRea.st (zs0_sf (F := F_) (d := d_) (b := b_) (n := n_) (K := K_) (nm := nm_) p7_ hk2_ ⟨hk1_, hky_⟩ (fun q_ => by have := q_.2.2; omega)) | exact c64_), (show zLow d_ Mz N58_ by first | rfl | exact hrt_ | (exfalso; omega) | exact zRea.st (zs0_sf (F := F_) (d := d_) (b := b_) (n := n_) (K := K_) (nm := nm_) p7_ hk2_ ⟨hk1_, hky_⟩ (fun q_ => by have := q_.2.2; omega)) | exact c64_)⟩))⟩ (zdal_p dlA_Reader_readOperand_121 (i := 3) rfl)
              · skip
                exact absurd hc_63 (by decide)
            · skip
              exact absurd hc_56 (by decide)
          · skip
            have hrt_ : zRea (zfs b_ n_ F_ K_ nm_) (zKst 0 F_ d_ Mz) zFt := by first | exact zRea.st (zs0_nf (F := F_) (d := d_) (b := b_) (n := n_) (K := K_) (nm := nm_) p7_ hk2_ ha53_0_hp0_N23_) | exact zRea.st (zs0_sf (F := F_) (d := d_) (b := b_) (n := n_) (K := K_) (nm := nm_) p7_ hk2_ ⟨hk1_, hky_⟩ (fun q_ => ha53_0_hp0_N23_ q_.1))
            show zW l m_Reader_readOperand (zn Mz + 0, zw Mz + 0) N23_ 56 [some (.ref 4), some (.ref (d_ + 0)), some (.ref (d_ + 33)), some (.int (Int32.ofInt ((ze Mz (d_ + 12) 7) - 1))), some (.int (Int32.ofInt 0))] [.int (Int32.ofInt 0)] _
            refine zr_if_ne (pc := 56) (tgt := 61) ⟨(by decide), (by decide)⟩ (by decide) (zdal_p dlA_Reader_readOperand_120 (i := 5) rfl) (fun hc_56 => ?_) (fun hc_56 => ?_)
            · skip
              exact absurd hc_56 (by decide)
            · skip
              refine zw_iconst (pc := 59) (v := Int32.ofInt 0) (by decide) (zdal_p dlA_Reader_readOperand_120 (i := 6) rfl) ?_
              exact zk_iret (pc := 60) (ty := .boolean) rfl (z_narB (by (decide))) ⟨by (exact hv2_a), by (exact hv2_b)⟩ hf_N23_ ⟨c26_, (show ((0 = 1 ∧ zRea (zfs b_ n_ F_ K_ nm_) (zKst 0 F_ d_ Mz) (zKst 1 F_ d_ N23_) ∧ zCI F_ K_ d_ 1 N23_ ∧ zLow d_ Mz N23_ ∧ ze Mz 4 1 + 1 ≤ ze N23_ 4 1 ∧ ze N23_ 4 1 ≤ 30) ∨ (0 = 0 ∧ zRea (zfs b_ n_ F_ K_ nm_) (zKst 0 F_ d_ Mz) zFt ∧ zLow d_ Mz N23_)) from Or.inr (⟨(show 0 = 0 by first | rfl | exact hrt_ | (exfalso; omega) | exact zRea.st (zs0_sf (F := F_) (d := d_) (b := b_) (n := n_) (K := K_) (nm := nm_) p7_ hk2_ ⟨hk1_, hky_⟩ (fun q_ => by have := q_.2.2; omega)) | exact c30_), (show zRea (zfs b_ n_ F_ K_ nm_) (zKst 0 F_ d_ Mz) zFt by first | rfl | exact hrt_ | (exfalso; omega) | exact zRea.st (zs0_sf (F := F_) (d := d_) (b := b_) (n := n_) (K := K_) (nm := nm_) p7_ hk2_ ⟨hk1_, hky_⟩ (fun q_ => by have := q_.2.2; omega)) | exact c30_), (show zLow d_ Mz N23_ by first | rfl | exact hrt_ | (exfalso; omega) | exact zRea.st (zs0_sf (F := F_) (d := d_) (b := b_) (n := n_) (K := K_) (nm := nm_) p7_ hk2_ ⟨hk1_, hky_⟩ (fun q_ => by have := q_.2.2; omega)) | exact c30_)⟩))⟩ (zdal_p dlA_Reader_readOperand_120 (i := 7) rfl)
        · skip
          exact absurd hc_38 (by decide)
      · skip
        have hns_ := ha35_0_hp0_N21_
        show zW l m_Reader_readOperand (zn Mz + 0, zw Mz + 0) Mz 38 [some (.ref 4), some (.ref (d_ + 0)), some (.ref (d_ + 33)), some (.int (Int32.ofInt ((ze Mz (d_ + 12) 7) - 1))), some (.int (Int32.ofInt 0))] [.int (Int32.ofInt 0)] _
        refine zr_if_ne (pc := 38) (tgt := 51) ⟨(by decide), (by decide)⟩ (by decide) (zdal_p dlA_Reader_readOperand_119 (i := 19) rfl) (fun hc_38 => ?_) (fun hc_38 => ?_)
        · skip
          exact absurd hc_38 (by decide)
        · skip
          refine zw_aload_n (pc := 41) (n := 0) (x := 4) rfl (zdal_p dlA_Reader_readOperand_119 (i := 20) rfl) ?_
          refine zw_aload_n (pc := 42) (n := 1) (x := (d_ + 0)) rfl (zdal_p dlA_Reader_readOperand_119 (i := 21) rfl) ?_
          have hcl43_ := dv0
          refine zk_callV hf.x (pc := 43) [.ref (d_ + 0)] [] l_Reader_169 (u_Reader_readNamed l d_ Mz (hf.w hW) b_ n_ F_ K_ hA_ nm_ p0_ p1_ p2_ p3_ p4_ (show 0 ≤ ze Mz 4 1 by first | with_reducible assumption | assumption | omega) (show ze Mz 4 1 ≤ 30 by first | with_reducible assumption | assumption | omega) (show ¬ (zisg b_ n_ (ze Mz 1 2).toNat 45 ∨ zisg b_ n_ (ze Mz 1 2).toNat 40) by first | with_reducible assumption | assumption | omega) (show zkd b_ n_ (ze Mz 1 2).toNat ≠ 2 by first | with_reducible assumption | assumption | omega) (show ¬ (zkd b_ n_ (ze Mz 1 2).toNat = 1 ∧ zkey b_ n_ (ze Mz 1 2).toNat = zkw 3) by first | with_reducible assumption | assumption | omega)) rfl rfl ((hf.w hW).ka (o := 4) (by decide)) (by decide) (by decide) (Nat.le_of_ble_eq_true rfl) (zdal_p dlA_Reader_readOperand_119 (i := 22) rfl) ?_
          rintro _ N66_ ⟨v67_, rfl, ⟨hv67_a, hv67_b⟩, hsN66_, ⟨hp0_N66_, hp1_N66_⟩⟩
          have hf_N66_ : zFc d_ [(1, 2), (1, 3), (1, 4), (1, 5), (4, 1), (4, 2), (4, 3)] [] [(33, 3)] [25] Mz N66_ := hf.tr hsN66_ (by decide) (by decide) (by decide) (by decide)
          have eA1_2_N66_ : ze N66_ 1 2 = ze Mz 1 2 := hsN66_.ea (hf.w hW) (by decide)
          have eA1_3_N66_ : ze N66_ 1 3 = ze Mz 1 3 := hsN66_.ea (hf.w hW) (by decide)
          have eA1_5_N66_ : ze N66_ 1 5 = ze Mz 1 5 := hsN66_.ea (hf.w hW) (by decide)
          have rA4_1_N66_ := ze_r N66_ 4 1
          have eD12_7_N66_ : ze N66_ (d_ + 12) 7 = ze Mz (d_ + 12) 7 := hsN66_.e (by decide)
          have eD33_2_N66_ : ze N66_ (d_ + 33) 2 = ze Mz (d_ + 33) 2 := hsN66_.e (by decide)
          have rD33_3_N66_ := ze_r N66_ (d_ + 33) 3
          have eD33_4_N66_ : ze N66_ (d_ + 33) 4 = ze Mz (d_ + 33) 4 := hsN66_.e (by decide)
          have eD33_5_N66_ : ze N66_ (d_ + 33) 5 = ze Mz (d_ + 33) 5 := hsN66_.e (by decide)
          have eD33_6_N66_ : ze N66_ (d_ + 33) 6 = ze Mz (d_ + 33) 6 := hsN66_.e (by decide)
          have qzkS_N66_ : zkS d_ N66_ = zkS d_ Mz := zkS_q hsN66_ (by decide)
          have qzkG_N66_ : zkG d_ N66_ = zkG d_ Mz := zkG_q hsN66_ (by decide)
          have c68_ : zYb b_ n_ N66_ := zYb.fr (hf.w hW) hsN66_ p0_ (by decide)
          have c69_ : zYt b_ n_ N66_ := zYt.fr (hf.w hW) hsN66_ p1_ (by decide)
          have c70_ : zKm F_ K_ d_ N66_ := zKm.fr (hf.w hW) hsN66_ p2_ (by decide)
          rcases hp1_N66_ with ⟨rfl, ha43_0_hp1_N66_, ha43_1_hp1_N66_, ha43_2_hp1_N66_, ha43_3_hp1_N66_, ha43_4_hp1_N66_, ha43_5_hp1_N66_, ha43_6_hp1_N66_, ha43_7_hp1_N66_, ha43_8_hp1_N66_⟩ | ⟨rfl, ha43_0_hp1_N66_, ha43_1_hp1_N66_⟩
          · skip
            have hw0_ := ha43_0_hp1_N66_
            have hw1_ := ha43_1_hp1_N66_
            obtain ⟨v_, hw2_, hw3_⟩ := ha43_2_hp1_N66_
            have hw4_ := ha43_3_hp1_N66_
            have hw5_ := ha43_4_hp1_N66_
            have hw6_ := ha43_5_hp1_N66_
            have hw7_ := ha43_6_hp1_N66_
            have hw8_ := ha43_7_hp1_N66_
            have hw9_ := ha43_8_hp1_N66_
            show zW l m_Reader_readOperand (zn Mz + 0, zw Mz + 0) N66_ 46 [some (.ref 4), some (.ref (d_ + 0)), some (.ref (d_ + 33)), some (.int (Int32.ofInt ((ze Mz (d_ + 12) 7) - 1))), some (.int (Int32.ofInt 0))] [.int (Int32.ofInt 1)] _
            refine zr_if_ne (pc := 46) (tgt := 133) ⟨(by decide), (by decide)⟩ (by decide) (zdal_p dlA_Reader_readOperand_119 (i := 23) rfl) (fun hc_46 => ?_) (fun hc_46 => ?_)
            · skip
              have hyt_ := hp0_N66_
              have hyx_ := hyt_.x
              refine zw_aload_n (pc := 133) (n := 0) (x := 4) rfl (zdal_p dlA_Reader_readOperand_121 (i := 19) rfl) ?_
              refine zw_getF (pc := 134) f_Reader_15 rfl ((hf_N66_.w hW).ka (o := 4) (by decide)) ((hf_N66_.w hW).la (o := 4) (s := 0) (r := 1) (by decide)) (zdal_p dlA_Reader_readOperand_121 (i := 20) rfl) ?_
              refine zk_callV hf_N66_.x (pc := 137) [] [] l_Reader_44 (u_Tokens_step l d_ N66_ (hf_N66_.w hW) b_ n_ c68_ (show 0 ≤ ze N66_ 1 3 by first | with_reducible assumption | (exact zo_57 hyx_.2.1) | assumption) (show ze N66_ 1 3 ≤ n_ by first | with_reducible assumption | (exact zo_605 hyx_.2.2) | assumption)) rfl rfl ((hf_N66_.w hW).ka (o := 1) (by decide)) (by decide) (by decide) (Nat.le_of_ble_eq_true rfl) (zdal_p dlA_Reader_readOperand_121 (i := 21) rfl) ?_
              rintro _ N71_ ⟨rfl, hsN71_, ⟨hp0_N71_, hp1_N71_⟩⟩
              have hf_N71_ : zFc d_ [(1, 2), (1, 3), (1, 4), (1, 5), (4, 1), (4, 2), (4, 3)] [] [(33, 3)] [25] Mz N71_ := hf_N66_.tr hsN71_ (by decide) (by decide) (by decide) (by decide)
              have rA1_2_N71_ := ze_r N71_ 1 2
              have rA1_3_N71_ := ze_r N71_ 1 3
              have rA1_5_N71_ := ze_r N71_ 1 5
              have eA4_1_N71_ : ze N71_ 4 1 = ze N66_ 4 1 := hsN71_.ea (hf_N66_.w hW) (by decide)
              have eD12_7_N71_ : ze N71_ (d_ + 12) 7 = ze N66_ (d_ + 12) 7 := hsN71_.e (by decide)
              have eD33_2_N71_ : ze N71_ (d_ + 33) 2 = ze N66_ (d_ + 33) 2 := hsN71_.e (by decide)
              have eD33_3_N71_ : ze N71_ (d_ + 33) 3 = ze N66_ (d_ + 33) 3 := hsN71_.e (by decide)
              have eD33_4_N71_ : ze N71_ (d_ + 33) 4 = ze N66_ (d_ + 33) 4 := hsN71_.e (by decide)
              have eD33_5_N71_ : ze N71_ (d_ + 33) 5 = ze N66_ (d_ + 33) 5 := hsN71_.e (by decide)
              have eD33_6_N71_ : ze N71_ (d_ + 33) 6 = ze N66_ (d_ + 33) 6 := hsN71_.e (by decide)
              have qzkS_N71_ : zkS d_ N71_ = zkS d_ N66_ := zkS_q hsN71_ (by decide)
              have qzkG_N71_ : zkG d_ N71_ = zkG d_ N66_ := zkG_q hsN71_ (by decide)
              have qzkW_N71_ : zkW F_ d_ N71_ = zkW F_ d_ N66_ := zkW_q hsN71_ (by decide)
              have c73_ : zYb b_ n_ N71_ := zYb.fr (hf_N66_.w hW) hsN71_ c68_ (by decide)
              have c74_ : zKm F_ K_ d_ N71_ := zKm.fr (hf_N66_.w hW) hsN71_ c70_ (by decide)
              have c75_ : zCI F_ K_ d_ 1 N71_ := zCI.fr (hf_N66_.w hW) hsN71_ hw6_ (by decide)
              show zW l m_Reader_readOperand (zn Mz + 0, zw Mz + 0) N71_ 140 [some (.ref 4), some (.ref (d_ + 0)), some (.ref (d_ + 33)), some (.int (Int32.ofInt ((ze Mz (d_ + 12) 7) - 1))), some (.int (Int32.ofInt 0))] [] _
              have hnn_ := hyt_.n hp0_N71_
              refine zw_iconst (pc := 140) (v := Int32.ofInt 1) (by decide) (zdal_p dlA_Reader_readOperand_121 (i := 22) rfl) ?_
              exact zk_iret (pc := 141) (ty := .boolean) rfl (z_narB (by (decide))) ⟨by (exact hv67_a), by (exact hv67_b)⟩ hf_N71_ ⟨hp1_N71_, (show ((1 = 1 ∧ zRea (zfs b_ n_ F_ K_ nm_) (zKst 0 F_ d_ Mz) (zKst 1 F_ d_ N71_) ∧ zCI F_ K_ d_ 1 N71_ ∧ zLow d_ Mz N71_ ∧ ze Mz 4 1 + 1 ≤ ze N71_ 4 1 ∧ ze N71_ 4 1 ≤ 30) ∨ (1 = 0 ∧ zRea (zfs b_ n_ F_ K_ nm_) (zKst 0 F_ d_ Mz) zFt ∧ zLow d_ Mz N71_)) from Or.inl (⟨(show 1 = 1 by first | rfl | omega | exact c75_ | exact hlw_.tr (zLow.f hsN71_ (by decide)) | exact hw7_.tr (zLow.f hsN71_ (by decide)) | exact zRea.st (zs0_n (Nz := N71_) (F := F_) (b := b_) (n := n_) (K := K_) (nm := nm_) p7_ hk2_ hu0_ (by rw [qzkS_N71_, hp1_, qzkS_Mz]) (by rw [qzkW_N71_, hW_]) (by rw [qzkG_N71_, hp3_, qzkG_Mz]) (by omega) (by omega) (hnn_.2.trans (by rw [show ze N66_ 1 2 = ze Mz 1 2 by omega]))) | exact zRea.st (zs0_s (Nz := N71_) (F := F_) (b := b_) (n := n_) (K := K_) (nm := nm_) p7_ hk2_ ⟨hk1_, hky_⟩ hu0_ ⟨hk3_, by omega⟩ (by rw [qzkS_N71_, hp1_, qzkS_Mz, qzkS_Mz]) (by rw [qzkW_N71_, hW_]) (by rw [qzkG_N71_, hp3_, qzkG_Mz, qzkG_Mz]) (by omega) (by omega) (hnn_.2.trans (by rw [show ze N66_ 1 2 = ze Mz 1 2 by omega, hnx_]))) | exact zRea.st (zs0_w (Nz := N71_) (F := F_) (b := b_) (n := n_) (K := K_) (nm := nm_) p7_ hk2_ hns_ hw0_ hw1_ hw2_ (by rw [qzkS_N71_, hw4_]) (by rw [qzkW_N71_, hw3_]) (by rw [qzkG_N71_, hw5_]) (by omega) (by omega) (hnn_.2.trans (by rw [show ze N66_ 1 2 = ze Mz 1 2 by omega])))), (show zRea (zfs b_ n_ F_ K_ nm_) (zKst 0 F_ d_ Mz) (zKst 1 F_ d_ N71_) by first | rfl | omega | exact c75_ | exact hlw_.tr (zLow.f hsN71_ (by decide)) | exact hw7_.tr (zLow.f hsN71_ (by decide)) | exact zRea.st (zs0_n (Nz := N71_) (F := F_) (b := b_) (n := n_) (K := K_) (nm := nm_) p7_ hk2_ hu0_ (by rw [qzkS_N71_, hp1_, qzkS_Mz]) (by rw [qzkW_N71_, hW_]) (by rw [qzkG_N71_, hp3_, qzkG_Mz]) (by omega) (by omega) (hnn_.2.trans (by rw [show ze N66_ 1 2 = ze Mz 1 2 by omega]))) | exact zRea.st (zs0_s (Nz := N71_) (F := F_) (b := b_) (n := n_) (K := K_) (nm := nm_) p7_ hk2_ ⟨hk1_, hky_⟩ hu0_ ⟨hk3_, by omega⟩ (by rw [qzkS_N71_, hp1_, qzkS_Mz, qzkS_Mz]) (by rw [qzkW_N71_, hW_]) (by rw [qzkG_N71_, hp3_, qzkG_Mz, qzkG_Mz]) (by omega) (by omega) (hnn_.2.trans (by rw [show ze N66_ 1 2 = ze Mz 1 2 by omega, hnx_]))) | exact zRea.st (zs0_w (Nz := N71_) (F := F_) (b := b_) (n := n_) (K := K_) (nm := nm_) p7_ hk2_ hns_ hw0_ hw1_ hw2_ (by rw [qzkS_N71_, hw4_]) (by rw [qzkW_N71_, hw3_]) (by rw [qzkG_N71_, hw5_]) (by (exact zo_1047 eA4_1_N71_ ha43_7_hp1_N66_)) (by (exact p5_)) (hnn_.2.trans (by rw [show ze N66_ 1 2 = ze Mz 1 2 by (exact eA1_2_N66_)])))), (show zCI F_ K_ d_ 1 N71_ by first | rfl | (exact c75_) | exact c75_ | exact hlw_.tr (zLow.f hsN71_ (by decide)) | exact hw7_.tr (zLow.f hsN71_ (by decide)) | exact zRea.st (zs0_n (Nz := N71_) (F := F_) (b := b_) (n := n_) (K := K_) (nm := nm_) p7_ hk2_ hu0_ (by rw [qzkS_N71_, hp1_, qzkS_Mz]) (by rw [qzkW_N71_, hW_]) (by rw [qzkG_N71_, hp3_, qzkG_Mz]) (by omega) (by omega) (hnn_.2.trans (by rw [show ze N66_ 1 2 = ze Mz 1 2 by omega]))) | exact zRea.st (zs0_s (Nz := N71_) (F := F_) (b := b_) (n := n_) (K := K_) (nm := nm_) p7_ hk2_ ⟨hk1_, hky_⟩ hu0_ ⟨hk3_, by omega⟩ (by rw [qzkS_N71_, hp1_, qzkS_Mz, qzkS_Mz]) (by rw [qzkW_N71_, hW_]) (by rw [qzkG_N71_, hp3_, qzkG_Mz, qzkG_Mz]) (by omega) (by omega) (hnn_.2.trans (by rw [show ze N66_ 1 2 = ze Mz 1 2 by omega, hnx_]))) | exact zRea.st (zs0_w (Nz := N71_) (F := F_) (b := b_) (n := n_) (K := K_) (nm := nm_) p7_ hk2_ hns_ hw0_ hw1_ hw2_ (by rw [qzkS_N71_, hw4_]) (by rw [qzkW_N71_, hw3_]) (by rw [qzkG_N71_, hw5_]) (by omega) (by omega) (hnn_.2.trans (by rw [show ze N66_ 1 2 = ze Mz 1 2 by omega])))), (show zLow d_ Mz N71_ by first | rfl | omega | exact c75_ | exact hlw_.tr (zLow.f hsN71_ (by decide)) | exact hw7_.tr (zLow.f hsN71_ (by decide)) | exact zRea.st (zs0_n (Nz := N71_) (F := F_) (b := b_) (n := n_) (K := K_) (nm := nm_) p7_ hk2_ hu0_ (by rw [qzkS_N71_, hp1_, qzkS_Mz]) (by rw [qzkW_N71_, hW_]) (by rw [qzkG_N71_, hp3_, qzkG_Mz]) (by omega) (by omega) (hnn_.2.trans (by rw [show ze N66_ 1 2 = ze Mz 1 2 by omega]))) | exact zRea.st (zs0_s (Nz := N71_) (F := F_) (b := b_) (n := n_) (K := K_) (nm := nm_) p7_ hk2_ ⟨hk1_, hky_⟩ hu0_ ⟨hk3_, by omega⟩ (by rw [qzkS_N71_, hp1_, qzkS_Mz, qzkS_Mz]) (by rw [qzkW_N71_, hW_]) (by rw [qzkG_N71_, hp3_, qzkG_Mz, qzkG_Mz]) (by omega) (by omega) (hnn_.2.trans (by rw [show ze N66_ 1 2 = ze Mz 1 2 by omega, hnx_]))) | exact zRea.st (zs0_w (Nz := N71_) (F := F_) (b := b_) (n := n_) (K := K_) (nm := nm_) p7_ hk2_ hns_ hw0_ hw1_ hw2_ (by rw [qzkS_N71_, hw4_]) (by rw [qzkW_N71_, hw3_]) (by rw [qzkG_N71_, hw5_]) (by omega) (by omega) (hnn_.2.trans (by rw [show ze N66_ 1 2 = ze Mz 1 2 by omega])))), (show ze Mz 4 1 + 1 ≤ ze N71_ 4 1 by first | rfl | (exact zo_1048 eA4_1_N71_ ha43_7_hp1_N66_) | exact c75_ | exact hlw_.tr (zLow.f hsN71_ (by decide)) | exact hw7_.tr (zLow.f hsN71_ (by decide)) | exact zRea.st (zs0_n (Nz := N71_) (F := F_) (b := b_) (n := n_) (K := K_) (nm := nm_) p7_ hk2_ hu0_ (by rw [qzkS_N71_, hp1_, qzkS_Mz]) (by rw [qzkW_N71_, hW_]) (by rw [qzkG_N71_, hp3_, qzkG_Mz]) (by omega) (by omega) (hnn_.2.trans (by rw [show ze N66_ 1 2 = ze Mz 1 2 by omega]))) | exact zRea.st (zs0_s (Nz := N71_) (F := F_) (b := b_) (n := n_) (K := K_) (nm := nm_) p7_ hk2_ ⟨hk1_, hky_⟩ hu0_ ⟨hk3_, by omega⟩ (by rw [qzkS_N71_, hp1_, qzkS_Mz, qzkS_Mz]) (by rw [qzkW_N71_, hW_]) (by rw [qzkG_N71_, hp3_, qzkG_Mz, qzkG_Mz]) (by omega) (by omega) (hnn_.2.trans (by rw [show ze N66_ 1 2 = ze Mz 1 2 by omega, hnx_]))) | exact zRea.st (zs0_w (Nz := N71_) (F := F_) (b := b_) (n := n_) (K := K_) (nm := nm_) p7_ hk2_ hns_ hw0_ hw1_ hw2_ (by rw [qzkS_N71_, hw4_]) (by rw [qzkW_N71_, hw3_]) (by rw [qzkG_N71_, hw5_]) (by omega) (by omega) (hnn_.2.trans (by rw [show ze N66_ 1 2 = ze Mz 1 2 by omega])))), (show ze N71_ 4 1 ≤ 30 by first | rfl | (exact zo_1049 eA4_1_N71_ ha43_7_hp1_N66_ ha43_8_hp1_N66_ rA4_1_N66_.2) | exact c75_ | exact hlw_.tr (zLow.f hsN71_ (by decide)) | exact hw7_.tr (zLow.f hsN71_ (by decide)) | exact zRea.st (zs0_n (Nz := N71_) (F := F_) (b := b_) (n := n_) (K := K_) (nm := nm_) p7_ hk2_ hu0_ (by rw [qzkS_N71_, hp1_, qzkS_Mz]) (by rw [qzkW_N71_, hW_]) (by rw [qzkG_N71_, hp3_, qzkG_Mz]) (by omega) (by omega) (hnn_.2.trans (by rw [show ze N66_ 1 2 = ze Mz 1 2 by omega]))) | exact zRea.st (zs0_s (Nz := N71_) (F := F_) (b := b_) (n := n_) (K := K_) (nm := nm_) p7_ hk2_ ⟨hk1_, hky_⟩ hu0_ ⟨hk3_, by omega⟩ (by rw [qzkS_N71_, hp1_, qzkS_Mz, qzkS_Mz]) (by rw [qzkW_N71_, hW_]) (by rw [qzkG_N71_, hp3_, qzkG_Mz, qzkG_Mz]) (by omega) (by omega) (hnn_.2.trans (by rw [show ze N66_ 1 2 = ze Mz 1 2 by omega, hnx_]))) | exact zRea.st (zs0_w (Nz := N71_) (F := F_) (b := b_) (n := n_) (K := K_) (nm := nm_) p7_ hk2_ hns_ hw0_ hw1_ hw2_ (by rw [qzkS_N71_, hw4_]) (by rw [qzkW_N71_, hw3_]) (by rw [qzkG_N71_, hw5_]) (by omega) (by omega) (hnn_.2.trans (by rw [show ze N66_ 1 2 = ze Mz 1 2 by omega]))))⟩))⟩ (zdal_p dlA_Reader_readOperand_121 (i := 23) rfl)
            · skip
              exact absurd hc_46 (by decide)
          · skip
            have hrt_ := ha43_0_hp1_N66_
            have hlf43_ := hcl43_.tr ha43_1_hp1_N66_
            show zW l m_Reader_readOperand (zn Mz + 0, zw Mz + 0) N66_ 46 [some (.ref 4), some (.ref (d_ + 0)), some (.ref (d_ + 33)), some (.int (Int32.ofInt ((ze Mz (d_ + 12) 7) - 1))), some (.int (Int32.ofInt 0))] [.int (Int32.ofInt 0)] _
            refine zr_if_ne (pc := 46) (tgt := 133) ⟨(by decide), (by decide)⟩ (by decide) (zdal_p dlA_Reader_readOperand_119 (i := 23) rfl) (fun hc_46 => ?_) (fun hc_46 => ?_)
            · skip
              exact absurd hc_46 (by decide)
            · skip
              refine zw_iconst (pc := 49) (v := Int32.ofInt 0) (by decide) (zdal_p dlA_Reader_readOperand_120 (i := 0) rfl) ?_
              exact zk_iret (pc := 50) (ty := .boolean) rfl (z_narB (by (decide))) ⟨by (exact hv2_a), by (exact hv2_b)⟩ hf_N66_ ⟨hp0_N66_, (show ((0 = 1 ∧ zRea (zfs b_ n_ F_ K_ nm_) (zKst 0 F_ d_ Mz) (zKst 1 F_ d_ N66_) ∧ zCI F_ K_ d_ 1 N66_ ∧ zLow d_ Mz N66_ ∧ ze Mz 4 1 + 1 ≤ ze N66_ 4 1 ∧ ze N66_ 4 1 ≤ 30) ∨ (0 = 0 ∧ zRea (zfs b_ n_ F_ K_ nm_) (zKst 0 F_ d_ Mz) zFt ∧ zLow d_ Mz N66_)) from Or.inr (⟨(show 0 = 0 by first | rfl | exact hrt_ | (exfalso; omega) | exact zRea.st (zs0_sf (F := F_) (d := d_) (b := b_) (n := n_) (K := K_) (nm := nm_) p7_ hk2_ ⟨hk1_, hky_⟩ (fun q_ => by have := q_.2.2; omega)) | exact hlf43_), (show zRea (zfs b_ n_ F_ K_ nm_) (zKst 0 F_ d_ Mz) zFt by first | rfl | exact hrt_ | (exfalso; omega) | exact zRea.st (zs0_sf (F := F_) (d := d_) (b := b_) (n := n_) (K := K_) (nm := nm_) p7_ hk2_ ⟨hk1_, hky_⟩ (fun q_ => by have := q_.2.2; omega)) | exact hlf43_), (show zLow d_ Mz N66_ by first | rfl | exact hrt_ | (exfalso; omega) | exact zRea.st (zs0_sf (F := F_) (d := d_) (b := b_) (n := n_) (K := K_) (nm := nm_) p7_ hk2_ ⟨hk1_, hky_⟩ (fun q_ => by have := q_.2.2; omega)) | exact hlf43_)⟩))⟩ (zdal_p dlA_Reader_readOperand_120 (i := 1) rfl)
set_option maxHeartbeats 4000000 in
theorem u_Reader_readBehind (l : Launch) (d_ : Nat) (Mz : zMem) (hW : zKW d_ Mz) (b_ : Nat → Int) (n_ : Nat) (F_ : Nat) (K_ : Nat → Nat → Int) (hA_ : zTA F_ K_) (nm_ : List (Int × (Nat → Int))) (p0_ : zYb b_ n_ Mz) (p1_ : zYt b_ n_ Mz) (p2_ : zKm F_ K_ d_ Mz) (p3_ : zCI F_ K_ d_ 1 Mz) (p4_ : 0 ≤ ze Mz 4 1) (p5_ : ze Mz 4 1 ≤ 30) : zC l m_Reader_readBehind 0 0 [.ref 4, .ref (d_ + 33)] Mz (zqcI d_ [(1, 2), (1, 3), (1, 4), (1, 5), (4, 2), (4, 3)] [] [(33, 2), (33, 3), (33, 4), (33, 5), (33, 6)] [25, 27] Mz (fun v N => zYt b_ n_ N ∧ (((v = 1 ∧ zRea (zfs b_ n_ F_ K_ nm_) (zKst 1 F_ d_ Mz) (zKst 2 F_ d_ N) ∧ zCI F_ K_ d_ 1 N ∧ zLow d_ Mz N ∧ (zkS d_ N).head? ≠ some 1 ∧ ¬ (zisg b_ n_ (ze N 1 2).toNat 41 ∧ 0 ∈ zkS d_ N) ∧ ze N 4 1 = ze Mz 4 1) ∨ (v = 0 ∧ zRea (zfs b_ n_ F_ K_ nm_) (zKst 1 F_ d_ Mz) zFt ∧ zLow d_ Mz N))))) := by
  refine zC_of (L0 := [some (.ref 4), some (.ref (d_ + 33)), none]) md_Reader_readBehind (Nat.le_of_ble_eq_true rfl) rfl ?_ zQ0
  have hf : zFc d_ [(1, 2), (1, 3), (1, 4), (1, 5), (4, 2), (4, 3)] [] [(33, 2), (33, 3), (33, 4), (33, 5), (33, 6)] [25, 27] Mz Mz := zFc.rf
  have r_A1_2 := ze_r Mz 1 2
  have r_A1_3 := ze_r Mz 1 3
  have r_A1_5 := ze_r Mz 1 5
  have r_A4_1 := ze_r Mz 4 1
  have r_D33_2 := ze_r Mz (d_ + 33) 2
  have r_D33_3 := ze_r Mz (d_ + 33) 3
  have r_D33_4 := ze_r Mz (d_ + 33) 4
  have r_D33_5 := ze_r Mz (d_ + 33) 5
  have r_D33_6 := ze_r Mz (d_ + 33) 6
  have hb0_ := p3_.b
  have hz1_ := zop0_le (zkS d_ Mz)
  obtain ⟨e1_, e2_, e3_, e4_, e5_, e6_, e7_, e8_, e9_⟩ := id p3_
  have dv0 : zLow d_ Mz Mz := zLow.rf
  refine zw_iconst (pc := 0) (v := Int32.ofInt 0) (by decide) (zdal_p dlA_Reader_readBehind_131 (i := 0) rfl) ?_
  refine zw_istore_n (pc := 1) (i := 2) (L2 := [some (.ref 4), some (.ref (d_ + 33)), some (.int (Int32.ofInt 0))]) rfl (by decide) rfl (zdal_p dlA_Reader_readBehind_131 (i := 1) rfl) ?_
  have lp_2 : ∀ (n : Nat) (u1_ : Int) (hu1_a : -2147483648 ≤ u1_) (hu1_b : u1_ < 2147483648) (N2_ : zMem) (hs3_ : zFc d_ [(1, 2), (1, 3), (1, 4), (1, 5)] [] [(33, 2), (33, 3), (33, 4), (33, 5), (33, 6)] [25, 27] Mz N2_) (i4_ : 0 ≤ u1_) (i5_ : u1_ + ze N2_ (d_ + 33) 5 ≤ 7) (i6_ : ze N2_ 4 1 = ze Mz 4 1) (i7_ : zRea (zfs b_ n_ F_ K_ nm_) (zKst 1 F_ d_ Mz) (zKst 1 F_ d_ N2_)) (i8_ : zLow d_ Mz N2_) (i9_ : zYt b_ n_ N2_) (i10_ : zCI F_ K_ d_ 1 N2_), (31 - u1_).toNat < n → zW l m_Reader_readBehind (zn Mz + 0, zw Mz + 0) N2_ 2 [some (.ref 4), some (.ref (d_ + 33)), some (.int (Int32.ofInt u1_))] [] (zqcI d_ [(1, 2), (1, 3), (1, 4), (1, 5), (4, 2), (4, 3)] [] [(33, 2), (33, 3), (33, 4), (33, 5), (33, 6)] [25, 27] Mz (fun v N => zYt b_ n_ N ∧ (((v = 1 ∧ zRea (zfs b_ n_ F_ K_ nm_) (zKst 1 F_ d_ Mz) (zKst 2 F_ d_ N) ∧ zCI F_ K_ d_ 1 N ∧ zLow d_ Mz N ∧ (zkS d_ N).head? ≠ some 1 ∧ ¬ (zisg b_ n_ (ze N 1 2).toNat 41 ∧ 0 ∈ zkS d_ N) ∧ ze N 4 1 = ze Mz 4 1) ∨ (v = 0 ∧ zRea (zfs b_ n_ F_ K_ nm_) (zKst 1 F_ d_ Mz) zFt ∧ zLow d_ Mz N))))) := by
    intro n
    induction n with
    | zero =>
      intro u1_ hu1_a hu1_b N2_ hs3_ i4_ i5_ i6_ i7_ i8_ i9_ i10_ h0
      exact absurd h0 (Nat.not_lt_zero _)
    | succ n ih_2 =>
      intro u1_ hu1_a hu1_b N2_ hs3_ i4_ i5_ i6_ i7_ i8_ i9_ i10_ hlt_2
      have hf_N2_ : zFc d_ [(1, 2), (1, 3), (1, 4), (1, 5), (4, 2), (4, 3)] [] [(33, 2), (33, 3), (33, 4), (33, 5), (33, 6)] [25, 27] Mz N2_ := hf.tr hs3_ (by decide) (by decide) (by decide) (by decide)
      have rA1_2_N2_ := ze_r N2_ 1 2
      have rA1_3_N2_ := ze_r N2_ 1 3
      have rA1_5_N2_ := ze_r N2_ 1 5
      have eA4_1_N2_ : ze N2_ 4 1 = ze Mz 4 1 := hs3_.ea (hf.w hW) (by decide)
      have rD33_2_N2_ := ze_r N2_ (d_ + 33) 2
      have rD33_3_N2_ := ze_r N2_ (d_ + 33) 3
      have rD33_4_N2_ := ze_r N2_ (d_ + 33) 4
      have rD33_5_N2_ := ze_r N2_ (d_ + 33) 5
      have rD33_6_N2_ := ze_r N2_ (d_ + 33) 6
      have c11_ : zYb b_ n_ N2_ := zYb.fr (hf.w hW) hs3_ p0_ (by decide)
      have c12_ : zKm F_ K_ d_ N2_ := zKm.fr (hf.w hW) hs3_ p2_ (by decide)
      have hrea_ := (show zRea (zfs b_ n_ F_ K_ nm_) (zKst 1 F_ d_ Mz) (zKst 1 F_ d_ N2_) by first | with_reducible assumption | assumption)
      have hlow_ := (show zLow d_ Mz N2_ by first | with_reducible assumption | assumption)
      have hci_ := i10_
      have hb_ := hci_.b
      have hz0_ := zop0_le (zkS d_ N2_)
      obtain ⟨g1_, g2_, g3_, g4_, g5_, g6_, g7_, g8_, g9_⟩ := id hci_
      refine zw_iload_n (pc := 2) (n := 2) (x := Int32.ofInt u1_) rfl (zdal_p dlA_Reader_readBehind_131 (i := 2) rfl) ?_
      refine zw_bipush (pc := 3) (v := Int32.ofInt 30) (by decide) (zdal_p dlA_Reader_readBehind_131 (i := 3) rfl) ?_
      refine zr_icmp_gt (pc := 5) (tgt := 120) ⟨hu1_a, hu1_b⟩ ⟨(by decide), (by decide)⟩ (by decide) (zdal_p dlA_Reader_readBehind_131 (i := 4) rfl) (fun hc_5 => ?_) (fun hc_5 => ?_)
      · skip
        refine zw_aload_n (pc := 120) (n := 0) (x := 4) rfl (zdal_p dlA_Reader_readBehind_133 (i := 8) rfl) ?_
        refine zw_iconst (pc := 121) (v := Int32.ofInt 2) (by decide) (zdal_p dlA_Reader_readBehind_133 (i := 9) rfl) ?_
        refine zk_callV hf_N2_.x (pc := 122) [.int (Int32.ofInt 2)] [] l_Reader_41 (u_Reader_refuse l d_ N2_ (hf_N2_.w hW) 2 (by decide) (by decide)) rfl rfl ((hf_N2_.w hW).ka (o := 4) (by decide)) (by decide) (by decide) (Nat.le_of_ble_eq_true rfl) (zdal_p dlA_Reader_readBehind_133 (i := 10) rfl) ?_
        rintro _ N13_ ⟨v14_, rfl, ⟨hv14_a, hv14_b⟩, hsN13_, hp0_N13_⟩
        replace hp0_N13_ : ((v14_ = 0)) := hp0_N13_
        have hf_N13_ : zFc d_ [(1, 2), (1, 3), (1, 4), (1, 5), (4, 2), (4, 3)] [] [(33, 2), (33, 3), (33, 4), (33, 5), (33, 6)] [25, 27] Mz N13_ := hf_N2_.tr hsN13_ (by decide) (by decide) (by decide) (by decide)
        have eA1_2_N13_ : ze N13_ 1 2 = ze N2_ 1 2 := hsN13_.ea (hf_N2_.w hW) (by decide)
        have eA1_3_N13_ : ze N13_ 1 3 = ze N2_ 1 3 := hsN13_.ea (hf_N2_.w hW) (by decide)
        have eA1_5_N13_ : ze N13_ 1 5 = ze N2_ 1 5 := hsN13_.ea (hf_N2_.w hW) (by decide)
        have eA4_1_N13_ : ze N13_ 4 1 = ze N2_ 4 1 := hsN13_.ea (hf_N2_.w hW) (by decide)
        have eD33_2_N13_ : ze N13_ (d_ + 33) 2 = ze N2_ (d_ + 33) 2 := hsN13_.e (by decide)
        have eD33_3_N13_ : ze N13_ (d_ + 33) 3 = ze N2_ (d_ + 33) 3 := hsN13_.e (by decide)
        have eD33_4_N13_ : ze N13_ (d_ + 33) 4 = ze N2_ (d_ + 33) 4 := hsN13_.e (by decide)
        have eD33_5_N13_ : ze N13_ (d_ + 33) 5 = ze N2_ (d_ + 33) 5 := hsN13_.e (by decide)
        have eD33_6_N13_ : ze N13_ (d_ + 33) 6 = ze N2_ (d_ + 33) 6 := hsN13_.e (by decide)
        have qzkS_N13_ : zkS d_ N13_ = zkS d_ N2_ := zkS_q hsN13_ (by decide)
        have qzkG_N13_ : zkG d_ N13_ = zkG d_ N2_ := zkG_q hsN13_ (by decide)
        have qzkW_N13_ : zkW F_ d_ N13_ = zkW F_ d_ N2_ := zkW_q hsN13_ (by decide)
        have c15_ : zYb b_ n_ N13_ := zYb.fr (hf_N2_.w hW) hsN13_ c11_ (by decide)
        have c16_ : zKm F_ K_ d_ N13_ := zKm.fr (hf_N2_.w hW) hsN13_ c12_ (by decide)
        have c17_ : zYt b_ n_ N13_ := zYt.fr (hf_N2_.w hW) hsN13_ i9_ (by decide)
        have c18_ : zCI F_ K_ d_ 1 N13_ := zCI.fr (hf_N2_.w hW) hsN13_ i10_ (by decide)
        have c19_ : zLow d_ Mz N13_ := zLow.fr (hf_N2_.w hW) hsN13_ hlow_ (by decide)
        rcases hp0_N13_ with rfl
        · skip
          show zW l m_Reader_readBehind (zn Mz + 0, zw Mz + 0) N13_ 125 [some (.ref 4), some (.ref (d_ + 33)), some (.int (Int32.ofInt u1_))] [.int (Int32.ofInt 0)] _
          exact zk_iret (pc := 125) (ty := .boolean) rfl (z_narB (by (decide))) ⟨by (exact hv14_a), by (exact hv14_b)⟩ hf_N13_ ⟨c17_, (show ((0 = 1 ∧ zRea (zfs b_ n_ F_ K_ nm_) (zKst 1 F_ d_ Mz) (zKst 2 F_ d_ N13_) ∧ zCI F_ K_ d_ 1 N13_ ∧ zLow d_ Mz N13_ ∧ (zkS d_ N13_).head? ≠ some 1 ∧ ¬ (zisg b_ n_ (ze N13_ 1 2).toNat 41 ∧ 0 ∈ zkS d_ N13_) ∧ ze N13_ 4 1 = ze Mz 4 1) ∨ (0 = 0 ∧ zRea (zfs b_ n_ F_ K_ nm_) (zKst 1 F_ d_ Mz) zFt ∧ zLow d_ Mz N13_)) from Or.inr (⟨(show 0 = 0 by first | rfl | (exfalso; omega) | exact hrea_.tr (zRea.st (zs1_f (F := F_) (d := d_) (b := b_) (n := n_) (K := K_) (nm := nm_) hP_ (fun q_ => hk3_ q_.1))) | exact hrea_.tr (zRea.st (zs1_f (F := F_) (d := d_) (b := b_) (n := n_) (K := K_) (nm := nm_) hP_ (fun q_ => by have := q_.2; omega))) | exact c19_), (show zRea (zfs b_ n_ F_ K_ nm_) (zKst 1 F_ d_ Mz) zFt by first | rfl | (exfalso; (exact zo_1050 g4_ hc_5 i5_)) | exact hrea_.tr (zRea.st (zs1_f (F := F_) (d := d_) (b := b_) (n := n_) (K := K_) (nm := nm_) hP_ (fun q_ => hk3_ q_.1))) | exact hrea_.tr (zRea.st (zs1_f (F := F_) (d := d_) (b := b_) (n := n_) (K := K_) (nm := nm_) hP_ (fun q_ => by have := q_.2; omega))) | exact c19_), (show zLow d_ Mz N13_ by first | rfl | (exfalso; (exact zo_1050 g4_ hc_5 i5_)) | exact hrea_.tr (zRea.st (zs1_f (F := F_) (d := d_) (b := b_) (n := n_) (K := K_) (nm := nm_) hP_ (fun q_ => hk3_ q_.1))) | exact hrea_.tr (zRea.st (zs1_f (F := F_) (d := d_) (b := b_) (n := n_) (K := K_) (nm := nm_) hP_ (fun q_ => by have := q_.2; omega))) | exact c19_)⟩))⟩ (zdal_p dlA_Reader_readBehind_133 (i := 11) rfl)
      · skip
        refine zw_aload_n (pc := 8) (n := 0) (x := 4) rfl (zdal_p dlA_Reader_readBehind_131 (i := 5) rfl) ?_
        refine zw_getF (pc := 9) f_Reader_15 rfl ((hf_N2_.w hW).ka (o := 4) (by decide)) ((hf_N2_.w hW).la (o := 4) (s := 0) (r := 1) (by decide)) (zdal_p dlA_Reader_readBehind_131 (i := 6) rfl) ?_
        refine zw_bipush (pc := 12) (v := Int32.ofInt 94) (by decide) (zdal_p dlA_Reader_readBehind_131 (i := 7) rfl) ?_
        refine zk_callV hf_N2_.x (pc := 14) [.int (Int32.ofInt 94)] [] l_Reader_37 (u_Tokens_isSign l d_ N2_ (hf_N2_.w hW) 94 (by decide) (by decide) b_ n_ i9_) rfl rfl ((hf_N2_.w hW).ka (o := 1) (by decide)) (by decide) (by decide) (Nat.le_of_ble_eq_true rfl) (zdal_p dlA_Reader_readBehind_131 (i := 8) rfl) ?_
        rintro _ N20_ ⟨v21_, rfl, ⟨hv21_a, hv21_b⟩, hsN20_, hp0_N20_⟩
        obtain rfl := hsN20_.eq.symm
        replace hp0_N20_ : ((v21_ = 1 ∧ zkd b_ n_ (ze N2_ 1 2).toNat = 3 ∧ b_ (ze N2_ 1 2).toNat = 94) ∨ (v21_ = 0 ∧ ¬ (zkd b_ n_ (ze N2_ 1 2).toNat = 3 ∧ b_ (ze N2_ 1 2).toNat = 94))) := hp0_N20_
        rcases hp0_N20_ with ⟨rfl, ha14_0_hp0_N20_, ha14_1_hp0_N20_⟩ | ⟨rfl, ha14_0_hp0_N20_⟩
        · skip
          have hP_ : zisg b_ n_ (ze N2_ 1 2).toNat 94 := ⟨ha14_0_hp0_N20_, ha14_1_hp0_N20_⟩
          show zW l m_Reader_readBehind (zn Mz + 0, zw Mz + 0) N2_ 17 [some (.ref 4), some (.ref (d_ + 33)), some (.int (Int32.ofInt u1_))] [.int (Int32.ofInt 1)] _
          refine zr_if_eq (pc := 17) (tgt := 73) ⟨(by decide), (by decide)⟩ (by decide) (zdal_p dlA_Reader_readBehind_131 (i := 9) rfl) (fun hc_17 => ?_) (fun hc_17 => ?_)
          · skip
            exact absurd hc_17 (by decide)
          · skip
            have hyt_ := i9_
            have hyx_ := hyt_.x
            refine zw_aload_n (pc := 20) (n := 0) (x := 4) rfl (zdal_p dlA_Reader_readBehind_131 (i := 10) rfl) ?_
            refine zw_getF (pc := 21) f_Reader_15 rfl ((hf_N2_.w hW).ka (o := 4) (by decide)) ((hf_N2_.w hW).la (o := 4) (s := 0) (r := 1) (by decide)) (zdal_p dlA_Reader_readBehind_131 (i := 11) rfl) ?_
            refine zk_callV hf_N2_.x (pc := 24) [] [] l_Reader_44 (u_Tokens_step l d_ N2_ (hf_N2_.w hW) b_ n_ c11_ (show 0 ≤ ze N2_ 1 3 by first | with_reducible assumption | (exact zo_57 hyx_.2.1) | assumption) (show ze N2_ 1 3 ≤ n_ by first | with_reducible assumption | (exact zo_277 hyx_.2.2 rA1_3_N2_.2) | assumption)) rfl rfl ((hf_N2_.w hW).ka (o := 1) (by decide)) (by decide) (by decide) (Nat.le_of_ble_eq_true rfl) (zdal_p dlA_Reader_readBehind_131 (i := 12) rfl) ?_
            rintro _ N22_ ⟨rfl, hsN22_, ⟨hp0_N22_, hp1_N22_⟩⟩
            have hf_N22_ : zFc d_ [(1, 2), (1, 3), (1, 4), (1, 5), (4, 2), (4, 3)] [] [(33, 2), (33, 3), (33, 4), (33, 5), (33, 6)] [25, 27] Mz N22_ := hf_N2_.tr hsN22_ (by decide) (by decide) (by decide) (by decide)
            have hb0_N22_ : zFc d_ [(1, 2), (1, 3), (1, 4), (1, 5)] [] [(33, 2), (33, 3), (33, 4), (33, 5), (33, 6)] [25, 27] Mz N22_ := hs3_.tr hsN22_ (by decide) (by decide) (by decide) (by decide)
            have rA1_2_N22_ := ze_r N22_ 1 2
            have rA1_3_N22_ := ze_r N22_ 1 3
            have rA1_5_N22_ := ze_r N22_ 1 5
            have eA4_1_N22_ : ze N22_ 4 1 = ze N2_ 4 1 := hsN22_.ea (hf_N2_.w hW) (by decide)
            have eD33_2_N22_ : ze N22_ (d_ + 33) 2 = ze N2_ (d_ + 33) 2 := hsN22_.e (by decide)
            have eD33_3_N22_ : ze N22_ (d_ + 33) 3 = ze N2_ (d_ + 33) 3 := hsN22_.e (by decide)
            have eD33_4_N22_ : ze N22_ (d_ + 33) 4 = ze N2_ (d_ + 33) 4 := hsN22_.e (by decide)
            have eD33_5_N22_ : ze N22_ (d_ + 33) 5 = ze N2_ (d_ + 33) 5 := hsN22_.e (by decide)
            have eD33_6_N22_ : ze N22_ (d_ + 33) 6 = ze N2_ (d_ + 33) 6 := hsN22_.e (by decide)
            have qzkS_N22_ : zkS d_ N22_ = zkS d_ N2_ := zkS_q hsN22_ (by decide)
            have qzkG_N22_ : zkG d_ N22_ = zkG d_ N2_ := zkG_q hsN22_ (by decide)
            have qzkW_N22_ : zkW F_ d_ N22_ = zkW F_ d_ N2_ := zkW_q hsN22_ (by decide)
            have c24_ : zYb b_ n_ N22_ := zYb.fr (hf_N2_.w hW) hsN22_ c11_ (by decide)
            have c25_ : zKm F_ K_ d_ N22_ := zKm.fr (hf_N2_.w hW) hsN22_ c12_ (by decide)
            have c26_ : zCI F_ K_ d_ 1 N22_ := zCI.fr (hf_N2_.w hW) hsN22_ i10_ (by decide)
            have c27_ : zLow d_ Mz N22_ := zLow.fr (hf_N2_.w hW) hsN22_ hlow_ (by decide)
            show zW l m_Reader_readBehind (zn Mz + 0, zw Mz + 0) N22_ 27 [some (.ref 4), some (.ref (d_ + 33)), some (.int (Int32.ofInt u1_))] [] _
            have hnn_ := hyt_.n hp0_N22_
            have hnx_ : (ze N22_ 1 2).toNat = znx b_ n_ (ze N2_ 1 2).toNat := hnn_.2.trans (by rw [show ze N2_ 1 2 = ze N2_ 1 2 by (exact zo_62)])
            refine zw_aload_n (pc := 27) (n := 0) (x := 4) rfl (zdal_p dlA_Reader_readBehind_131 (i := 13) rfl) ?_
            refine zw_getF (pc := 28) f_Reader_15 rfl ((hf_N22_.w hW).ka (o := 4) (by decide)) ((hf_N22_.w hW).la (o := 4) (s := 0) (r := 1) (by decide)) (zdal_p dlA_Reader_readBehind_131 (i := 14) rfl) ?_
            refine zk_callV hf_N22_.x (pc := 31) [] [] l_Reader_53 (u_Tokens_isNumber l d_ N22_ (hf_N22_.w hW) b_ n_ hp1_N22_) rfl rfl ((hf_N22_.w hW).ka (o := 1) (by decide)) (by decide) (by decide) (Nat.le_of_ble_eq_true rfl) (zdal_p dlA_Reader_readBehind_131 (i := 15) rfl) ?_
            rintro _ N28_ ⟨v29_, rfl, ⟨hv29_a, hv29_b⟩, hsN28_, hp0_N28_⟩
            obtain rfl := hsN28_.eq.symm
            replace hp0_N28_ : ((v29_ = 1 ∧ zkd b_ n_ (ze N22_ 1 2).toNat = 2) ∨ (v29_ = 0 ∧ zkd b_ n_ (ze N22_ 1 2).toNat ≠ 2)) := hp0_N28_
            rcases hp0_N28_ with ⟨rfl, ha31_0_hp0_N28_⟩ | ⟨rfl, ha31_0_hp0_N28_⟩
            · skip
              have hk3_ := ha31_0_hp0_N28_
              have hv3_ := hp1_N22_.v2 hk3_
              rw [hnx_] at hk3_ hv3_
              show zW l m_Reader_readBehind (zn Mz + 0, zw Mz + 0) N22_ 34 [some (.ref 4), some (.ref (d_ + 33)), some (.int (Int32.ofInt u1_))] [.int (Int32.ofInt 1)] _
              refine zr_if_eq (pc := 34) (tgt := 49) ⟨(by decide), (by decide)⟩ (by decide) (zdal_p dlA_Reader_readBehind_131 (i := 16) rfl) (fun hc_34 => ?_) (fun hc_34 => ?_)
              · skip
                exact absurd hc_34 (by decide)
              · skip
                refine zw_aload_n (pc := 37) (n := 0) (x := 4) rfl (zdal_p dlA_Reader_readBehind_131 (i := 17) rfl) ?_
                refine zw_getF (pc := 38) f_Reader_15 rfl ((hf_N22_.w hW).ka (o := 4) (by decide)) ((hf_N22_.w hW).la (o := 4) (s := 0) (r := 1) (by decide)) (zdal_p dlA_Reader_readBehind_131 (i := 18) rfl) ?_
                refine zk_getI (pc := 41) f_Reader_57 rfl ((hf_N22_.w hW).ka (o := 1) (by decide)) (zdal_p dlA_Reader_readBehind_131 (i := 19) rfl) ?_
                refine zw_bipush (pc := 44) (v := Int32.ofInt 9) (by decide) (zdal_p dlA_Reader_readBehind_131 (i := 20) rfl) ?_
                refine zr_icmp_le (pc := 46) (tgt := 55) ⟨(ze_r N22_ 1 5).1, (ze_r N22_ 1 5).2⟩ ⟨(by decide), (by decide)⟩ (by decide) (zdal_p dlA_Reader_readBehind_131 (i := 21) rfl) (fun hc_46 => ?_) (fun hc_46 => ?_)
                · skip
                  refine zw_aload_n (pc := 55) (n := 1) (x := (d_ + 33)) rfl (zdal_p dlA_Reader_readBehind_132 (i := 2) rfl) ?_
                  refine zw_aload_n (pc := 56) (n := 0) (x := 4) rfl (zdal_p dlA_Reader_readBehind_132 (i := 3) rfl) ?_
                  refine zw_getF (pc := 57) f_Reader_15 rfl ((hf_N22_.w hW).ka (o := 4) (by decide)) ((hf_N22_.w hW).la (o := 4) (s := 0) (r := 1) (by decide)) (zdal_p dlA_Reader_readBehind_132 (i := 4) rfl) ?_
                  refine zk_getI (pc := 60) f_Reader_57 rfl ((hf_N22_.w hW).ka (o := 1) (by decide)) (zdal_p dlA_Reader_readBehind_132 (i := 5) rfl) ?_
                  refine zk_callV hf_N22_.x (pc := 63) [.int (Int32.ofInt (ze N22_ 1 5))] [] l_Reader_179 (u_Calc_raise l d_ N22_ (hf_N22_.w hW) (ze N22_ 1 5) (ze_r N22_ 1 5).1 (ze_r N22_ 1 5).2 F_ K_ hA_ c25_ c26_ (show 0 ≤ (ze N22_ 1 5) by first | with_reducible assumption | (exact zo_57 hv3_.2.1) | assumption) (show (ze N22_ 1 5) ≤ 9 by first | with_reducible assumption | assumption | omega)) rfl rfl ((hf_N22_.w hW).kr (o := 33) (by decide)) (by decide) (by decide) (Nat.le_of_ble_eq_true rfl) (zdal_p dlA_Reader_readBehind_132 (i := 6) rfl) ?_
                  rintro _ N30_ ⟨rfl, hsN30_, ⟨hp0_N30_, hp1_N30_, hp2_N30_, hp3_N30_, hp4_N30_⟩⟩
                  have hf_N30_ : zFc d_ [(1, 2), (1, 3), (1, 4), (1, 5), (4, 2), (4, 3)] [] [(33, 2), (33, 3), (33, 4), (33, 5), (33, 6)] [25, 27] Mz N30_ := hf_N22_.tr hsN30_ (by decide) (by decide) (by decide) (by decide)
                  have hb0_N30_ : zFc d_ [(1, 2), (1, 3), (1, 4), (1, 5)] [] [(33, 2), (33, 3), (33, 4), (33, 5), (33, 6)] [25, 27] Mz N30_ := hb0_N22_.tr hsN30_ (by decide) (by decide) (by decide) (by decide)
                  have eA1_2_N30_ : ze N30_ 1 2 = ze N22_ 1 2 := hsN30_.ea (hf_N22_.w hW) (by decide)
                  have eA1_3_N30_ : ze N30_ 1 3 = ze N22_ 1 3 := hsN30_.ea (hf_N22_.w hW) (by decide)
                  have eA1_5_N30_ : ze N30_ 1 5 = ze N22_ 1 5 := hsN30_.ea (hf_N22_.w hW) (by decide)
                  have eA4_1_N30_ : ze N30_ 4 1 = ze N22_ 4 1 := hsN30_.ea (hf_N22_.w hW) (by decide)
                  have eD33_2_N30_ : ze N30_ (d_ + 33) 2 = ze N22_ (d_ + 33) 2 := hsN30_.e (by decide)
                  have eD33_3_N30_ : ze N30_ (d_ + 33) 3 = ze N22_ (d_ + 33) 3 := hsN30_.e (by decide)
                  have eD33_4_N30_ : ze N30_ (d_ + 33) 4 = ze N22_ (d_ + 33) 4 := hsN30_.e (by decide)
                  have eD33_5_N30_ : ze N30_ (d_ + 33) 5 = ze N22_ (d_ + 33) 5 := hsN30_.e (by decide)
                  have rD33_6_N30_ := ze_r N30_ (d_ + 33) 6
                  have qzkS_N30_ : zkS d_ N30_ = zkS d_ N22_ := zkS_q hsN30_ (by decide)
                  have c32_ : zYb b_ n_ N30_ := zYb.fr (hf_N22_.w hW) hsN30_ c24_ (by decide)
                  have c33_ : zKm F_ K_ d_ N30_ := zKm.fr (hf_N22_.w hW) hsN30_ c25_ (by decide)
                  have c34_ : zYt b_ n_ N30_ := zYt.fr (hf_N22_.w hW) hsN30_ hp1_N22_ (by decide)
                  show zW l m_Reader_readBehind (zn Mz + 0, zw Mz + 0) N30_ 66 [some (.ref 4), some (.ref (d_ + 33)), some (.int (Int32.ofInt u1_))] [] _
                  have hp1_ := hp1_N30_
                  have hp2_ := hp2_N30_
                  have hp3_ := hp3_N30_
                  rw [qzkS_N22_] at hp1_
                  rw [qzkW_N22_, qzkG_N22_] at hp2_ hp3_
                  have hl1_ := (hlow_.tr (zLow.f hsN22_ (by decide))).tr hp4_N30_
                  have hyt_ := c34_
                  have hyx_ := hyt_.x
                  refine zw_aload_n (pc := 66) (n := 0) (x := 4) rfl (zdal_p dlA_Reader_readBehind_132 (i := 7) rfl) ?_
                  refine zw_getF (pc := 67) f_Reader_15 rfl ((hf_N30_.w hW).ka (o := 4) (by decide)) ((hf_N30_.w hW).la (o := 4) (s := 0) (r := 1) (by decide)) (zdal_p dlA_Reader_readBehind_132 (i := 8) rfl) ?_
                  refine zk_callV hf_N30_.x (pc := 70) [] [] l_Reader_44 (u_Tokens_step l d_ N30_ (hf_N30_.w hW) b_ n_ c32_ (show 0 ≤ ze N30_ 1 3 by first | with_reducible assumption | (exact zo_57 hyx_.2.1) | assumption) (show ze N30_ 1 3 ≤ n_ by first | with_reducible assumption | (exact zo_605 hyx_.2.2) | assumption)) rfl rfl ((hf_N30_.w hW).ka (o := 1) (by decide)) (by decide) (by decide) (Nat.le_of_ble_eq_true rfl) (zdal_p dlA_Reader_readBehind_132 (i := 9) rfl) ?_
                  rintro _ N35_ ⟨rfl, hsN35_, ⟨hp0_N35_, hp1_N35_⟩⟩
                  have hf_N35_ : zFc d_ [(1, 2), (1, 3), (1, 4), (1, 5), (4, 2), (4, 3)] [] [(33, 2), (33, 3), (33, 4), (33, 5), (33, 6)] [25, 27] Mz N35_ := hf_N30_.tr hsN35_ (by decide) (by decide) (by decide) (by decide)
                  have hb0_N35_ : zFc d_ [(1, 2), (1, 3), (1, 4), (1, 5)] [] [(33, 2), (33, 3), (33, 4), (33, 5), (33, 6)] [25, 27] Mz N35_ := hb0_N30_.tr hsN35_ (by decide) (by decide) (by decide) (by decide)
                  have rA1_2_N35_ := ze_r N35_ 1 2
                  have rA1_3_N35_ := ze_r N35_ 1 3
                  have rA1_5_N35_ := ze_r N35_ 1 5
                  have eA4_1_N35_ : ze N35_ 4 1 = ze N30_ 4 1 := hsN35_.ea (hf_N30_.w hW) (by decide)
                  have eD33_2_N35_ : ze N35_ (d_ + 33) 2 = ze N30_ (d_ + 33) 2 := hsN35_.e (by decide)
                  have eD33_3_N35_ : ze N35_ (d_ + 33) 3 = ze N30_ (d_ + 33) 3 := hsN35_.e (by decide)
                  have eD33_4_N35_ : ze N35_ (d_ + 33) 4 = ze N30_ (d_ + 33) 4 := hsN35_.e (by decide)
                  have eD33_5_N35_ : ze N35_ (d_ + 33) 5 = ze N30_ (d_ + 33) 5 := hsN35_.e (by decide)
                  have eD33_6_N35_ : ze N35_ (d_ + 33) 6 = ze N30_ (d_ + 33) 6 := hsN35_.e (by decide)
                  have qzkS_N35_ : zkS d_ N35_ = zkS d_ N30_ := zkS_q hsN35_ (by decide)
                  have qzkG_N35_ : zkG d_ N35_ = zkG d_ N30_ := zkG_q hsN35_ (by decide)
                  have qzkW_N35_ : zkW F_ d_ N35_ = zkW F_ d_ N30_ := zkW_q hsN35_ (by decide)
                  have c37_ : zYb b_ n_ N35_ := zYb.fr (hf_N30_.w hW) hsN35_ c32_ (by decide)
                  have c38_ : zKm F_ K_ d_ N35_ := zKm.fr (hf_N30_.w hW) hsN35_ c33_ (by decide)
                  have c39_ : zCI F_ K_ d_ 1 N35_ := zCI.fr (hf_N30_.w hW) hsN35_ hp0_N30_ (by decide)
                  show zW l m_Reader_readBehind (zn Mz + 0, zw Mz + 0) N35_ 73 [some (.ref 4), some (.ref (d_ + 33)), some (.int (Int32.ofInt u1_))] [] _
                  have hnn_ := hyt_.n hp0_N35_
                  have hnx2_ : (ze N35_ 1 2).toNat = znx b_ n_ (znx b_ n_ (ze N2_ 1 2).toNat) := hnn_.2.trans (by rw [show ze N30_ 1 2 = ze N22_ 1 2 by (exact eA1_2_N30_), hnx_])
                  have hl2_ := hl1_.tr (zLow.f hsN35_ (by decide))
                  refine zw_aload_n (pc := 73) (n := 1) (x := (d_ + 33)) rfl (zdal_p dlA_Reader_readBehind_132 (i := 10) rfl) ?_
                  refine zk_callV hf_N35_.x (pc := 74) [] [] l_Reader_182 (u_Calc_negate l d_ N35_ (hf_N35_.w hW) F_ K_ hA_ c38_ c39_) rfl rfl ((hf_N35_.w hW).kr (o := 33) (by decide)) (by decide) (by decide) (Nat.le_of_ble_eq_true rfl) (zdal_p dlA_Reader_readBehind_132 (i := 11) rfl) ?_
                  rintro _ N40_ ⟨rfl, hsN40_, ⟨hp0_N40_, hp1_N40_, hp2_N40_, hp3_N40_, hp4_N40_, hp5_N40_⟩⟩
                  have hf_N40_ : zFc d_ [(1, 2), (1, 3), (1, 4), (1, 5), (4, 2), (4, 3)] [] [(33, 2), (33, 3), (33, 4), (33, 5), (33, 6)] [25, 27] Mz N40_ := hf_N35_.tr hsN40_ (by decide) (by decide) (by decide) (by decide)
                  have hb0_N40_ : zFc d_ [(1, 2), (1, 3), (1, 4), (1, 5)] [] [(33, 2), (33, 3), (33, 4), (33, 5), (33, 6)] [25, 27] Mz N40_ := hb0_N35_.tr hsN40_ (by decide) (by decide) (by decide) (by decide)
                  have eA1_2_N40_ : ze N40_ 1 2 = ze N35_ 1 2 := hsN40_.ea (hf_N35_.w hW) (by decide)
                  have eA1_3_N40_ : ze N40_ 1 3 = ze N35_ 1 3 := hsN40_.ea (hf_N35_.w hW) (by decide)
                  have eA1_5_N40_ : ze N40_ 1 5 = ze N35_ 1 5 := hsN40_.ea (hf_N35_.w hW) (by decide)
                  have eA4_1_N40_ : ze N40_ 4 1 = ze N35_ 4 1 := hsN40_.ea (hf_N35_.w hW) (by decide)
                  have rD33_2_N40_ := ze_r N40_ (d_ + 33) 2
                  have eD33_3_N40_ : ze N40_ (d_ + 33) 3 = ze N35_ (d_ + 33) 3 := hsN40_.e (by decide)
                  have rD33_4_N40_ := ze_r N40_ (d_ + 33) 4
                  have eD33_5_N40_ : ze N40_ (d_ + 33) 5 = ze N35_ (d_ + 33) 5 := hsN40_.e (by decide)
                  have eD33_6_N40_ : ze N40_ (d_ + 33) 6 = ze N35_ (d_ + 33) 6 := hsN40_.e (by decide)
                  have qzkG_N40_ : zkG d_ N40_ = zkG d_ N35_ := zkG_q hsN40_ (by decide)
                  have c42_ : zYb b_ n_ N40_ := zYb.fr (hf_N35_.w hW) hsN40_ c37_ (by decide)
                  have c43_ : zKm F_ K_ d_ N40_ := zKm.fr (hf_N35_.w hW) hsN40_ c38_ (by decide)
                  have c44_ : zYt b_ n_ N40_ := zYt.fr (hf_N35_.w hW) hsN40_ hp1_N35_ (by decide)
                  show zW l m_Reader_readBehind (zn Mz + 0, zw Mz + 0) N40_ 77 [some (.ref 4), some (.ref (d_ + 33)), some (.int (Int32.ofInt u1_))] [] _
                  have hn1_ := hp1_N40_
                  have hn2_ := hp2_N40_
                  have hn3_ := hp3_N40_
                  have hl3_ := hp4_N40_
                  have hn5_ := hp5_N40_
                  have hst_ : zRea (zfs b_ n_ F_ K_ nm_) (zKst 1 F_ d_ Mz) (zKst 2 F_ d_ N40_) := hrea_.tr (by first | exact zRea.st (zs1_n (Nz := N40_) (F := F_) (b := b_) (n := n_) (K := K_) (nm := nm_) hP_ hn1_ hn2_ hn3_ (by omega) (by omega)) | exact zRea.st (zs1_p (Nz := N40_) (F := F_) (b := b_) (n := n_) (K := K_) (nm := nm_) hP_ ⟨hk3_, by (exact zo_1051 hc_46 hv3_.1)⟩ (show ze N22_ 1 5 = _ by (exact zo_763 hv3_.1)) (by rw [hn1_, qzkS_N35_, hp1_, qzkW_N35_, hp2_]) (by rw [hn2_, qzkS_N35_, hp1_, qzkW_N35_, hp2_]) (by rw [hn3_, qzkG_N35_, hp3_]) (by (exact zo_52 eA4_1_N22_ eA4_1_N30_ eA4_1_N35_ eA4_1_N40_)) ((show (ze N40_ 1 2).toNat = _ by rw [show ze N40_ 1 2 = ze N35_ 1 2 by (exact eA1_2_N40_)]).trans hnx2_)))
                  have hl4_ : zLow d_ Mz N40_ := by first | exact hlow_.tr hl3_ | exact hl2_.tr hl3_
                  have hcn_ := hp0_N40_
                  have hmn_ := hcn_.m
                  obtain ⟨f1_, f2_, f3_, f4_, f5_, f6_, f7_, f8_, f9_⟩ := id hcn_
                  refine zw_aload_n (pc := 77) (n := 1) (x := (d_ + 33)) rfl (zdal_p dlA_Reader_readBehind_132 (i := 12) rfl) ?_
                  refine zk_getI (pc := 78) f_Reader_142 rfl ((hf_N40_.w hW).kr (o := 33) (by decide)) (zdal_p dlA_Reader_readBehind_132 (i := 13) rfl) ?_
                  refine zr_if_le (pc := 81) (tgt := 96) ⟨(ze_r N40_ (d_ + 33) 5).1, (ze_r N40_ (d_ + 33) 5).2⟩ (by decide) (zdal_p dlA_Reader_readBehind_132 (i := 14) rfl) (fun hc_81 => ?_) (fun hc_81 => ?_)
                  · skip
                    refine zw_iconst (pc := 96) (v := Int32.ofInt 1) (by decide) (zdal_p dlA_Reader_readBehind_132 (i := 20) rfl) ?_
                    exact zk_iret (pc := 97) (ty := .boolean) rfl (z_narB (by (decide))) ⟨by (exact hv21_a), by (exact hv21_b)⟩ hf_N40_ ⟨c44_, (show ((1 = 1 ∧ zRea (zfs b_ n_ F_ K_ nm_) (zKst 1 F_ d_ Mz) (zKst 2 F_ d_ N40_) ∧ zCI F_ K_ d_ 1 N40_ ∧ zLow d_ Mz N40_ ∧ (zkS d_ N40_).head? ≠ some 1 ∧ ¬ (zisg b_ n_ (ze N40_ 1 2).toNat 41 ∧ 0 ∈ zkS d_ N40_) ∧ ze N40_ 4 1 = ze Mz 4 1) ∨ (1 = 0 ∧ zRea (zfs b_ n_ F_ K_ nm_) (zKst 1 F_ d_ Mz) zFt ∧ zLow d_ Mz N40_)) from Or.inl (⟨(show 1 = 1 by first | rfl | omega | exact hst_ | exact hcn_ | exact hl4_ | exact hn5_ | exact (fun q_ => hC_ q_.1) | (rintro ⟨q1_, q2_⟩; have := hmn_.mpr q2_; omega)), (show zRea (zfs b_ n_ F_ K_ nm_) (zKst 1 F_ d_ Mz) (zKst 2 F_ d_ N40_) by first | rfl | (exact hst_) | exact hst_ | exact hcn_ | exact hl4_ | exact hn5_ | exact (fun q_ => hC_ q_.1) | (rintro ⟨q1_, q2_⟩; have := hmn_.mpr q2_; omega)), (show zCI F_ K_ d_ 1 N40_ by first | rfl | (exact hp0_N40_) | exact hst_ | exact hcn_ | exact hl4_ | exact hn5_ | exact (fun q_ => hC_ q_.1) | (rintro ⟨q1_, q2_⟩; have := hmn_.mpr q2_; omega)), (show zLow d_ Mz N40_ by first | rfl | (exact hl4_) | exact hst_ | exact hcn_ | exact hl4_ | exact hn5_ | exact (fun q_ => hC_ q_.1) | (rintro ⟨q1_, q2_⟩; have := hmn_.mpr q2_; omega)), (show (zkS d_ N40_).head? ≠ some 1 by first | rfl | (exact hp5_N40_) | exact hst_ | exact hcn_ | exact hl4_ | exact hn5_ | exact (fun q_ => hC_ q_.1) | (rintro ⟨q1_, q2_⟩; have := hmn_.mpr q2_; omega)), (show ¬ (zisg b_ n_ (ze N40_ 1 2).toNat 41 ∧ 0 ∈ zkS d_ N40_) by first | rfl | omega | exact hst_ | exact hcn_ | exact hl4_ | exact hn5_ | exact (fun q_ => hC_ q_.1) | (rintro ⟨q1_, q2_⟩; have := hmn_.mpr q2_; (exact zo_1052 hc_81 this))), (show ze N40_ 4 1 = ze Mz 4 1 by first | rfl | (exact zo_1053 eA4_1_N22_ eA4_1_N30_ eA4_1_N35_ eA4_1_N40_ i6_) | exact hst_ | exact hcn_ | exact hl4_ | exact hn5_ | exact (fun q_ => hC_ q_.1) | (rintro ⟨q1_, q2_⟩; have := hmn_.mpr q2_; omega))⟩))⟩ (zdal_p dlA_Reader_readBehind_132 (i := 21) rfl)
                  · skip
                    refine zw_aload_n (pc := 84) (n := 0) (x := 4) rfl (zdal_p dlA_Reader_readBehind_132 (i := 15) rfl) ?_
                    refine zw_getF (pc := 85) f_Reader_15 rfl ((hf_N40_.w hW).ka (o := 4) (by decide)) ((hf_N40_.w hW).la (o := 4) (s := 0) (r := 1) (by decide)) (zdal_p dlA_Reader_readBehind_132 (i := 16) rfl) ?_
                    refine zw_bipush (pc := 88) (v := Int32.ofInt 41) (by decide) (zdal_p dlA_Reader_readBehind_132 (i := 17) rfl) ?_
                    refine zk_callV hf_N40_.x (pc := 90) [.int (Int32.ofInt 41)] [] l_Reader_37 (u_Tokens_isSign l d_ N40_ (hf_N40_.w hW) 41 (by decide) (by decide) b_ n_ c44_) rfl rfl ((hf_N40_.w hW).ka (o := 1) (by decide)) (by decide) (by decide) (Nat.le_of_ble_eq_true rfl) (zdal_p dlA_Reader_readBehind_132 (i := 18) rfl) ?_
                    rintro _ N45_ ⟨v46_, rfl, ⟨hv46_a, hv46_b⟩, hsN45_, hp0_N45_⟩
                    obtain rfl := hsN45_.eq.symm
                    replace hp0_N45_ : ((v46_ = 1 ∧ zkd b_ n_ (ze N40_ 1 2).toNat = 3 ∧ b_ (ze N40_ 1 2).toNat = 41) ∨ (v46_ = 0 ∧ ¬ (zkd b_ n_ (ze N40_ 1 2).toNat = 3 ∧ b_ (ze N40_ 1 2).toNat = 41))) := hp0_N45_
                    rcases hp0_N45_ with ⟨rfl, ha90_0_hp0_N45_, ha90_1_hp0_N45_⟩ | ⟨rfl, ha90_0_hp0_N45_⟩
                    · skip
                      have hC_ : zisg b_ n_ (ze N40_ 1 2).toNat 41 := ⟨ha90_0_hp0_N45_, ha90_1_hp0_N45_⟩
                      show zW l m_Reader_readBehind (zn Mz + 0, zw Mz + 0) N40_ 93 [some (.ref 4), some (.ref (d_ + 33)), some (.int (Int32.ofInt u1_))] [.int (Int32.ofInt 1)] _
                      refine zr_if_ne (pc := 93) (tgt := 98) ⟨(by decide), (by decide)⟩ (by decide) (zdal_p dlA_Reader_readBehind_132 (i := 19) rfl) (fun hc_93 => ?_) (fun hc_93 => ?_)
                      · skip
                        refine zw_aload_n (pc := 98) (n := 1) (x := (d_ + 33)) rfl (zdal_p dlA_Reader_readBehind_132 (i := 22) rfl) ?_
                        refine zw_iconst (pc := 99) (v := Int32.ofInt 0) (by decide) (zdal_p dlA_Reader_readBehind_132 (i := 23) rfl) ?_
                        refine zk_callV hf_N40_.x (pc := 100) [.int (Int32.ofInt 0)] [] l_Reader_145 (u_Calc_reckon l d_ N40_ (hf_N40_.w hW) 0 (by decide) (by decide) (by (decide)) F_ K_ hA_ c43_ hp0_N40_ (show (zkS d_ N40_).head? ≠ some 1 by exact hn5_)) rfl rfl ((hf_N40_.w hW).kr (o := 33) (by decide)) (by decide) (by decide) (Nat.le_of_ble_eq_true rfl) (zdal_p dlA_Reader_readBehind_133 (i := 0) rfl) ?_
                        rintro _ N47_ ⟨rfl, hsN47_, ⟨hp0_N47_, hp1_N47_, hp2_N47_, hp3_N47_, hp4_N47_⟩⟩
                        have hf_N47_ : zFc d_ [(1, 2), (1, 3), (1, 4), (1, 5), (4, 2), (4, 3)] [] [(33, 2), (33, 3), (33, 4), (33, 5), (33, 6)] [25, 27] Mz N47_ := hf_N40_.tr hsN47_ (by decide) (by decide) (by decide) (by decide)
                        have hb0_N47_ : zFc d_ [(1, 2), (1, 3), (1, 4), (1, 5)] [] [(33, 2), (33, 3), (33, 4), (33, 5), (33, 6)] [25, 27] Mz N47_ := hb0_N40_.tr hsN47_ (by decide) (by decide) (by decide) (by decide)
                        have eA1_2_N47_ : ze N47_ 1 2 = ze N40_ 1 2 := hsN47_.ea (hf_N40_.w hW) (by decide)
                        have eA1_3_N47_ : ze N47_ 1 3 = ze N40_ 1 3 := hsN47_.ea (hf_N40_.w hW) (by decide)
                        have eA1_5_N47_ : ze N47_ 1 5 = ze N40_ 1 5 := hsN47_.ea (hf_N40_.w hW) (by decide)
                        have eA4_1_N47_ : ze N47_ 4 1 = ze N40_ 4 1 := hsN47_.ea (hf_N40_.w hW) (by decide)
                        have rD33_2_N47_ := ze_r N47_ (d_ + 33) 2
                        have rD33_3_N47_ := ze_r N47_ (d_ + 33) 3
                        have eD33_4_N47_ : ze N47_ (d_ + 33) 4 = ze N40_ (d_ + 33) 4 := hsN47_.e (by decide)
                        have eD33_5_N47_ : ze N47_ (d_ + 33) 5 = ze N40_ (d_ + 33) 5 := hsN47_.e (by decide)
                        have rD33_6_N47_ := ze_r N47_ (d_ + 33) 6
                        have c49_ : zYb b_ n_ N47_ := zYb.fr (hf_N40_.w hW) hsN47_ c42_ (by decide)
                        have c50_ : zKm F_ K_ d_ N47_ := zKm.fr (hf_N40_.w hW) hsN47_ c43_ (by decide)
                        have c51_ : zYt b_ n_ N47_ := zYt.fr (hf_N40_.w hW) hsN47_ c44_ (by decide)
                        show zW l m_Reader_readBehind (zn Mz + 0, zw Mz + 0) N47_ 103 [some (.ref 4), some (.ref (d_ + 33)), some (.int (Int32.ofInt u1_))] [] _
                        have hr1_ := hp1_N47_
                        have hl5_ := hl4_.tr hp2_N47_
                        have hr3_ := hp3_N47_
                        have hr4_ := hp4_N47_
                        have hcr_ := hp0_N47_
                        obtain ⟨i1_, i2_, i3_, i4_, i5_, i6_, i7_, i8_, i9_⟩ := id hcr_
                        have hzh_ := hcr_.h (by (exact zo_1054 eD33_5_N47_ hc_81 i4_)) hr3_ hr4_
                        refine zw_aload_n (pc := 103) (n := 1) (x := (d_ + 33)) rfl (zdal_p dlA_Reader_readBehind_133 (i := 1) rfl) ?_
                        refine zk_callV hf_N47_.x (pc := 104) [] [] l_Reader_185 (u_Calc_close l d_ N47_ (hf_N47_.w hW) F_ K_ hA_ hp0_N47_ (show (zkS d_ N47_).head? = some 0 by exact hzh_)) rfl rfl ((hf_N47_.w hW).kr (o := 33) (by decide)) (by decide) (by decide) (Nat.le_of_ble_eq_true rfl) (zdal_p dlA_Reader_readBehind_133 (i := 2) rfl) ?_
                        rintro _ N52_ ⟨rfl, hsN52_, ⟨hp0_N52_, hp1_N52_, hp2_N52_, hp3_N52_⟩⟩
                        have hf_N52_ : zFc d_ [(1, 2), (1, 3), (1, 4), (1, 5), (4, 2), (4, 3)] [] [(33, 2), (33, 3), (33, 4), (33, 5), (33, 6)] [25, 27] Mz N52_ := hf_N47_.tr hsN52_ (by decide) (by decide) (by decide) (by decide)
                        have hb0_N52_ : zFc d_ [(1, 2), (1, 3), (1, 4), (1, 5)] [] [(33, 2), (33, 3), (33, 4), (33, 5), (33, 6)] [25, 27] Mz N52_ := hb0_N47_.tr hsN52_ (by decide) (by decide) (by decide) (by decide)
                        have eA1_2_N52_ : ze N52_ 1 2 = ze N47_ 1 2 := hsN52_.ea (hf_N47_.w hW) (by decide)
                        have eA1_3_N52_ : ze N52_ 1 3 = ze N47_ 1 3 := hsN52_.ea (hf_N47_.w hW) (by decide)
                        have eA1_5_N52_ : ze N52_ 1 5 = ze N47_ 1 5 := hsN52_.ea (hf_N47_.w hW) (by decide)
                        have eA4_1_N52_ : ze N52_ 4 1 = ze N47_ 4 1 := hsN52_.ea (hf_N47_.w hW) (by decide)
                        have rD33_2_N52_ := ze_r N52_ (d_ + 33) 2
                        have eD33_3_N52_ : ze N52_ (d_ + 33) 3 = ze N47_ (d_ + 33) 3 := hsN52_.e (by decide)
                        have rD33_4_N52_ := ze_r N52_ (d_ + 33) 4
                        have rD33_5_N52_ := ze_r N52_ (d_ + 33) 5
                        have eD33_6_N52_ : ze N52_ (d_ + 33) 6 = ze N47_ (d_ + 33) 6 := hsN52_.e (by decide)
                        have qzkG_N52_ : zkG d_ N52_ = zkG d_ N47_ := zkG_q hsN52_ (by decide)
                        have qzkW_N52_ : zkW F_ d_ N52_ = zkW F_ d_ N47_ := zkW_q hsN52_ (by decide)
                        have c54_ : zYb b_ n_ N52_ := zYb.fr (hf_N47_.w hW) hsN52_ c49_ (by decide)
                        have c55_ : zKm F_ K_ d_ N52_ := zKm.fr (hf_N47_.w hW) hsN52_ c50_ (by decide)
                        have c56_ : zYt b_ n_ N52_ := zYt.fr (hf_N47_.w hW) hsN52_ c51_ (by decide)
                        show zW l m_Reader_readBehind (zn Mz + 0, zw Mz + 0) N52_ 107 [some (.ref 4), some (.ref (d_ + 33)), some (.int (Int32.ofInt u1_))] [] _
                        have hd1_ := hp1_N52_
                        have hd2_ := hp2_N52_
                        have hd3_ := hp3_N52_
                        have hl6_ := hl5_.tr (zLow.f hsN52_ (by decide))
                        have hcd_ := hp0_N52_
                        have hz5_ := zop0_t hzh_
                        rw [← hd1_] at hz5_
                        obtain ⟨k1_, k2_, k3_, k4_, k5_, k6_, k7_, k8_, k9_⟩ := id hcd_
                        have hyt_ := c56_
                        have hyx_ := hyt_.x
                        refine zw_aload_n (pc := 107) (n := 0) (x := 4) rfl (zdal_p dlA_Reader_readBehind_133 (i := 3) rfl) ?_
                        refine zw_getF (pc := 108) f_Reader_15 rfl ((hf_N52_.w hW).ka (o := 4) (by decide)) ((hf_N52_.w hW).la (o := 4) (s := 0) (r := 1) (by decide)) (zdal_p dlA_Reader_readBehind_133 (i := 4) rfl) ?_
                        refine zk_callV hf_N52_.x (pc := 111) [] [] l_Reader_44 (u_Tokens_step l d_ N52_ (hf_N52_.w hW) b_ n_ c54_ (show 0 ≤ ze N52_ 1 3 by first | with_reducible assumption | (exact zo_57 hyx_.2.1) | assumption) (show ze N52_ 1 3 ≤ n_ by first | with_reducible assumption | (exact zo_605 hyx_.2.2) | assumption)) rfl rfl ((hf_N52_.w hW).ka (o := 1) (by decide)) (by decide) (by decide) (Nat.le_of_ble_eq_true rfl) (zdal_p dlA_Reader_readBehind_133 (i := 5) rfl) ?_
                        rintro _ N57_ ⟨rfl, hsN57_, ⟨hp0_N57_, hp1_N57_⟩⟩
                        have hf_N57_ : zFc d_ [(1, 2), (1, 3), (1, 4), (1, 5), (4, 2), (4, 3)] [] [(33, 2), (33, 3), (33, 4), (33, 5), (33, 6)] [25, 27] Mz N57_ := hf_N52_.tr hsN57_ (by decide) (by decide) (by decide) (by decide)
                        have hb0_N57_ : zFc d_ [(1, 2), (1, 3), (1, 4), (1, 5)] [] [(33, 2), (33, 3), (33, 4), (33, 5), (33, 6)] [25, 27] Mz N57_ := hb0_N52_.tr hsN57_ (by decide) (by decide) (by decide) (by decide)
                        have rA1_2_N57_ := ze_r N57_ 1 2
                        have rA1_3_N57_ := ze_r N57_ 1 3
                        have rA1_5_N57_ := ze_r N57_ 1 5
                        have eA4_1_N57_ : ze N57_ 4 1 = ze N52_ 4 1 := hsN57_.ea (hf_N52_.w hW) (by decide)
                        have eD33_2_N57_ : ze N57_ (d_ + 33) 2 = ze N52_ (d_ + 33) 2 := hsN57_.e (by decide)
                        have eD33_3_N57_ : ze N57_ (d_ + 33) 3 = ze N52_ (d_ + 33) 3 := hsN57_.e (by decide)
                        have eD33_4_N57_ : ze N57_ (d_ + 33) 4 = ze N52_ (d_ + 33) 4 := hsN57_.e (by decide)
                        have eD33_5_N57_ : ze N57_ (d_ + 33) 5 = ze N52_ (d_ + 33) 5 := hsN57_.e (by decide)
                        have eD33_6_N57_ : ze N57_ (d_ + 33) 6 = ze N52_ (d_ + 33) 6 := hsN57_.e (by decide)
                        have qzkS_N57_ : zkS d_ N57_ = zkS d_ N52_ := zkS_q hsN57_ (by decide)
                        have qzkG_N57_ : zkG d_ N57_ = zkG d_ N52_ := zkG_q hsN57_ (by decide)
                        have qzkW_N57_ : zkW F_ d_ N57_ = zkW F_ d_ N52_ := zkW_q hsN57_ (by decide)
                        have c59_ : zYb b_ n_ N57_ := zYb.fr (hf_N52_.w hW) hsN57_ c54_ (by decide)
                        have c60_ : zKm F_ K_ d_ N57_ := zKm.fr (hf_N52_.w hW) hsN57_ c55_ (by decide)
                        have c61_ : zCI F_ K_ d_ 1 N57_ := zCI.fr (hf_N52_.w hW) hsN57_ hp0_N52_ (by decide)
                        show zW l m_Reader_readBehind (zn Mz + 0, zw Mz + 0) N57_ 114 [some (.ref 4), some (.ref (d_ + 33)), some (.int (Int32.ofInt u1_))] [] _
                        have hnn_ := hyt_.n hp0_N57_
                        have hl7_ := hl6_.tr (zLow.f hsN57_ (by decide))
                        have hst2_ := hst_.tr (zRea.st (zs2_c (Nz := N57_) (Rz := N47_) (c := (0, 0)) (F := F_) (b := b_) (n := n_) (K := K_) (nm := nm_) hC_ (hmn_.mp (by (exact hc_81))) hr1_ (by rw [qzkS_N57_, hd1_]) (by rw [qzkW_N57_, hd2_]) (by rw [qzkG_N57_, hd3_]) (by (exact zo_19 eA4_1_N47_ eA4_1_N52_ eA4_1_N57_)) (hnn_.2.trans (by rw [show ze N52_ 1 2 = ze N40_ 1 2 by (exact zo_53 eA1_2_N47_ eA1_2_N52_)]))))
                        refine zr_iinc (pc := 114) (i := 2) (a := u1_) (n := 1) (L2 := [some (.ref 4), some (.ref (d_ + 33)), some (.int (Int32.ofInt (u1_ + 1)))]) rfl (by decide) rfl (zdal_p dlA_Reader_readBehind_133 (i := 6) rfl) ?_
                        refine zw_goto (pc := 117) (tgt := 2) (by decide) (zdal_p dlA_Reader_readBehind_133 (i := 7) rfl) ?_
                        exact ih_2 (u1_ + 1) (by (exact zo_679 hu1_a)) (by (exact zo_1055 hc_5)) N57_ hb0_N57_ (show 0 ≤ (u1_ + 1) by first | with_reducible assumption | assumption | omega) (show (u1_ + 1) + ze N57_ (d_ + 33) 5 ≤ 7 by omega) (show ze N57_ 4 1 = ze Mz 4 1 by first | with_reducible assumption | assumption | omega) (show zRea (zfs b_ n_ F_ K_ nm_) (zKst 1 F_ d_ Mz) (zKst 1 F_ d_ N57_) by exact hst2_) (show zLow d_ Mz N57_ by exact hl7_) hp1_N57_ c61_ (by (exact zo_1057 hc_5 hlt_2 hu1_a))
                      · skip
                        exact absurd hc_93 (by decide)
                    · skip
                      have hC_ := ha90_0_hp0_N45_
                      show zW l m_Reader_readBehind (zn Mz + 0, zw Mz + 0) N40_ 93 [some (.ref 4), some (.ref (d_ + 33)), some (.int (Int32.ofInt u1_))] [.int (Int32.ofInt 0)] _
                      refine zr_if_ne (pc := 93) (tgt := 98) ⟨(by decide), (by decide)⟩ (by decide) (zdal_p dlA_Reader_readBehind_132 (i := 19) rfl) (fun hc_93 => ?_) (fun hc_93 => ?_)
                      · skip
                        exact absurd hc_93 (by decide)
                      · skip
                        refine zw_iconst (pc := 96) (v := Int32.ofInt 1) (by decide) (zdal_p dlA_Reader_readBehind_132 (i := 20) rfl) ?_
                        exact zk_iret (pc := 97) (ty := .boolean) rfl (z_narB (by (decide))) ⟨by (exact hv21_a), by (exact hv21_b)⟩ hf_N40_ ⟨c44_, (show ((1 = 1 ∧ zRea (zfs b_ n_ F_ K_ nm_) (zKst 1 F_ d_ Mz) (zKst 2 F_ d_ N40_) ∧ zCI F_ K_ d_ 1 N40_ ∧ zLow d_ Mz N40_ ∧ (zkS d_ N40_).head? ≠ some 1 ∧ ¬ (zisg b_ n_ (ze N40_ 1 2).toNat 41 ∧ 0 ∈ zkS d_ N40_) ∧ ze N40_ 4 1 = ze Mz 4 1) ∨ (1 = 0 ∧ zRea (zfs b_ n_ F_ K_ nm_) (zKst 1 F_ d_ Mz) zFt ∧ zLow d_ Mz N40_)) from Or.inl (⟨(show 1 = 1 by first | rfl | omega | exact hst_ | exact hcn_ | exact hl4_ | exact hn5_ | exact (fun q_ => hC_ q_.1) | (rintro ⟨q1_, q2_⟩; have := hmn_.mpr q2_; omega)), (show zRea (zfs b_ n_ F_ K_ nm_) (zKst 1 F_ d_ Mz) (zKst 2 F_ d_ N40_) by first | rfl | (exact hst_) | exact hst_ | exact hcn_ | exact hl4_ | exact hn5_ | exact (fun q_ => hC_ q_.1) | (rintro ⟨q1_, q2_⟩; have := hmn_.mpr q2_; omega)), (show zCI F_ K_ d_ 1 N40_ by first | rfl | (exact hp0_N40_) | exact hst_ | exact hcn_ | exact hl4_ | exact hn5_ | exact (fun q_ => hC_ q_.1) | (rintro ⟨q1_, q2_⟩; have := hmn_.mpr q2_; omega)), (show zLow d_ Mz N40_ by first | rfl | (exact hl4_) | exact hst_ | exact hcn_ | exact hl4_ | exact hn5_ | exact (fun q_ => hC_ q_.1) | (rintro ⟨q1_, q2_⟩; have := hmn_.mpr q2_; omega)), (show (zkS d_ N40_).head? ≠ some 1 by first | rfl | (exact hp5_N40_) | exact hst_ | exact hcn_ | exact hl4_ | exact hn5_ | exact (fun q_ => hC_ q_.1) | (rintro ⟨q1_, q2_⟩; have := hmn_.mpr q2_; omega)), (show ¬ (zisg b_ n_ (ze N40_ 1 2).toNat 41 ∧ 0 ∈ zkS d_ N40_) by first | rfl | omega | exact hst_ | exact hcn_ | exact hl4_ | exact hn5_ | exact (fun q_ => hC_ q_.1) | (rintro ⟨q1_, q2_⟩; have := hmn_.mpr q2_; omega)), (show ze N40_ 4 1 = ze Mz 4 1 by first | rfl | (exact zo_1053 eA4_1_N22_ eA4_1_N30_ eA4_1_N35_ eA4_1_N40_ i6_) | exact hst_ | exact hcn_ | exact hl4_ | exact hn5_ | exact (fun q_ => hC_ q_.1) | (rintro ⟨q1_, q2_⟩; have := hmn_.mpr q2_; omega))⟩))⟩ (zdal_p dlA_Reader_readBehind_132 (i := 21) rfl)
                · skip
                  refine zw_aload_n (pc := 49) (n := 0) (x := 4) rfl (zdal_p dlA_Reader_readBehind_131 (i := 22) rfl) ?_
                  refine zw_iconst (pc := 50) (v := Int32.ofInt 2) (by decide) (zdal_p dlA_Reader_readBehind_131 (i := 23) rfl) ?_
                  refine zk_callV hf_N22_.x (pc := 51) [.int (Int32.ofInt 2)] [] l_Reader_41 (u_Reader_refuse l d_ N22_ (hf_N22_.w hW) 2 (by decide) (by decide)) rfl rfl ((hf_N22_.w hW).ka (o := 4) (by decide)) (by decide) (by decide) (Nat.le_of_ble_eq_true rfl) (zdal_p dlA_Reader_readBehind_132 (i := 0) rfl) ?_
                  rintro _ N62_ ⟨v63_, rfl, ⟨hv63_a, hv63_b⟩, hsN62_, hp0_N62_⟩
                  replace hp0_N62_ : ((v63_ = 0)) := hp0_N62_
                  have hf_N62_ : zFc d_ [(1, 2), (1, 3), (1, 4), (1, 5), (4, 2), (4, 3)] [] [(33, 2), (33, 3), (33, 4), (33, 5), (33, 6)] [25, 27] Mz N62_ := hf_N22_.tr hsN62_ (by decide) (by decide) (by decide) (by decide)
                  have eA1_2_N62_ : ze N62_ 1 2 = ze N22_ 1 2 := hsN62_.ea (hf_N22_.w hW) (by decide)
                  have eA1_3_N62_ : ze N62_ 1 3 = ze N22_ 1 3 := hsN62_.ea (hf_N22_.w hW) (by decide)
                  have eA1_5_N62_ : ze N62_ 1 5 = ze N22_ 1 5 := hsN62_.ea (hf_N22_.w hW) (by decide)
                  have eA4_1_N62_ : ze N62_ 4 1 = ze N22_ 4 1 := hsN62_.ea (hf_N22_.w hW) (by decide)
                  have eD33_2_N62_ : ze N62_ (d_ + 33) 2 = ze N22_ (d_ + 33) 2 := hsN62_.e (by decide)
                  have eD33_3_N62_ : ze N62_ (d_ + 33) 3 = ze N22_ (d_ + 33) 3 := hsN62_.e (by decide)
                  have eD33_4_N62_ : ze N62_ (d_ + 33) 4 = ze N22_ (d_ + 33) 4 := hsN62_.e (by decide)
                  have eD33_5_N62_ : ze N62_ (d_ + 33) 5 = ze N22_ (d_ + 33) 5 := hsN62_.e (by decide)
                  have eD33_6_N62_ : ze N62_ (d_ + 33) 6 = ze N22_ (d_ + 33) 6 := hsN62_.e (by decide)
                  have qzkS_N62_ : zkS d_ N62_ = zkS d_ N22_ := zkS_q hsN62_ (by decide)
                  have qzkG_N62_ : zkG d_ N62_ = zkG d_ N22_ := zkG_q hsN62_ (by decide)
                  have qzkW_N62_ : zkW F_ d_ N62_ = zkW F_ d_ N22_ := zkW_q hsN62_ (by decide)
                  have c64_ : zYb b_ n_ N62_ := zYb.fr (hf_N22_.w hW) hsN62_ c24_ (by decide)
                  have c65_ : zKm F_ K_ d_ N62_ := zKm.fr (hf_N22_.w hW) hsN62_ c25_ (by decide)
                  have c66_ : zCI F_ K_ d_ 1 N62_ := zCI.fr (hf_N22_.w hW) hsN62_ c26_ (by decide)
                  have c67_ : zLow d_ Mz N62_ := zLow.fr (hf_N22_.w hW) hsN62_ c27_ (by decide)
                  have c68_ : zYt b_ n_ N62_ := zYt.fr (hf_N22_.w hW) hsN62_ hp1_N22_ (by decide)
                  rcases hp0_N62_ with rfl
                  · skip
                    show zW l m_Reader_readBehind (zn Mz + 0, zw Mz + 0) N62_ 54 [some (.ref 4), some (.ref (d_ + 33)), some (.int (Int32.ofInt u1_))] [.int (Int32.ofInt 0)] _
                    exact zk_iret (pc := 54) (ty := .boolean) rfl (z_narB (by (decide))) ⟨by (exact hv63_a), by (exact hv63_b)⟩ hf_N62_ ⟨c68_, (show ((0 = 1 ∧ zRea (zfs b_ n_ F_ K_ nm_) (zKst 1 F_ d_ Mz) (zKst 2 F_ d_ N62_) ∧ zCI F_ K_ d_ 1 N62_ ∧ zLow d_ Mz N62_ ∧ (zkS d_ N62_).head? ≠ some 1 ∧ ¬ (zisg b_ n_ (ze N62_ 1 2).toNat 41 ∧ 0 ∈ zkS d_ N62_) ∧ ze N62_ 4 1 = ze Mz 4 1) ∨ (0 = 0 ∧ zRea (zfs b_ n_ F_ K_ nm_) (zKst 1 F_ d_ Mz) zFt ∧ zLow d_ Mz N62_)) from Or.inr (⟨(show 0 = 0 by first | rfl | (exfalso; omega) | exact hrea_.tr (zRea.st (zs1_f (F := F_) (d := d_) (b := b_) (n := n_) (K := K_) (nm := nm_) hP_ (fun q_ => hk3_ q_.1))) | exact hrea_.tr (zRea.st (zs1_f (F := F_) (d := d_) (b := b_) (n := n_) (K := K_) (nm := nm_) hP_ (fun q_ => by have := q_.2; omega))) | exact c67_), (show zRea (zfs b_ n_ F_ K_ nm_) (zKst 1 F_ d_ Mz) zFt by first | rfl | (exfalso; omega) | exact hrea_.tr (zRea.st (zs1_f (F := F_) (d := d_) (b := b_) (n := n_) (K := K_) (nm := nm_) hP_ (fun q_ => hk3_ q_.1))) | exact hrea_.tr (zRea.st (zs1_f (F := F_) (d := d_) (b := b_) (n := n_) (K := K_) (nm := nm_) hP_ (fun q_ => by have := q_.2; (exact zo_1058 hc_46 hv3_.1 q_.2)))) | exact c67_), (show zLow d_ Mz N62_ by first | rfl | (exfalso; omega) | exact hrea_.tr (zRea.st (zs1_f (F := F_) (d := d_) (b := b_) (n := n_) (K := K_) (nm := nm_) hP_ (fun q_ => hk3_ q_.1))) | exact hrea_.tr (zRea.st (zs1_f (F := F_) (d := d_) (b := b_) (n := n_) (K := K_) (nm := nm_) hP_ (fun q_ => by have := q_.2; (exact zo_1058 hc_46 hv3_.1 q_.2)))) | exact c67_)⟩))⟩ (zdal_p dlA_Reader_readBehind_132 (i := 1) rfl)
            · skip
              have hk3_ := ha31_0_hp0_N28_
              rw [hnx_] at hk3_
              show zW l m_Reader_readBehind (zn Mz + 0, zw Mz + 0) N22_ 34 [some (.ref 4), some (.ref (d_ + 33)), some (.int (Int32.ofInt u1_))] [.int (Int32.ofInt 0)] _
              refine zr_if_eq (pc := 34) (tgt := 49) ⟨(by decide), (by decide)⟩ (by decide) (zdal_p dlA_Reader_readBehind_131 (i := 16) rfl) (fun hc_34 => ?_) (fun hc_34 => ?_)
              · skip
                refine zw_aload_n (pc := 49) (n := 0) (x := 4) rfl (zdal_p dlA_Reader_readBehind_131 (i := 22) rfl) ?_
                refine zw_iconst (pc := 50) (v := Int32.ofInt 2) (by decide) (zdal_p dlA_Reader_readBehind_131 (i := 23) rfl) ?_
                refine zk_callV hf_N22_.x (pc := 51) [.int (Int32.ofInt 2)] [] l_Reader_41 (u_Reader_refuse l d_ N22_ (hf_N22_.w hW) 2 (by decide) (by decide)) rfl rfl ((hf_N22_.w hW).ka (o := 4) (by decide)) (by decide) (by decide) (Nat.le_of_ble_eq_true rfl) (zdal_p dlA_Reader_readBehind_132 (i := 0) rfl) ?_
                rintro _ N69_ ⟨v70_, rfl, ⟨hv70_a, hv70_b⟩, hsN69_, hp0_N69_⟩
                replace hp0_N69_ : ((v70_ = 0)) := hp0_N69_
                have hf_N69_ : zFc d_ [(1, 2), (1, 3), (1, 4), (1, 5), (4, 2), (4, 3)] [] [(33, 2), (33, 3), (33, 4), (33, 5), (33, 6)] [25, 27] Mz N69_ := hf_N22_.tr hsN69_ (by decide) (by decide) (by decide) (by decide)
                have eA1_2_N69_ : ze N69_ 1 2 = ze N22_ 1 2 := hsN69_.ea (hf_N22_.w hW) (by decide)
                have eA1_3_N69_ : ze N69_ 1 3 = ze N22_ 1 3 := hsN69_.ea (hf_N22_.w hW) (by decide)
                have eA1_5_N69_ : ze N69_ 1 5 = ze N22_ 1 5 := hsN69_.ea (hf_N22_.w hW) (by decide)
                have eA4_1_N69_ : ze N69_ 4 1 = ze N22_ 4 1 := hsN69_.ea (hf_N22_.w hW) (by decide)
                have eD33_2_N69_ : ze N69_ (d_ + 33) 2 = ze N22_ (d_ + 33) 2 := hsN69_.e (by decide)
                have eD33_3_N69_ : ze N69_ (d_ + 33) 3 = ze N22_ (d_ + 33) 3 := hsN69_.e (by decide)
                have eD33_4_N69_ : ze N69_ (d_ + 33) 4 = ze N22_ (d_ + 33) 4 := hsN69_.e (by decide)
                have eD33_5_N69_ : ze N69_ (d_ + 33) 5 = ze N22_ (d_ + 33) 5 := hsN69_.e (by decide)
                have eD33_6_N69_ : ze N69_ (d_ + 33) 6 = ze N22_ (d_ + 33) 6 := hsN69_.e (by decide)
                have qzkS_N69_ : zkS d_ N69_ = zkS d_ N22_ := zkS_q hsN69_ (by decide)
                have qzkG_N69_ : zkG d_ N69_ = zkG d_ N22_ := zkG_q hsN69_ (by decide)
                have qzkW_N69_ : zkW F_ d_ N69_ = zkW F_ d_ N22_ := zkW_q hsN69_ (by decide)
                have c71_ : zYb b_ n_ N69_ := zYb.fr (hf_N22_.w hW) hsN69_ c24_ (by decide)
                have c72_ : zKm F_ K_ d_ N69_ := zKm.fr (hf_N22_.w hW) hsN69_ c25_ (by decide)
                have c73_ : zCI F_ K_ d_ 1 N69_ := zCI.fr (hf_N22_.w hW) hsN69_ c26_ (by decide)
                have c74_ : zLow d_ Mz N69_ := zLow.fr (hf_N22_.w hW) hsN69_ c27_ (by decide)
                have c75_ : zYt b_ n_ N69_ := zYt.fr (hf_N22_.w hW) hsN69_ hp1_N22_ (by decide)
                rcases hp0_N69_ with rfl
                · skip
                  show zW l m_Reader_readBehind (zn Mz + 0, zw Mz + 0) N69_ 54 [some (.ref 4), some (.ref (d_ + 33)), some (.int (Int32.ofInt u1_))] [.int (Int32.ofInt 0)] _
                  exact zk_iret (pc := 54) (ty := .boolean) rfl (z_narB (by (decide))) ⟨by (exact hv29_a), by (exact hv29_b)⟩ hf_N69_ ⟨c75_, (show ((0 = 1 ∧ zRea (zfs b_ n_ F_ K_ nm_) (zKst 1 F_ d_ Mz) (zKst 2 F_ d_ N69_) ∧ zCI F_ K_ d_ 1 N69_ ∧ zLow d_ Mz N69_ ∧ (zkS d_ N69_).head? ≠ some 1 ∧ ¬ (zisg b_ n_ (ze N69_ 1 2).toNat 41 ∧ 0 ∈ zkS d_ N69_) ∧ ze N69_ 4 1 = ze Mz 4 1) ∨ (0 = 0 ∧ zRea (zfs b_ n_ F_ K_ nm_) (zKst 1 F_ d_ Mz) zFt ∧ zLow d_ Mz N69_)) from Or.inr (⟨(show 0 = 0 by first | rfl | (exfalso; omega) | exact hrea_.tr (zRea.st (zs1_f (F := F_) (d := d_) (b := b_) (n := n_) (K := K_) (nm := nm_) hP_ (fun q_ => hk3_ q_.1))) | exact hrea_.tr (zRea.st (zs1_f (F := F_) (d := d_) (b := b_) (n := n_) (K := K_) (nm := nm_) hP_ (fun q_ => by have := q_.2; omega))) | exact c74_), (show zRea (zfs b_ n_ F_ K_ nm_) (zKst 1 F_ d_ Mz) zFt by first | rfl | (exfalso; omega) | exact hrea_.tr (zRea.st (zs1_f (F := F_) (d := d_) (b := b_) (n := n_) (K := K_) (nm := nm_) hP_ (fun q_ => hk3_ q_.1))) | exact hrea_.tr (zRea.st (zs1_f (F := F_) (d := d_) (b := b_) (n := n_) (K := K_) (nm := nm_) hP_ (fun q_ => by have := q_.2; omega))) | exact c74_), (show zLow d_ Mz N69_ by first | rfl | (exfalso; omega) | exact hrea_.tr (zRea.st (zs1_f (F := F_) (d := d_) (b := b_) (n := n_) (K := K_) (nm := nm_) hP_ (fun q_ => hk3_ q_.1))) | exact hrea_.tr (zRea.st (zs1_f (F := F_) (d := d_) (b := b_) (n := n_) (K := K_) (nm := nm_) hP_ (fun q_ => by have := q_.2; omega))) | exact c74_)⟩))⟩ (zdal_p dlA_Reader_readBehind_132 (i := 1) rfl)
              · skip
                exact absurd hc_34 (by decide)
        · skip
          have hP_ := ha14_0_hp0_N20_
          show zW l m_Reader_readBehind (zn Mz + 0, zw Mz + 0) N2_ 17 [some (.ref 4), some (.ref (d_ + 33)), some (.int (Int32.ofInt u1_))] [.int (Int32.ofInt 0)] _
          refine zr_if_eq (pc := 17) (tgt := 73) ⟨(by decide), (by decide)⟩ (by decide) (zdal_p dlA_Reader_readBehind_131 (i := 9) rfl) (fun hc_17 => ?_) (fun hc_17 => ?_)
          · skip
            refine zw_aload_n (pc := 73) (n := 1) (x := (d_ + 33)) rfl (zdal_p dlA_Reader_readBehind_132 (i := 10) rfl) ?_
            refine zk_callV hf_N2_.x (pc := 74) [] [] l_Reader_182 (u_Calc_negate l d_ N2_ (hf_N2_.w hW) F_ K_ hA_ c12_ i10_) rfl rfl ((hf_N2_.w hW).kr (o := 33) (by decide)) (by decide) (by decide) (Nat.le_of_ble_eq_true rfl) (zdal_p dlA_Reader_readBehind_132 (i := 11) rfl) ?_
            rintro _ N76_ ⟨rfl, hsN76_, ⟨hp0_N76_, hp1_N76_, hp2_N76_, hp3_N76_, hp4_N76_, hp5_N76_⟩⟩
            have hf_N76_ : zFc d_ [(1, 2), (1, 3), (1, 4), (1, 5), (4, 2), (4, 3)] [] [(33, 2), (33, 3), (33, 4), (33, 5), (33, 6)] [25, 27] Mz N76_ := hf_N2_.tr hsN76_ (by decide) (by decide) (by decide) (by decide)
            have hb0_N76_ : zFc d_ [(1, 2), (1, 3), (1, 4), (1, 5)] [] [(33, 2), (33, 3), (33, 4), (33, 5), (33, 6)] [25, 27] Mz N76_ := hs3_.tr hsN76_ (by decide) (by decide) (by decide) (by decide)
            have eA1_2_N76_ : ze N76_ 1 2 = ze N2_ 1 2 := hsN76_.ea (hf_N2_.w hW) (by decide)
            have eA1_3_N76_ : ze N76_ 1 3 = ze N2_ 1 3 := hsN76_.ea (hf_N2_.w hW) (by decide)
            have eA1_5_N76_ : ze N76_ 1 5 = ze N2_ 1 5 := hsN76_.ea (hf_N2_.w hW) (by decide)
            have eA4_1_N76_ : ze N76_ 4 1 = ze N2_ 4 1 := hsN76_.ea (hf_N2_.w hW) (by decide)
            have rD33_2_N76_ := ze_r N76_ (d_ + 33) 2
            have eD33_3_N76_ : ze N76_ (d_ + 33) 3 = ze N2_ (d_ + 33) 3 := hsN76_.e (by decide)
            have rD33_4_N76_ := ze_r N76_ (d_ + 33) 4
            have eD33_5_N76_ : ze N76_ (d_ + 33) 5 = ze N2_ (d_ + 33) 5 := hsN76_.e (by decide)
            have eD33_6_N76_ : ze N76_ (d_ + 33) 6 = ze N2_ (d_ + 33) 6 := hsN76_.e (by decide)
            have qzkG_N76_ : zkG d_ N76_ = zkG d_ N2_ := zkG_q hsN76_ (by decide)
            have c78_ : zYb b_ n_ N76_ := zYb.fr (hf_N2_.w hW) hsN76_ c11_ (by decide)
            have c79_ : zKm F_ K_ d_ N76_ := zKm.fr (hf_N2_.w hW) hsN76_ c12_ (by decide)
            have c80_ : zYt b_ n_ N76_ := zYt.fr (hf_N2_.w hW) hsN76_ i9_ (by decide)
            show zW l m_Reader_readBehind (zn Mz + 0, zw Mz + 0) N76_ 77 [some (.ref 4), some (.ref (d_ + 33)), some (.int (Int32.ofInt u1_))] [] _
            have hn1_ := hp1_N76_
            have hn2_ := hp2_N76_
            have hn3_ := hp3_N76_
            have hl3_ := hp4_N76_
            have hn5_ := hp5_N76_
            have hst_ : zRea (zfs b_ n_ F_ K_ nm_) (zKst 1 F_ d_ Mz) (zKst 2 F_ d_ N76_) := hrea_.tr (by first | exact zRea.st (zs1_n (Nz := N76_) (F := F_) (b := b_) (n := n_) (K := K_) (nm := nm_) hP_ hn1_ hn2_ hn3_ (by (exact eA4_1_N76_)) (by (exact eA1_2_N76_))) | exact zRea.st (zs1_p (Nz := N76_) (F := F_) (b := b_) (n := n_) (K := K_) (nm := nm_) hP_ ⟨hk3_, by omega⟩ (show ze Mz 1 5 = _ by omega) (by rw [hn1_, qzkS_N2_, hp1_, qzkW_N2_, hp2_]) (by rw [hn2_, qzkS_N2_, hp1_, qzkW_N2_, hp2_]) (by rw [hn3_, qzkG_N2_, hp3_]) (by omega) ((show (ze N76_ 1 2).toNat = _ by rw [show ze N76_ 1 2 = ze N2_ 1 2 by omega]).trans hnx2_)))
            have hl4_ : zLow d_ Mz N76_ := by first | exact hlow_.tr hl3_ | exact hl2_.tr hl3_
            have hcn_ := hp0_N76_
            have hmn_ := hcn_.m
            obtain ⟨f1_, f2_, f3_, f4_, f5_, f6_, f7_, f8_, f9_⟩ := id hcn_
            refine zw_aload_n (pc := 77) (n := 1) (x := (d_ + 33)) rfl (zdal_p dlA_Reader_readBehind_132 (i := 12) rfl) ?_
            refine zk_getI (pc := 78) f_Reader_142 rfl ((hf_N76_.w hW).kr (o := 33) (by decide)) (zdal_p dlA_Reader_readBehind_132 (i := 13) rfl) ?_
            refine zr_if_le (pc := 81) (tgt := 96) ⟨(ze_r N76_ (d_ + 33) 5).1, (ze_r N76_ (d_ + 33) 5).2⟩ (by decide) (zdal_p dlA_Reader_readBehind_132 (i := 14) rfl) (fun hc_81 => ?_) (fun hc_81 => ?_)
            · skip
              refine zw_iconst (pc := 96) (v := Int32.ofInt 1) (by decide) (zdal_p dlA_Reader_readBehind_132 (i := 20) rfl) ?_
              exact zk_iret (pc := 97) (ty := .boolean) rfl (z_narB (by (decide))) ⟨by (decide), by (decide)⟩ hf_N76_ ⟨c80_, (show ((1 = 1 ∧ zRea (zfs b_ n_ F_ K_ nm_) (zKst 1 F_ d_ Mz) (zKst 2 F_ d_ N76_) ∧ zCI F_ K_ d_ 1 N76_ ∧ zLow d_ Mz N76_ ∧ (zkS d_ N76_).head? ≠ some 1 ∧ ¬ (zisg b_ n_ (ze N76_ 1 2).toNat 41 ∧ 0 ∈ zkS d_ N76_) ∧ ze N76_ 4 1 = ze Mz 4 1) ∨ (1 = 0 ∧ zRea (zfs b_ n_ F_ K_ nm_) (zKst 1 F_ d_ Mz) zFt ∧ zLow d_ Mz N76_)) from Or.inl (⟨(show 1 = 1 by first | rfl | omega | exact hst_ | exact hcn_ | exact hl4_ | exact hn5_ | exact (fun q_ => hC_ q_.1) | (rintro ⟨q1_, q2_⟩; have := hmn_.mpr q2_; omega)), (show zRea (zfs b_ n_ F_ K_ nm_) (zKst 1 F_ d_ Mz) (zKst 2 F_ d_ N76_) by first | rfl | (exact hst_) | exact hst_ | exact hcn_ | exact hl4_ | exact hn5_ | exact (fun q_ => hC_ q_.1) | (rintro ⟨q1_, q2_⟩; have := hmn_.mpr q2_; omega)), (show zCI F_ K_ d_ 1 N76_ by first | rfl | (exact hp0_N76_) | exact hst_ | exact hcn_ | exact hl4_ | exact hn5_ | exact (fun q_ => hC_ q_.1) | (rintro ⟨q1_, q2_⟩; have := hmn_.mpr q2_; omega)), (show zLow d_ Mz N76_ by first | rfl | (exact hl4_) | exact hst_ | exact hcn_ | exact hl4_ | exact hn5_ | exact (fun q_ => hC_ q_.1) | (rintro ⟨q1_, q2_⟩; have := hmn_.mpr q2_; omega)), (show (zkS d_ N76_).head? ≠ some 1 by first | rfl | (exact hp5_N76_) | exact hst_ | exact hcn_ | exact hl4_ | exact hn5_ | exact (fun q_ => hC_ q_.1) | (rintro ⟨q1_, q2_⟩; have := hmn_.mpr q2_; omega)), (show ¬ (zisg b_ n_ (ze N76_ 1 2).toNat 41 ∧ 0 ∈ zkS d_ N76_) by first | rfl | omega | exact hst_ | exact hcn_ | exact hl4_ | exact hn5_ | exact (fun q_ => hC_ q_.1) | (rintro ⟨q1_, q2_⟩; have := hmn_.mpr q2_; (exact zo_1052 hc_81 this))), (show ze N76_ 4 1 = ze Mz 4 1 by first | rfl | (exact zo_794 eA4_1_N76_ i6_) | exact hst_ | exact hcn_ | exact hl4_ | exact hn5_ | exact (fun q_ => hC_ q_.1) | (rintro ⟨q1_, q2_⟩; have := hmn_.mpr q2_; omega))⟩))⟩ (zdal_p dlA_Reader_readBehind_132 (i := 21) rfl)
            · skip
              refine zw_aload_n (pc := 84) (n := 0) (x := 4) rfl (zdal_p dlA_Reader_readBehind_132 (i := 15) rfl) ?_
              refine zw_getF (pc := 85) f_Reader_15 rfl ((hf_N76_.w hW).ka (o := 4) (by decide)) ((hf_N76_.w hW).la (o := 4) (s := 0) (r := 1) (by decide)) (zdal_p dlA_Reader_readBehind_132 (i := 16) rfl) ?_
              refine zw_bipush (pc := 88) (v := Int32.ofInt 41) (by decide) (zdal_p dlA_Reader_readBehind_132 (i := 17) rfl) ?_
              refine zk_callV hf_N76_.x (pc := 90) [.int (Int32.ofInt 41)] [] l_Reader_37 (u_Tokens_isSign l d_ N76_ (hf_N76_.w hW) 41 (by decide) (by decide) b_ n_ c80_) rfl rfl ((hf_N76_.w hW).ka (o := 1) (by decide)) (by decide) (by decide) (Nat.le_of_ble_eq_true rfl) (zdal_p dlA_Reader_readBehind_132 (i := 18) rfl) ?_
              rintro _ N81_ ⟨v82_, rfl, ⟨hv82_a, hv82_b⟩, hsN81_, hp0_N81_⟩
              obtain rfl := hsN81_.eq.symm
              replace hp0_N81_ : ((v82_ = 1 ∧ zkd b_ n_ (ze N76_ 1 2).toNat = 3 ∧ b_ (ze N76_ 1 2).toNat = 41) ∨ (v82_ = 0 ∧ ¬ (zkd b_ n_ (ze N76_ 1 2).toNat = 3 ∧ b_ (ze N76_ 1 2).toNat = 41))) := hp0_N81_
              rcases hp0_N81_ with ⟨rfl, ha90_0_hp0_N81_, ha90_1_hp0_N81_⟩ | ⟨rfl, ha90_0_hp0_N81_⟩
              · skip
                have hC_ : zisg b_ n_ (ze N76_ 1 2).toNat 41 := ⟨ha90_0_hp0_N81_, ha90_1_hp0_N81_⟩
                show zW l m_Reader_readBehind (zn Mz + 0, zw Mz + 0) N76_ 93 [some (.ref 4), some (.ref (d_ + 33)), some (.int (Int32.ofInt u1_))] [.int (Int32.ofInt 1)] _
                refine zr_if_ne (pc := 93) (tgt := 98) ⟨(by decide), (by decide)⟩ (by decide) (zdal_p dlA_Reader_readBehind_132 (i := 19) rfl) (fun hc_93 => ?_) (fun hc_93 => ?_)
                · skip
                  refine zw_aload_n (pc := 98) (n := 1) (x := (d_ + 33)) rfl (zdal_p dlA_Reader_readBehind_132 (i := 22) rfl) ?_
                  refine zw_iconst (pc := 99) (v := Int32.ofInt 0) (by decide) (zdal_p dlA_Reader_readBehind_132 (i := 23) rfl) ?_
                  refine zk_callV hf_N76_.x (pc := 100) [.int (Int32.ofInt 0)] [] l_Reader_145 (u_Calc_reckon l d_ N76_ (hf_N76_.w hW) 0 (by decide) (by decide) (by (decide)) F_ K_ hA_ c79_ hp0_N76_ (show (zkS d_ N76_).head? ≠ some 1 by exact hn5_)) rfl rfl ((hf_N76_.w hW).kr (o := 33) (by decide)) (by decide) (by decide) (Nat.le_of_ble_eq_true rfl) (zdal_p dlA_Reader_readBehind_133 (i := 0) rfl) ?_
                  rintro _ N83_ ⟨rfl, hsN83_, ⟨hp0_N83_, hp1_N83_, hp2_N83_, hp3_N83_, hp4_N83_⟩⟩
                  have hf_N83_ : zFc d_ [(1, 2), (1, 3), (1, 4), (1, 5), (4, 2), (4, 3)] [] [(33, 2), (33, 3), (33, 4), (33, 5), (33, 6)] [25, 27] Mz N83_ := hf_N76_.tr hsN83_ (by decide) (by decide) (by decide) (by decide)
                  have hb0_N83_ : zFc d_ [(1, 2), (1, 3), (1, 4), (1, 5)] [] [(33, 2), (33, 3), (33, 4), (33, 5), (33, 6)] [25, 27] Mz N83_ := hb0_N76_.tr hsN83_ (by decide) (by decide) (by decide) (by decide)
                  have eA1_2_N83_ : ze N83_ 1 2 = ze N76_ 1 2 := hsN83_.ea (hf_N76_.w hW) (by decide)
                  have eA1_3_N83_ : ze N83_ 1 3 = ze N76_ 1 3 := hsN83_.ea (hf_N76_.w hW) (by decide)
                  have eA1_5_N83_ : ze N83_ 1 5 = ze N76_ 1 5 := hsN83_.ea (hf_N76_.w hW) (by decide)
                  have eA4_1_N83_ : ze N83_ 4 1 = ze N76_ 4 1 := hsN83_.ea (hf_N76_.w hW) (by decide)
                  have rD33_2_N83_ := ze_r N83_ (d_ + 33) 2
                  have rD33_3_N83_ := ze_r N83_ (d_ + 33) 3
                  have eD33_4_N83_ : ze N83_ (d_ + 33) 4 = ze N76_ (d_ + 33) 4 := hsN83_.e (by decide)
                  have eD33_5_N83_ : ze N83_ (d_ + 33) 5 = ze N76_ (d_ + 33) 5 := hsN83_.e (by decide)
                  have rD33_6_N83_ := ze_r N83_ (d_ + 33) 6
                  have c85_ : zYb b_ n_ N83_ := zYb.fr (hf_N76_.w hW) hsN83_ c78_ (by decide)
                  have c86_ : zKm F_ K_ d_ N83_ := zKm.fr (hf_N76_.w hW) hsN83_ c79_ (by decide)
                  have c87_ : zYt b_ n_ N83_ := zYt.fr (hf_N76_.w hW) hsN83_ c80_ (by decide)
                  show zW l m_Reader_readBehind (zn Mz + 0, zw Mz + 0) N83_ 103 [some (.ref 4), some (.ref (d_ + 33)), some (.int (Int32.ofInt u1_))] [] _
                  have hr1_ := hp1_N83_
                  have hl5_ := hl4_.tr hp2_N83_
                  have hr3_ := hp3_N83_
                  have hr4_ := hp4_N83_
                  have hcr_ := hp0_N83_
                  obtain ⟨i1_, i2_, i3_, i4_, i5_, i6_, i7_, i8_, i9_⟩ := id hcr_
                  have hzh_ := hcr_.h (by (exact zo_1054 eD33_5_N83_ hc_81 i4_)) hr3_ hr4_
                  refine zw_aload_n (pc := 103) (n := 1) (x := (d_ + 33)) rfl (zdal_p dlA_Reader_readBehind_133 (i := 1) rfl) ?_
                  refine zk_callV hf_N83_.x (pc := 104) [] [] l_Reader_185 (u_Calc_close l d_ N83_ (hf_N83_.w hW) F_ K_ hA_ hp0_N83_ (show (zkS d_ N83_).head? = some 0 by exact hzh_)) rfl rfl ((hf_N83_.w hW).kr (o := 33) (by decide)) (by decide) (by decide) (Nat.le_of_ble_eq_true rfl) (zdal_p dlA_Reader_readBehind_133 (i := 2) rfl) ?_
                  rintro _ N88_ ⟨rfl, hsN88_, ⟨hp0_N88_, hp1_N88_, hp2_N88_, hp3_N88_⟩⟩
                  have hf_N88_ : zFc d_ [(1, 2), (1, 3), (1, 4), (1, 5), (4, 2), (4, 3)] [] [(33, 2), (33, 3), (33, 4), (33, 5), (33, 6)] [25, 27] Mz N88_ := hf_N83_.tr hsN88_ (by decide) (by decide) (by decide) (by decide)
                  have hb0_N88_ : zFc d_ [(1, 2), (1, 3), (1, 4), (1, 5)] [] [(33, 2), (33, 3), (33, 4), (33, 5), (33, 6)] [25, 27] Mz N88_ := hb0_N83_.tr hsN88_ (by decide) (by decide) (by decide) (by decide)
                  have eA1_2_N88_ : ze N88_ 1 2 = ze N83_ 1 2 := hsN88_.ea (hf_N83_.w hW) (by decide)
                  have eA1_3_N88_ : ze N88_ 1 3 = ze N83_ 1 3 := hsN88_.ea (hf_N83_.w hW) (by decide)
                  have eA1_5_N88_ : ze N88_ 1 5 = ze N83_ 1 5 := hsN88_.ea (hf_N83_.w hW) (by decide)
                  have eA4_1_N88_ : ze N88_ 4 1 = ze N83_ 4 1 := hsN88_.ea (hf_N83_.w hW) (by decide)
                  have rD33_2_N88_ := ze_r N88_ (d_ + 33) 2
                  have eD33_3_N88_ : ze N88_ (d_ + 33) 3 = ze N83_ (d_ + 33) 3 := hsN88_.e (by decide)
                  have rD33_4_N88_ := ze_r N88_ (d_ + 33) 4
                  have rD33_5_N88_ := ze_r N88_ (d_ + 33) 5
                  have eD33_6_N88_ : ze N88_ (d_ + 33) 6 = ze N83_ (d_ + 33) 6 := hsN88_.e (by decide)
                  have qzkG_N88_ : zkG d_ N88_ = zkG d_ N83_ := zkG_q hsN88_ (by decide)
                  have qzkW_N88_ : zkW F_ d_ N88_ = zkW F_ d_ N83_ := zkW_q hsN88_ (by decide)
                  have c90_ : zYb b_ n_ N88_ := zYb.fr (hf_N83_.w hW) hsN88_ c85_ (by decide)
                  have c91_ : zKm F_ K_ d_ N88_ := zKm.fr (hf_N83_.w hW) hsN88_ c86_ (by decide)
                  have c92_ : zYt b_ n_ N88_ := zYt.fr (hf_N83_.w hW) hsN88_ c87_ (by decide)
                  show zW l m_Reader_readBehind (zn Mz + 0, zw Mz + 0) N88_ 107 [some (.ref 4), some (.ref (d_ + 33)), some (.int (Int32.ofInt u1_))] [] _
                  have hd1_ := hp1_N88_
                  have hd2_ := hp2_N88_
                  have hd3_ := hp3_N88_
                  have hl6_ := hl5_.tr (zLow.f hsN88_ (by decide))
                  have hcd_ := hp0_N88_
                  have hz5_ := zop0_t hzh_
                  rw [← hd1_] at hz5_
                  obtain ⟨k1_, k2_, k3_, k4_, k5_, k6_, k7_, k8_, k9_⟩ := id hcd_
                  have hyt_ := c92_
                  have hyx_ := hyt_.x
                  refine zw_aload_n (pc := 107) (n := 0) (x := 4) rfl (zdal_p dlA_Reader_readBehind_133 (i := 3) rfl) ?_
                  refine zw_getF (pc := 108) f_Reader_15 rfl ((hf_N88_.w hW).ka (o := 4) (by decide)) ((hf_N88_.w hW).la (o := 4) (s := 0) (r := 1) (by decide)) (zdal_p dlA_Reader_readBehind_133 (i := 4) rfl) ?_
                  refine zk_callV hf_N88_.x (pc := 111) [] [] l_Reader_44 (u_Tokens_step l d_ N88_ (hf_N88_.w hW) b_ n_ c90_ (show 0 ≤ ze N88_ 1 3 by first | with_reducible assumption | (exact zo_57 hyx_.2.1) | assumption) (show ze N88_ 1 3 ≤ n_ by first | with_reducible assumption | (exact zo_605 hyx_.2.2) | assumption)) rfl rfl ((hf_N88_.w hW).ka (o := 1) (by decide)) (by decide) (by decide) (Nat.le_of_ble_eq_true rfl) (zdal_p dlA_Reader_readBehind_133 (i := 5) rfl) ?_
                  rintro _ N93_ ⟨rfl, hsN93_, ⟨hp0_N93_, hp1_N93_⟩⟩
                  have hf_N93_ : zFc d_ [(1, 2), (1, 3), (1, 4), (1, 5), (4, 2), (4, 3)] [] [(33, 2), (33, 3), (33, 4), (33, 5), (33, 6)] [25, 27] Mz N93_ := hf_N88_.tr hsN93_ (by decide) (by decide) (by decide) (by decide)
                  have hb0_N93_ : zFc d_ [(1, 2), (1, 3), (1, 4), (1, 5)] [] [(33, 2), (33, 3), (33, 4), (33, 5), (33, 6)] [25, 27] Mz N93_ := hb0_N88_.tr hsN93_ (by decide) (by decide) (by decide) (by decide)
                  have rA1_2_N93_ := ze_r N93_ 1 2
                  have rA1_3_N93_ := ze_r N93_ 1 3
                  have rA1_5_N93_ := ze_r N93_ 1 5
                  have eA4_1_N93_ : ze N93_ 4 1 = ze N88_ 4 1 := hsN93_.ea (hf_N88_.w hW) (by decide)
                  have eD33_2_N93_ : ze N93_ (d_ + 33) 2 = ze N88_ (d_ + 33) 2 := hsN93_.e (by decide)
                  have eD33_3_N93_ : ze N93_ (d_ + 33) 3 = ze N88_ (d_ + 33) 3 := hsN93_.e (by decide)
                  have eD33_4_N93_ : ze N93_ (d_ + 33) 4 = ze N88_ (d_ + 33) 4 := hsN93_.e (by decide)
                  have eD33_5_N93_ : ze N93_ (d_ + 33) 5 = ze N88_ (d_ + 33) 5 := hsN93_.e (by decide)
                  have eD33_6_N93_ : ze N93_ (d_ + 33) 6 = ze N88_ (d_ + 33) 6 := hsN93_.e (by decide)
                  have qzkS_N93_ : zkS d_ N93_ = zkS d_ N88_ := zkS_q hsN93_ (by decide)
                  have qzkG_N93_ : zkG d_ N93_ = zkG d_ N88_ := zkG_q hsN93_ (by decide)
                  have qzkW_N93_ : zkW F_ d_ N93_ = zkW F_ d_ N88_ := zkW_q hsN93_ (by decide)
                  have c95_ : zYb b_ n_ N93_ := zYb.fr (hf_N88_.w hW) hsN93_ c90_ (by decide)
                  have c96_ : zKm F_ K_ d_ N93_ := zKm.fr (hf_N88_.w hW) hsN93_ c91_ (by decide)
                  have c97_ : zCI F_ K_ d_ 1 N93_ := zCI.fr (hf_N88_.w hW) hsN93_ hp0_N88_ (by decide)
                  show zW l m_Reader_readBehind (zn Mz + 0, zw Mz + 0) N93_ 114 [some (.ref 4), some (.ref (d_ + 33)), some (.int (Int32.ofInt u1_))] [] _
                  have hnn_ := hyt_.n hp0_N93_
                  have hl7_ := hl6_.tr (zLow.f hsN93_ (by decide))
                  have hst2_ := hst_.tr (zRea.st (zs2_c (Nz := N93_) (Rz := N83_) (c := (0, 0)) (F := F_) (b := b_) (n := n_) (K := K_) (nm := nm_) hC_ (hmn_.mp (by (exact hc_81))) hr1_ (by rw [qzkS_N93_, hd1_]) (by rw [qzkW_N93_, hd2_]) (by rw [qzkG_N93_, hd3_]) (by (exact zo_19 eA4_1_N83_ eA4_1_N88_ eA4_1_N93_)) (hnn_.2.trans (by rw [show ze N88_ 1 2 = ze N76_ 1 2 by (exact zo_53 eA1_2_N83_ eA1_2_N88_)]))))
                  refine zr_iinc (pc := 114) (i := 2) (a := u1_) (n := 1) (L2 := [some (.ref 4), some (.ref (d_ + 33)), some (.int (Int32.ofInt (u1_ + 1)))]) rfl (by decide) rfl (zdal_p dlA_Reader_readBehind_133 (i := 6) rfl) ?_
                  refine zw_goto (pc := 117) (tgt := 2) (by decide) (zdal_p dlA_Reader_readBehind_133 (i := 7) rfl) ?_
                  exact ih_2 (u1_ + 1) (by (exact zo_679 hu1_a)) (by (exact zo_1055 hc_5)) N93_ hb0_N93_ (show 0 ≤ (u1_ + 1) by first | with_reducible assumption | assumption | omega) (show (u1_ + 1) + ze N93_ (d_ + 33) 5 ≤ 7 by omega) (show ze N93_ 4 1 = ze Mz 4 1 by first | with_reducible assumption | (exact zo_1059 eA4_1_N2_ eA4_1_N76_ eA4_1_N83_ eA4_1_N88_ eA4_1_N93_) | assumption) (show zRea (zfs b_ n_ F_ K_ nm_) (zKst 1 F_ d_ Mz) (zKst 1 F_ d_ N93_) by exact hst2_) (show zLow d_ Mz N93_ by exact hl7_) hp1_N93_ c97_ (by (exact zo_1057 hc_5 hlt_2 hu1_a))
                · skip
                  exact absurd hc_93 (by decide)
              · skip
                have hC_ := ha90_0_hp0_N81_
                show zW l m_Reader_readBehind (zn Mz + 0, zw Mz + 0) N76_ 93 [some (.ref 4), some (.ref (d_ + 33)), some (.int (Int32.ofInt u1_))] [.int (Int32.ofInt 0)] _
                refine zr_if_ne (pc := 93) (tgt := 98) ⟨(by decide), (by decide)⟩ (by decide) (zdal_p dlA_Reader_readBehind_132 (i := 19) rfl) (fun hc_93 => ?_) (fun hc_93 => ?_)
                · skip
                  exact absurd hc_93 (by decide)
                · skip
                  refine zw_iconst (pc := 96) (v := Int32.ofInt 1) (by decide) (zdal_p dlA_Reader_readBehind_132 (i := 20) rfl) ?_
                  exact zk_iret (pc := 97) (ty := .boolean) rfl (z_narB (by (decide))) ⟨by (decide), by (decide)⟩ hf_N76_ ⟨c80_, (show ((1 = 1 ∧ zRea (zfs b_ n_ F_ K_ nm_) (zKst 1 F_ d_ Mz) (zKst 2 F_ d_ N76_) ∧ zCI F_ K_ d_ 1 N76_ ∧ zLow d_ Mz N76_ ∧ (zkS d_ N76_).head? ≠ some 1 ∧ ¬ (zisg b_ n_ (ze N76_ 1 2).toNat 41 ∧ 0 ∈ zkS d_ N76_) ∧ ze N76_ 4 1 = ze Mz 4 1) ∨ (1 = 0 ∧ zRea (zfs b_ n_ F_ K_ nm_) (zKst 1 F_ d_ Mz) zFt ∧ zLow d_ Mz N76_)) from Or.inl (⟨(show 1 = 1 by first | rfl | omega | exact hst_ | exact hcn_ | exact hl4_ | exact hn5_ | exact (fun q_ => hC_ q_.1) | (rintro ⟨q1_, q2_⟩; have := hmn_.mpr q2_; omega)), (show zRea (zfs b_ n_ F_ K_ nm_) (zKst 1 F_ d_ Mz) (zKst 2 F_ d_ N76_) by first | rfl | (exact hst_) | exact hst_ | exact hcn_ | exact hl4_ | exact hn5_ | exact (fun q_ => hC_ q_.1) | (rintro ⟨q1_, q2_⟩; have := hmn_.mpr q2_; omega)), (show zCI F_ K_ d_ 1 N76_ by first | rfl | (exact hp0_N76_) | exact hst_ | exact hcn_ | exact hl4_ | exact hn5_ | exact (fun q_ => hC_ q_.1) | (rintro ⟨q1_, q2_⟩; have := hmn_.mpr q2_; omega)), (show zLow d_ Mz N76_ by first | rfl | (exact hl4_) | exact hst_ | exact hcn_ | exact hl4_ | exact hn5_ | exact (fun q_ => hC_ q_.1) | (rintro ⟨q1_, q2_⟩; have := hmn_.mpr q2_; omega)), (show (zkS d_ N76_).head? ≠ some 1 by first | rfl | (exact hp5_N76_) | exact hst_ | exact hcn_ | exact hl4_ | exact hn5_ | exact (fun q_ => hC_ q_.1) | (rintro ⟨q1_, q2_⟩; have := hmn_.mpr q2_; omega)), (show ¬ (zisg b_ n_ (ze N76_ 1 2).toNat 41 ∧ 0 ∈ zkS d_ N76_) by first | rfl | omega | exact hst_ | exact hcn_ | exact hl4_ | exact hn5_ | exact (fun q_ => hC_ q_.1) | (rintro ⟨q1_, q2_⟩; have := hmn_.mpr q2_; omega)), (show ze N76_ 4 1 = ze Mz 4 1 by first | rfl | (exact zo_794 eA4_1_N76_ i6_) | exact hst_ | exact hcn_ | exact hl4_ | exact hn5_ | exact (fun q_ => hC_ q_.1) | (rintro ⟨q1_, q2_⟩; have := hmn_.mpr q2_; omega))⟩))⟩ (zdal_p dlA_Reader_readBehind_132 (i := 21) rfl)
          · skip
            exact absurd hc_17 (by decide)
  exact lp_2 _ 0 (by decide) (by decide) Mz zFc.rf (show 0 ≤ (0 : Int) by first | with_reducible assumption | (decide) | assumption) (show (0 : Int) + ze Mz (d_ + 33) 5 ≤ 7 by first | with_reducible assumption | (exact zo_1060 e4_ e8_ hz1_ r_D33_5.2) | assumption) (show ze Mz 4 1 = ze Mz 4 1 by first | with_reducible assumption | (exact zo_62) | assumption) (show zRea (zfs b_ n_ F_ K_ nm_) (zKst 1 F_ d_ Mz) (zKst 1 F_ d_ Mz) by exact zRea.rf) (show zLow d_ Mz Mz by exact zLow.rf) p1_ p3_ (Nat.lt_succ_self _)
set_option maxHeartbeats 4000000 in
theorem u_Reader_readSum (l : Launch) (d_ : Nat) (Mz : zMem) (hW : zKW d_ Mz) (b_ : Nat → Int) (n_ : Nat) (F_ : Nat) (K_ : Nat → Nat → Int) (hA_ : zTA F_ K_) (nm_ : List (Int × (Nat → Int))) (p0_ : zYb b_ n_ Mz) (p1_ : zYt b_ n_ Mz) (p2_ : zKm F_ K_ d_ Mz) (p3_ : zNm nm_ F_ K_ d_ Mz) : zC l m_Reader_readSum 0 0 [.ref 4, .ref (d_ + 0)] Mz (zqcI d_ [(1, 2), (1, 3), (1, 4), (1, 5), (4, 1), (4, 2), (4, 3)] [] [(33, 2), (33, 3), (33, 4), (33, 5), (33, 6)] [25, 27, 35] Mz (fun v N => zYt b_ n_ N ∧ (((v = 1 ∧ zRea (zfs b_ n_ F_ K_ nm_) (0, (ze Mz 1 2).toNat, [], [], 0, false) (zKst 3 F_ d_ N) ∧ zCI F_ K_ d_ 1 N ∧ zLow d_ Mz N ∧ zkS d_ N = []) ∨ (v = 0 ∧ zRea (zfs b_ n_ F_ K_ nm_) (0, (ze Mz 1 2).toNat, [], [], 0, false) zFt ∧ zLow d_ Mz N))))) := by
  refine zC_of (L0 := [some (.ref 4), some (.ref (d_ + 0)), none, none, none]) md_Reader_readSum (Nat.le_of_ble_eq_true rfl) rfl ?_ zQ0
  have hf : zFc d_ [(1, 2), (1, 3), (1, 4), (1, 5), (4, 1), (4, 2), (4, 3)] [] [(33, 2), (33, 3), (33, 4), (33, 5), (33, 6)] [25, 27, 35] Mz Mz := zFc.rf
  have r_A1_2 := ze_r Mz 1 2
  have r_A1_3 := ze_r Mz 1 3
  have r_A1_5 := ze_r Mz 1 5
  have r_A4_1 := ze_r Mz 4 1
  have r_D33_2 := ze_r Mz (d_ + 33) 2
  have r_D33_3 := ze_r Mz (d_ + 33) 3
  have r_D33_4 := ze_r Mz (d_ + 33) 4
  have r_D33_5 := ze_r Mz (d_ + 33) 5
  have r_D33_6 := ze_r Mz (d_ + 33) 6
  obtain ⟨⟨hF1_, hF27_⟩, hAr_⟩ := id hA_
  refine zw_aload_n (pc := 0) (n := 1) (x := (d_ + 0)) rfl (zdal_p dlA_Reader_readSum_109 (i := 0) rfl) ?_
  refine zw_getF (pc := 1) f_Reader_111 rfl ((hf.w hW).kr (o := 0) (by decide)) ((hf.w hW).lr (o := 0) (s := 4) (r := 33) (by decide)) (zdal_p dlA_Reader_readSum_109 (i := 1) rfl) ?_
  refine zw_astore_n (pc := 4) (i := 2) (L2 := [some (.ref 4), some (.ref (d_ + 0)), some (.ref (d_ + 33)), none, none]) rfl (by decide) rfl (zdal_p dlA_Reader_readSum_109 (i := 2) rfl) ?_
  refine zw_aload_n (pc := 5) (n := 2) (x := (d_ + 33)) rfl (zdal_p dlA_Reader_readSum_109 (i := 3) rfl) ?_
  refine zk_callV hf.x (pc := 6) [] [] l_Reader_124 (u_Calc_begin l d_ Mz (hf.w hW) F_ K_ hA_) rfl rfl ((hf.w hW).kr (o := 33) (by decide)) (by decide) (by decide) (Nat.le_of_ble_eq_true rfl) (zdal_p dlA_Reader_readSum_109 (i := 4) rfl) ?_
  rintro _ N1_ ⟨rfl, hsN1_, ⟨hp0_N1_, hp1_N1_, hp2_N1_, hp3_N1_⟩⟩
  have hf_N1_ : zFc d_ [(1, 2), (1, 3), (1, 4), (1, 5), (4, 1), (4, 2), (4, 3)] [] [(33, 2), (33, 3), (33, 4), (33, 5), (33, 6)] [25, 27, 35] Mz N1_ := hf.tr hsN1_ (by decide) (by decide) (by decide) (by decide)
  have eA1_2_N1_ : ze N1_ 1 2 = ze Mz 1 2 := hsN1_.ea (hf.w hW) (by decide)
  have eA1_3_N1_ : ze N1_ 1 3 = ze Mz 1 3 := hsN1_.ea (hf.w hW) (by decide)
  have eA1_5_N1_ : ze N1_ 1 5 = ze Mz 1 5 := hsN1_.ea (hf.w hW) (by decide)
  have eA4_1_N1_ : ze N1_ 4 1 = ze Mz 4 1 := hsN1_.ea (hf.w hW) (by decide)
  have rD33_2_N1_ := ze_r N1_ (d_ + 33) 2
  have rD33_3_N1_ := ze_r N1_ (d_ + 33) 3
  have rD33_4_N1_ := ze_r N1_ (d_ + 33) 4
  have rD33_5_N1_ := ze_r N1_ (d_ + 33) 5
  have rD33_6_N1_ := ze_r N1_ (d_ + 33) 6
  have c3_ : zYb b_ n_ N1_ := zYb.fr (hf.w hW) hsN1_ p0_ (by decide)
  have c4_ : zYt b_ n_ N1_ := zYt.fr (hf.w hW) hsN1_ p1_ (by decide)
  have c5_ : zKm F_ K_ d_ N1_ := zKm.fr (hf.w hW) hsN1_ p2_ (by decide)
  have c6_ : zNm nm_ F_ K_ d_ N1_ := zNm.fr (hf.w hW) hsN1_ p3_ (by decide)
  show zW l m_Reader_readSum (zn Mz + 0, zw Mz + 0) N1_ 9 [some (.ref 4), some (.ref (d_ + 0)), some (.ref (d_ + 33)), none, none] [] _
  have hi1_ := hp1_N1_
  have hi2_ := hp2_N1_
  have hi3_ := hp3_N1_
  refine zw_aload_n (pc := 9) (n := 0) (x := 4) rfl (zdal_p dlA_Reader_readSum_109 (i := 5) rfl) ?_
  refine zw_iconst (pc := 10) (v := Int32.ofInt 0) (by decide) (zdal_p dlA_Reader_readSum_109 (i := 6) rfl) ?_
  refine zk_putA (pc := 11) (hf_N1_.w hW) (by decide) f_Reader_126 rfl rfl ((hf_N1_.w hW).ka (o := 4) (by decide)) ⟨by (decide), by (decide)⟩ rfl rfl (zdal_p dlA_Reader_readSum_109 (i := 7) rfl) (fun N7_ hsN7_ hvN7_ => ?_)
  have hf_N7_ : zFc d_ [(1, 2), (1, 3), (1, 4), (1, 5), (4, 1), (4, 2), (4, 3)] [] [(33, 2), (33, 3), (33, 4), (33, 5), (33, 6)] [25, 27, 35] Mz N7_ := hf_N1_.tr hsN7_ (by decide) (by decide) (by decide) (by decide)
  have eA1_2_N7_ : ze N7_ 1 2 = ze N1_ 1 2 := hsN7_.ea (hf_N1_.w hW) (by decide)
  have eA1_3_N7_ : ze N7_ 1 3 = ze N1_ 1 3 := hsN7_.ea (hf_N1_.w hW) (by decide)
  have eA1_5_N7_ : ze N7_ 1 5 = ze N1_ 1 5 := hsN7_.ea (hf_N1_.w hW) (by decide)
  have rA4_1_N7_ := ze_r N7_ 4 1
  have eD33_2_N7_ : ze N7_ (d_ + 33) 2 = ze N1_ (d_ + 33) 2 := hsN7_.e (by decide)
  have eD33_3_N7_ : ze N7_ (d_ + 33) 3 = ze N1_ (d_ + 33) 3 := hsN7_.e (by decide)
  have eD33_4_N7_ : ze N7_ (d_ + 33) 4 = ze N1_ (d_ + 33) 4 := hsN7_.e (by decide)
  have eD33_5_N7_ : ze N7_ (d_ + 33) 5 = ze N1_ (d_ + 33) 5 := hsN7_.e (by decide)
  have eD33_6_N7_ : ze N7_ (d_ + 33) 6 = ze N1_ (d_ + 33) 6 := hsN7_.e (by decide)
  have qzkS_N7_ : zkS d_ N7_ = zkS d_ N1_ := zkS_q hsN7_ (by decide)
  have qzkG_N7_ : zkG d_ N7_ = zkG d_ N1_ := zkG_q hsN7_ (by decide)
  have qzkW_N7_ : zkW F_ d_ N7_ = zkW F_ d_ N1_ := zkW_q hsN7_ (by decide)
  have c8_ : zYb b_ n_ N7_ := zYb.fr (hf_N1_.w hW) hsN7_ c3_ (by decide)
  have c9_ : zYt b_ n_ N7_ := zYt.fr (hf_N1_.w hW) hsN7_ c4_ (by decide)
  have c10_ : zKm F_ K_ d_ N7_ := zKm.fr (hf_N1_.w hW) hsN7_ c5_ (by decide)
  have c11_ : zNm nm_ F_ K_ d_ N7_ := zNm.fr (hf_N1_.w hW) hsN7_ c6_ (by decide)
  have c12_ : zCI F_ K_ d_ 0 N7_ := zCI.fr (hf_N1_.w hW) hsN7_ hp0_N1_ (by decide)
  have hst0_ : zRea (zfs b_ n_ F_ K_ nm_) (0, (ze Mz 1 2).toNat, [], [], 0, false) (zKst 0 F_ d_ N7_) := (by unfold zKst; rw [qzkS_N7_, qzkW_N7_, qzkG_N7_, hi1_, hi2_, hi3_, show ze N7_ 1 2 = ze Mz 1 2 by (exact zo_53 eA1_2_N1_ eA1_2_N7_), show (ze N7_ 4 1).toNat = 0 by (exact zo_1061 hvN7_)]; exact zRea.rf)
  have hlw0_ := (zLow.f hsN1_ (by decide)).tr (zLow.f hsN7_ (by decide))
  refine zw_iconst (pc := 14) (v := Int32.ofInt 1) (by decide) (zdal_p dlA_Reader_readSum_109 (i := 8) rfl) ?_
  refine zw_istore_n (pc := 15) (i := 3) (L2 := [some (.ref 4), some (.ref (d_ + 0)), some (.ref (d_ + 33)), some (.int (Int32.ofInt 1)), none]) rfl (by decide) rfl (zdal_p dlA_Reader_readSum_109 (i := 9) rfl) ?_
  refine zw_iconst (pc := 16) (v := Int32.ofInt 0) (by decide) (zdal_p dlA_Reader_readSum_109 (i := 10) rfl) ?_
  refine zw_istore (pc := 17) (i := 4) (L2 := [some (.ref 4), some (.ref (d_ + 0)), some (.ref (d_ + 33)), some (.int (Int32.ofInt 1)), some (.int (Int32.ofInt 0))]) (by decide) rfl (zdal_p dlA_Reader_readSum_109 (i := 11) rfl) ?_
  have lp_19 : ∀ (n : Nat) (u13_ : Int) (hu13_a : -2147483648 ≤ u13_) (hu13_b : u13_ < 2147483648) (hu13_z : u13_ = 0 ∨ u13_ = 1) (u14_ : Int) (hu14_a : -2147483648 ≤ u14_) (hu14_b : u14_ < 2147483648) (N15_ : zMem) (hs16_ : zFc d_ [(1, 2), (1, 3), (1, 4), (1, 5), (4, 1), (4, 2), (4, 3)] [] [(33, 2), (33, 3), (33, 4), (33, 5), (33, 6)] [25, 27, 35] N7_ N15_) (i17_ : 0 ≤ u14_) (i18_ : u14_ ≤ ze N15_ 4 1) (i19_ : ze N15_ 4 1 ≤ 30) (i20_ : zLow d_ Mz N15_) (i21_ : zYt b_ n_ N15_) (i22_ : zNm nm_ F_ K_ d_ N15_) (i23_ : (u13_ = 1 ∧ zRea (zfs b_ n_ F_ K_ nm_) (0, (ze Mz 1 2).toNat, [], [], 0, false) (zKst 0 F_ d_ N15_) ∧ zCI F_ K_ d_ 0 N15_) ∨ (u13_ = 0 ∧ zRea (zfs b_ n_ F_ K_ nm_) (0, (ze Mz 1 2).toNat, [], [], 0, false) (zKst 2 F_ d_ N15_) ∧ zCI F_ K_ d_ 1 N15_ ∧ (zkS d_ N15_).head? ≠ some 1 ∧ ¬ (zisg b_ n_ (ze N15_ 1 2).toNat 42 ∨ zisg b_ n_ (ze N15_ 1 2).toNat 43 ∨ zisg b_ n_ (ze N15_ 1 2).toNat 45) ∧ ¬ (zisg b_ n_ (ze N15_ 1 2).toNat 41 ∧ 0 ∈ zkS d_ N15_))), (31 - u14_).toNat < n → zW l m_Reader_readSum (zn Mz + 0, zw Mz + 0) N15_ 19 [some (.ref 4), some (.ref (d_ + 0)), some (.ref (d_ + 33)), some (.int (Int32.ofInt u13_)), some (.int (Int32.ofInt u14_))] [] (zqcI d_ [(1, 2), (1, 3), (1, 4), (1, 5), (4, 1), (4, 2), (4, 3)] [] [(33, 2), (33, 3), (33, 4), (33, 5), (33, 6)] [25, 27, 35] Mz (fun v N => zYt b_ n_ N ∧ (((v = 1 ∧ zRea (zfs b_ n_ F_ K_ nm_) (0, (ze Mz 1 2).toNat, [], [], 0, false) (zKst 3 F_ d_ N) ∧ zCI F_ K_ d_ 1 N ∧ zLow d_ Mz N ∧ zkS d_ N = []) ∨ (v = 0 ∧ zRea (zfs b_ n_ F_ K_ nm_) (0, (ze Mz 1 2).toNat, [], [], 0, false) zFt ∧ zLow d_ Mz N))))) := by
    clear hsN1_ hp0_N1_ hp1_N1_ hp2_N1_ hp3_N1_ hf_N1_ eA1_2_N1_ eA1_3_N1_ eA1_5_N1_ eA4_1_N1_ rD33_2_N1_ rD33_3_N1_ rD33_4_N1_ rD33_5_N1_ rD33_6_N1_ c3_ c4_ c5_ c6_ hsN7_ eA1_2_N7_ eA1_3_N7_ eA1_5_N7_ eD33_2_N7_ eD33_3_N7_ eD33_4_N7_ eD33_5_N7_ eD33_6_N7_ qzkS_N7_ qzkG_N7_ qzkW_N7_
    intro n
    induction n with
    | zero =>
      intro u13_ hu13_a hu13_b hu13_z u14_ hu14_a hu14_b N15_ hs16_ i17_ i18_ i19_ i20_ i21_ i22_ i23_ h0
      exact absurd h0 (Nat.not_lt_zero _)
    | succ n ih_19 =>
      intro u13_ hu13_a hu13_b hu13_z u14_ hu14_a hu14_b N15_ hs16_ i17_ i18_ i19_ i20_ i21_ i22_ i23_ hlt_19
      have hf_N15_ : zFc d_ [(1, 2), (1, 3), (1, 4), (1, 5), (4, 1), (4, 2), (4, 3)] [] [(33, 2), (33, 3), (33, 4), (33, 5), (33, 6)] [25, 27, 35] Mz N15_ := hf_N7_.tr hs16_ (by decide) (by decide) (by decide) (by decide)
      have rA1_2_N15_ := ze_r N15_ 1 2
      have rA1_3_N15_ := ze_r N15_ 1 3
      have rA1_5_N15_ := ze_r N15_ 1 5
      have rA4_1_N15_ := ze_r N15_ 4 1
      have rD33_2_N15_ := ze_r N15_ (d_ + 33) 2
      have rD33_3_N15_ := ze_r N15_ (d_ + 33) 3
      have rD33_4_N15_ := ze_r N15_ (d_ + 33) 4
      have rD33_5_N15_ := ze_r N15_ (d_ + 33) 5
      have rD33_6_N15_ := ze_r N15_ (d_ + 33) 6
      have c24_ : zYb b_ n_ N15_ := zYb.fr (hf_N7_.w hW) hs16_ c8_ (by decide)
      have c25_ : zKm F_ K_ d_ N15_ := zKm.fr (hf_N7_.w hW) hs16_ c10_ (by decide)
      rcases i23_ with ⟨rfl, hl19_0_i23_, hl19_1_i23_⟩ | ⟨rfl, hl19_0_i23_, hl19_1_i23_, hl19_2_i23_, hl19_3_i23_, hl19_4_i23_⟩
      · skip
        have hr0_ := hl19_0_i23_
        have hc0_ := hl19_1_i23_
        have hlow_ := (show zLow d_ Mz N15_ by first | with_reducible assumption | assumption)
        refine zw_iload (pc := 19) (i := 4) (x := Int32.ofInt u14_) rfl (zdal_p dlA_Reader_readSum_109 (i := 12) rfl) ?_
        refine zw_bipush (pc := 21) (v := Int32.ofInt 30) (by decide) (zdal_p dlA_Reader_readSum_109 (i := 13) rfl) ?_
        refine zr_icmp_gt (pc := 23) (tgt := 126) ⟨hu14_a, hu14_b⟩ ⟨(by decide), (by decide)⟩ (by decide) (zdal_p dlA_Reader_readSum_109 (i := 14) rfl) (fun hc_23 => ?_) (fun hc_23 => ?_)
        · skip
          exfalso; (exact zo_1062 hc_23 i18_ i19_)
        · skip
          refine zw_iload_n (pc := 26) (n := 3) (x := Int32.ofInt 1) rfl (zdal_p dlA_Reader_readSum_109 (i := 15) rfl) ?_
          refine zr_if_eq (pc := 27) (tgt := 126) ⟨(by decide), (by decide)⟩ (by decide) (zdal_p dlA_Reader_readSum_109 (i := 16) rfl) (fun hc_27 => ?_) (fun hc_27 => ?_)
          · skip
            exact absurd hc_27 (by decide)
          · skip
            refine zw_aload_n (pc := 30) (n := 0) (x := 4) rfl (zdal_p dlA_Reader_readSum_109 (i := 17) rfl) ?_
            refine zw_aload_n (pc := 31) (n := 2) (x := (d_ + 33)) rfl (zdal_p dlA_Reader_readSum_109 (i := 18) rfl) ?_
            refine zk_callV hf_N15_.x (pc := 32) [.ref (d_ + 33)] [] l_Reader_129 (u_Reader_readAhead l d_ N15_ (hf_N15_.w hW) b_ n_ F_ K_ hA_ nm_ c24_ i21_ hc0_ (show 0 ≤ ze N15_ 4 1 by first | with_reducible assumption | (exact zo_1063 i17_ i18_ rA4_1_N15_.1) | assumption) (show ze N15_ 4 1 ≤ 30 by first | with_reducible assumption | assumption | omega)) rfl rfl ((hf_N15_.w hW).ka (o := 4) (by decide)) (by decide) (by decide) (Nat.le_of_ble_eq_true rfl) (zdal_p dlA_Reader_readSum_109 (i := 19) rfl) ?_
            rintro _ N26_ ⟨v27_, rfl, ⟨hv27_a, hv27_b⟩, hsN26_, ⟨hp0_N26_, hp1_N26_⟩⟩
            have hf_N26_ : zFc d_ [(1, 2), (1, 3), (1, 4), (1, 5), (4, 1), (4, 2), (4, 3)] [] [(33, 2), (33, 3), (33, 4), (33, 5), (33, 6)] [25, 27, 35] Mz N26_ := hf_N15_.tr hsN26_ (by decide) (by decide) (by decide) (by decide)
            have hb0_N26_ : zFc d_ [(1, 2), (1, 3), (1, 4), (1, 5), (4, 1), (4, 2), (4, 3)] [] [(33, 2), (33, 3), (33, 4), (33, 5), (33, 6)] [25, 27, 35] N7_ N26_ := hs16_.tr hsN26_ (by decide) (by decide) (by decide) (by decide)
            have rA1_2_N26_ := ze_r N26_ 1 2
            have rA1_3_N26_ := ze_r N26_ 1 3
            have rA1_5_N26_ := ze_r N26_ 1 5
            have rA4_1_N26_ := ze_r N26_ 4 1
            have rD33_2_N26_ := ze_r N26_ (d_ + 33) 2
            have eD33_3_N26_ : ze N26_ (d_ + 33) 3 = ze N15_ (d_ + 33) 3 := hsN26_.e (by decide)
            have rD33_4_N26_ := ze_r N26_ (d_ + 33) 4
            have rD33_5_N26_ := ze_r N26_ (d_ + 33) 5
            have eD33_6_N26_ : ze N26_ (d_ + 33) 6 = ze N15_ (d_ + 33) 6 := hsN26_.e (by decide)
            have qzkG_N26_ : zkG d_ N26_ = zkG d_ N15_ := zkG_q hsN26_ (by decide)
            have qzkW_N26_ : zkW F_ d_ N26_ = zkW F_ d_ N15_ := zkW_q hsN26_ (by decide)
            have c28_ : zYb b_ n_ N26_ := zYb.fr (hf_N15_.w hW) hsN26_ c24_ (by decide)
            have c29_ : zKm F_ K_ d_ N26_ := zKm.fr (hf_N15_.w hW) hsN26_ c25_ (by decide)
            have c30_ : zNm nm_ F_ K_ d_ N26_ := zNm.fr (hf_N15_.w hW) hsN26_ i22_ (by decide)
            rcases hp1_N26_ with ⟨rfl, ha32_0_hp1_N26_, ha32_1_hp1_N26_, ha32_2_hp1_N26_, ha32_3_hp1_N26_, ha32_4_hp1_N26_⟩ | ⟨rfl, ha32_0_hp1_N26_⟩
            · skip
              have hx0_ := hr0_.tr ha32_0_hp1_N26_
              have hx1_ := ha32_1_hp1_N26_
              have hx2_ := ha32_2_hp1_N26_
              have hx3_ := ha32_3_hp1_N26_
              have hx4_ := ha32_4_hp1_N26_
              have hlx_ := hlow_.tr (zLow.f hsN26_ (by decide))
              show zW l m_Reader_readSum (zn Mz + 0, zw Mz + 0) N26_ 35 [some (.ref 4), some (.ref (d_ + 0)), some (.ref (d_ + 33)), some (.int (Int32.ofInt 1)), some (.int (Int32.ofInt u14_))] [.int (Int32.ofInt 1)] _
              refine zr_if_eq (pc := 35) (tgt := 54) ⟨(by decide), (by decide)⟩ (by decide) (zdal_p dlA_Reader_readSum_109 (i := 20) rfl) (fun hc_35 => ?_) (fun hc_35 => ?_)
              · skip
                exact absurd hc_35 (by decide)
              · skip
                refine zw_aload_n (pc := 38) (n := 0) (x := 4) rfl (zdal_p dlA_Reader_readSum_109 (i := 21) rfl) ?_
                refine zw_aload_n (pc := 39) (n := 1) (x := (d_ + 0)) rfl (zdal_p dlA_Reader_readSum_109 (i := 22) rfl) ?_
                refine zk_callV hf_N26_.x (pc := 40) [.ref (d_ + 0)] [] l_Reader_133 (u_Reader_readOperand l d_ N26_ (hf_N26_.w hW) b_ n_ F_ K_ hA_ nm_ c28_ hp0_N26_ c29_ hx1_ c30_ (show 0 ≤ ze N26_ 4 1 by first | with_reducible assumption | (exact zo_1064 ha32_3_hp1_N26_ i17_ i18_ rA4_1_N26_.1) | assumption) (show ze N26_ 4 1 ≤ 30 by first | with_reducible assumption | assumption | omega) (show ¬ (zisg b_ n_ (ze N26_ 1 2).toNat 45 ∨ zisg b_ n_ (ze N26_ 1 2).toNat 40) by first | with_reducible assumption | assumption | omega)) rfl rfl ((hf_N26_.w hW).ka (o := 4) (by decide)) (by decide) (by decide) (Nat.le_of_ble_eq_true rfl) (zdal_p dlA_Reader_readSum_109 (i := 23) rfl) ?_
                rintro _ N31_ ⟨v32_, rfl, ⟨hv32_a, hv32_b⟩, hsN31_, ⟨hp0_N31_, hp1_N31_⟩⟩
                have hf_N31_ : zFc d_ [(1, 2), (1, 3), (1, 4), (1, 5), (4, 1), (4, 2), (4, 3)] [] [(33, 2), (33, 3), (33, 4), (33, 5), (33, 6)] [25, 27, 35] Mz N31_ := hf_N26_.tr hsN31_ (by decide) (by decide) (by decide) (by decide)
                have hb0_N31_ : zFc d_ [(1, 2), (1, 3), (1, 4), (1, 5), (4, 1), (4, 2), (4, 3)] [] [(33, 2), (33, 3), (33, 4), (33, 5), (33, 6)] [25, 27, 35] N7_ N31_ := hb0_N26_.tr hsN31_ (by decide) (by decide) (by decide) (by decide)
                have rA1_2_N31_ := ze_r N31_ 1 2
                have rA1_3_N31_ := ze_r N31_ 1 3
                have rA1_5_N31_ := ze_r N31_ 1 5
                have rA4_1_N31_ := ze_r N31_ 4 1
                have eD33_2_N31_ : ze N31_ (d_ + 33) 2 = ze N26_ (d_ + 33) 2 := hsN31_.e (by decide)
                have rD33_3_N31_ := ze_r N31_ (d_ + 33) 3
                have eD33_4_N31_ : ze N31_ (d_ + 33) 4 = ze N26_ (d_ + 33) 4 := hsN31_.e (by decide)
                have eD33_5_N31_ : ze N31_ (d_ + 33) 5 = ze N26_ (d_ + 33) 5 := hsN31_.e (by decide)
                have eD33_6_N31_ : ze N31_ (d_ + 33) 6 = ze N26_ (d_ + 33) 6 := hsN31_.e (by decide)
                have qzkS_N31_ : zkS d_ N31_ = zkS d_ N26_ := zkS_q hsN31_ (by decide)
                have qzkG_N31_ : zkG d_ N31_ = zkG d_ N26_ := zkG_q hsN31_ (by decide)
                have c33_ : zYb b_ n_ N31_ := zYb.fr (hf_N26_.w hW) hsN31_ c28_ (by decide)
                have c34_ : zKm F_ K_ d_ N31_ := zKm.fr (hf_N26_.w hW) hsN31_ c29_ (by decide)
                rcases hp1_N31_ with ⟨rfl, ha40_0_hp1_N31_, ha40_1_hp1_N31_, ha40_2_hp1_N31_, ha40_3_hp1_N31_, ha40_4_hp1_N31_⟩ | ⟨rfl, ha40_0_hp1_N31_, ha40_1_hp1_N31_⟩
                · skip
                  have hy0_ := hx0_.tr ha40_0_hp1_N31_
                  have hy1_ := ha40_1_hp1_N31_
                  have hly_ := hlx_.tr ha40_2_hp1_N31_
                  have hy3_ := ha40_3_hp1_N31_
                  have hy4_ := ha40_4_hp1_N31_
                  show zW l m_Reader_readSum (zn Mz + 0, zw Mz + 0) N31_ 43 [some (.ref 4), some (.ref (d_ + 0)), some (.ref (d_ + 33)), some (.int (Int32.ofInt 1)), some (.int (Int32.ofInt u14_))] [.int (Int32.ofInt 1)] _
                  refine zr_if_eq (pc := 43) (tgt := 54) ⟨(by decide), (by decide)⟩ (by decide) (zdal_p dlA_Reader_readSum_110 (i := 0) rfl) (fun hc_43 => ?_) (fun hc_43 => ?_)
                  · skip
                    exact absurd hc_43 (by decide)
                  · skip
                    refine zw_aload_n (pc := 46) (n := 0) (x := 4) rfl (zdal_p dlA_Reader_readSum_110 (i := 1) rfl) ?_
                    refine zw_aload_n (pc := 47) (n := 2) (x := (d_ + 33)) rfl (zdal_p dlA_Reader_readSum_110 (i := 2) rfl) ?_
                    refine zk_callV hf_N31_.x (pc := 48) [.ref (d_ + 33)] [] l_Reader_136 (u_Reader_readBehind l d_ N31_ (hf_N31_.w hW) b_ n_ F_ K_ hA_ nm_ c33_ hp0_N31_ c34_ hy1_ (show 0 ≤ ze N31_ 4 1 by first | with_reducible assumption | (exact zo_1065 ha32_3_hp1_N26_ ha40_3_hp1_N31_ i17_ i18_ rA4_1_N31_.1) | assumption) (show ze N31_ 4 1 ≤ 30 by first | with_reducible assumption | assumption | omega)) rfl rfl ((hf_N31_.w hW).ka (o := 4) (by decide)) (by decide) (by decide) (Nat.le_of_ble_eq_true rfl) (zdal_p dlA_Reader_readSum_110 (i := 3) rfl) ?_
                    rintro _ N35_ ⟨v36_, rfl, ⟨hv36_a, hv36_b⟩, hsN35_, ⟨hp0_N35_, hp1_N35_⟩⟩
                    have hf_N35_ : zFc d_ [(1, 2), (1, 3), (1, 4), (1, 5), (4, 1), (4, 2), (4, 3)] [] [(33, 2), (33, 3), (33, 4), (33, 5), (33, 6)] [25, 27, 35] Mz N35_ := hf_N31_.tr hsN35_ (by decide) (by decide) (by decide) (by decide)
                    have hb0_N35_ : zFc d_ [(1, 2), (1, 3), (1, 4), (1, 5), (4, 1), (4, 2), (4, 3)] [] [(33, 2), (33, 3), (33, 4), (33, 5), (33, 6)] [25, 27, 35] N7_ N35_ := hb0_N31_.tr hsN35_ (by decide) (by decide) (by decide) (by decide)
                    have rA1_2_N35_ := ze_r N35_ 1 2
                    have rA1_3_N35_ := ze_r N35_ 1 3
                    have rA1_5_N35_ := ze_r N35_ 1 5
                    have eA4_1_N35_ : ze N35_ 4 1 = ze N31_ 4 1 := hsN35_.ea (hf_N31_.w hW) (by decide)
                    have rD33_2_N35_ := ze_r N35_ (d_ + 33) 2
                    have rD33_3_N35_ := ze_r N35_ (d_ + 33) 3
                    have rD33_4_N35_ := ze_r N35_ (d_ + 33) 4
                    have rD33_5_N35_ := ze_r N35_ (d_ + 33) 5
                    have rD33_6_N35_ := ze_r N35_ (d_ + 33) 6
                    have c37_ : zYb b_ n_ N35_ := zYb.fr (hf_N31_.w hW) hsN35_ c33_ (by decide)
                    have c38_ : zKm F_ K_ d_ N35_ := zKm.fr (hf_N31_.w hW) hsN35_ c34_ (by decide)
                    rcases hp1_N35_ with ⟨rfl, ha48_0_hp1_N35_, ha48_1_hp1_N35_, ha48_2_hp1_N35_, ha48_3_hp1_N35_, ha48_4_hp1_N35_, ha48_5_hp1_N35_⟩ | ⟨rfl, ha48_0_hp1_N35_, ha48_1_hp1_N35_⟩
                    · skip
                      have hz0_ := hy0_.tr ha48_0_hp1_N35_
                      have hz1_ := ha48_1_hp1_N35_
                      have hlz_ := hly_.tr ha48_2_hp1_N35_
                      have hz3_ := ha48_3_hp1_N35_
                      have hz4_ := ha48_4_hp1_N35_
                      have hz5_ := ha48_5_hp1_N35_
                      have hnmz_ := p3_.l hf_N35_ hlz_ hF27_ (by decide)
                      show zW l m_Reader_readSum (zn Mz + 0, zw Mz + 0) N35_ 51 [some (.ref 4), some (.ref (d_ + 0)), some (.ref (d_ + 33)), some (.int (Int32.ofInt 1)), some (.int (Int32.ofInt u14_))] [.int (Int32.ofInt 1)] _
                      refine zr_if_ne (pc := 51) (tgt := 56) ⟨(by decide), (by decide)⟩ (by decide) (zdal_p dlA_Reader_readSum_110 (i := 4) rfl) (fun hc_51 => ?_) (fun hc_51 => ?_)
                      · skip
                        refine zw_aload_n (pc := 56) (n := 0) (x := 4) rfl (zdal_p dlA_Reader_readSum_110 (i := 7) rfl) ?_
                        refine zw_getF (pc := 57) f_Reader_15 rfl ((hf_N35_.w hW).ka (o := 4) (by decide)) ((hf_N35_.w hW).la (o := 4) (s := 0) (r := 1) (by decide)) (zdal_p dlA_Reader_readSum_110 (i := 8) rfl) ?_
                        refine zw_bipush (pc := 60) (v := Int32.ofInt 43) (by decide) (zdal_p dlA_Reader_readSum_110 (i := 9) rfl) ?_
                        refine zk_callV hf_N35_.x (pc := 62) [.int (Int32.ofInt 43)] [] l_Reader_37 (u_Tokens_isSign l d_ N35_ (hf_N35_.w hW) 43 (by decide) (by decide) b_ n_ hp0_N35_) rfl rfl ((hf_N35_.w hW).ka (o := 1) (by decide)) (by decide) (by decide) (Nat.le_of_ble_eq_true rfl) (zdal_p dlA_Reader_readSum_110 (i := 10) rfl) ?_
                        rintro _ N39_ ⟨v40_, rfl, ⟨hv40_a, hv40_b⟩, hsN39_, hp0_N39_⟩
                        obtain rfl := hsN39_.eq.symm
                        replace hp0_N39_ : ((v40_ = 1 ∧ zkd b_ n_ (ze N35_ 1 2).toNat = 3 ∧ b_ (ze N35_ 1 2).toNat = 43) ∨ (v40_ = 0 ∧ ¬ (zkd b_ n_ (ze N35_ 1 2).toNat = 3 ∧ b_ (ze N35_ 1 2).toNat = 43))) := hp0_N39_
                        rcases hp0_N39_ with ⟨rfl, ha62_0_hp0_N39_, ha62_1_hp0_N39_⟩ | ⟨rfl, ha62_0_hp0_N39_⟩
                        · skip
                          have hk0_ := ha62_0_hp0_N39_
                          have hk1_ := ha62_1_hp0_N39_
                          show zW l m_Reader_readSum (zn Mz + 0, zw Mz + 0) N35_ 65 [some (.ref 4), some (.ref (d_ + 0)), some (.ref (d_ + 33)), some (.int (Int32.ofInt 1)), some (.int (Int32.ofInt u14_))] [.int (Int32.ofInt 1)] _
                          refine zr_if_ne (pc := 65) (tgt := 92) ⟨(by decide), (by decide)⟩ (by decide) (zdal_p dlA_Reader_readSum_110 (i := 11) rfl) (fun hc_65 => ?_) (fun hc_65 => ?_)
                          · skip
                            refine zw_iconst (pc := 92) (v := Int32.ofInt 1) (by decide) (zdal_p dlA_Reader_readSum_110 (i := 22) rfl) ?_
                            refine zw_goto (pc := 93) (tgt := 97) (by decide) (zdal_p dlA_Reader_readSum_110 (i := 23) rfl) ?_
                            refine zw_istore_n (pc := 97) (i := 3) (L2 := [some (.ref 4), some (.ref (d_ + 0)), some (.ref (d_ + 33)), some (.int (Int32.ofInt 1)), some (.int (Int32.ofInt u14_))]) rfl (by decide) rfl (zdal_p dlA_Reader_readSum_111 (i := 1) rfl) ?_
                            refine zw_iload_n (pc := 98) (n := 3) (x := Int32.ofInt 1) rfl (zdal_p dlA_Reader_readSum_111 (i := 2) rfl) ?_
                            refine zr_if_eq (pc := 99) (tgt := 120) ⟨(by decide), (by decide)⟩ (by decide) (zdal_p dlA_Reader_readSum_111 (i := 3) rfl) (fun hc_99 => ?_) (fun hc_99 => ?_)
                            · skip
                              exact absurd hc_99 (by decide)
                            · skip
                              have hvt_ : ze N35_ 1 5 = b_ (ze N35_ 1 2).toNat := hp0_N35_.2.2.2.2.2 hk0_
                              refine zw_aload_n (pc := 102) (n := 2) (x := (d_ + 33)) rfl (zdal_p dlA_Reader_readSum_111 (i := 4) rfl) ?_
                              refine zw_aload_n (pc := 103) (n := 0) (x := 4) rfl (zdal_p dlA_Reader_readSum_111 (i := 5) rfl) ?_
                              refine zw_getF (pc := 104) f_Reader_15 rfl ((hf_N35_.w hW).ka (o := 4) (by decide)) ((hf_N35_.w hW).la (o := 4) (s := 0) (r := 1) (by decide)) (zdal_p dlA_Reader_readSum_111 (i := 6) rfl) ?_
                              refine zk_getI (pc := 107) f_Reader_57 rfl ((hf_N35_.w hW).ka (o := 1) (by decide)) (zdal_p dlA_Reader_readSum_111 (i := 7) rfl) ?_
                              refine zk_callV hf_N35_.x (pc := 110) [.int (Int32.ofInt (ze N35_ 1 5))] [] l_Reader_139 (u_Calc_put l d_ N35_ (hf_N35_.w hW) (ze N35_ 1 5) (ze_r N35_ 1 5).1 (ze_r N35_ 1 5).2 F_ K_ hA_ c38_ hz1_ (show (zkS d_ N35_).head? ≠ some 1 by first | with_reducible assumption | assumption | omega) (show ((ze N35_ 1 5) = 42 ∨ (ze N35_ 1 5) = 43 ∨ (ze N35_ 1 5) = 45) by first | with_reducible assumption | (exact zo_1066 ha62_1_hp0_N39_ hvt_ rA1_5_N35_.1 rA1_5_N35_.2) | assumption)) rfl rfl ((hf_N35_.w hW).kr (o := 33) (by decide)) (by decide) (by decide) (Nat.le_of_ble_eq_true rfl) (zdal_p dlA_Reader_readSum_111 (i := 8) rfl) ?_
                              rintro _ N41_ ⟨rfl, hsN41_, ⟨hp0_N41_, hp1_N41_, hp2_N41_, hp3_N41_, hp4_N41_⟩⟩
                              have hf_N41_ : zFc d_ [(1, 2), (1, 3), (1, 4), (1, 5), (4, 1), (4, 2), (4, 3)] [] [(33, 2), (33, 3), (33, 4), (33, 5), (33, 6)] [25, 27, 35] Mz N41_ := hf_N35_.tr hsN41_ (by decide) (by decide) (by decide) (by decide)
                              have hb0_N41_ : zFc d_ [(1, 2), (1, 3), (1, 4), (1, 5), (4, 1), (4, 2), (4, 3)] [] [(33, 2), (33, 3), (33, 4), (33, 5), (33, 6)] [25, 27, 35] N7_ N41_ := hb0_N35_.tr hsN41_ (by decide) (by decide) (by decide) (by decide)
                              have eA1_2_N41_ : ze N41_ 1 2 = ze N35_ 1 2 := hsN41_.ea (hf_N35_.w hW) (by decide)
                              have eA1_3_N41_ : ze N41_ 1 3 = ze N35_ 1 3 := hsN41_.ea (hf_N35_.w hW) (by decide)
                              have eA1_5_N41_ : ze N41_ 1 5 = ze N35_ 1 5 := hsN41_.ea (hf_N35_.w hW) (by decide)
                              have eA4_1_N41_ : ze N41_ 4 1 = ze N35_ 4 1 := hsN41_.ea (hf_N35_.w hW) (by decide)
                              have rD33_2_N41_ := ze_r N41_ (d_ + 33) 2
                              have rD33_3_N41_ := ze_r N41_ (d_ + 33) 3
                              have eD33_4_N41_ : ze N41_ (d_ + 33) 4 = ze N35_ (d_ + 33) 4 := hsN41_.e (by decide)
                              have eD33_5_N41_ : ze N41_ (d_ + 33) 5 = ze N35_ (d_ + 33) 5 := hsN41_.e (by decide)
                              have rD33_6_N41_ := ze_r N41_ (d_ + 33) 6
                              have c43_ : zYb b_ n_ N41_ := zYb.fr (hf_N35_.w hW) hsN41_ c37_ (by decide)
                              have c44_ : zKm F_ K_ d_ N41_ := zKm.fr (hf_N35_.w hW) hsN41_ c38_ (by decide)
                              have c45_ : zYt b_ n_ N41_ := zYt.fr (hf_N35_.w hW) hsN41_ hp0_N35_ (by decide)
                              show zW l m_Reader_readSum (zn Mz + 0, zw Mz + 0) N41_ 113 [some (.ref 4), some (.ref (d_ + 0)), some (.ref (d_ + 33)), some (.int (Int32.ofInt 1)), some (.int (Int32.ofInt u14_))] [] _
                              have ht1_ := hp1_N41_
                              have ht2_ := hp2_N41_
                              have ht3_ := hp3_N41_
                              have hlt_ := hlz_.tr hp4_N41_
                              have hct_ := hp0_N41_
                              have hyt_ := c45_
                              have hyx_ := hyt_.x
                              refine zw_aload_n (pc := 113) (n := 0) (x := 4) rfl (zdal_p dlA_Reader_readSum_111 (i := 9) rfl) ?_
                              refine zw_getF (pc := 114) f_Reader_15 rfl ((hf_N41_.w hW).ka (o := 4) (by decide)) ((hf_N41_.w hW).la (o := 4) (s := 0) (r := 1) (by decide)) (zdal_p dlA_Reader_readSum_111 (i := 10) rfl) ?_
                              refine zk_callV hf_N41_.x (pc := 117) [] [] l_Reader_44 (u_Tokens_step l d_ N41_ (hf_N41_.w hW) b_ n_ c43_ (show 0 ≤ ze N41_ 1 3 by first | with_reducible assumption | (exact zo_57 hyx_.2.1) | assumption) (show ze N41_ 1 3 ≤ n_ by first | with_reducible assumption | (exact zo_605 hyx_.2.2) | assumption)) rfl rfl ((hf_N41_.w hW).ka (o := 1) (by decide)) (by decide) (by decide) (Nat.le_of_ble_eq_true rfl) (zdal_p dlA_Reader_readSum_111 (i := 11) rfl) ?_
                              rintro _ N46_ ⟨rfl, hsN46_, ⟨hp0_N46_, hp1_N46_⟩⟩
                              have hf_N46_ : zFc d_ [(1, 2), (1, 3), (1, 4), (1, 5), (4, 1), (4, 2), (4, 3)] [] [(33, 2), (33, 3), (33, 4), (33, 5), (33, 6)] [25, 27, 35] Mz N46_ := hf_N41_.tr hsN46_ (by decide) (by decide) (by decide) (by decide)
                              have hb0_N46_ : zFc d_ [(1, 2), (1, 3), (1, 4), (1, 5), (4, 1), (4, 2), (4, 3)] [] [(33, 2), (33, 3), (33, 4), (33, 5), (33, 6)] [25, 27, 35] N7_ N46_ := hb0_N41_.tr hsN46_ (by decide) (by decide) (by decide) (by decide)
                              have rA1_2_N46_ := ze_r N46_ 1 2
                              have rA1_3_N46_ := ze_r N46_ 1 3
                              have rA1_5_N46_ := ze_r N46_ 1 5
                              have eA4_1_N46_ : ze N46_ 4 1 = ze N41_ 4 1 := hsN46_.ea (hf_N41_.w hW) (by decide)
                              have eD33_2_N46_ : ze N46_ (d_ + 33) 2 = ze N41_ (d_ + 33) 2 := hsN46_.e (by decide)
                              have eD33_3_N46_ : ze N46_ (d_ + 33) 3 = ze N41_ (d_ + 33) 3 := hsN46_.e (by decide)
                              have eD33_4_N46_ : ze N46_ (d_ + 33) 4 = ze N41_ (d_ + 33) 4 := hsN46_.e (by decide)
                              have eD33_5_N46_ : ze N46_ (d_ + 33) 5 = ze N41_ (d_ + 33) 5 := hsN46_.e (by decide)
                              have eD33_6_N46_ : ze N46_ (d_ + 33) 6 = ze N41_ (d_ + 33) 6 := hsN46_.e (by decide)
                              have qzkS_N46_ : zkS d_ N46_ = zkS d_ N41_ := zkS_q hsN46_ (by decide)
                              have qzkG_N46_ : zkG d_ N46_ = zkG d_ N41_ := zkG_q hsN46_ (by decide)
                              have qzkW_N46_ : zkW F_ d_ N46_ = zkW F_ d_ N41_ := zkW_q hsN46_ (by decide)
                              have c48_ : zYb b_ n_ N46_ := zYb.fr (hf_N41_.w hW) hsN46_ c43_ (by decide)
                              have c49_ : zKm F_ K_ d_ N46_ := zKm.fr (hf_N41_.w hW) hsN46_ c44_ (by decide)
                              have c50_ : zCI F_ K_ d_ 0 N46_ := zCI.fr (hf_N41_.w hW) hsN46_ hp0_N41_ (by decide)
                              show zW l m_Reader_readSum (zn Mz + 0, zw Mz + 0) N46_ 120 [some (.ref 4), some (.ref (d_ + 0)), some (.ref (d_ + 33)), some (.int (Int32.ofInt 1)), some (.int (Int32.ofInt u14_))] [] _
                              have hnn_ := hyt_.n hp0_N46_
                              have hst1_ := hz0_.tr (zRea.st (zs2_s (Nz := N46_) (F := F_) (b := b_) (n := n_) (K := K_) (nm := nm_) hk0_ hvt_.symm (by (exact zo_1066 ha62_1_hp0_N39_ hvt_ rA1_5_N35_.1 rA1_5_N35_.2)) (by rw [qzkS_N46_]; exact ht1_) (by rw [qzkW_N46_]; exact ht2_) (by rw [qzkG_N46_]; exact ht3_) (by (exact zo_53 eA4_1_N41_ eA4_1_N46_)) (hnn_.2.trans (by rw [show ze N41_ 1 2 = ze N35_ 1 2 by (exact eA1_2_N41_)]))))
                              have hlu_ := hlt_.tr (zLow.f hsN46_ (by decide))
                              have hcu_ := c50_
                              refine zr_iinc (pc := 120) (i := 4) (a := u14_) (n := 1) (L2 := [some (.ref 4), some (.ref (d_ + 0)), some (.ref (d_ + 33)), some (.int (Int32.ofInt 1)), some (.int (Int32.ofInt (u14_ + 1)))]) rfl (by decide) rfl (zdal_p dlA_Reader_readSum_111 (i := 12) rfl) ?_
                              refine zw_goto (pc := 123) (tgt := 19) (by decide) (zdal_p dlA_Reader_readSum_111 (i := 13) rfl) ?_
                              have hnmu_ := p3_.l hf_N46_ (by first | exact hlu_ | exact hlz_) hF27_ (by decide)
                              exact ih_19 1 (by decide) (by decide) (by (exact hu13_z)) (u14_ + 1) (by (exact zo_74 i17_)) (by (exact zo_1055 hc_23)) N46_ hb0_N46_ (show 0 ≤ (u14_ + 1) by first | with_reducible assumption | (exact zo_76 i17_) | assumption) (show (u14_ + 1) ≤ ze N46_ 4 1 by first | with_reducible assumption | (exact zo_1067 eA4_1_N35_ eA4_1_N41_ eA4_1_N46_ ha32_3_hp1_N26_ ha40_3_hp1_N31_ hc_23 i18_ rA4_1_N31_.1) | assumption) (show ze N46_ 4 1 ≤ 30 by first | with_reducible assumption | (exact zo_1068 eA4_1_N35_ eA4_1_N41_ eA4_1_N46_ ha40_4_hp1_N31_) | assumption) (show zLow d_ Mz N46_ by first | exact hlu_ | exact hlz_) hp1_N46_ hnmu_ (show ((1 : Int) = 1 ∧ zRea (zfs b_ n_ F_ K_ nm_) (0, (ze Mz 1 2).toNat, [], [], 0, false) (zKst 0 F_ d_ N46_) ∧ zCI F_ K_ d_ 0 N46_) ∨ ((1 : Int) = 0 ∧ zRea (zfs b_ n_ F_ K_ nm_) (0, (ze Mz 1 2).toNat, [], [], 0, false) (zKst 2 F_ d_ N46_) ∧ zCI F_ K_ d_ 1 N46_ ∧ (zkS d_ N46_).head? ≠ some 1 ∧ ¬ (zisg b_ n_ (ze N46_ 1 2).toNat 42 ∨ zisg b_ n_ (ze N46_ 1 2).toNat 43 ∨ zisg b_ n_ (ze N46_ 1 2).toNat 45) ∧ ¬ (zisg b_ n_ (ze N46_ 1 2).toNat 41 ∧ 0 ∈ zkS d_ N46_)) from Or.inl (⟨(show (1 : Int) = 1 by first | rfl | with_reducible assumption | exact hst1_ | exact hcu_ | assumption), (show zRea (zfs b_ n_ F_ K_ nm_) (0, (ze Mz 1 2).toNat, [], [], 0, false) (zKst 0 F_ d_ N46_) by first | rfl | with_reducible assumption | exact hst1_ | exact hcu_ | assumption), (show zCI F_ K_ d_ 0 N46_ by first | rfl | with_reducible assumption | exact hst1_ | exact hcu_ | assumption)⟩)) (by (exact zo_1069 hc_23 hlt_19 i17_))
                          · skip
                            exact absurd hc_65 (by decide)
                        · skip
                          have hm0_ := ha62_0_hp0_N39_
                          show zW l m_Reader_readSum (zn Mz + 0, zw Mz + 0) N35_ 65 [some (.ref 4), some (.ref (d_ + 0)), some (.ref (d_ + 33)), some (.int (Int32.ofInt 1)), some (.int (Int32.ofInt u14_))] [.int (Int32.ofInt 0)] _
                          refine zr_if_ne (pc := 65) (tgt := 92) ⟨(by decide), (by decide)⟩ (by decide) (zdal_p dlA_Reader_readSum_110 (i := 11) rfl) (fun hc_65 => ?_) (fun hc_65 => ?_)
                          · skip
                            exact absurd hc_65 (by decide)
                          · skip
                            refine zw_aload_n (pc := 68) (n := 0) (x := 4) rfl (zdal_p dlA_Reader_readSum_110 (i := 12) rfl) ?_
                            refine zw_getF (pc := 69) f_Reader_15 rfl ((hf_N35_.w hW).ka (o := 4) (by decide)) ((hf_N35_.w hW).la (o := 4) (s := 0) (r := 1) (by decide)) (zdal_p dlA_Reader_readSum_110 (i := 13) rfl) ?_
                            refine zw_bipush (pc := 72) (v := Int32.ofInt 45) (by decide) (zdal_p dlA_Reader_readSum_110 (i := 14) rfl) ?_
                            refine zk_callV hf_N35_.x (pc := 74) [.int (Int32.ofInt 45)] [] l_Reader_37 (u_Tokens_isSign l d_ N35_ (hf_N35_.w hW) 45 (by decide) (by decide) b_ n_ hp0_N35_) rfl rfl ((hf_N35_.w hW).ka (o := 1) (by decide)) (by decide) (by decide) (Nat.le_of_ble_eq_true rfl) (zdal_p dlA_Reader_readSum_110 (i := 15) rfl) ?_
                            rintro _ N51_ ⟨v52_, rfl, ⟨hv52_a, hv52_b⟩, hsN51_, hp0_N51_⟩
                            obtain rfl := hsN51_.eq.symm
                            replace hp0_N51_ : ((v52_ = 1 ∧ zkd b_ n_ (ze N35_ 1 2).toNat = 3 ∧ b_ (ze N35_ 1 2).toNat = 45) ∨ (v52_ = 0 ∧ ¬ (zkd b_ n_ (ze N35_ 1 2).toNat = 3 ∧ b_ (ze N35_ 1 2).toNat = 45))) := hp0_N51_
                            rcases hp0_N51_ with ⟨rfl, ha74_0_hp0_N51_, ha74_1_hp0_N51_⟩ | ⟨rfl, ha74_0_hp0_N51_⟩
                            · skip
                              have hk0_ := ha74_0_hp0_N51_
                              have hk1_ := ha74_1_hp0_N51_
                              show zW l m_Reader_readSum (zn Mz + 0, zw Mz + 0) N35_ 77 [some (.ref 4), some (.ref (d_ + 0)), some (.ref (d_ + 33)), some (.int (Int32.ofInt 1)), some (.int (Int32.ofInt u14_))] [.int (Int32.ofInt 1)] _
                              refine zr_if_ne (pc := 77) (tgt := 92) ⟨(by decide), (by decide)⟩ (by decide) (zdal_p dlA_Reader_readSum_110 (i := 16) rfl) (fun hc_77 => ?_) (fun hc_77 => ?_)
                              · skip
                                refine zw_iconst (pc := 92) (v := Int32.ofInt 1) (by decide) (zdal_p dlA_Reader_readSum_110 (i := 22) rfl) ?_
                                refine zw_goto (pc := 93) (tgt := 97) (by decide) (zdal_p dlA_Reader_readSum_110 (i := 23) rfl) ?_
                                refine zw_istore_n (pc := 97) (i := 3) (L2 := [some (.ref 4), some (.ref (d_ + 0)), some (.ref (d_ + 33)), some (.int (Int32.ofInt 1)), some (.int (Int32.ofInt u14_))]) rfl (by decide) rfl (zdal_p dlA_Reader_readSum_111 (i := 1) rfl) ?_
                                refine zw_iload_n (pc := 98) (n := 3) (x := Int32.ofInt 1) rfl (zdal_p dlA_Reader_readSum_111 (i := 2) rfl) ?_
                                refine zr_if_eq (pc := 99) (tgt := 120) ⟨(by decide), (by decide)⟩ (by decide) (zdal_p dlA_Reader_readSum_111 (i := 3) rfl) (fun hc_99 => ?_) (fun hc_99 => ?_)
                                · skip
                                  exact absurd hc_99 (by decide)
                                · skip
                                  have hvt_ : ze N35_ 1 5 = b_ (ze N35_ 1 2).toNat := hp0_N35_.2.2.2.2.2 hk0_
                                  refine zw_aload_n (pc := 102) (n := 2) (x := (d_ + 33)) rfl (zdal_p dlA_Reader_readSum_111 (i := 4) rfl) ?_
                                  refine zw_aload_n (pc := 103) (n := 0) (x := 4) rfl (zdal_p dlA_Reader_readSum_111 (i := 5) rfl) ?_
                                  refine zw_getF (pc := 104) f_Reader_15 rfl ((hf_N35_.w hW).ka (o := 4) (by decide)) ((hf_N35_.w hW).la (o := 4) (s := 0) (r := 1) (by decide)) (zdal_p dlA_Reader_readSum_111 (i := 6) rfl) ?_
                                  refine zk_getI (pc := 107) f_Reader_57 rfl ((hf_N35_.w hW).ka (o := 1) (by decide)) (zdal_p dlA_Reader_readSum_111 (i := 7) rfl) ?_
                                  refine zk_callV hf_N35_.x (pc := 110) [.int (Int32.ofInt (ze N35_ 1 5))] [] l_Reader_139 (u_Calc_put l d_ N35_ (hf_N35_.w hW) (ze N35_ 1 5) (ze_r N35_ 1 5).1 (ze_r N35_ 1 5).2 F_ K_ hA_ c38_ hz1_ (show (zkS d_ N35_).head? ≠ some 1 by first | with_reducible assumption | assumption | omega) (show ((ze N35_ 1 5) = 42 ∨ (ze N35_ 1 5) = 43 ∨ (ze N35_ 1 5) = 45) by first | with_reducible assumption | (exact zo_1070 ha74_1_hp0_N51_ hvt_ rA1_5_N35_.1 rA1_5_N35_.2) | assumption)) rfl rfl ((hf_N35_.w hW).kr (o := 33) (by decide)) (by decide) (by decide) (Nat.le_of_ble_eq_true rfl) (zdal_p dlA_Reader_readSum_111 (i := 8) rfl) ?_
                                  rintro _ N53_ ⟨rfl, hsN53_, ⟨hp0_N53_, hp1_N53_, hp2_N53_, hp3_N53_, hp4_N53_⟩⟩
                                  have hf_N53_ : zFc d_ [(1, 2), (1, 3), (1, 4), (1, 5), (4, 1), (4, 2), (4, 3)] [] [(33, 2), (33, 3), (33, 4), (33, 5), (33, 6)] [25, 27, 35] Mz N53_ := hf_N35_.tr hsN53_ (by decide) (by decide) (by decide) (by decide)
                                  have hb0_N53_ : zFc d_ [(1, 2), (1, 3), (1, 4), (1, 5), (4, 1), (4, 2), (4, 3)] [] [(33, 2), (33, 3), (33, 4), (33, 5), (33, 6)] [25, 27, 35] N7_ N53_ := hb0_N35_.tr hsN53_ (by decide) (by decide) (by decide) (by decide)
                                  have eA1_2_N53_ : ze N53_ 1 2 = ze N35_ 1 2 := hsN53_.ea (hf_N35_.w hW) (by decide)
                                  have eA1_3_N53_ : ze N53_ 1 3 = ze N35_ 1 3 := hsN53_.ea (hf_N35_.w hW) (by decide)
                                  have eA1_5_N53_ : ze N53_ 1 5 = ze N35_ 1 5 := hsN53_.ea (hf_N35_.w hW) (by decide)
                                  have eA4_1_N53_ : ze N53_ 4 1 = ze N35_ 4 1 := hsN53_.ea (hf_N35_.w hW) (by decide)
                                  have rD33_2_N53_ := ze_r N53_ (d_ + 33) 2
                                  have rD33_3_N53_ := ze_r N53_ (d_ + 33) 3
                                  have eD33_4_N53_ : ze N53_ (d_ + 33) 4 = ze N35_ (d_ + 33) 4 := hsN53_.e (by decide)
                                  have eD33_5_N53_ : ze N53_ (d_ + 33) 5 = ze N35_ (d_ + 33) 5 := hsN53_.e (by decide)
                                  have rD33_6_N53_ := ze_r N53_ (d_ + 33) 6
                                  have c55_ : zYb b_ n_ N53_ := zYb.fr (hf_N35_.w hW) hsN53_ c37_ (by decide)
                                  have c56_ : zKm F_ K_ d_ N53_ := zKm.fr (hf_N35_.w hW) hsN53_ c38_ (by decide)
                                  have c57_ : zYt b_ n_ N53_ := zYt.fr (hf_N35_.w hW) hsN53_ hp0_N35_ (by decide)
                                  show zW l m_Reader_readSum (zn Mz + 0, zw Mz + 0) N53_ 113 [some (.ref 4), some (.ref (d_ + 0)), some (.ref (d_ + 33)), some (.int (Int32.ofInt 1)), some (.int (Int32.ofInt u14_))] [] _
                                  have ht1_ := hp1_N53_
                                  have ht2_ := hp2_N53_
                                  have ht3_ := hp3_N53_
                                  have hlt_ := hlz_.tr hp4_N53_
                                  have hct_ := hp0_N53_
                                  have hyt_ := c57_
                                  have hyx_ := hyt_.x
                                  refine zw_aload_n (pc := 113) (n := 0) (x := 4) rfl (zdal_p dlA_Reader_readSum_111 (i := 9) rfl) ?_
                                  refine zw_getF (pc := 114) f_Reader_15 rfl ((hf_N53_.w hW).ka (o := 4) (by decide)) ((hf_N53_.w hW).la (o := 4) (s := 0) (r := 1) (by decide)) (zdal_p dlA_Reader_readSum_111 (i := 10) rfl) ?_
                                  refine zk_callV hf_N53_.x (pc := 117) [] [] l_Reader_44 (u_Tokens_step l d_ N53_ (hf_N53_.w hW) b_ n_ c55_ (show 0 ≤ ze N53_ 1 3 by first | with_reducible assumption | (exact zo_57 hyx_.2.1) | assumption) (show ze N53_ 1 3 ≤ n_ by first | with_reducible assumption | (exact zo_605 hyx_.2.2) | assumption)) rfl rfl ((hf_N53_.w hW).ka (o := 1) (by decide)) (by decide) (by decide) (Nat.le_of_ble_eq_true rfl) (zdal_p dlA_Reader_readSum_111 (i := 11) rfl) ?_
                                  rintro _ N58_ ⟨rfl, hsN58_, ⟨hp0_N58_, hp1_N58_⟩⟩
                                  have hf_N58_ : zFc d_ [(1, 2), (1, 3), (1, 4), (1, 5), (4, 1), (4, 2), (4, 3)] [] [(33, 2), (33, 3), (33, 4), (33, 5), (33, 6)] [25, 27, 35] Mz N58_ := hf_N53_.tr hsN58_ (by decide) (by decide) (by decide) (by decide)
                                  have hb0_N58_ : zFc d_ [(1, 2), (1, 3), (1, 4), (1, 5), (4, 1), (4, 2), (4, 3)] [] [(33, 2), (33, 3), (33, 4), (33, 5), (33, 6)] [25, 27, 35] N7_ N58_ := hb0_N53_.tr hsN58_ (by decide) (by decide) (by decide) (by decide)
                                  have rA1_2_N58_ := ze_r N58_ 1 2
                                  have rA1_3_N58_ := ze_r N58_ 1 3
                                  have rA1_5_N58_ := ze_r N58_ 1 5
                                  have eA4_1_N58_ : ze N58_ 4 1 = ze N53_ 4 1 := hsN58_.ea (hf_N53_.w hW) (by decide)
                                  have eD33_2_N58_ : ze N58_ (d_ + 33) 2 = ze N53_ (d_ + 33) 2 := hsN58_.e (by decide)
                                  have eD33_3_N58_ : ze N58_ (d_ + 33) 3 = ze N53_ (d_ + 33) 3 := hsN58_.e (by decide)
                                  have eD33_4_N58_ : ze N58_ (d_ + 33) 4 = ze N53_ (d_ + 33) 4 := hsN58_.e (by decide)
                                  have eD33_5_N58_ : ze N58_ (d_ + 33) 5 = ze N53_ (d_ + 33) 5 := hsN58_.e (by decide)
                                  have eD33_6_N58_ : ze N58_ (d_ + 33) 6 = ze N53_ (d_ + 33) 6 := hsN58_.e (by decide)
                                  have qzkS_N58_ : zkS d_ N58_ = zkS d_ N53_ := zkS_q hsN58_ (by decide)
                                  have qzkG_N58_ : zkG d_ N58_ = zkG d_ N53_ := zkG_q hsN58_ (by decide)
                                  have qzkW_N58_ : zkW F_ d_ N58_ = zkW F_ d_ N53_ := zkW_q hsN58_ (by decide)
                                  have c60_ : zYb b_ n_ N58_ := zYb.fr (hf_N53_.w hW) hsN58_ c55_ (by decide)
                                  have c61_ : zKm F_ K_ d_ N58_ := zKm.fr (hf_N53_.w hW) hsN58_ c56_ (by decide)
                                  have c62_ : zCI F_ K_ d_ 0 N58_ := zCI.fr (hf_N53_.w hW) hsN58_ hp0_N53_ (by decide)
                                  show zW l m_Reader_readSum (zn Mz + 0, zw Mz + 0) N58_ 120 [some (.ref 4), some (.ref (d_ + 0)), some (.ref (d_ + 33)), some (.int (Int32.ofInt 1)), some (.int (Int32.ofInt u14_))] [] _
                                  have hnn_ := hyt_.n hp0_N58_
                                  have hst1_ := hz0_.tr (zRea.st (zs2_s (Nz := N58_) (F := F_) (b := b_) (n := n_) (K := K_) (nm := nm_) hk0_ hvt_.symm (by (exact zo_1070 ha74_1_hp0_N51_ hvt_ rA1_5_N35_.1 rA1_5_N35_.2)) (by rw [qzkS_N58_]; exact ht1_) (by rw [qzkW_N58_]; exact ht2_) (by rw [qzkG_N58_]; exact ht3_) (by (exact zo_53 eA4_1_N53_ eA4_1_N58_)) (hnn_.2.trans (by rw [show ze N53_ 1 2 = ze N35_ 1 2 by (exact eA1_2_N53_)]))))
                                  have hlu_ := hlt_.tr (zLow.f hsN58_ (by decide))
                                  have hcu_ := c62_
                                  refine zr_iinc (pc := 120) (i := 4) (a := u14_) (n := 1) (L2 := [some (.ref 4), some (.ref (d_ + 0)), some (.ref (d_ + 33)), some (.int (Int32.ofInt 1)), some (.int (Int32.ofInt (u14_ + 1)))]) rfl (by decide) rfl (zdal_p dlA_Reader_readSum_111 (i := 12) rfl) ?_
                                  refine zw_goto (pc := 123) (tgt := 19) (by decide) (zdal_p dlA_Reader_readSum_111 (i := 13) rfl) ?_
                                  have hnmu_ := p3_.l hf_N58_ (by first | exact hlu_ | exact hlz_) hF27_ (by decide)
                                  exact ih_19 1 (by decide) (by decide) (by (exact hu13_z)) (u14_ + 1) (by (exact zo_74 i17_)) (by (exact zo_1055 hc_23)) N58_ hb0_N58_ (show 0 ≤ (u14_ + 1) by first | with_reducible assumption | (exact zo_76 i17_) | assumption) (show (u14_ + 1) ≤ ze N58_ 4 1 by first | with_reducible assumption | (exact zo_1067 eA4_1_N35_ eA4_1_N53_ eA4_1_N58_ ha32_3_hp1_N26_ ha40_3_hp1_N31_ hc_23 i18_ rA4_1_N31_.1) | assumption) (show ze N58_ 4 1 ≤ 30 by first | with_reducible assumption | (exact zo_1068 eA4_1_N35_ eA4_1_N53_ eA4_1_N58_ ha40_4_hp1_N31_) | assumption) (show zLow d_ Mz N58_ by first | exact hlu_ | exact hlz_) hp1_N58_ hnmu_ (show ((1 : Int) = 1 ∧ zRea (zfs b_ n_ F_ K_ nm_) (0, (ze Mz 1 2).toNat, [], [], 0, false) (zKst 0 F_ d_ N58_) ∧ zCI F_ K_ d_ 0 N58_) ∨ ((1 : Int) = 0 ∧ zRea (zfs b_ n_ F_ K_ nm_) (0, (ze Mz 1 2).toNat, [], [], 0, false) (zKst 2 F_ d_ N58_) ∧ zCI F_ K_ d_ 1 N58_ ∧ (zkS d_ N58_).head? ≠ some 1 ∧ ¬ (zisg b_ n_ (ze N58_ 1 2).toNat 42 ∨ zisg b_ n_ (ze N58_ 1 2).toNat 43 ∨ zisg b_ n_ (ze N58_ 1 2).toNat 45) ∧ ¬ (zisg b_ n_ (ze N58_ 1 2).toNat 41 ∧ 0 ∈ zkS d_ N58_)) from Or.inl (⟨(show (1 : Int) = 1 by first | rfl | with_reducible assumption | exact hst1_ | exact hcu_ | assumption), (show zRea (zfs b_ n_ F_ K_ nm_) (0, (ze Mz 1 2).toNat, [], [], 0, false) (zKst 0 F_ d_ N58_) by first | rfl | with_reducible assumption | exact hst1_ | exact hcu_ | assumption), (show zCI F_ K_ d_ 0 N58_ by first | rfl | with_reducible assumption | exact hst1_ | exact hcu_ | assumption)⟩)) (by (exact zo_1069 hc_23 hlt_19 i17_))
                              · skip
                                exact absurd hc_77 (by decide)
                            · skip
                              have hm1_ := ha74_0_hp0_N51_
                              show zW l m_Reader_readSum (zn Mz + 0, zw Mz + 0) N35_ 77 [some (.ref 4), some (.ref (d_ + 0)), some (.ref (d_ + 33)), some (.int (Int32.ofInt 1)), some (.int (Int32.ofInt u14_))] [.int (Int32.ofInt 0)] _
                              refine zr_if_ne (pc := 77) (tgt := 92) ⟨(by decide), (by decide)⟩ (by decide) (zdal_p dlA_Reader_readSum_110 (i := 16) rfl) (fun hc_77 => ?_) (fun hc_77 => ?_)
                              · skip
                                exact absurd hc_77 (by decide)
                              · skip
                                refine zw_aload_n (pc := 80) (n := 0) (x := 4) rfl (zdal_p dlA_Reader_readSum_110 (i := 17) rfl) ?_
                                refine zw_getF (pc := 81) f_Reader_15 rfl ((hf_N35_.w hW).ka (o := 4) (by decide)) ((hf_N35_.w hW).la (o := 4) (s := 0) (r := 1) (by decide)) (zdal_p dlA_Reader_readSum_110 (i := 18) rfl) ?_
                                refine zw_bipush (pc := 84) (v := Int32.ofInt 42) (by decide) (zdal_p dlA_Reader_readSum_110 (i := 19) rfl) ?_
                                refine zk_callV hf_N35_.x (pc := 86) [.int (Int32.ofInt 42)] [] l_Reader_37 (u_Tokens_isSign l d_ N35_ (hf_N35_.w hW) 42 (by decide) (by decide) b_ n_ hp0_N35_) rfl rfl ((hf_N35_.w hW).ka (o := 1) (by decide)) (by decide) (by decide) (Nat.le_of_ble_eq_true rfl) (zdal_p dlA_Reader_readSum_110 (i := 20) rfl) ?_
                                rintro _ N63_ ⟨v64_, rfl, ⟨hv64_a, hv64_b⟩, hsN63_, hp0_N63_⟩
                                obtain rfl := hsN63_.eq.symm
                                replace hp0_N63_ : ((v64_ = 1 ∧ zkd b_ n_ (ze N35_ 1 2).toNat = 3 ∧ b_ (ze N35_ 1 2).toNat = 42) ∨ (v64_ = 0 ∧ ¬ (zkd b_ n_ (ze N35_ 1 2).toNat = 3 ∧ b_ (ze N35_ 1 2).toNat = 42))) := hp0_N63_
                                rcases hp0_N63_ with ⟨rfl, ha86_0_hp0_N63_, ha86_1_hp0_N63_⟩ | ⟨rfl, ha86_0_hp0_N63_⟩
                                · skip
                                  have hk0_ := ha86_0_hp0_N63_
                                  have hk1_ := ha86_1_hp0_N63_
                                  show zW l m_Reader_readSum (zn Mz + 0, zw Mz + 0) N35_ 89 [some (.ref 4), some (.ref (d_ + 0)), some (.ref (d_ + 33)), some (.int (Int32.ofInt 1)), some (.int (Int32.ofInt u14_))] [.int (Int32.ofInt 1)] _
                                  refine zr_if_eq (pc := 89) (tgt := 96) ⟨(by decide), (by decide)⟩ (by decide) (zdal_p dlA_Reader_readSum_110 (i := 21) rfl) (fun hc_89 => ?_) (fun hc_89 => ?_)
                                  · skip
                                    exact absurd hc_89 (by decide)
                                  · skip
                                    refine zw_iconst (pc := 92) (v := Int32.ofInt 1) (by decide) (zdal_p dlA_Reader_readSum_110 (i := 22) rfl) ?_
                                    refine zw_goto (pc := 93) (tgt := 97) (by decide) (zdal_p dlA_Reader_readSum_110 (i := 23) rfl) ?_
                                    refine zw_istore_n (pc := 97) (i := 3) (L2 := [some (.ref 4), some (.ref (d_ + 0)), some (.ref (d_ + 33)), some (.int (Int32.ofInt 1)), some (.int (Int32.ofInt u14_))]) rfl (by decide) rfl (zdal_p dlA_Reader_readSum_111 (i := 1) rfl) ?_
                                    refine zw_iload_n (pc := 98) (n := 3) (x := Int32.ofInt 1) rfl (zdal_p dlA_Reader_readSum_111 (i := 2) rfl) ?_
                                    refine zr_if_eq (pc := 99) (tgt := 120) ⟨(by decide), (by decide)⟩ (by decide) (zdal_p dlA_Reader_readSum_111 (i := 3) rfl) (fun hc_99 => ?_) (fun hc_99 => ?_)
                                    · skip
                                      exact absurd hc_99 (by decide)
                                    · skip
                                      have hvt_ : ze N35_ 1 5 = b_ (ze N35_ 1 2).toNat := hp0_N35_.2.2.2.2.2 hk0_
                                      refine zw_aload_n (pc := 102) (n := 2) (x := (d_ + 33)) rfl (zdal_p dlA_Reader_readSum_111 (i := 4) rfl) ?_
                                      refine zw_aload_n (pc := 103) (n := 0) (x := 4) rfl (zdal_p dlA_Reader_readSum_111 (i := 5) rfl) ?_
                                      refine zw_getF (pc := 104) f_Reader_15 rfl ((hf_N35_.w hW).ka (o := 4) (by decide)) ((hf_N35_.w hW).la (o := 4) (s := 0) (r := 1) (by decide)) (zdal_p dlA_Reader_readSum_111 (i := 6) rfl) ?_
                                      refine zk_getI (pc := 107) f_Reader_57 rfl ((hf_N35_.w hW).ka (o := 1) (by decide)) (zdal_p dlA_Reader_readSum_111 (i := 7) rfl) ?_
                                      refine zk_callV hf_N35_.x (pc := 110) [.int (Int32.ofInt (ze N35_ 1 5))] [] l_Reader_139 (u_Calc_put l d_ N35_ (hf_N35_.w hW) (ze N35_ 1 5) (ze_r N35_ 1 5).1 (ze_r N35_ 1 5).2 F_ K_ hA_ c38_ hz1_ (show (zkS d_ N35_).head? ≠ some 1 by first | with_reducible assumption | assumption | omega) (show ((ze N35_ 1 5) = 42 ∨ (ze N35_ 1 5) = 43 ∨ (ze N35_ 1 5) = 45) by first | with_reducible assumption | (exact zo_1071 ha86_1_hp0_N63_ hvt_ rA1_5_N35_.1 rA1_5_N35_.2) | assumption)) rfl rfl ((hf_N35_.w hW).kr (o := 33) (by decide)) (by decide) (by decide) (Nat.le_of_ble_eq_true rfl) (zdal_p dlA_Reader_readSum_111 (i := 8) rfl) ?_
                                      rintro _ N65_ ⟨rfl, hsN65_, ⟨hp0_N65_, hp1_N65_, hp2_N65_, hp3_N65_, hp4_N65_⟩⟩
                                      have hf_N65_ : zFc d_ [(1, 2), (1, 3), (1, 4), (1, 5), (4, 1), (4, 2), (4, 3)] [] [(33, 2), (33, 3), (33, 4), (33, 5), (33, 6)] [25, 27, 35] Mz N65_ := hf_N35_.tr hsN65_ (by decide) (by decide) (by decide) (by decide)
                                      have hb0_N65_ : zFc d_ [(1, 2), (1, 3), (1, 4), (1, 5), (4, 1), (4, 2), (4, 3)] [] [(33, 2), (33, 3), (33, 4), (33, 5), (33, 6)] [25, 27, 35] N7_ N65_ := hb0_N35_.tr hsN65_ (by decide) (by decide) (by decide) (by decide)
                                      have eA1_2_N65_ : ze N65_ 1 2 = ze N35_ 1 2 := hsN65_.ea (hf_N35_.w hW) (by decide)
                                      have eA1_3_N65_ : ze N65_ 1 3 = ze N35_ 1 3 := hsN65_.ea (hf_N35_.w hW) (by decide)
                                      have eA1_5_N65_ : ze N65_ 1 5 = ze N35_ 1 5 := hsN65_.ea (hf_N35_.w hW) (by decide)
                                      have eA4_1_N65_ : ze N65_ 4 1 = ze N35_ 4 1 := hsN65_.ea (hf_N35_.w hW) (by decide)
                                      have rD33_2_N65_ := ze_r N65_ (d_ + 33) 2
                                      have rD33_3_N65_ := ze_r N65_ (d_ + 33) 3
                                      have eD33_4_N65_ : ze N65_ (d_ + 33) 4 = ze N35_ (d_ + 33) 4 := hsN65_.e (by decide)
                                      have eD33_5_N65_ : ze N65_ (d_ + 33) 5 = ze N35_ (d_ + 33) 5 := hsN65_.e (by decide)
                                      have rD33_6_N65_ := ze_r N65_ (d_ + 33) 6
                                      have c67_ : zYb b_ n_ N65_ := zYb.fr (hf_N35_.w hW) hsN65_ c37_ (by decide)
                                      have c68_ : zKm F_ K_ d_ N65_ := zKm.fr (hf_N35_.w hW) hsN65_ c38_ (by decide)
                                      have c69_ : zYt b_ n_ N65_ := zYt.fr (hf_N35_.w hW) hsN65_ hp0_N35_ (by decide)
                                      show zW l m_Reader_readSum (zn Mz + 0, zw Mz + 0) N65_ 113 [some (.ref 4), some (.ref (d_ + 0)), some (.ref (d_ + 33)), some (.int (Int32.ofInt 1)), some (.int (Int32.ofInt u14_))] [] _
                                      have ht1_ := hp1_N65_
                                      have ht2_ := hp2_N65_
                                      have ht3_ := hp3_N65_
                                      have hlt_ := hlz_.tr hp4_N65_
                                      have hct_ := hp0_N65_
                                      have hyt_ := c69_
                                      have hyx_ := hyt_.x
                                      refine zw_aload_n (pc := 113) (n := 0) (x := 4) rfl (zdal_p dlA_Reader_readSum_111 (i := 9) rfl) ?_
                                      refine zw_getF (pc := 114) f_Reader_15 rfl ((hf_N65_.w hW).ka (o := 4) (by decide)) ((hf_N65_.w hW).la (o := 4) (s := 0) (r := 1) (by decide)) (zdal_p dlA_Reader_readSum_111 (i := 10) rfl) ?_
                                      refine zk_callV hf_N65_.x (pc := 117) [] [] l_Reader_44 (u_Tokens_step l d_ N65_ (hf_N65_.w hW) b_ n_ c67_ (show 0 ≤ ze N65_ 1 3 by first | with_reducible assumption | (exact zo_57 hyx_.2.1) | assumption) (show ze N65_ 1 3 ≤ n_ by first | with_reducible assumption | (exact zo_605 hyx_.2.2) | assumption)) rfl rfl ((hf_N65_.w hW).ka (o := 1) (by decide)) (by decide) (by decide) (Nat.le_of_ble_eq_true rfl) (zdal_p dlA_Reader_readSum_111 (i := 11) rfl) ?_
                                      rintro _ N70_ ⟨rfl, hsN70_, ⟨hp0_N70_, hp1_N70_⟩⟩
                                      have hf_N70_ : zFc d_ [(1, 2), (1, 3), (1, 4), (1, 5), (4, 1), (4, 2), (4, 3)] [] [(33, 2), (33, 3), (33, 4), (33, 5), (33, 6)] [25, 27, 35] Mz N70_ := hf_N65_.tr hsN70_ (by decide) (by decide) (by decide) (by decide)
                                      have hb0_N70_ : zFc d_ [(1, 2), (1, 3), (1, 4), (1, 5), (4, 1), (4, 2), (4, 3)] [] [(33, 2), (33, 3), (33, 4), (33, 5), (33, 6)] [25, 27, 35] N7_ N70_ := hb0_N65_.tr hsN70_ (by decide) (by decide) (by decide) (by decide)
                                      have rA1_2_N70_ := ze_r N70_ 1 2
                                      have rA1_3_N70_ := ze_r N70_ 1 3
                                      have rA1_5_N70_ := ze_r N70_ 1 5
                                      have eA4_1_N70_ : ze N70_ 4 1 = ze N65_ 4 1 := hsN70_.ea (hf_N65_.w hW) (by decide)
                                      have eD33_2_N70_ : ze N70_ (d_ + 33) 2 = ze N65_ (d_ + 33) 2 := hsN70_.e (by decide)
                                      have eD33_3_N70_ : ze N70_ (d_ + 33) 3 = ze N65_ (d_ + 33) 3 := hsN70_.e (by decide)
                                      have eD33_4_N70_ : ze N70_ (d_ + 33) 4 = ze N65_ (d_ + 33) 4 := hsN70_.e (by decide)
                                      have eD33_5_N70_ : ze N70_ (d_ + 33) 5 = ze N65_ (d_ + 33) 5 := hsN70_.e (by decide)
                                      have eD33_6_N70_ : ze N70_ (d_ + 33) 6 = ze N65_ (d_ + 33) 6 := hsN70_.e (by decide)
                                      have qzkS_N70_ : zkS d_ N70_ = zkS d_ N65_ := zkS_q hsN70_ (by decide)
                                      have qzkG_N70_ : zkG d_ N70_ = zkG d_ N65_ := zkG_q hsN70_ (by decide)
                                      have qzkW_N70_ : zkW F_ d_ N70_ = zkW F_ d_ N65_ := zkW_q hsN70_ (by decide)
                                      have c72_ : zYb b_ n_ N70_ := zYb.fr (hf_N65_.w hW) hsN70_ c67_ (by decide)
                                      have c73_ : zKm F_ K_ d_ N70_ := zKm.fr (hf_N65_.w hW) hsN70_ c68_ (by decide)
                                      have c74_ : zCI F_ K_ d_ 0 N70_ := zCI.fr (hf_N65_.w hW) hsN70_ hp0_N65_ (by decide)
                                      show zW l m_Reader_readSum (zn Mz + 0, zw Mz + 0) N70_ 120 [some (.ref 4), some (.ref (d_ + 0)), some (.ref (d_ + 33)), some (.int (Int32.ofInt 1)), some (.int (Int32.ofInt u14_))] [] _
                                      have hnn_ := hyt_.n hp0_N70_
                                      have hst1_ := hz0_.tr (zRea.st (zs2_s (Nz := N70_) (F := F_) (b := b_) (n := n_) (K := K_) (nm := nm_) hk0_ hvt_.symm (by (exact zo_1071 ha86_1_hp0_N63_ hvt_ rA1_5_N35_.1 rA1_5_N35_.2)) (by rw [qzkS_N70_]; exact ht1_) (by rw [qzkW_N70_]; exact ht2_) (by rw [qzkG_N70_]; exact ht3_) (by (exact zo_53 eA4_1_N65_ eA4_1_N70_)) (hnn_.2.trans (by rw [show ze N65_ 1 2 = ze N35_ 1 2 by (exact eA1_2_N65_)]))))
                                      have hlu_ := hlt_.tr (zLow.f hsN70_ (by decide))
                                      have hcu_ := c74_
                                      refine zr_iinc (pc := 120) (i := 4) (a := u14_) (n := 1) (L2 := [some (.ref 4), some (.ref (d_ + 0)), some (.ref (d_ + 33)), some (.int (Int32.ofInt 1)), some (.int (Int32.ofInt (u14_ + 1)))]) rfl (by decide) rfl (zdal_p dlA_Reader_readSum_111 (i := 12) rfl) ?_
                                      refine zw_goto (pc := 123) (tgt := 19) (by decide) (zdal_p dlA_Reader_readSum_111 (i := 13) rfl) ?_
                                      have hnmu_ := p3_.l hf_N70_ (by first | exact hlu_ | exact hlz_) hF27_ (by decide)
                                      exact ih_19 1 (by decide) (by decide) (by (exact hu13_z)) (u14_ + 1) (by (exact zo_74 i17_)) (by (exact zo_1055 hc_23)) N70_ hb0_N70_ (show 0 ≤ (u14_ + 1) by first | with_reducible assumption | (exact zo_76 i17_) | assumption) (show (u14_ + 1) ≤ ze N70_ 4 1 by first | with_reducible assumption | (exact zo_1067 eA4_1_N35_ eA4_1_N65_ eA4_1_N70_ ha32_3_hp1_N26_ ha40_3_hp1_N31_ hc_23 i18_ rA4_1_N31_.1) | assumption) (show ze N70_ 4 1 ≤ 30 by first | with_reducible assumption | (exact zo_1068 eA4_1_N35_ eA4_1_N65_ eA4_1_N70_ ha40_4_hp1_N31_) | assumption) (show zLow d_ Mz N70_ by first | exact hlu_ | exact hlz_) hp1_N70_ hnmu_ (show ((1 : Int) = 1 ∧ zRea (zfs b_ n_ F_ K_ nm_) (0, (ze Mz 1 2).toNat, [], [], 0, false) (zKst 0 F_ d_ N70_) ∧ zCI F_ K_ d_ 0 N70_) ∨ ((1 : Int) = 0 ∧ zRea (zfs b_ n_ F_ K_ nm_) (0, (ze Mz 1 2).toNat, [], [], 0, false) (zKst 2 F_ d_ N70_) ∧ zCI F_ K_ d_ 1 N70_ ∧ (zkS d_ N70_).head? ≠ some 1 ∧ ¬ (zisg b_ n_ (ze N70_ 1 2).toNat 42 ∨ zisg b_ n_ (ze N70_ 1 2).toNat 43 ∨ zisg b_ n_ (ze N70_ 1 2).toNat 45) ∧ ¬ (zisg b_ n_ (ze N70_ 1 2).toNat 41 ∧ 0 ∈ zkS d_ N70_)) from Or.inl (⟨(show (1 : Int) = 1 by first | rfl | with_reducible assumption | exact hst1_ | exact hcu_ | assumption), (show zRea (zfs b_ n_ F_ K_ nm_) (0, (ze Mz 1 2).toNat, [], [], 0, false) (zKst 0 F_ d_ N70_) by first | rfl | with_reducible assumption | exact hst1_ | exact hcu_ | assumption), (show zCI F_ K_ d_ 0 N70_ by first | rfl | with_reducible assumption | exact hst1_ | exact hcu_ | assumption)⟩)) (by (exact zo_1069 hc_23 hlt_19 i17_))
                                · skip
                                  have hm2_ := ha86_0_hp0_N63_
                                  have hq4_ : ¬ (zisg b_ n_ (ze N35_ 1 2).toNat 42 ∨ zisg b_ n_ (ze N35_ 1 2).toNat 43 ∨ zisg b_ n_ (ze N35_ 1 2).toNat 45) := fun q_ => q_.elim hm2_ (fun q_ => q_.elim hm0_ hm1_)
                                  show zW l m_Reader_readSum (zn Mz + 0, zw Mz + 0) N35_ 89 [some (.ref 4), some (.ref (d_ + 0)), some (.ref (d_ + 33)), some (.int (Int32.ofInt 1)), some (.int (Int32.ofInt u14_))] [.int (Int32.ofInt 0)] _
                                  refine zr_if_eq (pc := 89) (tgt := 96) ⟨(by decide), (by decide)⟩ (by decide) (zdal_p dlA_Reader_readSum_110 (i := 21) rfl) (fun hc_89 => ?_) (fun hc_89 => ?_)
                                  · skip
                                    refine zw_iconst (pc := 96) (v := Int32.ofInt 0) (by decide) (zdal_p dlA_Reader_readSum_111 (i := 0) rfl) ?_
                                    refine zw_istore_n (pc := 97) (i := 3) (L2 := [some (.ref 4), some (.ref (d_ + 0)), some (.ref (d_ + 33)), some (.int (Int32.ofInt 0)), some (.int (Int32.ofInt u14_))]) rfl (by decide) rfl (zdal_p dlA_Reader_readSum_111 (i := 1) rfl) ?_
                                    refine zw_iload_n (pc := 98) (n := 3) (x := Int32.ofInt 0) rfl (zdal_p dlA_Reader_readSum_111 (i := 2) rfl) ?_
                                    refine zr_if_eq (pc := 99) (tgt := 120) ⟨(by decide), (by decide)⟩ (by decide) (zdal_p dlA_Reader_readSum_111 (i := 3) rfl) (fun hc_99 => ?_) (fun hc_99 => ?_)
                                    · skip
                                      refine zr_iinc (pc := 120) (i := 4) (a := u14_) (n := 1) (L2 := [some (.ref 4), some (.ref (d_ + 0)), some (.ref (d_ + 33)), some (.int (Int32.ofInt 0)), some (.int (Int32.ofInt (u14_ + 1)))]) rfl (by decide) rfl (zdal_p dlA_Reader_readSum_111 (i := 12) rfl) ?_
                                      refine zw_goto (pc := 123) (tgt := 19) (by decide) (zdal_p dlA_Reader_readSum_111 (i := 13) rfl) ?_
                                      have hnmu_ := p3_.l hf_N35_ (by first | exact hlu_ | exact hlz_) hF27_ (by decide)
                                      exact ih_19 0 (by decide) (by decide) (by (decide)) (u14_ + 1) (by (exact zo_74 i17_)) (by (exact zo_1055 hc_23)) N35_ hb0_N35_ (show 0 ≤ (u14_ + 1) by first | with_reducible assumption | (exact zo_76 i17_) | assumption) (show (u14_ + 1) ≤ ze N35_ 4 1 by first | with_reducible assumption | (exact zo_1072 eA4_1_N35_ ha32_3_hp1_N26_ ha40_3_hp1_N31_ hc_23 i18_ rA4_1_N31_.1) | assumption) (show ze N35_ 4 1 ≤ 30 by first | with_reducible assumption | (exact zo_773 eA4_1_N35_ ha40_4_hp1_N31_) | assumption) (show zLow d_ Mz N35_ by first | exact hlu_ | exact hlz_) hp0_N35_ hnmu_ (show ((0 : Int) = 1 ∧ zRea (zfs b_ n_ F_ K_ nm_) (0, (ze Mz 1 2).toNat, [], [], 0, false) (zKst 0 F_ d_ N35_) ∧ zCI F_ K_ d_ 0 N35_) ∨ ((0 : Int) = 0 ∧ zRea (zfs b_ n_ F_ K_ nm_) (0, (ze Mz 1 2).toNat, [], [], 0, false) (zKst 2 F_ d_ N35_) ∧ zCI F_ K_ d_ 1 N35_ ∧ (zkS d_ N35_).head? ≠ some 1 ∧ ¬ (zisg b_ n_ (ze N35_ 1 2).toNat 42 ∨ zisg b_ n_ (ze N35_ 1 2).toNat 43 ∨ zisg b_ n_ (ze N35_ 1 2).toNat 45) ∧ ¬ (zisg b_ n_ (ze N35_ 1 2).toNat 41 ∧ 0 ∈ zkS d_ N35_)) from Or.inr (⟨(show (0 : Int) = 0 by first | rfl | with_reducible assumption | exact hst1_ | exact hcu_ | assumption), (show zRea (zfs b_ n_ F_ K_ nm_) (0, (ze Mz 1 2).toNat, [], [], 0, false) (zKst 2 F_ d_ N35_) by first | rfl | with_reducible assumption | exact hst1_ | exact hcu_ | assumption), (show zCI F_ K_ d_ 1 N35_ by first | rfl | with_reducible assumption | exact hst1_ | exact hcu_ | assumption), (show (zkS d_ N35_).head? ≠ some 1 by first | rfl | with_reducible assumption | exact hst1_ | exact hcu_ | assumption), (show ¬ (zisg b_ n_ (ze N35_ 1 2).toNat 42 ∨ zisg b_ n_ (ze N35_ 1 2).toNat 43 ∨ zisg b_ n_ (ze N35_ 1 2).toNat 45) by first | rfl | with_reducible assumption | exact hst1_ | exact hcu_ | assumption), (show ¬ (zisg b_ n_ (ze N35_ 1 2).toNat 41 ∧ 0 ∈ zkS d_ N35_) by first | rfl | with_reducible assumption | exact hst1_ | exact hcu_ | assumption)⟩)) (by (exact zo_1069 hc_23 hlt_19 i17_))
                                    · skip
                                      exact absurd hc_99 (by decide)
                                  · skip
                                    exact absurd hc_89 (by decide)
                      · skip
                        exact absurd hc_51 (by decide)
                    · skip
                      have hrt_ := hy0_.tr ha48_0_hp1_N35_
                      have hfl_ := hly_.tr ha48_1_hp1_N35_
                      show zW l m_Reader_readSum (zn Mz + 0, zw Mz + 0) N35_ 51 [some (.ref 4), some (.ref (d_ + 0)), some (.ref (d_ + 33)), some (.int (Int32.ofInt 1)), some (.int (Int32.ofInt u14_))] [.int (Int32.ofInt 0)] _
                      refine zr_if_ne (pc := 51) (tgt := 56) ⟨(by decide), (by decide)⟩ (by decide) (zdal_p dlA_Reader_readSum_110 (i := 4) rfl) (fun hc_51 => ?_) (fun hc_51 => ?_)
                      · skip
                        exact absurd hc_51 (by decide)
                      · skip
                        refine zw_iconst (pc := 54) (v := Int32.ofInt 0) (by decide) (zdal_p dlA_Reader_readSum_110 (i := 5) rfl) ?_
                        exact zk_iret (pc := 55) (ty := .boolean) rfl (z_narB (by (decide))) ⟨by (exact hv36_a), by (exact hv36_b)⟩ hf_N35_ ⟨hp0_N35_, (show ((0 = 1 ∧ zRea (zfs b_ n_ F_ K_ nm_) (0, (ze Mz 1 2).toNat, [], [], 0, false) (zKst 3 F_ d_ N35_) ∧ zCI F_ K_ d_ 1 N35_ ∧ zLow d_ Mz N35_ ∧ zkS d_ N35_ = []) ∨ (0 = 0 ∧ zRea (zfs b_ n_ F_ K_ nm_) (0, (ze Mz 1 2).toNat, [], [], 0, false) zFt ∧ zLow d_ Mz N35_)) from Or.inr (⟨(show 0 = 0 by first | rfl | exact hrt_ | exact hr2_.tr (zRea.st (zs2_f (F := F_) (d := d_) (b := b_) (n := n_) (K := K_) (nm := nm_) hn4_ hn1_ (hc2_.m.mp (by omega)))) | (exfalso; omega) | exact hfl_ | exact hlow_.tr (zLow.f hsN35_ (by decide))), (show zRea (zfs b_ n_ F_ K_ nm_) (0, (ze Mz 1 2).toNat, [], [], 0, false) zFt by first | rfl | exact hrt_ | exact hr2_.tr (zRea.st (zs2_f (F := F_) (d := d_) (b := b_) (n := n_) (K := K_) (nm := nm_) hn4_ hn1_ (hc2_.m.mp (by omega)))) | (exfalso; omega) | exact hfl_ | exact hlow_.tr (zLow.f hsN35_ (by decide))), (show zLow d_ Mz N35_ by first | rfl | exact hrt_ | exact hr2_.tr (zRea.st (zs2_f (F := F_) (d := d_) (b := b_) (n := n_) (K := K_) (nm := nm_) hn4_ hn1_ (hc2_.m.mp (by omega)))) | (exfalso; omega) | exact hfl_ | exact hlow_.tr (zLow.f hsN35_ (by decide)))⟩))⟩ (zdal_p dlA_Reader_readSum_110 (i := 6) rfl)
                · skip
                  have hrt_ := hx0_.tr ha40_0_hp1_N31_
                  have hfl_ := hlx_.tr ha40_1_hp1_N31_
                  show zW l m_Reader_readSum (zn Mz + 0, zw Mz + 0) N31_ 43 [some (.ref 4), some (.ref (d_ + 0)), some (.ref (d_ + 33)), some (.int (Int32.ofInt 1)), some (.int (Int32.ofInt u14_))] [.int (Int32.ofInt 0)] _
                  refine zr_if_eq (pc := 43) (tgt := 54) ⟨(by decide), (by decide)⟩ (by decide) (zdal_p dlA_Reader_readSum_110 (i := 0) rfl) (fun hc_43 => ?_) (fun hc_43 => ?_)
                  · skip
                    refine zw_iconst (pc := 54) (v := Int32.ofInt 0) (by decide) (zdal_p dlA_Reader_readSum_110 (i := 5) rfl) ?_
                    exact zk_iret (pc := 55) (ty := .boolean) rfl (z_narB (by (decide))) ⟨by (exact hv32_a), by (exact hv32_b)⟩ hf_N31_ ⟨hp0_N31_, (show ((0 = 1 ∧ zRea (zfs b_ n_ F_ K_ nm_) (0, (ze Mz 1 2).toNat, [], [], 0, false) (zKst 3 F_ d_ N31_) ∧ zCI F_ K_ d_ 1 N31_ ∧ zLow d_ Mz N31_ ∧ zkS d_ N31_ = []) ∨ (0 = 0 ∧ zRea (zfs b_ n_ F_ K_ nm_) (0, (ze Mz 1 2).toNat, [], [], 0, false) zFt ∧ zLow d_ Mz N31_)) from Or.inr (⟨(show 0 = 0 by first | rfl | exact hrt_ | exact hr2_.tr (zRea.st (zs2_f (F := F_) (d := d_) (b := b_) (n := n_) (K := K_) (nm := nm_) hn4_ hn1_ (hc2_.m.mp (by omega)))) | (exfalso; omega) | exact hfl_ | exact hlow_.tr (zLow.f hsN31_ (by decide))), (show zRea (zfs b_ n_ F_ K_ nm_) (0, (ze Mz 1 2).toNat, [], [], 0, false) zFt by first | rfl | exact hrt_ | exact hr2_.tr (zRea.st (zs2_f (F := F_) (d := d_) (b := b_) (n := n_) (K := K_) (nm := nm_) hn4_ hn1_ (hc2_.m.mp (by omega)))) | (exfalso; omega) | exact hfl_ | exact hlow_.tr (zLow.f hsN31_ (by decide))), (show zLow d_ Mz N31_ by first | rfl | exact hrt_ | exact hr2_.tr (zRea.st (zs2_f (F := F_) (d := d_) (b := b_) (n := n_) (K := K_) (nm := nm_) hn4_ hn1_ (hc2_.m.mp (by omega)))) | (exfalso; omega) | exact hfl_ | exact hlow_.tr (zLow.f hsN31_ (by decide)))⟩))⟩ (zdal_p dlA_Reader_readSum_110 (i := 6) rfl)
                  · skip
                    exact absurd hc_43 (by decide)
            · skip
              have hrt_ := hr0_.tr ha32_0_hp1_N26_
              have hfl_ := hlow_.tr (zLow.f hsN26_ (by decide))
              show zW l m_Reader_readSum (zn Mz + 0, zw Mz + 0) N26_ 35 [some (.ref 4), some (.ref (d_ + 0)), some (.ref (d_ + 33)), some (.int (Int32.ofInt 1)), some (.int (Int32.ofInt u14_))] [.int (Int32.ofInt 0)] _
              refine zr_if_eq (pc := 35) (tgt := 54) ⟨(by decide), (by decide)⟩ (by decide) (zdal_p dlA_Reader_readSum_109 (i := 20) rfl) (fun hc_35 => ?_) (fun hc_35 => ?_)
              · skip
                refine zw_iconst (pc := 54) (v := Int32.ofInt 0) (by decide) (zdal_p dlA_Reader_readSum_110 (i := 5) rfl) ?_
                exact zk_iret (pc := 55) (ty := .boolean) rfl (z_narB (by (decide))) ⟨by (exact hv27_a), by (exact hv27_b)⟩ hf_N26_ ⟨hp0_N26_, (show ((0 = 1 ∧ zRea (zfs b_ n_ F_ K_ nm_) (0, (ze Mz 1 2).toNat, [], [], 0, false) (zKst 3 F_ d_ N26_) ∧ zCI F_ K_ d_ 1 N26_ ∧ zLow d_ Mz N26_ ∧ zkS d_ N26_ = []) ∨ (0 = 0 ∧ zRea (zfs b_ n_ F_ K_ nm_) (0, (ze Mz 1 2).toNat, [], [], 0, false) zFt ∧ zLow d_ Mz N26_)) from Or.inr (⟨(show 0 = 0 by first | rfl | exact hrt_ | exact hr2_.tr (zRea.st (zs2_f (F := F_) (d := d_) (b := b_) (n := n_) (K := K_) (nm := nm_) hn4_ hn1_ (hc2_.m.mp (by omega)))) | (exfalso; omega) | exact hfl_ | exact hlow_.tr (zLow.f hsN26_ (by decide))), (show zRea (zfs b_ n_ F_ K_ nm_) (0, (ze Mz 1 2).toNat, [], [], 0, false) zFt by first | rfl | exact hrt_ | exact hr2_.tr (zRea.st (zs2_f (F := F_) (d := d_) (b := b_) (n := n_) (K := K_) (nm := nm_) hn4_ hn1_ (hc2_.m.mp (by omega)))) | (exfalso; omega) | exact hfl_ | exact hlow_.tr (zLow.f hsN26_ (by decide))), (show zLow d_ Mz N26_ by first | rfl | exact hrt_ | exact hr2_.tr (zRea.st (zs2_f (F := F_) (d := d_) (b := b_) (n := n_) (K := K_) (nm := nm_) hn4_ hn1_ (hc2_.m.mp (by omega)))) | (exfalso; omega) | exact hfl_ | exact hlow_.tr (zLow.f hsN26_ (by decide)))⟩))⟩ (zdal_p dlA_Reader_readSum_110 (i := 6) rfl)
              · skip
                exact absurd hc_35 (by decide)
      · skip
        have hr2_ := hl19_0_i23_
        have hc2_ := hl19_1_i23_
        have hh2_ := hl19_2_i23_
        have hn4_ := hl19_3_i23_
        have hn1_ := hl19_4_i23_
        have hlow_ := (show zLow d_ Mz N15_ by first | with_reducible assumption | assumption)
        refine zw_iload (pc := 19) (i := 4) (x := Int32.ofInt u14_) rfl (zdal_p dlA_Reader_readSum_109 (i := 12) rfl) ?_
        refine zw_bipush (pc := 21) (v := Int32.ofInt 30) (by decide) (zdal_p dlA_Reader_readSum_109 (i := 13) rfl) ?_
        refine zr_icmp_gt (pc := 23) (tgt := 126) ⟨hu14_a, hu14_b⟩ ⟨(by decide), (by decide)⟩ (by decide) (zdal_p dlA_Reader_readSum_109 (i := 14) rfl) (fun hc_23 => ?_) (fun hc_23 => ?_)
        · skip
          refine zw_aload_n (pc := 126) (n := 2) (x := (d_ + 33)) rfl (zdal_p dlA_Reader_readSum_111 (i := 14) rfl) ?_
          refine zk_getI (pc := 127) f_Reader_142 rfl ((hf_N15_.w hW).kr (o := 33) (by decide)) (zdal_p dlA_Reader_readSum_111 (i := 15) rfl) ?_
          refine zr_if_le (pc := 130) (tgt := 139) ⟨(ze_r N15_ (d_ + 33) 5).1, (ze_r N15_ (d_ + 33) 5).2⟩ (by decide) (zdal_p dlA_Reader_readSum_111 (i := 16) rfl) (fun hc_130 => ?_) (fun hc_130 => ?_)
          · skip
            have hnb_ : ¬ 0 ∈ zkS d_ N15_ := fun q_ => by have := hc2_.m.mpr q_; (exact zo_1052 hc_130 this)
            refine zw_aload_n (pc := 139) (n := 2) (x := (d_ + 33)) rfl (zdal_p dlA_Reader_readSum_111 (i := 21) rfl) ?_
            refine zw_iconst (pc := 140) (v := Int32.ofInt 0) (by decide) (zdal_p dlA_Reader_readSum_111 (i := 22) rfl) ?_
            refine zk_callV hf_N15_.x (pc := 141) [.int (Int32.ofInt 0)] [] l_Reader_145 (u_Calc_reckon l d_ N15_ (hf_N15_.w hW) 0 (by decide) (by decide) (by (exact hu13_z)) F_ K_ hA_ c25_ hc2_ (show (zkS d_ N15_).head? ≠ some 1 by first | with_reducible assumption | assumption | omega)) rfl rfl ((hf_N15_.w hW).kr (o := 33) (by decide)) (by decide) (by decide) (Nat.le_of_ble_eq_true rfl) (zdal_p dlA_Reader_readSum_111 (i := 23) rfl) ?_
            rintro _ N75_ ⟨rfl, hsN75_, ⟨hp0_N75_, hp1_N75_, hp2_N75_, hp3_N75_, hp4_N75_⟩⟩
            have hf_N75_ : zFc d_ [(1, 2), (1, 3), (1, 4), (1, 5), (4, 1), (4, 2), (4, 3)] [] [(33, 2), (33, 3), (33, 4), (33, 5), (33, 6)] [25, 27, 35] Mz N75_ := hf_N15_.tr hsN75_ (by decide) (by decide) (by decide) (by decide)
            have eA1_2_N75_ : ze N75_ 1 2 = ze N15_ 1 2 := hsN75_.ea (hf_N15_.w hW) (by decide)
            have eA1_3_N75_ : ze N75_ 1 3 = ze N15_ 1 3 := hsN75_.ea (hf_N15_.w hW) (by decide)
            have eA1_5_N75_ : ze N75_ 1 5 = ze N15_ 1 5 := hsN75_.ea (hf_N15_.w hW) (by decide)
            have eA4_1_N75_ : ze N75_ 4 1 = ze N15_ 4 1 := hsN75_.ea (hf_N15_.w hW) (by decide)
            have rD33_2_N75_ := ze_r N75_ (d_ + 33) 2
            have rD33_3_N75_ := ze_r N75_ (d_ + 33) 3
            have eD33_4_N75_ : ze N75_ (d_ + 33) 4 = ze N15_ (d_ + 33) 4 := hsN75_.e (by decide)
            have eD33_5_N75_ : ze N75_ (d_ + 33) 5 = ze N15_ (d_ + 33) 5 := hsN75_.e (by decide)
            have rD33_6_N75_ := ze_r N75_ (d_ + 33) 6
            have c77_ : zYb b_ n_ N75_ := zYb.fr (hf_N15_.w hW) hsN75_ c24_ (by decide)
            have c78_ : zKm F_ K_ d_ N75_ := zKm.fr (hf_N15_.w hW) hsN75_ c25_ (by decide)
            have c79_ : zYt b_ n_ N75_ := zYt.fr (hf_N15_.w hW) hsN75_ i21_ (by decide)
            show zW l m_Reader_readSum (zn Mz + 0, zw Mz + 0) N75_ 144 [some (.ref 4), some (.ref (d_ + 0)), some (.ref (d_ + 33)), some (.int (Int32.ofInt 0)), some (.int (Int32.ofInt u14_))] [] _
            have hr1_ := hp1_N75_
            have hlr_ := hlow_.tr hp2_N75_
            have hr3_ := hp3_N75_
            have hr4_ := hp4_N75_
            have hcr_ := hp0_N75_
            refine zw_iconst (pc := 144) (v := Int32.ofInt 1) (by decide) (zdal_p dlA_Reader_readSum_112 (i := 0) rfl) ?_
            exact zk_iret (pc := 145) (ty := .boolean) rfl (z_narB (by (decide))) ⟨by (decide), by (decide)⟩ hf_N75_ ⟨c79_, (show ((1 = 1 ∧ zRea (zfs b_ n_ F_ K_ nm_) (0, (ze Mz 1 2).toNat, [], [], 0, false) (zKst 3 F_ d_ N75_) ∧ zCI F_ K_ d_ 1 N75_ ∧ zLow d_ Mz N75_ ∧ zkS d_ N75_ = []) ∨ (1 = 0 ∧ zRea (zfs b_ n_ F_ K_ nm_) (0, (ze Mz 1 2).toNat, [], [], 0, false) zFt ∧ zLow d_ Mz N75_)) from Or.inl (⟨(show 1 = 1 by first | rfl | exact hcr_ | exact hlr_ | exact hcr_.z (by omega) hr3_ hr4_ | exact hr2_.tr (zRea.st (zs2_e (Nz := N75_) (F := F_) (b := b_) (n := n_) (K := K_) (nm := nm_) hn4_ hnb_ hr1_ (by omega) (by omega)))), (show zRea (zfs b_ n_ F_ K_ nm_) (0, (ze Mz 1 2).toNat, [], [], 0, false) (zKst 3 F_ d_ N75_) by first | rfl | exact hcr_ | exact hlr_ | exact hcr_.z (by (exact zo_1073 eD33_5_N75_ hc_130)) hr3_ hr4_ | exact hr2_.tr (zRea.st (zs2_e (Nz := N75_) (F := F_) (b := b_) (n := n_) (K := K_) (nm := nm_) hn4_ hnb_ hr1_ (by (exact eA4_1_N75_)) (by (exact eA1_2_N75_))))), (show zCI F_ K_ d_ 1 N75_ by first | rfl | exact hcr_ | exact hlr_ | exact hcr_.z (by omega) hr3_ hr4_ | exact hr2_.tr (zRea.st (zs2_e (Nz := N75_) (F := F_) (b := b_) (n := n_) (K := K_) (nm := nm_) hn4_ hnb_ hr1_ (by omega) (by omega)))), (show zLow d_ Mz N75_ by first | rfl | exact hcr_ | exact hlr_ | exact hcr_.z (by omega) hr3_ hr4_ | exact hr2_.tr (zRea.st (zs2_e (Nz := N75_) (F := F_) (b := b_) (n := n_) (K := K_) (nm := nm_) hn4_ hnb_ hr1_ (by omega) (by omega)))), (show zkS d_ N75_ = [] by first | rfl | exact hcr_ | exact hlr_ | exact hcr_.z (by (exact zo_1073 eD33_5_N75_ hc_130)) hr3_ hr4_ | exact hr2_.tr (zRea.st (zs2_e (Nz := N75_) (F := F_) (b := b_) (n := n_) (K := K_) (nm := nm_) hn4_ hnb_ hr1_ (by omega) (by omega))))⟩))⟩ (zdal_p dlA_Reader_readSum_112 (i := 1) rfl)
          · skip
            refine zw_aload_n (pc := 133) (n := 0) (x := 4) rfl (zdal_p dlA_Reader_readSum_111 (i := 17) rfl) ?_
            refine zw_iconst (pc := 134) (v := Int32.ofInt 2) (by decide) (zdal_p dlA_Reader_readSum_111 (i := 18) rfl) ?_
            refine zk_callV hf_N15_.x (pc := 135) [.int (Int32.ofInt 2)] [] l_Reader_41 (u_Reader_refuse l d_ N15_ (hf_N15_.w hW) 2 (by decide) (by decide)) rfl rfl ((hf_N15_.w hW).ka (o := 4) (by decide)) (by decide) (by decide) (Nat.le_of_ble_eq_true rfl) (zdal_p dlA_Reader_readSum_111 (i := 19) rfl) ?_
            rintro _ N80_ ⟨v81_, rfl, ⟨hv81_a, hv81_b⟩, hsN80_, hp0_N80_⟩
            replace hp0_N80_ : ((v81_ = 0)) := hp0_N80_
            have hf_N80_ : zFc d_ [(1, 2), (1, 3), (1, 4), (1, 5), (4, 1), (4, 2), (4, 3)] [] [(33, 2), (33, 3), (33, 4), (33, 5), (33, 6)] [25, 27, 35] Mz N80_ := hf_N15_.tr hsN80_ (by decide) (by decide) (by decide) (by decide)
            have eA1_2_N80_ : ze N80_ 1 2 = ze N15_ 1 2 := hsN80_.ea (hf_N15_.w hW) (by decide)
            have eA1_3_N80_ : ze N80_ 1 3 = ze N15_ 1 3 := hsN80_.ea (hf_N15_.w hW) (by decide)
            have eA1_5_N80_ : ze N80_ 1 5 = ze N15_ 1 5 := hsN80_.ea (hf_N15_.w hW) (by decide)
            have eA4_1_N80_ : ze N80_ 4 1 = ze N15_ 4 1 := hsN80_.ea (hf_N15_.w hW) (by decide)
            have eD33_2_N80_ : ze N80_ (d_ + 33) 2 = ze N15_ (d_ + 33) 2 := hsN80_.e (by decide)
            have eD33_3_N80_ : ze N80_ (d_ + 33) 3 = ze N15_ (d_ + 33) 3 := hsN80_.e (by decide)
            have eD33_4_N80_ : ze N80_ (d_ + 33) 4 = ze N15_ (d_ + 33) 4 := hsN80_.e (by decide)
            have eD33_5_N80_ : ze N80_ (d_ + 33) 5 = ze N15_ (d_ + 33) 5 := hsN80_.e (by decide)
            have eD33_6_N80_ : ze N80_ (d_ + 33) 6 = ze N15_ (d_ + 33) 6 := hsN80_.e (by decide)
            have qzkS_N80_ : zkS d_ N80_ = zkS d_ N15_ := zkS_q hsN80_ (by decide)
            have qzkG_N80_ : zkG d_ N80_ = zkG d_ N15_ := zkG_q hsN80_ (by decide)
            have qzkW_N80_ : zkW F_ d_ N80_ = zkW F_ d_ N15_ := zkW_q hsN80_ (by decide)
            have c82_ : zYb b_ n_ N80_ := zYb.fr (hf_N15_.w hW) hsN80_ c24_ (by decide)
            have c83_ : zKm F_ K_ d_ N80_ := zKm.fr (hf_N15_.w hW) hsN80_ c25_ (by decide)
            have c84_ : zYt b_ n_ N80_ := zYt.fr (hf_N15_.w hW) hsN80_ i21_ (by decide)
            have c85_ : zNm nm_ F_ K_ d_ N80_ := zNm.fr (hf_N15_.w hW) hsN80_ i22_ (by decide)
            have c86_ : zCI F_ K_ d_ 1 N80_ := zCI.fr (hf_N15_.w hW) hsN80_ hc2_ (by decide)
            rcases hp0_N80_ with rfl
            · skip
              show zW l m_Reader_readSum (zn Mz + 0, zw Mz + 0) N80_ 138 [some (.ref 4), some (.ref (d_ + 0)), some (.ref (d_ + 33)), some (.int (Int32.ofInt 0)), some (.int (Int32.ofInt u14_))] [.int (Int32.ofInt 0)] _
              exact zk_iret (pc := 138) (ty := .boolean) rfl (z_narB (by (exact hu13_z))) ⟨by (exact hu13_a), by (exact hu13_b)⟩ hf_N80_ ⟨c84_, (show ((0 = 1 ∧ zRea (zfs b_ n_ F_ K_ nm_) (0, (ze Mz 1 2).toNat, [], [], 0, false) (zKst 3 F_ d_ N80_) ∧ zCI F_ K_ d_ 1 N80_ ∧ zLow d_ Mz N80_ ∧ zkS d_ N80_ = []) ∨ (0 = 0 ∧ zRea (zfs b_ n_ F_ K_ nm_) (0, (ze Mz 1 2).toNat, [], [], 0, false) zFt ∧ zLow d_ Mz N80_)) from Or.inr (⟨(show 0 = 0 by first | rfl | exact hrt_ | exact hr2_.tr (zRea.st (zs2_f (F := F_) (d := d_) (b := b_) (n := n_) (K := K_) (nm := nm_) hn4_ hn1_ (hc2_.m.mp (by omega)))) | (exfalso; omega) | exact hfl_ | exact hlow_.tr (zLow.f hsN80_ (by decide))), (show zRea (zfs b_ n_ F_ K_ nm_) (0, (ze Mz 1 2).toNat, [], [], 0, false) zFt by first | rfl | exact hrt_ | exact hr2_.tr (zRea.st (zs2_f (F := F_) (d := d_) (b := b_) (n := n_) (K := K_) (nm := nm_) hn4_ hn1_ (hc2_.m.mp (by (exact hc_130))))) | (exfalso; omega) | exact hfl_ | exact hlow_.tr (zLow.f hsN80_ (by decide))), (show zLow d_ Mz N80_ by first | rfl | exact hrt_ | exact hr2_.tr (zRea.st (zs2_f (F := F_) (d := d_) (b := b_) (n := n_) (K := K_) (nm := nm_) hn4_ hn1_ (hc2_.m.mp (by (exact hc_130))))) | (exfalso; (exact zo_1062 hc_23 i18_ i19_)) | exact hfl_ | exact hlow_.tr (zLow.f hsN80_ (by decide)))⟩))⟩ (zdal_p dlA_Reader_readSum_111 (i := 20) rfl)
        · skip
          refine zw_iload_n (pc := 26) (n := 3) (x := Int32.ofInt 0) rfl (zdal_p dlA_Reader_readSum_109 (i := 15) rfl) ?_
          refine zr_if_eq (pc := 27) (tgt := 126) ⟨(by decide), (by decide)⟩ (by decide) (zdal_p dlA_Reader_readSum_109 (i := 16) rfl) (fun hc_27 => ?_) (fun hc_27 => ?_)
          · skip
            refine zw_aload_n (pc := 126) (n := 2) (x := (d_ + 33)) rfl (zdal_p dlA_Reader_readSum_111 (i := 14) rfl) ?_
            refine zk_getI (pc := 127) f_Reader_142 rfl ((hf_N15_.w hW).kr (o := 33) (by decide)) (zdal_p dlA_Reader_readSum_111 (i := 15) rfl) ?_
            refine zr_if_le (pc := 130) (tgt := 139) ⟨(ze_r N15_ (d_ + 33) 5).1, (ze_r N15_ (d_ + 33) 5).2⟩ (by decide) (zdal_p dlA_Reader_readSum_111 (i := 16) rfl) (fun hc_130 => ?_) (fun hc_130 => ?_)
            · skip
              have hnb_ : ¬ 0 ∈ zkS d_ N15_ := fun q_ => by have := hc2_.m.mpr q_; (exact zo_1052 hc_130 this)
              refine zw_aload_n (pc := 139) (n := 2) (x := (d_ + 33)) rfl (zdal_p dlA_Reader_readSum_111 (i := 21) rfl) ?_
              refine zw_iconst (pc := 140) (v := Int32.ofInt 0) (by decide) (zdal_p dlA_Reader_readSum_111 (i := 22) rfl) ?_
              refine zk_callV hf_N15_.x (pc := 141) [.int (Int32.ofInt 0)] [] l_Reader_145 (u_Calc_reckon l d_ N15_ (hf_N15_.w hW) 0 (by decide) (by decide) (by (exact hu13_z)) F_ K_ hA_ c25_ hc2_ (show (zkS d_ N15_).head? ≠ some 1 by first | with_reducible assumption | assumption | omega)) rfl rfl ((hf_N15_.w hW).kr (o := 33) (by decide)) (by decide) (by decide) (Nat.le_of_ble_eq_true rfl) (zdal_p dlA_Reader_readSum_111 (i := 23) rfl) ?_
              rintro _ N87_ ⟨rfl, hsN87_, ⟨hp0_N87_, hp1_N87_, hp2_N87_, hp3_N87_, hp4_N87_⟩⟩
              have hf_N87_ : zFc d_ [(1, 2), (1, 3), (1, 4), (1, 5), (4, 1), (4, 2), (4, 3)] [] [(33, 2), (33, 3), (33, 4), (33, 5), (33, 6)] [25, 27, 35] Mz N87_ := hf_N15_.tr hsN87_ (by decide) (by decide) (by decide) (by decide)
              have eA1_2_N87_ : ze N87_ 1 2 = ze N15_ 1 2 := hsN87_.ea (hf_N15_.w hW) (by decide)
              have eA1_3_N87_ : ze N87_ 1 3 = ze N15_ 1 3 := hsN87_.ea (hf_N15_.w hW) (by decide)
              have eA1_5_N87_ : ze N87_ 1 5 = ze N15_ 1 5 := hsN87_.ea (hf_N15_.w hW) (by decide)
              have eA4_1_N87_ : ze N87_ 4 1 = ze N15_ 4 1 := hsN87_.ea (hf_N15_.w hW) (by decide)
              have rD33_2_N87_ := ze_r N87_ (d_ + 33) 2
              have rD33_3_N87_ := ze_r N87_ (d_ + 33) 3
              have eD33_4_N87_ : ze N87_ (d_ + 33) 4 = ze N15_ (d_ + 33) 4 := hsN87_.e (by decide)
              have eD33_5_N87_ : ze N87_ (d_ + 33) 5 = ze N15_ (d_ + 33) 5 := hsN87_.e (by decide)
              have rD33_6_N87_ := ze_r N87_ (d_ + 33) 6
              have c89_ : zYb b_ n_ N87_ := zYb.fr (hf_N15_.w hW) hsN87_ c24_ (by decide)
              have c90_ : zKm F_ K_ d_ N87_ := zKm.fr (hf_N15_.w hW) hsN87_ c25_ (by decide)
              have c91_ : zYt b_ n_ N87_ := zYt.fr (hf_N15_.w hW) hsN87_ i21_ (by decide)
              show zW l m_Reader_readSum (zn Mz + 0, zw Mz + 0) N87_ 144 [some (.ref 4), some (.ref (d_ + 0)), some (.ref (d_ + 33)), some (.int (Int32.ofInt 0)), some (.int (Int32.ofInt u14_))] [] _
              have hr1_ := hp1_N87_
              have hlr_ := hlow_.tr hp2_N87_
              have hr3_ := hp3_N87_
              have hr4_ := hp4_N87_
              have hcr_ := hp0_N87_
              refine zw_iconst (pc := 144) (v := Int32.ofInt 1) (by decide) (zdal_p dlA_Reader_readSum_112 (i := 0) rfl) ?_
              exact zk_iret (pc := 145) (ty := .boolean) rfl (z_narB (by (decide))) ⟨by (decide), by (decide)⟩ hf_N87_ ⟨c91_, (show ((1 = 1 ∧ zRea (zfs b_ n_ F_ K_ nm_) (0, (ze Mz 1 2).toNat, [], [], 0, false) (zKst 3 F_ d_ N87_) ∧ zCI F_ K_ d_ 1 N87_ ∧ zLow d_ Mz N87_ ∧ zkS d_ N87_ = []) ∨ (1 = 0 ∧ zRea (zfs b_ n_ F_ K_ nm_) (0, (ze Mz 1 2).toNat, [], [], 0, false) zFt ∧ zLow d_ Mz N87_)) from Or.inl (⟨(show 1 = 1 by first | rfl | exact hcr_ | exact hlr_ | exact hcr_.z (by omega) hr3_ hr4_ | exact hr2_.tr (zRea.st (zs2_e (Nz := N87_) (F := F_) (b := b_) (n := n_) (K := K_) (nm := nm_) hn4_ hnb_ hr1_ (by omega) (by omega)))), (show zRea (zfs b_ n_ F_ K_ nm_) (0, (ze Mz 1 2).toNat, [], [], 0, false) (zKst 3 F_ d_ N87_) by first | rfl | exact hcr_ | exact hlr_ | exact hcr_.z (by (exact zo_1073 eD33_5_N87_ hc_130)) hr3_ hr4_ | exact hr2_.tr (zRea.st (zs2_e (Nz := N87_) (F := F_) (b := b_) (n := n_) (K := K_) (nm := nm_) hn4_ hnb_ hr1_ (by (exact eA4_1_N87_)) (by (exact eA1_2_N87_))))), (show zCI F_ K_ d_ 1 N87_ by first | rfl | exact hcr_ | exact hlr_ | exact hcr_.z (by omega) hr3_ hr4_ | exact hr2_.tr (zRea.st (zs2_e (Nz := N87_) (F := F_) (b := b_) (n := n_) (K := K_) (nm := nm_) hn4_ hnb_ hr1_ (by omega) (by omega)))), (show zLow d_ Mz N87_ by first | rfl | exact hcr_ | exact hlr_ | exact hcr_.z (by omega) hr3_ hr4_ | exact hr2_.tr (zRea.st (zs2_e (Nz := N87_) (F := F_) (b := b_) (n := n_) (K := K_) (nm := nm_) hn4_ hnb_ hr1_ (by omega) (by omega)))), (show zkS d_ N87_ = [] by first | rfl | exact hcr_ | exact hlr_ | exact hcr_.z (by (exact zo_1073 eD33_5_N87_ hc_130)) hr3_ hr4_ | exact hr2_.tr (zRea.st (zs2_e (Nz := N87_) (F := F_) (b := b_) (n := n_) (K := K_) (nm := nm_) hn4_ hnb_ hr1_ (by omega) (by omega))))⟩))⟩ (zdal_p dlA_Reader_readSum_112 (i := 1) rfl)
            · skip
              refine zw_aload_n (pc := 133) (n := 0) (x := 4) rfl (zdal_p dlA_Reader_readSum_111 (i := 17) rfl) ?_
              refine zw_iconst (pc := 134) (v := Int32.ofInt 2) (by decide) (zdal_p dlA_Reader_readSum_111 (i := 18) rfl) ?_
              refine zk_callV hf_N15_.x (pc := 135) [.int (Int32.ofInt 2)] [] l_Reader_41 (u_Reader_refuse l d_ N15_ (hf_N15_.w hW) 2 (by decide) (by decide)) rfl rfl ((hf_N15_.w hW).ka (o := 4) (by decide)) (by decide) (by decide) (Nat.le_of_ble_eq_true rfl) (zdal_p dlA_Reader_readSum_111 (i := 19) rfl) ?_
              rintro _ N92_ ⟨v93_, rfl, ⟨hv93_a, hv93_b⟩, hsN92_, hp0_N92_⟩
              replace hp0_N92_ : ((v93_ = 0)) := hp0_N92_
              have hf_N92_ : zFc d_ [(1, 2), (1, 3), (1, 4), (1, 5), (4, 1), (4, 2), (4, 3)] [] [(33, 2), (33, 3), (33, 4), (33, 5), (33, 6)] [25, 27, 35] Mz N92_ := hf_N15_.tr hsN92_ (by decide) (by decide) (by decide) (by decide)
              have eA1_2_N92_ : ze N92_ 1 2 = ze N15_ 1 2 := hsN92_.ea (hf_N15_.w hW) (by decide)
              have eA1_3_N92_ : ze N92_ 1 3 = ze N15_ 1 3 := hsN92_.ea (hf_N15_.w hW) (by decide)
              have eA1_5_N92_ : ze N92_ 1 5 = ze N15_ 1 5 := hsN92_.ea (hf_N15_.w hW) (by decide)
              have eA4_1_N92_ : ze N92_ 4 1 = ze N15_ 4 1 := hsN92_.ea (hf_N15_.w hW) (by decide)
              have eD33_2_N92_ : ze N92_ (d_ + 33) 2 = ze N15_ (d_ + 33) 2 := hsN92_.e (by decide)
              have eD33_3_N92_ : ze N92_ (d_ + 33) 3 = ze N15_ (d_ + 33) 3 := hsN92_.e (by decide)
              have eD33_4_N92_ : ze N92_ (d_ + 33) 4 = ze N15_ (d_ + 33) 4 := hsN92_.e (by decide)
              have eD33_5_N92_ : ze N92_ (d_ + 33) 5 = ze N15_ (d_ + 33) 5 := hsN92_.e (by decide)
              have eD33_6_N92_ : ze N92_ (d_ + 33) 6 = ze N15_ (d_ + 33) 6 := hsN92_.e (by decide)
              have qzkS_N92_ : zkS d_ N92_ = zkS d_ N15_ := zkS_q hsN92_ (by decide)
              have qzkG_N92_ : zkG d_ N92_ = zkG d_ N15_ := zkG_q hsN92_ (by decide)
              have qzkW_N92_ : zkW F_ d_ N92_ = zkW F_ d_ N15_ := zkW_q hsN92_ (by decide)
              have c94_ : zYb b_ n_ N92_ := zYb.fr (hf_N15_.w hW) hsN92_ c24_ (by decide)
              have c95_ : zKm F_ K_ d_ N92_ := zKm.fr (hf_N15_.w hW) hsN92_ c25_ (by decide)
              have c96_ : zYt b_ n_ N92_ := zYt.fr (hf_N15_.w hW) hsN92_ i21_ (by decide)
              have c97_ : zNm nm_ F_ K_ d_ N92_ := zNm.fr (hf_N15_.w hW) hsN92_ i22_ (by decide)
              have c98_ : zCI F_ K_ d_ 1 N92_ := zCI.fr (hf_N15_.w hW) hsN92_ hc2_ (by decide)
              rcases hp0_N92_ with rfl
              · skip
                show zW l m_Reader_readSum (zn Mz + 0, zw Mz + 0) N92_ 138 [some (.ref 4), some (.ref (d_ + 0)), some (.ref (d_ + 33)), some (.int (Int32.ofInt 0)), some (.int (Int32.ofInt u14_))] [.int (Int32.ofInt 0)] _
                exact zk_iret (pc := 138) (ty := .boolean) rfl (z_narB (by (exact hu13_z))) ⟨by (exact hu13_a), by (exact hu13_b)⟩ hf_N92_ ⟨c96_, (show ((0 = 1 ∧ zRea (zfs b_ n_ F_ K_ nm_) (0, (ze Mz 1 2).toNat, [], [], 0, false) (zKst 3 F_ d_ N92_) ∧ zCI F_ K_ d_ 1 N92_ ∧ zLow d_ Mz N92_ ∧ zkS d_ N92_ = []) ∨ (0 = 0 ∧ zRea (zfs b_ n_ F_ K_ nm_) (0, (ze Mz 1 2).toNat, [], [], 0, false) zFt ∧ zLow d_ Mz N92_)) from Or.inr (⟨(show 0 = 0 by first | rfl | exact hrt_ | exact hr2_.tr (zRea.st (zs2_f (F := F_) (d := d_) (b := b_) (n := n_) (K := K_) (nm := nm_) hn4_ hn1_ (hc2_.m.mp (by omega)))) | (exfalso; omega) | exact hfl_ | exact hlow_.tr (zLow.f hsN92_ (by decide))), (show zRea (zfs b_ n_ F_ K_ nm_) (0, (ze Mz 1 2).toNat, [], [], 0, false) zFt by first | rfl | exact hrt_ | exact hr2_.tr (zRea.st (zs2_f (F := F_) (d := d_) (b := b_) (n := n_) (K := K_) (nm := nm_) hn4_ hn1_ (hc2_.m.mp (by (exact hc_130))))) | (exfalso; omega) | exact hfl_ | exact hlow_.tr (zLow.f hsN92_ (by decide))), (show zLow d_ Mz N92_ by first | rfl | exact hrt_ | exact hr2_.tr (zRea.st (zs2_f (F := F_) (d := d_) (b := b_) (n := n_) (K := K_) (nm := nm_) hn4_ hn1_ (hc2_.m.mp (by (exact hc_130))))) | (exfalso; omega) | exact hfl_ | exact hlow_.tr (zLow.f hsN92_ (by decide)))⟩))⟩ (zdal_p dlA_Reader_readSum_111 (i := 20) rfl)
          · skip
            exact absurd hc_27 (by decide)
  exact lp_19 _ 1 (by decide) (by decide) (by (decide)) 0 (by decide) (by decide) N7_ zFc.rf (show 0 ≤ (0 : Int) by first | with_reducible assumption | (decide) | assumption) (show (0 : Int) ≤ ze N7_ 4 1 by first | with_reducible assumption | (exact zo_718 hvN7_) | assumption) (show ze N7_ 4 1 ≤ 30 by first | with_reducible assumption | (exact zo_1074 hvN7_) | assumption) (show zLow d_ Mz N7_ by exact hlw0_) c9_ c11_ (show ((1 : Int) = 1 ∧ zRea (zfs b_ n_ F_ K_ nm_) (0, (ze Mz 1 2).toNat, [], [], 0, false) (zKst 0 F_ d_ N7_) ∧ zCI F_ K_ d_ 0 N7_) ∨ ((1 : Int) = 0 ∧ zRea (zfs b_ n_ F_ K_ nm_) (0, (ze Mz 1 2).toNat, [], [], 0, false) (zKst 2 F_ d_ N7_) ∧ zCI F_ K_ d_ 1 N7_ ∧ (zkS d_ N7_).head? ≠ some 1 ∧ ¬ (zisg b_ n_ (ze N7_ 1 2).toNat 42 ∨ zisg b_ n_ (ze N7_ 1 2).toNat 43 ∨ zisg b_ n_ (ze N7_ 1 2).toNat 45) ∧ ¬ (zisg b_ n_ (ze N7_ 1 2).toNat 41 ∧ 0 ∈ zkS d_ N7_)) from Or.inl (⟨(show (1 : Int) = 1 by first | rfl | with_reducible assumption | exact hst0_ | assumption), (show zRea (zfs b_ n_ F_ K_ nm_) (0, (ze Mz 1 2).toNat, [], [], 0, false) (zKst 0 F_ d_ N7_) by first | rfl | with_reducible assumption | exact hst0_ | assumption), (show zCI F_ K_ d_ 0 N7_ by first | rfl | with_reducible assumption | exact hst0_ | assumption)⟩)) (Nat.lt_succ_self _)
def zrg {α : Type} (stp : α → α) : Nat → α → α
  | 0, s => s
  | n + 1, s => zrg stp n (stp s)
def zRg {α : Type} (stp : α → α) (s t : α) : Prop := ∃ n, zrg stp n s = t
theorem zrg_add {α : Type} {stp : α → α} : ∀ (n m : Nat) (s : α), zrg stp (n + m) s = zrg stp m (zrg stp n s)
  | 0, m, s => by rw [Nat.zero_add]; rfl
  | n + 1, m, s => by
    rw [show n + 1 + m = (n + m) + 1 by omega]
    exact zrg_add n m (stp s)
theorem zRg.rf {α : Type} {stp : α → α} {s : α} : zRg stp s s := ⟨0, rfl⟩
theorem zRg.tr {α : Type} {stp : α → α} {s t u : α} (h : zRg stp s t) (h2 : zRg stp t u) : zRg stp s u := by
  obtain ⟨n, rfl⟩ := h
  obtain ⟨m, rfl⟩ := h2
  exact ⟨n + m, zrg_add n m s⟩
theorem zRg.st {α : Type} {stp : α → α} {s t : α} (h : stp s = t) : zRg stp s t := ⟨1, h⟩
theorem zrg_fix {α : Type} {stp : α → α} {t : α} (h : stp t = t) : ∀ n, zrg stp n t = t
  | 0 => rfl
  | n + 1 => by
    show zrg stp n (stp t) = t
    rw [h]
    exact zrg_fix h n
theorem zRg.end {α : Type} {stp : α → α} {s t u : α} (h : zRg stp s t) (h2 : zRg stp s u) (ht : stp t = t) (hu : stp u = u) : t = u := by
  obtain ⟨n, rfl⟩ := h
  obtain ⟨m, rfl⟩ := h2
  rcases Nat.le_total n m with e | e
  · obtain ⟨k, rfl⟩ := Nat.exists_eq_add_of_le e
    rw [zrg_add, zrg_fix ht]
  · obtain ⟨k, rfl⟩ := Nat.exists_eq_add_of_le e
    rw [zrg_add, zrg_fix hu]
noncomputable def zfe (stp : zFst → zFst) (s : zFst) : zFst := @dite _ (∃ t, zRea stp s t ∧ stp t = t) (Classical.propDecidable _) (fun h => Classical.choose h) (fun _ => zFt)
theorem zfe_s {stp : zFst → zFst} {s t : zFst} (h : zRea stp s t) (ht : stp t = t) : zfe stp s = t := by
  have hx : ∃ t, zRea stp s t ∧ stp t = t := ⟨t, h, ht⟩
  unfold zfe
  rw [dif_pos hx]
  have hc := Classical.choose_spec hx
  exact zRea.end hc.1 h hc.2 ht
abbrev zLst : Type := Nat × Nat × List (Int × (Nat → Int))
def zLf : zLst := (2, 0, [])
noncomputable def zle (b : Nat → Int) (n : Nat) (w : Int) (nm : List (Int × (Nat → Int))) : zFst → zLst
  | (3, q, _, v :: _, _, false) => zif (zisg b n q 59) (0, znx b n q, nm ++ [(w, v)]) zLf
  | _ => zLf
noncomputable def zls (b : Nat → Int) (n F : Nat) (K : Nat → Nat → Int) : zLst → zLst
  | (0, p, nm) =>
    zif (zkd b n p = 1 ∧ zkey b n p = zkw 2)
      (zif (nm.length < 8 ∧ zisn b n (znx b n p) ∧ zfd nm (zkey b n (znx b n p)) = none ∧ zisg b n (znx b n (znx b n p)) 61)
        (zle b n (zkey b n (znx b n p)) nm (zfe (zfs b n F K nm) (0, znx b n (znx b n (znx b n p)), [], [], 0, false)))
        zLf)
      (zif (zkd b n p = 0) (1, p, nm) zLf)
  | s => s
section ZLS
variable {b : Nat → Int} {n F p : Nat} {K : Nat → Nat → Int} {nm : List (Int × (Nat → Int))}
theorem zls_0 : zls b n F K (0, p, nm) = zif (zkd b n p = 1 ∧ zkey b n p = zkw 2)
      (zif (nm.length < 8 ∧ zisn b n (znx b n p) ∧ zfd nm (zkey b n (znx b n p)) = none ∧ zisg b n (znx b n (znx b n p)) 61)
        (zle b n (zkey b n (znx b n p)) nm (zfe (zfs b n F K nm) (0, znx b n (znx b n (znx b n p)), [], [], 0, false)))
        zLf)
      (zif (zkd b n p = 0) (1, p, nm) zLf) := rfl
theorem zls_1 : zls b n F K (1, p, nm) = (1, p, nm) := rfl
theorem zls_2 : zls b n F K zLf = zLf := rfl
theorem zfs_F : zfs b n F K nm zFt = zFt := rfl
theorem zls_f (h : zkd b n p = 1 ∧ zkey b n p = zkw 2) (h2 : ¬ (nm.length < 8 ∧ zisn b n (znx b n p) ∧ zfd nm (zkey b n (znx b n p)) = none ∧ zisg b n (znx b n (znx b n p)) 61)) : zls b n F K (0, p, nm) = zLf := by
  rw [zls_0, zif_t h, zif_f h2]
theorem zls_e (h : ¬ (zkd b n p = 1 ∧ zkey b n p = zkw 2)) (h0 : zkd b n p = 0) : zls b n F K (0, p, nm) = (1, p, nm) := by
  rw [zls_0, zif_f h, zif_t h0]
theorem zls_ef (h : ¬ (zkd b n p = 1 ∧ zkey b n p = zkw 2)) (h0 : zkd b n p ≠ 0) : zls b n F K (0, p, nm) = zLf := by
  rw [zls_0, zif_f h, zif_f h0]
theorem zls_g (h : zkd b n p = 1 ∧ zkey b n p = zkw 2) (h2 : nm.length < 8 ∧ zisn b n (znx b n p) ∧ zfd nm (zkey b n (znx b n p)) = none ∧ zisg b n (znx b n (znx b n p)) 61) {t : zFst} (h3 : zRea (zfs b n F K nm) (0, znx b n (znx b n (znx b n p)), [], [], 0, false) t) (ht : zfs b n F K nm t = t) : zls b n F K (0, p, nm) = zle b n (zkey b n (znx b n p)) nm t := by
  rw [zls_0, zif_t h, zif_t h2, zfe_s h3 ht]
theorem zle_f {w : Int} : zle b n w nm zFt = zLf := rfl
theorem zle_b {w : Int} {q un : Nat} {sg : List Nat} {vs : List (Nat → Int)} : zle b n w nm (3, q, sg, vs, un, true) = zLf := by
  cases vs <;> rfl
theorem zle_n {w : Int} {q un : Nat} {sg : List Nat} {vs : List (Nat → Int)} {g : Bool} (h : ¬ zisg b n q 59) : zle b n w nm (3, q, sg, vs, un, g) = zLf := by
  cases g with
  | true => exact zle_b
  | false =>
    cases vs with
    | nil => rfl
    | cons v r =>
      show zif (zisg b n q 59) (0, znx b n q, nm ++ [(w, v)]) zLf = zLf
      rw [zif_f h]
theorem zle_t {w : Int} {q un : Nat} {sg : List Nat} {v : Nat → Int} {vs : List (Nat → Int)} (h : zisg b n q 59) : zle b n w nm (3, q, sg, v :: vs, un, false) = (0, znx b n q, nm ++ [(w, v)]) := by
  show zif (zisg b n q 59) (0, znx b n q, nm ++ [(w, v)]) zLf = _
  rw [zif_t h]
end ZLS
section ZLK
variable {d F n : Nat} {b : Nat → Int} {K : Nat → Nat → Int} {nm : List (Int × (Nat → Int))} {Mz Nz : zMem} {FA : List (Nat × Nat)} {CA : List Nat} {FR : List (Nat × Nat)} {CR : List Nat}
theorem zNm.len (h : zNm nm F K d Mz) : (nm.length : Int) = ze Mz (d + 0) 6 := by
  rw [← h.2.1]
  unfold zNl
  rw [zup_l]
  have := h.1
  omega
theorem zNm.u {w : Int} (h : zNm nm F K d Mz) (h6 : ze Nz (d + 0) 6 = ze Mz (d + 0) 6 + 1) (h8 : ze Mz (d + 0) 6 ≤ 7) (hw : ze Nz (d + 37) (ze Mz (d + 0) 6).toNat = w) (ho : ∀ k : Nat, (k : Int) < ze Mz (d + 0) 6 → ze Nz (d + 37) k = ze Mz (d + 37) k) (hv : zvc F d Nz (1 + ze Mz (d + 0) 6) = zvc F d Mz 21) (hvo : ∀ k : Nat, (k : Int) < ze Mz (d + 0) 6 → zvc F d Nz (1 + k) = zvc F d Mz (1 + k)) (hf : zfit F K (zvc F d Mz 21)) : zNm (nm ++ [(w, zvc F d Mz 21)]) F K d Nz := by
  obtain ⟨a1, a2, a3⟩ := h
  refine ⟨by omega, ?_, fun k hk => ?_⟩
  · rw [← a2]
    unfold zNl
    rw [h6, show (ze Mz (d + 0) 6 + 1).toNat = (ze Mz (d + 0) 6).toNat + 1 by omega, zup_s, Nat.zero_add]
    congr 1
    · exact zup_c _ _ (fun j _ hj => by
        unfold zNe
        rw [ho j (by omega), hvo j (by omega)])
    · unfold zNe
      rw [hw, show (1 : Int) + ((ze Mz (d + 0) 6).toNat : Int) = 1 + ze Mz (d + 0) 6 by omega, hv]
  · by_cases g : (k : Int) = ze Mz (d + 0) 6
    · rw [g, hv]
      exact hf
    · rw [hvo k (by omega)]
      exact a3 k (by omega)
theorem zKst_3 (hS : zkS d Mz = []) (hI : zCI F K d 1 Mz) : ze Mz (d + 33) 3 = 1 ∧ zfit F K (zvc F d Mz 21) ∧ ((ze Mz (d + 33) 6 = 0 ∧ zKst 3 F d Mz = (3, (ze Mz 1 2).toNat, [], [zvc F d Mz 21], (ze Mz 4 1).toNat, false)) ∨ (ze Mz (d + 33) 6 = 1 ∧ zKst 3 F d Mz = (3, (ze Mz 1 2).toNat, [], [], (ze Mz 4 1).toNat, true))) := by
  obtain ⟨a1, a2, a3, a4, a5, a6, a7, a8, a9⟩ := hI
  have h3 : ze Mz (d + 33) 3 = 1 := by
    rw [hS] at a5
    exact a5
  refine ⟨h3, a9 21 (by omega) (by omega), ?_⟩
  rcases a6 with h | h
  · have hG : zkG d Mz = false := by
      unfold zkG
      rw [h]
      rfl
    refine Or.inl ⟨h, ?_⟩
    unfold zKst zkW
    rw [hS, hG]
    unfold zkV
    rw [h3]
    rfl
  · have hG : zkG d Mz = true := by
      unfold zkG
      rw [h]
      rfl
    refine Or.inr ⟨h, ?_⟩
    unfold zKst zkW
    rw [hS, hG]
    rfl
end ZLK
