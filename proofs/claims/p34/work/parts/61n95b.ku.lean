set_option maxHeartbeats 4000000 in
theorem u_T_troupeU (l : Launch) (d_ : Nat) (Mz : zMem) (hW : zKW d_ Mz) (d2_ : Nat) (hdd_ : (d_ = 5 ∧ d2_ = 43) ∨ (d_ = 43 ∧ d2_ = 5)) (hnow : zf Mz 0 2 = some (d2_ + 0)) (hsp : zf Mz 0 3 = some (d_ + 0)) (b_ : Nat → Int) (n_ : Nat) (p0_ : zYb b_ n_ Mz) : zC l m_T_troupe 0 0 [.ref 0] Mz (zqTrU d_ d2_ b_ n_ Mz) := by
  refine zC_of (L0 := [some (.ref 0), none, none]) md_T_troupe (Nat.le_of_ble_eq_true rfl) rfl ?_ zQ0
  have hf : zFc d_ [(0, 2), (0, 3), (1, 1), (1, 2), (1, 3), (1, 4), (1, 5), (4, 1), (4, 2), (4, 3)] [] [(0, 6), (0, 7), (0, 8), (1, 5), (1, 6), (1, 7), (12, 6), (12, 7), (28, 4), (33, 2), (33, 3), (33, 4), (33, 5), (33, 6)] [3, 5, 7, 9, 11, 14, 16, 20, 22, 25, 27, 35, 37] Mz Mz := zFc.rf
  have r_A1_1 := ze_r Mz 1 1
  have r_A1_2 := ze_r Mz 1 2
  have r_D0_6 := ze_r Mz (d_ + 0) 6
  have r_D1_7 := ze_r Mz (d_ + 1) 7
  have r_D28_4 := ze_r Mz (d_ + 28) 4
  refine zw_aload_n (pc := 0) (n := 0) (x := 0) rfl (zdal_p dlA_T_troupe_67 (i := 0) rfl) ?_
  refine zw_getF (pc := 1) f_T_32 rfl ((hf.w hW).ka (o := 0) (by decide)) (hf.sp hsp) (zdal_p dlA_T_troupe_67 (i := 1) rfl) ?_
  refine zw_astore_n (pc := 4) (i := 1) (L2 := [some (.ref 0), some (.ref (d_ + 0)), none]) rfl (by decide) rfl (zdal_p dlA_T_troupe_67 (i := 2) rfl) ?_
  refine zw_aload_n (pc := 5) (n := 0) (x := 0) rfl (zdal_p dlA_T_troupe_67 (i := 3) rfl) ?_
  refine zw_getF (pc := 6) f_T_21 rfl ((hf.w hW).ka (o := 0) (by decide)) ((hf.w hW).la (o := 0) (s := 1) (r := 4) (by decide)) (zdal_p dlA_T_troupe_67 (i := 4) rfl) ?_
  refine zk_callV hf.x (pc := 9) [] [] l_T_49 (u_Reader_begin l d_ Mz (hf.w hW) b_ n_ p0_) rfl rfl ((hf.w hW).ka (o := 4) (by decide)) (by decide) (by decide) (Nat.le_of_ble_eq_true rfl) (zdal_p dlA_T_troupe_67 (i := 5) rfl) ?_
  rintro _ N1_ ⟨rfl, hsN1_, ⟨hp0_N1_, hp1_N1_⟩⟩
  have hf_N1_ : zFc d_ [(0, 2), (0, 3), (1, 1), (1, 2), (1, 3), (1, 4), (1, 5), (4, 1), (4, 2), (4, 3)] [] [(0, 6), (0, 7), (0, 8), (1, 5), (1, 6), (1, 7), (12, 6), (12, 7), (28, 4), (33, 2), (33, 3), (33, 4), (33, 5), (33, 6)] [3, 5, 7, 9, 11, 14, 16, 20, 22, 25, 27, 35, 37] Mz N1_ := hf.tr hsN1_ (by decide) (by decide) (by decide) (by decide)
  have eA1_1_N1_ : ze N1_ 1 1 = ze Mz 1 1 := hsN1_.ea (hf.w hW) (by decide)
  have rA1_2_N1_ := ze_r N1_ 1 2
  have eD0_6_N1_ : ze N1_ (d_ + 0) 6 = ze Mz (d_ + 0) 6 := hsN1_.e (by decide)
  have eD1_7_N1_ : ze N1_ (d_ + 1) 7 = ze Mz (d_ + 1) 7 := hsN1_.e (by decide)
  have eD28_4_N1_ : ze N1_ (d_ + 28) 4 = ze Mz (d_ + 28) 4 := hsN1_.e (by decide)
  have c3_ : zYb b_ n_ N1_ := zYb.fr (hf.w hW) hsN1_ p0_ (by decide)
  show zW l m_T_troupe (zn Mz + 0, zw Mz + 0) N1_ 12 [some (.ref 0), some (.ref (d_ + 0)), none] [] (zqTrU d_ d2_ b_ n_ Mz)
  have hs0_ : (ze N1_ 1 2).toNat = (zru zpB b_ n_ 0) := by have h0_ := hp0_N1_; omega
  refine zw_aload_n (pc := 12) (n := 0) (x := 0) rfl (zdal_p dlA_T_troupe_67 (i := 6) rfl) ?_
  refine zw_getF (pc := 13) f_T_21 rfl ((hf_N1_.w hW).ka (o := 0) (by decide)) ((hf_N1_.w hW).la (o := 0) (s := 1) (r := 4) (by decide)) (zdal_p dlA_T_troupe_67 (i := 7) rfl) ?_
  refine zw_aload_n (pc := 16) (n := 1) (x := (d_ + 0)) rfl (zdal_p dlA_T_troupe_67 (i := 8) rfl) ?_
  refine zk_callV hf_N1_.x (pc := 17) [.ref (d_ + 0)] [] l_T_51 (u_Reader_readPlaces l d_ N1_ (hf_N1_.w hW) b_ n_ c3_ hp1_N1_) rfl rfl ((hf_N1_.w hW).ka (o := 4) (by decide)) (by decide) (by decide) (Nat.le_of_ble_eq_true rfl) (zdal_p dlA_T_troupe_67 (i := 9) rfl) ?_
  rintro _ N4_ ⟨v5_, rfl, ⟨hv5_a, hv5_b⟩, hsN4_, ⟨hp0_N4_, hp1_N4_⟩⟩
  have hf_N4_ : zFc d_ [(0, 2), (0, 3), (1, 1), (1, 2), (1, 3), (1, 4), (1, 5), (4, 1), (4, 2), (4, 3)] [] [(0, 6), (0, 7), (0, 8), (1, 5), (1, 6), (1, 7), (12, 6), (12, 7), (28, 4), (33, 2), (33, 3), (33, 4), (33, 5), (33, 6)] [3, 5, 7, 9, 11, 14, 16, 20, 22, 25, 27, 35, 37] Mz N4_ := hf_N1_.tr hsN4_ (by decide) (by decide) (by decide) (by decide)
  have eA1_1_N4_ : ze N4_ 1 1 = ze N1_ 1 1 := hsN4_.ea (hf_N1_.w hW) (by decide)
  have rA1_2_N4_ := ze_r N4_ 1 2
  have rD0_6_N4_ := ze_r N4_ (d_ + 0) 6
  have rD1_7_N4_ := ze_r N4_ (d_ + 1) 7
  have eD28_4_N4_ : ze N4_ (d_ + 28) 4 = ze N1_ (d_ + 28) 4 := hsN4_.e (by decide)
  have c6_ : zYb b_ n_ N4_ := zYb.fr (hf_N1_.w hW) hsN4_ c3_ (by decide)
  rcases hp1_N4_ with ⟨rfl, ha17_0_hp1_N4_, ha17_1_hp1_N4_⟩ | ⟨rfl, ha17_0_hp1_N4_⟩
  · skip
    obtain ⟨P_, hHd_, hmv0_, hgg0_⟩ := id ha17_0_hp1_N4_
    have h60_ := ha17_1_hp1_N4_
    rw [hs0_] at hHd_
    show zW l m_T_troupe (zn Mz + 0, zw Mz + 0) N4_ 20 [some (.ref 0), some (.ref (d_ + 0)), none] [.int (Int32.ofInt 1)] (zqTrU d_ d2_ b_ n_ Mz)
    refine zr_if_eq (pc := 20) (tgt := 38) ⟨(by decide), (by decide)⟩ (by decide) (zdal_p dlA_T_troupe_67 (i := 10) rfl) (fun hc_20 => ?_) (fun hc_20 => ?_)
    · skip
      exact absurd hc_20 (by decide)
    · skip
      refine zw_aload_n (pc := 23) (n := 0) (x := 0) rfl (zdal_p dlA_T_troupe_67 (i := 11) rfl) ?_
      refine zw_getF (pc := 24) f_T_21 rfl ((hf_N4_.w hW).ka (o := 0) (by decide)) ((hf_N4_.w hW).la (o := 0) (s := 1) (r := 4) (by decide)) (zdal_p dlA_T_troupe_67 (i := 12) rfl) ?_
      refine zw_aload_n (pc := 27) (n := 1) (x := (d_ + 0)) rfl (zdal_p dlA_T_troupe_67 (i := 13) rfl) ?_
      refine zk_callV hf_N4_.x (pc := 28) [.ref (d_ + 0)] [] l_T_55 (u_Reader_readMoves l d_ N4_ (hf_N4_.w hW) b_ n_ P_ c6_ hp0_N4_ hmv0_ hgg0_) rfl rfl ((hf_N4_.w hW).ka (o := 4) (by decide)) (by decide) (by decide) (Nat.le_of_ble_eq_true rfl) (zdal_p dlA_T_troupe_67 (i := 14) rfl) ?_
      rintro _ N7_ ⟨v8_, rfl, ⟨hv8_a, hv8_b⟩, hsN7_, ⟨hp0_N7_, hp1_N7_⟩⟩
      have hf_N7_ : zFc d_ [(0, 2), (0, 3), (1, 1), (1, 2), (1, 3), (1, 4), (1, 5), (4, 1), (4, 2), (4, 3)] [] [(0, 6), (0, 7), (0, 8), (1, 5), (1, 6), (1, 7), (12, 6), (12, 7), (28, 4), (33, 2), (33, 3), (33, 4), (33, 5), (33, 6)] [3, 5, 7, 9, 11, 14, 16, 20, 22, 25, 27, 35, 37] Mz N7_ := hf_N4_.tr hsN7_ (by decide) (by decide) (by decide) (by decide)
      have eA1_1_N7_ : ze N7_ 1 1 = ze N4_ 1 1 := hsN7_.ea (hf_N4_.w hW) (by decide)
      have rA1_2_N7_ := ze_r N7_ 1 2
      have eD0_6_N7_ : ze N7_ (d_ + 0) 6 = ze N4_ (d_ + 0) 6 := hsN7_.e (by decide)
      have rD1_7_N7_ := ze_r N7_ (d_ + 1) 7
      have eD28_4_N7_ : ze N7_ (d_ + 28) 4 = ze N4_ (d_ + 28) 4 := hsN7_.e (by decide)
      have c9_ : zYb b_ n_ N7_ := zYb.fr (hf_N4_.w hW) hsN7_ c6_ (by decide)
      rcases hp1_N7_ with ⟨rfl, ha28_0_hp1_N7_⟩ | ⟨rfl, ha28_0_hp1_N7_⟩
      · skip
        obtain ⟨mv_, hrb_, hmv_, hgg_, hpm_⟩ := id ha28_0_hp1_N7_
        show zW l m_T_troupe (zn Mz + 0, zw Mz + 0) N7_ 31 [some (.ref 0), some (.ref (d_ + 0)), none] [.int (Int32.ofInt 1)] (zqTrU d_ d2_ b_ n_ Mz)
        refine zr_if_eq (pc := 31) (tgt := 38) ⟨(by decide), (by decide)⟩ (by decide) (zdal_p dlA_T_troupe_67 (i := 15) rfl) (fun hc_31 => ?_) (fun hc_31 => ?_)
        · skip
          exact absurd hc_31 (by decide)
        · skip
          refine zw_iconst (pc := 34) (v := Int32.ofInt 1) (by decide) (zdal_p dlA_T_troupe_67 (i := 16) rfl) ?_
          refine zw_goto (pc := 35) (tgt := 39) (by decide) (zdal_p dlA_T_troupe_67 (i := 17) rfl) ?_
          refine zw_istore_n (pc := 39) (i := 2) (L2 := [some (.ref 0), some (.ref (d_ + 0)), some (.int (Int32.ofInt 1))]) rfl (by decide) rfl (zdal_p dlA_T_troupe_67 (i := 19) rfl) ?_
          refine zw_iload_n (pc := 40) (n := 2) (x := Int32.ofInt 1) rfl (zdal_p dlA_T_troupe_67 (i := 20) rfl) ?_
          refine zr_if_eq (pc := 41) (tgt := 57) ⟨(by decide), (by decide)⟩ (by decide) (zdal_p dlA_T_troupe_67 (i := 21) rfl) (fun hc_41 => ?_) (fun hc_41 => ?_)
          · skip
            exact absurd hc_41 (by decide)
          · skip
            refine zw_aload_n (pc := 44) (n := 1) (x := (d_ + 0)) rfl (zdal_p dlA_T_troupe_67 (i := 22) rfl) ?_
            refine zk_callV hf_N7_.x (pc := 45) [] [] l_T_39 (u_Troupe_settleU l d_ N7_ (hf_N7_.w hW) P_ mv_ hpm_ hmv_ hgg_) rfl rfl ((hf_N7_.w hW).kr (o := 0) (by decide)) (by decide) (by decide) (Nat.le_of_ble_eq_true rfl) (zdal_p dlA_T_troupe_67 (i := 23) rfl) ?_
            rintro _ N10_ ⟨rfl, hsN10_, ⟨hp0_N10_, hp1_N10_, hp2_N10_⟩⟩
            have hf_N10_ : zFc d_ [(0, 2), (0, 3), (1, 1), (1, 2), (1, 3), (1, 4), (1, 5), (4, 1), (4, 2), (4, 3)] [] [(0, 6), (0, 7), (0, 8), (1, 5), (1, 6), (1, 7), (12, 6), (12, 7), (28, 4), (33, 2), (33, 3), (33, 4), (33, 5), (33, 6)] [3, 5, 7, 9, 11, 14, 16, 20, 22, 25, 27, 35, 37] Mz N10_ := hf_N7_.tr hsN10_ (by decide) (by decide) (by decide) (by decide)
            have eA1_1_N10_ : ze N10_ 1 1 = ze N7_ 1 1 := hsN10_.ea (hf_N7_.w hW) (by decide)
            have eA1_2_N10_ : ze N10_ 1 2 = ze N7_ 1 2 := hsN10_.ea (hf_N7_.w hW) (by decide)
            have eD0_6_N10_ : ze N10_ (d_ + 0) 6 = ze N7_ (d_ + 0) 6 := hsN10_.e (by decide)
            have eD1_7_N10_ : ze N10_ (d_ + 1) 7 = ze N7_ (d_ + 1) 7 := hsN10_.e (by decide)
            have rD28_4_N10_ := ze_r N10_ (d_ + 28) 4
            have c12_ : zYb b_ n_ N10_ := zYb.fr (hf_N7_.w hW) hsN10_ c9_ (by decide)
            have c13_ : zYt b_ n_ N10_ := zYt.fr (hf_N7_.w hW) hsN10_ hp0_N7_ (by decide)
            have c14_ : zMvK mv_ P_ d_ N10_ := zMvK.fr (hf_N7_.w hW) hsN10_ hmv_ (by decide)
            show zW l m_T_troupe (zn Mz + 0, zw Mz + 0) N10_ 48 [some (.ref 0), some (.ref (d_ + 0)), some (.int (Int32.ofInt 1))] [] (zqTrU d_ d2_ b_ n_ Mz)
            obtain ⟨T_, hT_, hTm_, hKm_, h7_, htt_, hgc_, hfi_, hsb_⟩ := id hp0_N10_
            have h61_ := hp1_N10_
            have hnm0_ : zNm [] (gF T_).length (gmkI T_) d_ N10_ := zNm_z (by omega)
            have h28_ := hp2_N10_
            refine zw_aload_n (pc := 48) (n := 0) (x := 0) rfl (zdal_p dlA_T_troupe_68 (i := 0) rfl) ?_
            refine zw_getF (pc := 49) f_T_21 rfl ((hf_N10_.w hW).ka (o := 0) (by decide)) ((hf_N10_.w hW).la (o := 0) (s := 1) (r := 4) (by decide)) (zdal_p dlA_T_troupe_68 (i := 1) rfl) ?_
            refine zw_aload_n (pc := 52) (n := 1) (x := (d_ + 0)) rfl (zdal_p dlA_T_troupe_68 (i := 2) rfl) ?_
            refine zk_callV hf_N10_.x (pc := 53) [.ref (d_ + 0)] [] l_T_58 (u_Reader_readLets l d_ N10_ (hf_N10_.w hW) b_ n_ (gF T_).length (gmkI T_) (gT_zTA hT_) [] c12_ c13_ hKm_ hnm0_) rfl rfl ((hf_N10_.w hW).ka (o := 4) (by decide)) (by decide) (by decide) (Nat.le_of_ble_eq_true rfl) (zdal_p dlA_T_troupe_68 (i := 3) rfl) ?_
            rintro _ N15_ ⟨v16_, rfl, ⟨hv16_a, hv16_b⟩, hsN15_, hp0_N15_⟩
            replace hp0_N15_ : ((v16_ = 1 ∧ (∃ q nm, zRg (zls b_ n_ (gF T_).length (gmkI T_)) (0, (ze N10_ 1 2).toNat, []) (1, q, nm))) ∨ (v16_ = 0 ∧ zRg (zls b_ n_ (gF T_).length (gmkI T_)) (0, (ze N10_ 1 2).toNat, []) zLf)) := hp0_N15_
            have hf_N15_ : zFc d_ [(0, 2), (0, 3), (1, 1), (1, 2), (1, 3), (1, 4), (1, 5), (4, 1), (4, 2), (4, 3)] [] [(0, 6), (0, 7), (0, 8), (1, 5), (1, 6), (1, 7), (12, 6), (12, 7), (28, 4), (33, 2), (33, 3), (33, 4), (33, 5), (33, 6)] [3, 5, 7, 9, 11, 14, 16, 20, 22, 25, 27, 35, 37] Mz N15_ := hf_N10_.tr hsN15_ (by decide) (by decide) (by decide) (by decide)
            have eA1_1_N15_ : ze N15_ 1 1 = ze N10_ 1 1 := hsN15_.ea (hf_N10_.w hW) (by decide)
            have rA1_2_N15_ := ze_r N15_ 1 2
            have rD0_6_N15_ := ze_r N15_ (d_ + 0) 6
            have eD1_7_N15_ : ze N15_ (d_ + 1) 7 = ze N10_ (d_ + 1) 7 := hsN15_.e (by decide)
            have eD28_4_N15_ : ze N15_ (d_ + 28) 4 = ze N10_ (d_ + 28) 4 := hsN15_.e (by decide)
            have c17_ : zYb b_ n_ N15_ := zYb.fr (hf_N10_.w hW) hsN15_ c12_ (by decide)
            have c18_ : zMvK mv_ P_ d_ N15_ := zMvK.fr (hf_N10_.w hW) hsN15_ c14_ (by decide)
            have c19_ : zSbK T_ d_ N15_ := zSbK.fr (hf_N10_.w hW) hsN15_ hsb_ (by decide)
            have c20_ : zTt T_ d_ N15_ := zTt.fr (hf_N10_.w hW) hsN15_ htt_ (by decide)
            have c21_ : zGc mv_ P_ T_ d_ N15_ := zGc.fr (hf_N10_.w hW) hsN15_ hgc_ (by decide)
            have c22_ : zFir T_ d_ N15_ := zFir.fr (hf_N10_.w hW) hsN15_ hfi_ (by decide)
            have c23_ : zKm (gF T_).length (gmkI T_) d_ N15_ := zKm.fr (hf_N10_.w hW) hsN15_ hKm_ (by decide)
            rcases hp0_N15_ with ⟨rfl, ha53_0_hp0_N15_⟩ | ⟨rfl, ha53_0_hp0_N15_⟩
            · skip
              obtain ⟨q3_, nm3_, hrl_⟩ := id ha53_0_hp0_N15_
              rw [show ze N10_ 1 2 = ze N7_ 1 2 by omega] at hrl_
              have hG_ : zTrP b_ n_ (zru zpB b_ n_ 0) P_ mv_ T_ := ⟨_, _, q3_, nm3_, hHd_, hrb_, hT_, hTm_, hrl_⟩
              show zW l m_T_troupe (zn Mz + 0, zw Mz + 0) N15_ 56 [some (.ref 0), some (.ref (d_ + 0)), some (.int (Int32.ofInt 1))] [.int (Int32.ofInt 1)] (zqTrU d_ d2_ b_ n_ Mz)
              refine zw_istore_n (pc := 56) (i := 2) (L2 := [some (.ref 0), some (.ref (d_ + 0)), some (.int (Int32.ofInt 1))]) rfl (by decide) rfl (zdal_p dlA_T_troupe_68 (i := 4) rfl) ?_
              refine zw_aload_n (pc := 57) (n := 0) (x := 0) rfl (zdal_p dlA_T_troupe_68 (i := 5) rfl) ?_
              refine zw_getF (pc := 58) f_T_10 rfl ((hf_N15_.w hW).ka (o := 0) (by decide)) ((hf_N15_.w hW).la (o := 0) (s := 0) (r := 1) (by decide)) (zdal_p dlA_T_troupe_68 (i := 6) rfl) ?_
              refine zw_iconst (pc := 61) (v := Int32.ofInt 0) (by decide) (zdal_p dlA_T_troupe_68 (i := 7) rfl) ?_
              refine zk_putA (pc := 62) (hf_N15_.w hW) (by decide) f_T_42 rfl rfl ((hf_N15_.w hW).ka (o := 1) (by decide)) ⟨by omega, by omega⟩ rfl rfl (zdal_p dlA_T_troupe_68 (i := 8) rfl) (fun N24_ hsN24_ hvN24_ => ?_)
              have hf_N24_ : zFc d_ [(0, 2), (0, 3), (1, 1), (1, 2), (1, 3), (1, 4), (1, 5), (4, 1), (4, 2), (4, 3)] [] [(0, 6), (0, 7), (0, 8), (1, 5), (1, 6), (1, 7), (12, 6), (12, 7), (28, 4), (33, 2), (33, 3), (33, 4), (33, 5), (33, 6)] [3, 5, 7, 9, 11, 14, 16, 20, 22, 25, 27, 35, 37] Mz N24_ := hf_N15_.tr hsN24_ (by decide) (by decide) (by decide) (by decide)
              have rA1_1_N24_ := ze_r N24_ 1 1
              have eA1_2_N24_ : ze N24_ 1 2 = ze N15_ 1 2 := hsN24_.ea (hf_N15_.w hW) (by decide)
              have eD0_6_N24_ : ze N24_ (d_ + 0) 6 = ze N15_ (d_ + 0) 6 := hsN24_.e (by decide)
              have eD1_7_N24_ : ze N24_ (d_ + 1) 7 = ze N15_ (d_ + 1) 7 := hsN24_.e (by decide)
              have eD28_4_N24_ : ze N24_ (d_ + 28) 4 = ze N15_ (d_ + 28) 4 := hsN24_.e (by decide)
              have c25_ : zMvK mv_ P_ d_ N24_ := zMvK.fr (hf_N15_.w hW) hsN24_ c18_ (by decide)
              have c26_ : zSbK T_ d_ N24_ := zSbK.fr (hf_N15_.w hW) hsN24_ c19_ (by decide)
              have c27_ : zTt T_ d_ N24_ := zTt.fr (hf_N15_.w hW) hsN24_ c20_ (by decide)
              have c28_ : zGc mv_ P_ T_ d_ N24_ := zGc.fr (hf_N15_.w hW) hsN24_ c21_ (by decide)
              have c29_ : zFir T_ d_ N24_ := zFir.fr (hf_N15_.w hW) hsN24_ c22_ (by decide)
              have c30_ : zKm (gF T_).length (gmkI T_) d_ N24_ := zKm.fr (hf_N15_.w hW) hsN24_ c23_ (by decide)
              refine zw_iload_n (pc := 65) (n := 2) (x := Int32.ofInt 1) rfl (zdal_p dlA_T_troupe_68 (i := 9) rfl) ?_
              refine zr_if_ne (pc := 66) (tgt := 71) ⟨(by decide), (by decide)⟩ (by decide) (zdal_p dlA_T_troupe_68 (i := 10) rfl) (fun hc_66 => ?_) (fun hc_66 => ?_)
              · skip
                have h10_ : ze N24_ 1 1 = 0 := by omega
                have hks_ : zKS P_ mv_ T_ d_ N24_ := ⟨c25_, c28_, c27_, c29_, c30_, c26_⟩
                have h284_ : ze N24_ (d_ + 28) 4 = 0 := by omega
                exact zk_swapU hf_N24_ hW hnow (by decide) h10_ hG_ ⟨hks_, h284_⟩
              · skip
                exact absurd hc_66 (by decide)
            · skip
              have hrl_ := ha53_0_hp0_N15_
              rw [show ze N10_ 1 2 = ze N7_ 1 2 by omega] at hrl_
              have hB_ : zTrB b_ n_ (zru zpB b_ n_ 0) := Or.inr (Or.inr ⟨P_, _, _, mv_, T_, hHd_, hrb_, hT_, hTm_, hrl_⟩)
              show zW l m_T_troupe (zn Mz + 0, zw Mz + 0) N15_ 56 [some (.ref 0), some (.ref (d_ + 0)), some (.int (Int32.ofInt 1))] [.int (Int32.ofInt 0)] (zqTrU d_ d2_ b_ n_ Mz)
              refine zw_istore_n (pc := 56) (i := 2) (L2 := [some (.ref 0), some (.ref (d_ + 0)), some (.int (Int32.ofInt 0))]) rfl (by decide) rfl (zdal_p dlA_T_troupe_68 (i := 4) rfl) ?_
              refine zw_aload_n (pc := 57) (n := 0) (x := 0) rfl (zdal_p dlA_T_troupe_68 (i := 5) rfl) ?_
              refine zw_getF (pc := 58) f_T_10 rfl ((hf_N15_.w hW).ka (o := 0) (by decide)) ((hf_N15_.w hW).la (o := 0) (s := 0) (r := 1) (by decide)) (zdal_p dlA_T_troupe_68 (i := 6) rfl) ?_
              refine zw_iconst (pc := 61) (v := Int32.ofInt 0) (by decide) (zdal_p dlA_T_troupe_68 (i := 7) rfl) ?_
              refine zk_putA (pc := 62) (hf_N15_.w hW) (by decide) f_T_42 rfl rfl ((hf_N15_.w hW).ka (o := 1) (by decide)) ⟨by omega, by omega⟩ rfl rfl (zdal_p dlA_T_troupe_68 (i := 8) rfl) (fun N31_ hsN31_ hvN31_ => ?_)
              have hf_N31_ : zFc d_ [(0, 2), (0, 3), (1, 1), (1, 2), (1, 3), (1, 4), (1, 5), (4, 1), (4, 2), (4, 3)] [] [(0, 6), (0, 7), (0, 8), (1, 5), (1, 6), (1, 7), (12, 6), (12, 7), (28, 4), (33, 2), (33, 3), (33, 4), (33, 5), (33, 6)] [3, 5, 7, 9, 11, 14, 16, 20, 22, 25, 27, 35, 37] Mz N31_ := hf_N15_.tr hsN31_ (by decide) (by decide) (by decide) (by decide)
              have rA1_1_N31_ := ze_r N31_ 1 1
              have eA1_2_N31_ : ze N31_ 1 2 = ze N15_ 1 2 := hsN31_.ea (hf_N15_.w hW) (by decide)
              have eD0_6_N31_ : ze N31_ (d_ + 0) 6 = ze N15_ (d_ + 0) 6 := hsN31_.e (by decide)
              have eD1_7_N31_ : ze N31_ (d_ + 1) 7 = ze N15_ (d_ + 1) 7 := hsN31_.e (by decide)
              have eD28_4_N31_ : ze N31_ (d_ + 28) 4 = ze N15_ (d_ + 28) 4 := hsN31_.e (by decide)
              have c32_ : zMvK mv_ P_ d_ N31_ := zMvK.fr (hf_N15_.w hW) hsN31_ c18_ (by decide)
              have c33_ : zSbK T_ d_ N31_ := zSbK.fr (hf_N15_.w hW) hsN31_ c19_ (by decide)
              have c34_ : zTt T_ d_ N31_ := zTt.fr (hf_N15_.w hW) hsN31_ c20_ (by decide)
              have c35_ : zGc mv_ P_ T_ d_ N31_ := zGc.fr (hf_N15_.w hW) hsN31_ c21_ (by decide)
              have c36_ : zFir T_ d_ N31_ := zFir.fr (hf_N15_.w hW) hsN31_ c22_ (by decide)
              have c37_ : zKm (gF T_).length (gmkI T_) d_ N31_ := zKm.fr (hf_N15_.w hW) hsN31_ c23_ (by decide)
              refine zw_iload_n (pc := 65) (n := 2) (x := Int32.ofInt 0) rfl (zdal_p dlA_T_troupe_68 (i := 9) rfl) ?_
              refine zr_if_ne (pc := 66) (tgt := 71) ⟨(by decide), (by decide)⟩ (by decide) (zdal_p dlA_T_troupe_68 (i := 10) rfl) (fun hc_66 => ?_) (fun hc_66 => ?_)
              · skip
                exact absurd hc_66 (by decide)
              · skip
                have h10_ : ze N31_ 1 1 = 0 := by omega
                refine zw_iconst (pc := 69) (v := Int32.ofInt (-1)) (by decide) (zdal_p dlA_T_troupe_68 (i := 11) rfl) ?_
                exact zw_iret (S := []) (pc := 70) (ty := .int) rfl rfl (zdal_p dlA_T_troupe_68 (i := 12) rfl) ⟨-1, rfl, ⟨by decide, by decide⟩, h10_, zSwp_0 hf_N31_ hW (by decide), Or.inl ⟨rfl, hB_, hf_N31_.2.2.1, hf_N31_.ot hdd_ (by decide)⟩⟩
      · skip
        have hB_ : zTrB b_ n_ (zru zpB b_ n_ 0) := Or.inr (Or.inl ⟨P_, _, hHd_, ha28_0_hp1_N7_⟩)
        show zW l m_T_troupe (zn Mz + 0, zw Mz + 0) N7_ 31 [some (.ref 0), some (.ref (d_ + 0)), none] [.int (Int32.ofInt 0)] (zqTrU d_ d2_ b_ n_ Mz)
        refine zr_if_eq (pc := 31) (tgt := 38) ⟨(by decide), (by decide)⟩ (by decide) (zdal_p dlA_T_troupe_67 (i := 15) rfl) (fun hc_31 => ?_) (fun hc_31 => ?_)
        · skip
          refine zw_iconst (pc := 38) (v := Int32.ofInt 0) (by decide) (zdal_p dlA_T_troupe_67 (i := 18) rfl) ?_
          refine zw_istore_n (pc := 39) (i := 2) (L2 := [some (.ref 0), some (.ref (d_ + 0)), some (.int (Int32.ofInt 0))]) rfl (by decide) rfl (zdal_p dlA_T_troupe_67 (i := 19) rfl) ?_
          refine zw_iload_n (pc := 40) (n := 2) (x := Int32.ofInt 0) rfl (zdal_p dlA_T_troupe_67 (i := 20) rfl) ?_
          refine zr_if_eq (pc := 41) (tgt := 57) ⟨(by decide), (by decide)⟩ (by decide) (zdal_p dlA_T_troupe_67 (i := 21) rfl) (fun hc_41 => ?_) (fun hc_41 => ?_)
          · skip
            refine zw_aload_n (pc := 57) (n := 0) (x := 0) rfl (zdal_p dlA_T_troupe_68 (i := 5) rfl) ?_
            refine zw_getF (pc := 58) f_T_10 rfl ((hf_N7_.w hW).ka (o := 0) (by decide)) ((hf_N7_.w hW).la (o := 0) (s := 0) (r := 1) (by decide)) (zdal_p dlA_T_troupe_68 (i := 6) rfl) ?_
            refine zw_iconst (pc := 61) (v := Int32.ofInt 0) (by decide) (zdal_p dlA_T_troupe_68 (i := 7) rfl) ?_
            refine zk_putA (pc := 62) (hf_N7_.w hW) (by decide) f_T_42 rfl rfl ((hf_N7_.w hW).ka (o := 1) (by decide)) ⟨by omega, by omega⟩ rfl rfl (zdal_p dlA_T_troupe_68 (i := 8) rfl) (fun N38_ hsN38_ hvN38_ => ?_)
            have hf_N38_ : zFc d_ [(0, 2), (0, 3), (1, 1), (1, 2), (1, 3), (1, 4), (1, 5), (4, 1), (4, 2), (4, 3)] [] [(0, 6), (0, 7), (0, 8), (1, 5), (1, 6), (1, 7), (12, 6), (12, 7), (28, 4), (33, 2), (33, 3), (33, 4), (33, 5), (33, 6)] [3, 5, 7, 9, 11, 14, 16, 20, 22, 25, 27, 35, 37] Mz N38_ := hf_N7_.tr hsN38_ (by decide) (by decide) (by decide) (by decide)
            have rA1_1_N38_ := ze_r N38_ 1 1
            have eA1_2_N38_ : ze N38_ 1 2 = ze N7_ 1 2 := hsN38_.ea (hf_N7_.w hW) (by decide)
            have eD0_6_N38_ : ze N38_ (d_ + 0) 6 = ze N7_ (d_ + 0) 6 := hsN38_.e (by decide)
            have eD1_7_N38_ : ze N38_ (d_ + 1) 7 = ze N7_ (d_ + 1) 7 := hsN38_.e (by decide)
            have eD28_4_N38_ : ze N38_ (d_ + 28) 4 = ze N7_ (d_ + 28) 4 := hsN38_.e (by decide)
            have c39_ : zYt b_ n_ N38_ := zYt.fr (hf_N7_.w hW) hsN38_ hp0_N7_ (by decide)
            refine zw_iload_n (pc := 65) (n := 2) (x := Int32.ofInt 0) rfl (zdal_p dlA_T_troupe_68 (i := 9) rfl) ?_
            refine zr_if_ne (pc := 66) (tgt := 71) ⟨(by decide), (by decide)⟩ (by decide) (zdal_p dlA_T_troupe_68 (i := 10) rfl) (fun hc_66 => ?_) (fun hc_66 => ?_)
            · skip
              exact absurd hc_66 (by decide)
            · skip
              have h10_ : ze N38_ 1 1 = 0 := by omega
              refine zw_iconst (pc := 69) (v := Int32.ofInt (-1)) (by decide) (zdal_p dlA_T_troupe_68 (i := 11) rfl) ?_
              exact zw_iret (S := []) (pc := 70) (ty := .int) rfl rfl (zdal_p dlA_T_troupe_68 (i := 12) rfl) ⟨-1, rfl, ⟨by decide, by decide⟩, h10_, zSwp_0 hf_N38_ hW (by decide), Or.inl ⟨rfl, hB_, hf_N38_.2.2.1, hf_N38_.ot hdd_ (by decide)⟩⟩
          · skip
            exact absurd hc_41 (by decide)
        · skip
          exact absurd hc_31 (by decide)
  · skip
    have hB_ : zTrB b_ n_ (zru zpB b_ n_ 0) := by have h1_ := ha17_0_hp1_N4_; rw [hs0_] at h1_; exact Or.inl h1_
    show zW l m_T_troupe (zn Mz + 0, zw Mz + 0) N4_ 20 [some (.ref 0), some (.ref (d_ + 0)), none] [.int (Int32.ofInt 0)] (zqTrU d_ d2_ b_ n_ Mz)
    refine zr_if_eq (pc := 20) (tgt := 38) ⟨(by decide), (by decide)⟩ (by decide) (zdal_p dlA_T_troupe_67 (i := 10) rfl) (fun hc_20 => ?_) (fun hc_20 => ?_)
    · skip
      refine zw_iconst (pc := 38) (v := Int32.ofInt 0) (by decide) (zdal_p dlA_T_troupe_67 (i := 18) rfl) ?_
      refine zw_istore_n (pc := 39) (i := 2) (L2 := [some (.ref 0), some (.ref (d_ + 0)), some (.int (Int32.ofInt 0))]) rfl (by decide) rfl (zdal_p dlA_T_troupe_67 (i := 19) rfl) ?_
      refine zw_iload_n (pc := 40) (n := 2) (x := Int32.ofInt 0) rfl (zdal_p dlA_T_troupe_67 (i := 20) rfl) ?_
      refine zr_if_eq (pc := 41) (tgt := 57) ⟨(by decide), (by decide)⟩ (by decide) (zdal_p dlA_T_troupe_67 (i := 21) rfl) (fun hc_41 => ?_) (fun hc_41 => ?_)
      · skip
        refine zw_aload_n (pc := 57) (n := 0) (x := 0) rfl (zdal_p dlA_T_troupe_68 (i := 5) rfl) ?_
        refine zw_getF (pc := 58) f_T_10 rfl ((hf_N4_.w hW).ka (o := 0) (by decide)) ((hf_N4_.w hW).la (o := 0) (s := 0) (r := 1) (by decide)) (zdal_p dlA_T_troupe_68 (i := 6) rfl) ?_
        refine zw_iconst (pc := 61) (v := Int32.ofInt 0) (by decide) (zdal_p dlA_T_troupe_68 (i := 7) rfl) ?_
        refine zk_putA (pc := 62) (hf_N4_.w hW) (by decide) f_T_42 rfl rfl ((hf_N4_.w hW).ka (o := 1) (by decide)) ⟨by omega, by omega⟩ rfl rfl (zdal_p dlA_T_troupe_68 (i := 8) rfl) (fun N40_ hsN40_ hvN40_ => ?_)
        have hf_N40_ : zFc d_ [(0, 2), (0, 3), (1, 1), (1, 2), (1, 3), (1, 4), (1, 5), (4, 1), (4, 2), (4, 3)] [] [(0, 6), (0, 7), (0, 8), (1, 5), (1, 6), (1, 7), (12, 6), (12, 7), (28, 4), (33, 2), (33, 3), (33, 4), (33, 5), (33, 6)] [3, 5, 7, 9, 11, 14, 16, 20, 22, 25, 27, 35, 37] Mz N40_ := hf_N4_.tr hsN40_ (by decide) (by decide) (by decide) (by decide)
        have rA1_1_N40_ := ze_r N40_ 1 1
        have eA1_2_N40_ : ze N40_ 1 2 = ze N4_ 1 2 := hsN40_.ea (hf_N4_.w hW) (by decide)
        have eD0_6_N40_ : ze N40_ (d_ + 0) 6 = ze N4_ (d_ + 0) 6 := hsN40_.e (by decide)
        have eD1_7_N40_ : ze N40_ (d_ + 1) 7 = ze N4_ (d_ + 1) 7 := hsN40_.e (by decide)
        have eD28_4_N40_ : ze N40_ (d_ + 28) 4 = ze N4_ (d_ + 28) 4 := hsN40_.e (by decide)
        have c41_ : zYt b_ n_ N40_ := zYt.fr (hf_N4_.w hW) hsN40_ hp0_N4_ (by decide)
        refine zw_iload_n (pc := 65) (n := 2) (x := Int32.ofInt 0) rfl (zdal_p dlA_T_troupe_68 (i := 9) rfl) ?_
        refine zr_if_ne (pc := 66) (tgt := 71) ⟨(by decide), (by decide)⟩ (by decide) (zdal_p dlA_T_troupe_68 (i := 10) rfl) (fun hc_66 => ?_) (fun hc_66 => ?_)
        · skip
          exact absurd hc_66 (by decide)
        · skip
          have h10_ : ze N40_ 1 1 = 0 := by omega
          refine zw_iconst (pc := 69) (v := Int32.ofInt (-1)) (by decide) (zdal_p dlA_T_troupe_68 (i := 11) rfl) ?_
          exact zw_iret (S := []) (pc := 70) (ty := .int) rfl rfl (zdal_p dlA_T_troupe_68 (i := 12) rfl) ⟨-1, rfl, ⟨by decide, by decide⟩, h10_, zSwp_0 hf_N40_ hW (by decide), Or.inl ⟨rfl, hB_, hf_N40_.2.2.1, hf_N40_.ot hdd_ (by decide)⟩⟩
      · skip
        exact absurd hc_41 (by decide)
    · skip
      exact absurd hc_20 (by decide)
