set_option maxHeartbeats 8000000 in
theorem u_Sorts_moebiusOfG (l : Launch) (d_ : Nat) (Mz : zMem) (hW : zKW d_ Mz) (a0_ : Int) (ha0_a : -2147483648 ≤ a0_) (ha0_b : a0_ < 2147483648) (T_ : zGT) (hT_ : T_ ∈ gTabs) (p0_ : zSbK T_ d_ Mz) (p1_ : 0 ≤ a0_) (p2_ : a0_ < ((gF T_).length : Int)) : zC l m_Sorts_moebiusOf 0 0 [.ref (d_ + 12), .int (Int32.ofInt a0_)] Mz (zqcI d_ [] [] [] [18] Mz (fun v N => zfMu T_ (a0_).toNat v)) := by
  refine zC_of (L0 := [some (.ref (d_ + 12)), some (.int (Int32.ofInt a0_)), none, none, none, none]) md_Sorts_moebiusOf (Nat.le_of_ble_eq_true rfl) rfl ?_ zQ0
  have hf : zFc d_ [] [] [] [18] Mz Mz := zFc.rf
  have r_D12_6 := ze_r Mz (d_ + 12) 6
  have hO_ := gTabs_ok T_ hT_
  have hG_ := hO_.1
  have hn24_ := hG_.2.1
  have hn1_ := hG_.1
  have hLs_ := p0_.1
  obtain ⟨⟨hm1_, hm35_⟩, hmm_, hms_, hmk_⟩ := id hLs_
  have hup_ := zLs_mu hO_ hLs_
  obtain ⟨hfx_, hft_⟩ := zSbK_ft hT_ hO_ p0_ p1_ p2_
  refine zw_iconst (pc := 0) (v := Int32.ofInt 0) (by decide) (zdal_p dlB_Sorts_moebiusOf_50 (i := 0) rfl) ?_
  refine zw_istore_n (pc := 1) (i := 2) (L2 := [some (.ref (d_ + 12)), some (.int (Int32.ofInt a0_)), some (.int (Int32.ofInt 0)), none, none, none]) rfl (by decide) rfl (zdal_p dlB_Sorts_moebiusOf_50 (i := 1) rfl) ?_
  refine zw_aload_n (pc := 2) (n := 0) (x := (d_ + 12)) rfl (zdal_p dlB_Sorts_moebiusOf_50 (i := 2) rfl) ?_
  refine zk_getI (pc := 3) f_Sorts_36 rfl ((hf.w hW).kr (o := 12) (by decide)) (zdal_p dlB_Sorts_moebiusOf_50 (i := 3) rfl) ?_
  refine zw_iconst (pc := 6) (v := Int32.ofInt 1) (by decide) (zdal_p dlB_Sorts_moebiusOf_50 (i := 4) rfl) ?_
  refine zr_isub (pc := 7) (zdal_p dlB_Sorts_moebiusOf_50 (i := 5) rfl) ?_
  refine zw_istore_n (pc := 8) (i := 3) (L2 := [some (.ref (d_ + 12)), some (.int (Int32.ofInt a0_)), some (.int (Int32.ofInt 0)), some (.int (Int32.ofInt ((ze Mz (d_ + 12) 6) - 1))), none, none]) rfl (by decide) rfl (zdal_p dlB_Sorts_moebiusOf_50 (i := 6) rfl) ?_
  have lp_9 : ∀ (n : Nat) (u1_ : Int) (hu1_a : -2147483648 ≤ u1_) (hu1_b : u1_ < 2147483648) (u2_ : Int) (hu2_a : -2147483648 ≤ u2_) (hu2_b : u2_ < 2147483648) (N3_ : zMem) (hs4_ : zFc d_ [] [] [] [18] Mz N3_) (i5_ : -1 ≤ u2_) (i6_ : u2_ < ze Mz (d_ + 12) 6) (i7_ : zMuK T_ (fun k_ => (zRw d_ 14 Mz k_).toNat) (ze Mz (d_ + 12) 6).toNat (zRw d_ 18 N3_) u2_) (i8_ : zMuV (zRw d_ 16 Mz) (zRw d_ 18 N3_) a0_ (ze Mz (d_ + 12) 6).toNat u1_ u2_), (u2_ + 1).toNat < n → zW l m_Sorts_moebiusOf (zn Mz + 0, zw Mz + 0) N3_ 9 [some (.ref (d_ + 12)), some (.int (Int32.ofInt a0_)), some (.int (Int32.ofInt u1_)), some (.int (Int32.ofInt u2_)), none, none] [] (zqcI d_ [] [] [] [18] Mz (fun v N => zfMu T_ (a0_).toNat v)) := by
    intro n
    induction n with
    | zero =>
      intro u1_ hu1_a hu1_b u2_ hu2_a hu2_b N3_ hs4_ i5_ i6_ i7_ i8_ h0
      exact absurd h0 (Nat.not_lt_zero _)
    | succ n ih_9 =>
      intro u1_ hu1_a hu1_b u2_ hu2_a hu2_b N3_ hs4_ i5_ i6_ i7_ i8_ hlt_9
      have hf_N3_ : zFc d_ [] [] [] [18] Mz N3_ := hf.tr hs4_ (by decide) (by decide) (by decide) (by decide)
      have eD12_6_N3_ : ze N3_ (d_ + 12) 6 = ze Mz (d_ + 12) 6 := hs4_.e (by decide)
      have c9_ : zSbK T_ d_ N3_ := zSbK.fr (hf.w hW) hs4_ p0_ (by decide)
      have hmu_ := (show zMuK T_ (fun k_ => (zRw d_ 14 Mz k_).toNat) (ze Mz (d_ + 12) 6).toNat (zRw d_ 18 N3_) u2_ by first | with_reducible assumption | assumption)
      have hmv_ := (show zMuV (zRw d_ 16 Mz) (zRw d_ 18 N3_) a0_ (ze Mz (d_ + 12) 6).toNat u1_ u2_ by first | with_reducible assumption | assumption)
      refine zw_iload_n (pc := 9) (n := 3) (x := Int32.ofInt u2_) rfl (zdal_p dlB_Sorts_moebiusOf_50 (i := 7) rfl) ?_
      refine zr_if_lt (pc := 10) (tgt := 118) ⟨hu2_a, hu2_b⟩ (by decide) (zdal_p dlB_Sorts_moebiusOf_50 (i := 8) rfl) (fun hc_10 => ?_) (fun hc_10 => ?_)
      · skip
        refine zw_iload_n (pc := 118) (n := 2) (x := Int32.ofInt u1_) rfl (zdal_p dlB_Sorts_moebiusOf_52 (i := 13) rfl) ?_
        exact zk_iret (pc := 119) (ty := .int) rfl rfl ⟨by omega, by omega⟩ hf_N3_ (show zfMu T_ (a0_).toNat u1_ by obtain ⟨t_, ht1_, ht2_, ht3_, ht4_⟩ := zMuV_e hmv_ (by omega) hfx_; exact ⟨_, _, _, t_, hLs_.en, zMuK_e hmu_ (by omega), ht1_, hft_ t_ ht1_ ht2_ ht4_, ht3_⟩) (zdal_p dlB_Sorts_moebiusOf_52 (i := 14) rfl)
      · skip
        refine zw_iload_n (pc := 13) (n := 3) (x := Int32.ofInt u2_) rfl (zdal_p dlB_Sorts_moebiusOf_50 (i := 9) rfl) ?_
        refine zw_aload_n (pc := 14) (n := 0) (x := (d_ + 12)) rfl (zdal_p dlB_Sorts_moebiusOf_50 (i := 10) rfl) ?_
        refine zk_getI (pc := 15) f_Sorts_36 rfl ((hf_N3_.w hW).kr (o := 12) (by decide)) (zdal_p dlB_Sorts_moebiusOf_50 (i := 11) rfl) ?_
        rw [hf_N3_.e (by decide)]
        refine zw_iconst (pc := 18) (v := Int32.ofInt 1) (by decide) (zdal_p dlB_Sorts_moebiusOf_50 (i := 12) rfl) ?_
        refine zr_isub (pc := 19) (zdal_p dlB_Sorts_moebiusOf_50 (i := 13) rfl) ?_
        have j_28 : ∀ (u10_ : Int) (hu10_a : -2147483648 ≤ u10_) (hu10_b : u10_ < 2147483648) (hu10_z : u10_ = 0 ∨ u10_ = 1) (i11_ : u10_ = zMuD T_ (zRw d_ 14 Mz (u2_).toNat).toNat), zW l m_Sorts_moebiusOf (zn Mz + 0, zw Mz + 0) N3_ 28 [some (.ref (d_ + 12)), some (.int (Int32.ofInt a0_)), some (.int (Int32.ofInt u1_)), some (.int (Int32.ofInt u2_)), none, none] [.int (Int32.ofInt u10_)] (zqcI d_ [] [] [] [18] Mz (fun v N => zfMu T_ (a0_).toNat v)) := by
          intro u10_ hu10_a hu10_b hu10_z i11_
          refine zw_istore (pc := 28) (i := 4) (L2 := [some (.ref (d_ + 12)), some (.int (Int32.ofInt a0_)), some (.int (Int32.ofInt u1_)), some (.int (Int32.ofInt u2_)), some (.int (Int32.ofInt u10_)), none]) (by decide) rfl (zdal_p dlB_Sorts_moebiusOf_50 (i := 18) rfl) ?_
          refine zw_iload_n (pc := 30) (n := 3) (x := Int32.ofInt u2_) rfl (zdal_p dlB_Sorts_moebiusOf_50 (i := 19) rfl) ?_
          refine zw_iconst (pc := 31) (v := Int32.ofInt 1) (by decide) (zdal_p dlB_Sorts_moebiusOf_50 (i := 20) rfl) ?_
          refine zr_iadd (pc := 32) (zdal_p dlB_Sorts_moebiusOf_50 (i := 21) rfl) ?_
          refine zw_istore (pc := 33) (i := 5) (L2 := [some (.ref (d_ + 12)), some (.int (Int32.ofInt a0_)), some (.int (Int32.ofInt u1_)), some (.int (Int32.ofInt u2_)), some (.int (Int32.ofInt u10_)), some (.int (Int32.ofInt (u2_ + 1)))]) (by decide) rfl (zdal_p dlB_Sorts_moebiusOf_50 (i := 22) rfl) ?_
          have lp_35 : ∀ (n : Nat) (u12_ : Int) (hu12_a : -2147483648 ≤ u12_) (hu12_b : u12_ < 2147483648) (u13_ : Int) (hu13_a : -2147483648 ≤ u13_) (hu13_b : u13_ < 2147483648) (i14_ : u2_ < u13_) (i15_ : u13_ ≤ ze Mz (d_ + 12) 6) (i16_ : zMuP T_ (fun k_ => (zRw d_ 14 Mz k_).toNat) (zRw d_ 18 N3_) (u2_).toNat u12_ (u13_).toNat), (ze Mz (d_ + 12) 6 - u13_).toNat < n → zW l m_Sorts_moebiusOf (zn Mz + 0, zw Mz + 0) N3_ 35 [some (.ref (d_ + 12)), some (.int (Int32.ofInt a0_)), some (.int (Int32.ofInt u1_)), some (.int (Int32.ofInt u2_)), some (.int (Int32.ofInt u12_)), some (.int (Int32.ofInt u13_))] [] (zqcI d_ [] [] [] [18] Mz (fun v N => zfMu T_ (a0_).toNat v)) := by
            intro n
            induction n with
            | zero =>
              intro u12_ hu12_a hu12_b u13_ hu13_a hu13_b i14_ i15_ i16_ h0
              exact absurd h0 (Nat.not_lt_zero _)
            | succ n ih_35 =>
              intro u12_ hu12_a hu12_b u13_ hu13_a hu13_b i14_ i15_ i16_ hlt_35
              have hmp_ := (show zMuP T_ (fun k_ => (zRw d_ 14 Mz k_).toNat) (zRw d_ 18 N3_) (u2_).toNat u12_ (u13_).toNat by first | with_reducible assumption | assumption)
              refine zw_iload (pc := 35) (i := 5) (x := Int32.ofInt u13_) rfl (zdal_p dlB_Sorts_moebiusOf_50 (i := 23) rfl) ?_
              refine zw_aload_n (pc := 37) (n := 0) (x := (d_ + 12)) rfl (zdal_p dlB_Sorts_moebiusOf_51 (i := 0) rfl) ?_
              refine zk_getI (pc := 38) f_Sorts_36 rfl ((hf_N3_.w hW).kr (o := 12) (by decide)) (zdal_p dlB_Sorts_moebiusOf_51 (i := 1) rfl) ?_
              rw [hf_N3_.e (by decide)]
              refine zr_icmp_ge (pc := 41) (tgt := 87) ⟨hu13_a, hu13_b⟩ ⟨(ze_r Mz (d_ + 12) 6).1, (ze_r Mz (d_ + 12) 6).2⟩ (by decide) (zdal_p dlB_Sorts_moebiusOf_51 (i := 2) rfl) (fun hc_41 => ?_) (fun hc_41 => ?_)
              · skip
                have hpe_ := hmp_
                rw [show (u13_).toNat = (ze Mz (d_ + 12) 6).toNat by omega] at hpe_
                refine zw_aload_n (pc := 87) (n := 0) (x := (d_ + 12)) rfl (zdal_p dlB_Sorts_moebiusOf_51 (i := 22) rfl) ?_
                refine zw_getF (pc := 88) f_Sorts_23 rfl ((hf_N3_.w hW).kr (o := 12) (by decide)) ((hf_N3_.w hW).lr (o := 12) (s := 3) (r := 17) (by decide)) (zdal_p dlB_Sorts_moebiusOf_51 (i := 23) rfl) ?_
                refine zw_iload_n (pc := 91) (n := 3) (x := Int32.ofInt u2_) rfl (zdal_p dlB_Sorts_moebiusOf_52 (i := 0) rfl) ?_
                refine zw_iload (pc := 92) (i := 4) (x := Int32.ofInt u12_) rfl (zdal_p dlB_Sorts_moebiusOf_52 (i := 1) rfl) ?_
                refine zk_st hf_N3_.x (pc := 94) (o := 18) (by decide) l_Sorts_40 ((hf_N3_.w hW).kr (o := 17) (by decide)) ((hf_N3_.w hW).lr (o := 17) (s := 0) (r := 18) (by decide)) ((hf_N3_.w hW).rr (o := 18) (t := 1) (n := 35) (by decide)) (by decide) (by omega) (by omega) (by decide) (Nat.le_of_ble_eq_true rfl) (zdal_p dlB_Sorts_moebiusOf_52 (i := 2) rfl) (fun N17_ hN17_ hsN17_ => ?_)
                have hf_N17_ : zFc d_ [] [] [] [18] Mz N17_ := hf_N3_.tr hsN17_ (by decide) (by decide) (by decide) (by decide)
                have hb0_N17_ : zFc d_ [] [] [] [18] Mz N17_ := hs4_.tr hsN17_ (by decide) (by decide) (by decide) (by decide)
                have eD12_6_N17_ : ze N17_ (d_ + 12) 6 = ze N3_ (d_ + 12) 6 := hsN17_.e (by decide)
                have c18_ : zSbK T_ d_ N17_ := zSbK.fr (hf_N3_.w hW) hsN17_ c9_ (by decide)
                have hqj_ := zRw_w hN17_ ⟨by omega, by omega⟩
                have hmk2_ := zMuK_s hup_ hmu_ (by omega) (by omega) hpe_ ⟨by omega, by omega⟩ hqj_
                refine zw_aload_n (pc := 97) (n := 0) (x := (d_ + 12)) rfl (zdal_p dlB_Sorts_moebiusOf_52 (i := 3) rfl) ?_
                refine zw_getF (pc := 98) f_Sorts_20 rfl ((hf_N17_.w hW).kr (o := 12) (by decide)) ((hf_N17_.w hW).lr (o := 12) (s := 2) (r := 15) (by decide)) (zdal_p dlB_Sorts_moebiusOf_52 (i := 4) rfl) ?_
                refine zw_iload_n (pc := 101) (n := 3) (x := Int32.ofInt u2_) rfl (zdal_p dlB_Sorts_moebiusOf_52 (i := 5) rfl) ?_
                refine zk_at hf_N17_.x (pc := 102) l_Sorts_49 ((hf_N17_.w hW).kr (o := 15) (by decide)) ((hf_N17_.w hW).lr (o := 15) (s := 0) (r := 16) (by decide)) ((hf_N17_.w hW).rr (o := 16) (t := 1) (n := 35) (by decide)) (by decide) (by omega) (by omega) (by decide) (Nat.le_of_ble_eq_true rfl) (zdal_p dlB_Sorts_moebiusOf_52 (i := 6) rfl) (fun v19_ hv19_ hv19_a hv19_b => ?_)
                rw [hf_N17_.r (by decide)] at hv19_
                have hv3_ := hv19_
                refine zw_iload_n (pc := 105) (n := 1) (x := Int32.ofInt a0_) rfl (zdal_p dlB_Sorts_moebiusOf_52 (i := 7) rfl) ?_
                refine zr_icmp_ne (pc := 106) (tgt := 112) ⟨hv19_a, hv19_b⟩ ⟨ha0_a, ha0_b⟩ (by decide) (zdal_p dlB_Sorts_moebiusOf_52 (i := 8) rfl) (fun hc_106 => ?_) (fun hc_106 => ?_)
                · skip
                  refine zr_iinc (pc := 112) (i := 3) (a := u2_) (n := -1) (L2 := [some (.ref (d_ + 12)), some (.int (Int32.ofInt a0_)), some (.int (Int32.ofInt u1_)), some (.int (Int32.ofInt (u2_ + (-1)))), some (.int (Int32.ofInt u12_)), some (.int (Int32.ofInt u13_))]) rfl (by decide) rfl (zdal_p dlB_Sorts_moebiusOf_52 (i := 11) rfl) ?_
                  refine zw_goto (pc := 115) (tgt := 9) (by decide) (zdal_p dlB_Sorts_moebiusOf_52 (i := 12) rfl) ?_
                  have hmv2_ : zMuV (zRw d_ 16 Mz) (zRw d_ 18 N17_) a0_ (ze Mz (d_ + 12) 6).toNat u1_ (u2_ + (-1)) := zMuV_s hmv_ (by omega) (by omega) hqj_ (by first | exact Or.inl ⟨hv3_.symm.trans (by omega), rfl⟩ | exact Or.inr ⟨fun q_ => absurd (hv3_.trans q_) (by omega), rfl⟩)
                  refine zW_le [some (.ref (d_ + 12)), some (.int (Int32.ofInt a0_)), some (.int (Int32.ofInt u1_)), some (.int (Int32.ofInt (u2_ + (-1)))), none, none] (⟨rfl, rfl, rfl, rfl, trivial⟩) ?_
                  exact ih_9 u1_ hu1_a hu1_b (u2_ + (-1)) (by omega) (by omega) N17_ hb0_N17_ (show -1 ≤ (u2_ + (-1)) by first | with_reducible assumption | assumption | omega) (show (u2_ + (-1)) < ze Mz (d_ + 12) 6 by first | with_reducible assumption | assumption | omega) (show zMuK T_ (fun k_ => (zRw d_ 14 Mz k_).toNat) (ze Mz (d_ + 12) 6).toNat (zRw d_ 18 N17_) (u2_ + (-1)) by exact hmk2_) (show zMuV (zRw d_ 16 Mz) (zRw d_ 18 N17_) a0_ (ze Mz (d_ + 12) 6).toNat u1_ (u2_ + (-1)) by exact hmv2_) (by omega)
                · skip
                  refine zw_iload (pc := 109) (i := 4) (x := Int32.ofInt u12_) rfl (zdal_p dlB_Sorts_moebiusOf_52 (i := 9) rfl) ?_
                  refine zw_istore_n (pc := 111) (i := 2) (L2 := [some (.ref (d_ + 12)), some (.int (Int32.ofInt a0_)), some (.int (Int32.ofInt u12_)), some (.int (Int32.ofInt u2_)), some (.int (Int32.ofInt u12_)), some (.int (Int32.ofInt u13_))]) rfl (by decide) rfl (zdal_p dlB_Sorts_moebiusOf_52 (i := 10) rfl) ?_
                  refine zr_iinc (pc := 112) (i := 3) (a := u2_) (n := -1) (L2 := [some (.ref (d_ + 12)), some (.int (Int32.ofInt a0_)), some (.int (Int32.ofInt u12_)), some (.int (Int32.ofInt (u2_ + (-1)))), some (.int (Int32.ofInt u12_)), some (.int (Int32.ofInt u13_))]) rfl (by decide) rfl (zdal_p dlB_Sorts_moebiusOf_52 (i := 11) rfl) ?_
                  refine zw_goto (pc := 115) (tgt := 9) (by decide) (zdal_p dlB_Sorts_moebiusOf_52 (i := 12) rfl) ?_
                  have hmv2_ : zMuV (zRw d_ 16 Mz) (zRw d_ 18 N17_) a0_ (ze Mz (d_ + 12) 6).toNat u12_ (u2_ + (-1)) := zMuV_s hmv_ (by omega) (by omega) hqj_ (by first | exact Or.inl ⟨hv3_.symm.trans (by omega), rfl⟩ | exact Or.inr ⟨fun q_ => absurd (hv3_.trans q_) (by omega), rfl⟩)
                  refine zW_le [some (.ref (d_ + 12)), some (.int (Int32.ofInt a0_)), some (.int (Int32.ofInt u12_)), some (.int (Int32.ofInt (u2_ + (-1)))), none, none] (⟨rfl, rfl, rfl, rfl, trivial⟩) ?_
                  exact ih_9 u12_ hu12_a hu12_b (u2_ + (-1)) (by omega) (by omega) N17_ hb0_N17_ (show -1 ≤ (u2_ + (-1)) by first | with_reducible assumption | assumption | omega) (show (u2_ + (-1)) < ze Mz (d_ + 12) 6 by first | with_reducible assumption | assumption | omega) (show zMuK T_ (fun k_ => (zRw d_ 14 Mz k_).toNat) (ze Mz (d_ + 12) 6).toNat (zRw d_ 18 N17_) (u2_ + (-1)) by exact hmk2_) (show zMuV (zRw d_ 16 Mz) (zRw d_ 18 N17_) a0_ (ze Mz (d_ + 12) 6).toNat u12_ (u2_ + (-1)) by exact hmv2_) (by omega)
              · skip
                refine zw_aload_n (pc := 44) (n := 0) (x := (d_ + 12)) rfl (zdal_p dlB_Sorts_moebiusOf_51 (i := 3) rfl) ?_
                refine zw_getF (pc := 45) f_Sorts_14 rfl ((hf_N3_.w hW).kr (o := 12) (by decide)) ((hf_N3_.w hW).lr (o := 12) (s := 1) (r := 13) (by decide)) (zdal_p dlB_Sorts_moebiusOf_51 (i := 4) rfl) ?_
                refine zw_iload_n (pc := 48) (n := 3) (x := Int32.ofInt u2_) rfl (zdal_p dlB_Sorts_moebiusOf_51 (i := 5) rfl) ?_
                refine zk_at hf_N3_.x (pc := 49) l_Sorts_49 ((hf_N3_.w hW).kr (o := 13) (by decide)) ((hf_N3_.w hW).lr (o := 13) (s := 0) (r := 14) (by decide)) ((hf_N3_.w hW).rr (o := 14) (t := 1) (n := 35) (by decide)) (by decide) (by omega) (by omega) (by decide) (Nat.le_of_ble_eq_true rfl) (zdal_p dlB_Sorts_moebiusOf_51 (i := 6) rfl) (fun v20_ hv20_ hv20_a hv20_b => ?_)
                rw [hf_N3_.r (by decide)] at hv20_
                have hvx_ := hv20_
                have hmx_ := hmm_ (u2_).toNat (by omega)
                have hnx_ := gS_24 hO_ hmx_.2
                have hwx_ : zRw d_ 14 Mz (u2_).toNat = v20_ := hvx_.symm
                rw [hwx_] at hmx_ hnx_
                refine zw_aload_n (pc := 52) (n := 0) (x := (d_ + 12)) rfl (zdal_p dlB_Sorts_moebiusOf_51 (i := 7) rfl) ?_
                refine zw_getF (pc := 53) f_Sorts_14 rfl ((hf_N3_.w hW).kr (o := 12) (by decide)) ((hf_N3_.w hW).lr (o := 12) (s := 1) (r := 13) (by decide)) (zdal_p dlB_Sorts_moebiusOf_51 (i := 8) rfl) ?_
                refine zw_iload (pc := 56) (i := 5) (x := Int32.ofInt u13_) rfl (zdal_p dlB_Sorts_moebiusOf_51 (i := 9) rfl) ?_
                refine zk_at hf_N3_.x (pc := 58) l_Sorts_49 ((hf_N3_.w hW).kr (o := 13) (by decide)) ((hf_N3_.w hW).lr (o := 13) (s := 0) (r := 14) (by decide)) ((hf_N3_.w hW).rr (o := 14) (t := 1) (n := 35) (by decide)) (by decide) (by omega) (by omega) (by decide) (Nat.le_of_ble_eq_true rfl) (zdal_p dlB_Sorts_moebiusOf_51 (i := 10) rfl) (fun v21_ hv21_ hv21_a hv21_b => ?_)
                rw [hf_N3_.r (by decide)] at hv21_
                have hvy_ := hv21_
                have hmy_ := hmm_ (u13_).toNat (by omega)
                have hny_ := gS_24 hO_ hmy_.2
                have hwy_ : zRw d_ 14 Mz (u13_).toNat = v21_ := hvy_.symm
                rw [hwy_] at hmy_ hny_
                have hgs_ := zLs_gs hO_ hLs_ (s := u2_) (o := u13_) (by omega) (by omega) (by omega) hwx_.symm hwy_.symm
                refine zr_callS hf_N3_.x (pc := 61) [.int (Int32.ofInt v20_), .int (Int32.ofInt v21_)] [] l_Sorts_96 (u_T_isPart l d_ N3_ (hf_N3_.w hW) v20_ hv20_a hv20_b v21_ hv21_a hv21_b (show 0 ≤ v20_ by first | with_reducible assumption | assumption | omega) (show v20_ < 2147483648 by first | with_reducible assumption | assumption | omega) (show 0 ≤ v21_ by first | with_reducible assumption | assumption | omega) (show v21_ < 2147483648 by first | with_reducible assumption | assumption | omega)) rfl rfl (by decide) (Nat.le_of_ble_eq_true rfl) (zdal_p dlB_Sorts_moebiusOf_51 (i := 11) rfl) ?_
                rintro _ N22_ ⟨v23_, rfl, ⟨hv23_a, hv23_b⟩, hsN22_, hp0_N22_⟩
                obtain rfl := hsN22_.eq.symm
                replace hp0_N22_ : ((v23_ = 1 ∧ (v20_).toNat &&& (v21_).toNat = (v20_).toNat) ∨ (v23_ = 0 ∧ ¬ (v20_).toNat &&& (v21_).toNat = (v20_).toNat)) := hp0_N22_
                rcases hp0_N22_ with ⟨rfl, ha61_0_hp0_N22_⟩ | ⟨rfl, ha61_0_hp0_N22_⟩
                · skip
                  have hgt_ := hgs_.mp ha61_0_hp0_N22_
                  show zW l m_Sorts_moebiusOf (zn Mz + 0, zw Mz + 0) N3_ 64 [some (.ref (d_ + 12)), some (.int (Int32.ofInt a0_)), some (.int (Int32.ofInt u1_)), some (.int (Int32.ofInt u2_)), some (.int (Int32.ofInt u12_)), some (.int (Int32.ofInt u13_))] [.int (Int32.ofInt 1)] _
                  refine zr_if_eq (pc := 64) (tgt := 81) ⟨(by decide), (by decide)⟩ (by decide) (zdal_p dlB_Sorts_moebiusOf_51 (i := 12) rfl) (fun hc_64 => ?_) (fun hc_64 => ?_)
                  · skip
                    exact absurd hc_64 (by decide)
                  · skip
                    refine zw_iload (pc := 67) (i := 4) (x := Int32.ofInt u12_) rfl (zdal_p dlB_Sorts_moebiusOf_51 (i := 13) rfl) ?_
                    refine zw_aload_n (pc := 69) (n := 0) (x := (d_ + 12)) rfl (zdal_p dlB_Sorts_moebiusOf_51 (i := 14) rfl) ?_
                    refine zw_getF (pc := 70) f_Sorts_23 rfl ((hf_N3_.w hW).kr (o := 12) (by decide)) ((hf_N3_.w hW).lr (o := 12) (s := 3) (r := 17) (by decide)) (zdal_p dlB_Sorts_moebiusOf_51 (i := 15) rfl) ?_
                    refine zw_iload (pc := 73) (i := 5) (x := Int32.ofInt u13_) rfl (zdal_p dlB_Sorts_moebiusOf_51 (i := 16) rfl) ?_
                    refine zk_at hf_N3_.x (pc := 75) l_Sorts_49 ((hf_N3_.w hW).kr (o := 17) (by decide)) ((hf_N3_.w hW).lr (o := 17) (s := 0) (r := 18) (by decide)) ((hf_N3_.w hW).rr (o := 18) (t := 1) (n := 35) (by decide)) (by decide) (by omega) (by omega) (by decide) (Nat.le_of_ble_eq_true rfl) (zdal_p dlB_Sorts_moebiusOf_51 (i := 17) rfl) (fun v24_ hv24_ hv24_a hv24_b => ?_)
                    have hr75_ := hv24_
                    refine zr_isub (pc := 78) (zdal_p dlB_Sorts_moebiusOf_51 (i := 18) rfl) ?_
                    refine zk_nmW (fun v25_ hv25_ hv25_w => ?_)
                    obtain ⟨hv25_a, hv25_b⟩ := hv25_
                    have hmq_ := zMuP_1 (by omega) hmp_ hgt_ (z32w_e hv25_w (congrArg (fun z_ => u12_ - z_) hr75_))
                    refine zw_istore (pc := 79) (i := 4) (L2 := [some (.ref (d_ + 12)), some (.int (Int32.ofInt a0_)), some (.int (Int32.ofInt u1_)), some (.int (Int32.ofInt u2_)), some (.int (Int32.ofInt v25_)), some (.int (Int32.ofInt u13_))]) (by decide) rfl (zdal_p dlB_Sorts_moebiusOf_51 (i := 19) rfl) ?_
                    refine zr_iinc (pc := 81) (i := 5) (a := u13_) (n := 1) (L2 := [some (.ref (d_ + 12)), some (.int (Int32.ofInt a0_)), some (.int (Int32.ofInt u1_)), some (.int (Int32.ofInt u2_)), some (.int (Int32.ofInt v25_)), some (.int (Int32.ofInt (u13_ + 1)))]) rfl (by decide) rfl (zdal_p dlB_Sorts_moebiusOf_51 (i := 20) rfl) ?_
                    refine zw_goto (pc := 84) (tgt := 35) (by decide) (zdal_p dlB_Sorts_moebiusOf_51 (i := 21) rfl) ?_
                    exact ih_35 v25_ hv25_a hv25_b (u13_ + 1) (by omega) (by omega) (show u2_ < (u13_ + 1) by first | with_reducible assumption | assumption | omega) (show (u13_ + 1) ≤ ze Mz (d_ + 12) 6 by first | with_reducible assumption | assumption | omega) (show zMuP T_ (fun k_ => (zRw d_ 14 Mz k_).toNat) (zRw d_ 18 N3_) (u2_).toNat v25_ ((u13_ + 1)).toNat by exact hmq_) (by omega)
                · skip
                  have hmq_ := zMuP_n (by omega) hmp_ (fun q_ => ha61_0_hp0_N22_ (hgs_.mpr q_))
                  show zW l m_Sorts_moebiusOf (zn Mz + 0, zw Mz + 0) N3_ 64 [some (.ref (d_ + 12)), some (.int (Int32.ofInt a0_)), some (.int (Int32.ofInt u1_)), some (.int (Int32.ofInt u2_)), some (.int (Int32.ofInt u12_)), some (.int (Int32.ofInt u13_))] [.int (Int32.ofInt 0)] _
                  refine zr_if_eq (pc := 64) (tgt := 81) ⟨(by decide), (by decide)⟩ (by decide) (zdal_p dlB_Sorts_moebiusOf_51 (i := 12) rfl) (fun hc_64 => ?_) (fun hc_64 => ?_)
                  · skip
                    refine zr_iinc (pc := 81) (i := 5) (a := u13_) (n := 1) (L2 := [some (.ref (d_ + 12)), some (.int (Int32.ofInt a0_)), some (.int (Int32.ofInt u1_)), some (.int (Int32.ofInt u2_)), some (.int (Int32.ofInt u12_)), some (.int (Int32.ofInt (u13_ + 1)))]) rfl (by decide) rfl (zdal_p dlB_Sorts_moebiusOf_51 (i := 20) rfl) ?_
                    refine zw_goto (pc := 84) (tgt := 35) (by decide) (zdal_p dlB_Sorts_moebiusOf_51 (i := 21) rfl) ?_
                    exact ih_35 u12_ hu12_a hu12_b (u13_ + 1) (by omega) (by omega) (show u2_ < (u13_ + 1) by first | with_reducible assumption | assumption | omega) (show (u13_ + 1) ≤ ze Mz (d_ + 12) 6 by first | with_reducible assumption | assumption | omega) (show zMuP T_ (fun k_ => (zRw d_ 14 Mz k_).toNat) (zRw d_ 18 N3_) (u2_).toNat u12_ ((u13_ + 1)).toNat by exact hmq_) (by omega)
                  · skip
                    exact absurd hc_64 (by decide)
          exact lp_35 _ u10_ hu10_a hu10_b (u2_ + 1) (by omega) (by omega) (show u2_ < (u2_ + 1) by first | with_reducible assumption | assumption | omega) (show (u2_ + 1) ≤ ze Mz (d_ + 12) 6 by first | with_reducible assumption | assumption | omega) (show zMuP T_ (fun k_ => (zRw d_ 14 Mz k_).toNat) (zRw d_ 18 N3_) (u2_).toNat u10_ ((u2_ + 1)).toNat by exact zMuP_0 (show u10_ = zMuD T_ (zRw d_ 14 Mz (u2_).toNat).toNat by first | with_reducible assumption | assumption) (fun o_ ho_ g_ => absurd (hup_ _ _ (by omega) (by omega) g_) (by omega))) (Nat.lt_succ_self _)
        refine zr_icmp_ne (pc := 20) (tgt := 27) ⟨hu2_a, hu2_b⟩ ⟨(by omega), (by omega)⟩ (by decide) (zdal_p dlB_Sorts_moebiusOf_50 (i := 14) rfl) (fun hc_20 => ?_) (fun hc_20 => ?_)
        · skip
          refine zw_iconst (pc := 27) (v := Int32.ofInt 0) (by decide) (zdal_p dlB_Sorts_moebiusOf_50 (i := 17) rfl) ?_
          exact j_28 0 (by decide) (by decide) (by omega) (show 0 = zMuD T_ (zRw d_ 14 Mz (u2_).toNat).toNat by exact zMuD_i hO_ hLs_ (by omega) (by omega) (by omega))
        · skip
          refine zw_iconst (pc := 23) (v := Int32.ofInt 1) (by decide) (zdal_p dlB_Sorts_moebiusOf_50 (i := 15) rfl) ?_
          refine zw_goto (pc := 24) (tgt := 28) (by decide) (zdal_p dlB_Sorts_moebiusOf_50 (i := 16) rfl) ?_
          exact j_28 1 (by decide) (by decide) (by omega) (show 1 = zMuD T_ (zRw d_ 14 Mz (u2_).toNat).toNat by exact zMuD_i hO_ hLs_ (by omega) (by omega) (by omega))
  exact lp_9 _ 0 (by decide) (by decide) ((ze Mz (d_ + 12) 6) - 1) (by omega) (by omega) Mz zFc.rf (show -1 ≤ ((ze Mz (d_ + 12) 6) - 1) by first | with_reducible assumption | assumption | omega) (show ((ze Mz (d_ + 12) 6) - 1) < ze Mz (d_ + 12) 6 by first | with_reducible assumption | assumption | omega) (show zMuK T_ (fun k_ => (zRw d_ 14 Mz k_).toNat) (ze Mz (d_ + 12) 6).toNat (zRw d_ 18 Mz) ((ze Mz (d_ + 12) 6) - 1) by exact zMuK_0 (by omega)) (show zMuV (zRw d_ 16 Mz) (zRw d_ 18 Mz) a0_ (ze Mz (d_ + 12) 6).toNat (0 : Int) ((ze Mz (d_ + 12) 6) - 1) by exact zMuV_0 (by omega)) (Nat.lt_succ_self _)
set_option maxHeartbeats 4000000 in
theorem u_T_moebiusG (l : Launch) (d_ : Nat) (Mz : zMem) (hW : zKW d_ Mz) (hnow : zf Mz 0 2 = some (d_ + 0)) (a0_ : Int) (ha0_a : -2147483648 ≤ a0_) (ha0_b : a0_ < 2147483648) (T_ : zGT) (hT_ : T_ ∈ gTabs) (p0_ : zFir T_ d_ Mz) (p1_ : zSbK T_ d_ Mz) : zC l m_T_moebius 0 0 [.ref 0, .int (Int32.ofInt a0_)] Mz (zqcI d_ [] [] [] [18] Mz (fun v N => (((0 ≤ a0_ ∧ a0_ < ((gF T_).length : Int) ∧ zfMu T_ (a0_).toNat v) ∨ (¬ (0 ≤ a0_ ∧ a0_ < ((gF T_).length : Int)) ∧ v = (-1000000 : Int)))))) := by
  refine zC_of (L0 := [some (.ref 0), some (.int (Int32.ofInt a0_))]) md_T_moebius (Nat.le_of_ble_eq_true rfl) rfl ?_ zQ0
  have hf : zFc d_ [] [] [] [18] Mz Mz := zFc.rf
  have r_D12_7 := ze_r Mz (d_ + 12) 7
  have hO_ := gTabs_ok T_ hT_
  have hG_ := hO_.1
  have hn24_ := hG_.2.1
  have hn1_ := hG_.1
  have hfl_ := p0_.1
  refine zw_aload_n (pc := 0) (n := 0) (x := 0) rfl (zdal_p dlB_T_moebius_49 (i := 0) rfl) ?_
  refine zw_getF (pc := 1) f_T_28 rfl ((hf.w hW).ka (o := 0) (by decide)) (hf.now hnow) (zdal_p dlB_T_moebius_49 (i := 1) rfl) ?_
  refine zw_getF (pc := 4) f_T_85 rfl ((hf.w hW).kr (o := 0) (by decide)) ((hf.w hW).lr (o := 0) (s := 1) (r := 12) (by decide)) (zdal_p dlB_T_moebius_49 (i := 2) rfl) ?_
  refine zw_iload_n (pc := 7) (n := 1) (x := Int32.ofInt a0_) rfl (zdal_p dlB_T_moebius_49 (i := 3) rfl) ?_
  refine zk_callV hf.x (pc := 8) [.int (Int32.ofInt a0_)] [] l_T_143 (u_Sorts_hasSortG l d_ Mz (hf.w hW) a0_ ha0_a ha0_b) rfl rfl ((hf.w hW).kr (o := 12) (by decide)) (by decide) (by decide) (Nat.le_of_ble_eq_true rfl) (zdal_p dlB_T_moebius_49 (i := 4) rfl) ?_
  rintro _ N1_ ⟨v2_, rfl, ⟨hv2_a, hv2_b⟩, hsN1_, hp0_N1_⟩
  obtain rfl := hsN1_.eq.symm
  replace hp0_N1_ : ((v2_ = 1 ∧ 0 ≤ a0_ ∧ a0_ < ze Mz (d_ + 12) 7) ∨ (v2_ = 0 ∧ (a0_ < 0 ∨ ze Mz (d_ + 12) 7 ≤ a0_))) := hp0_N1_
  rcases hp0_N1_ with ⟨rfl, ha8_0_hp0_N1_, ha8_1_hp0_N1_⟩ | ⟨rfl, ha8_0_hp0_N1_⟩
  · skip
    show zW l m_T_moebius (zn Mz + 0, zw Mz + 0) Mz 11 [some (.ref 0), some (.int (Int32.ofInt a0_))] [.int (Int32.ofInt 1)] _
    refine zr_if_eq (pc := 11) (tgt := 28) ⟨(by decide), (by decide)⟩ (by decide) (zdal_p dlB_T_moebius_49 (i := 5) rfl) (fun hc_11 => ?_) (fun hc_11 => ?_)
    · skip
      exact absurd hc_11 (by decide)
    · skip
      refine zw_aload_n (pc := 14) (n := 0) (x := 0) rfl (zdal_p dlB_T_moebius_49 (i := 6) rfl) ?_
      refine zw_getF (pc := 15) f_T_28 rfl ((hf.w hW).ka (o := 0) (by decide)) (hf.now hnow) (zdal_p dlB_T_moebius_49 (i := 7) rfl) ?_
      refine zw_getF (pc := 18) f_T_85 rfl ((hf.w hW).kr (o := 0) (by decide)) ((hf.w hW).lr (o := 0) (s := 1) (r := 12) (by decide)) (zdal_p dlB_T_moebius_49 (i := 8) rfl) ?_
      refine zw_iload_n (pc := 21) (n := 1) (x := Int32.ofInt a0_) rfl (zdal_p dlB_T_moebius_49 (i := 9) rfl) ?_
      refine zk_callV hf.x (pc := 22) [.int (Int32.ofInt a0_)] [] l_T_201 (u_Sorts_moebiusOfG l d_ Mz (hf.w hW) a0_ ha0_a ha0_b T_ hT_ p1_ (show 0 ≤ a0_ by first | with_reducible assumption | assumption | omega) (show a0_ < ((gF T_).length : Int) by first | with_reducible assumption | assumption | omega)) rfl rfl ((hf.w hW).kr (o := 12) (by decide)) (by decide) (by decide) (Nat.le_of_ble_eq_true rfl) (zdal_p dlB_T_moebius_49 (i := 10) rfl) ?_
      rintro _ N3_ ⟨v4_, rfl, ⟨hv4_a, hv4_b⟩, hsN3_, hp0_N3_⟩
      replace hp0_N3_ : zfMu T_ (a0_).toNat v4_ := hp0_N3_
      have hf_N3_ : zFc d_ [] [] [] [18] Mz N3_ := hf.tr hsN3_ (by decide) (by decide) (by decide) (by decide)
      have eD12_7_N3_ : ze N3_ (d_ + 12) 7 = ze Mz (d_ + 12) 7 := hsN3_.e (by decide)
      have c5_ : zFir T_ d_ N3_ := zFir.fr (hf.w hW) hsN3_ p0_ (by decide)
      have c6_ : zSbK T_ d_ N3_ := zSbK.fr (hf.w hW) hsN3_ p1_ (by decide)
      show zW l m_T_moebius (zn Mz + 0, zw Mz + 0) N3_ 25 [some (.ref 0), some (.int (Int32.ofInt a0_))] [.int (Int32.ofInt v4_)] _
      refine zw_goto (pc := 25) (tgt := 30) (by decide) (zdal_p dlB_T_moebius_49 (i := 11) rfl) ?_
      exact zk_iret (pc := 30) (ty := .int) rfl rfl ⟨by omega, by omega⟩ hf_N3_ (show ((0 ≤ a0_ ∧ a0_ < ((gF T_).length : Int) ∧ zfMu T_ (a0_).toNat v4_) ∨ (¬ (0 ≤ a0_ ∧ a0_ < ((gF T_).length : Int)) ∧ v4_ = (-1000000 : Int))) by first | exact Or.inr ⟨by omega, rfl⟩ | exact Or.inl ⟨by omega, by omega, by assumption⟩) (zdal_p dlB_T_moebius_49 (i := 13) rfl)
  · skip
    show zW l m_T_moebius (zn Mz + 0, zw Mz + 0) Mz 11 [some (.ref 0), some (.int (Int32.ofInt a0_))] [.int (Int32.ofInt 0)] _
    refine zr_if_eq (pc := 11) (tgt := 28) ⟨(by decide), (by decide)⟩ (by decide) (zdal_p dlB_T_moebius_49 (i := 5) rfl) (fun hc_11 => ?_) (fun hc_11 => ?_)
    · skip
      refine zw_ldc (pc := 28) (v := Int32.ofInt (-1000000)) (by rw [show Int32.ofInt (-1000000) = ((-1000000) : Int32) by decide]; exact k_T_204) (zdal_p dlB_T_moebius_49 (i := 12) rfl) ?_
      exact zk_iret (pc := 30) (ty := .int) rfl rfl ⟨by omega, by omega⟩ hf (show ((0 ≤ a0_ ∧ a0_ < ((gF T_).length : Int) ∧ zfMu T_ (a0_).toNat ((-1000000))) ∨ (¬ (0 ≤ a0_ ∧ a0_ < ((gF T_).length : Int)) ∧ ((-1000000)) = (-1000000 : Int))) by first | exact Or.inr ⟨by omega, rfl⟩ | exact Or.inl ⟨by omega, by omega, by assumption⟩) (zdal_p dlB_T_moebius_49 (i := 13) rfl)
    · skip
      exact absurd hc_11 (by decide)
