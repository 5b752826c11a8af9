set_option maxHeartbeats 4000000 in
theorem u_Units_forget (l : Launch) (d_ : Nat) (Mz : zMem) (hW : zKW d_ Mz) : zC l m_Units_forget 0 0 [.ref (d_ + 28)] Mz (zqcV d_ [] [] [(28, 4)] [] Mz (fun N => True)) := by
  refine zC_of (L0 := [some (.ref (d_ + 28))]) md_Units_forget (Nat.le_of_ble_eq_true rfl) rfl ?_ zQ0
  have hf : zFc d_ [] [] [(28, 4)] [] Mz Mz := zFc.rf
  have r_D28_4 := ze_r Mz (d_ + 28) 4
  refine zw_aload_n (pc := 0) (n := 0) (x := (d_ + 28)) rfl (zdal_p dlA_Units_forget_60 (i := 0) rfl) ?_
  refine zw_iconst (pc := 1) (v := Int32.ofInt 0) (by decide) (zdal_p dlA_Units_forget_60 (i := 1) rfl) ?_
  refine zk_putR (pc := 2) (o := 28) (by decide) f_Units_27 rfl rfl ((hf.w hW).kr (o := 28) (by decide)) ⟨by omega, by omega⟩ (z_narB (by omega)) (z_fitB (by omega)) (zdal_p dlA_Units_forget_60 (i := 2) rfl) (fun N1_ hsN1_ hvN1_ => ?_)
  have hf_N1_ : zFc d_ [] [] [(28, 4)] [] Mz N1_ := hf.tr hsN1_ (by decide) (by decide) (by decide) (by decide)
  have rD28_4_N1_ := ze_r N1_ (d_ + 28) 4
  exact zk_vret (pc := 5) rfl hf_N1_ trivial (zdal_p dlA_Units_forget_60 (i := 3) rfl)
set_option maxHeartbeats 4000000 in
theorem u_Troupe_begin (l : Launch) (d_ : Nat) (Mz : zMem) (hW : zKW d_ Mz) (a0_ : Int) (ha0_a : -2147483648 ≤ a0_) (ha0_b : a0_ < 2147483648) (P_ : Nat) (p0_ : a0_ = P_) (p1_ : 1 ≤ P_) (p2_ : P_ ≤ 6) : zC l m_Troupe_begin 0 0 [.ref (d_ + 0), .int (Int32.ofInt a0_)] Mz (zqcV d_ [] [] [(0, 6), (0, 7), (0, 8), (1, 5), (1, 6), (1, 7)] [5] Mz (fun N => zMvK [] P_ d_ N ∧ zGg [] P_ d_ N ∧ ze N (d_ + 0) 6 = 0)) := by
  refine zC_of (L0 := [some (.ref (d_ + 0)), some (.int (Int32.ofInt a0_))]) md_Troupe_begin (Nat.le_of_ble_eq_true rfl) rfl ?_ zQ0
  have hf : zFc d_ [] [] [(0, 6), (0, 7), (0, 8), (1, 5), (1, 6), (1, 7)] [5] Mz Mz := zFc.rf
  have r_D0_6 := ze_r Mz (d_ + 0) 6
  have r_D0_7 := ze_r Mz (d_ + 0) 7
  have r_D0_8 := ze_r Mz (d_ + 0) 8
  refine zw_aload_n (pc := 0) (n := 0) (x := (d_ + 0)) rfl (zdal_p dlA_Troupe_begin_15 (i := 0) rfl) ?_
  refine zw_getF (pc := 1) f_Troupe_12 rfl ((hf.w hW).kr (o := 0) (by decide)) ((hf.w hW).lr (o := 0) (s := 0) (r := 1) (by decide)) (zdal_p dlA_Troupe_begin_15 (i := 1) rfl) ?_
  refine zw_iload_n (pc := 4) (n := 1) (x := Int32.ofInt a0_) rfl (zdal_p dlA_Troupe_begin_15 (i := 2) rfl) ?_
  refine zk_callV hf.x (pc := 5) [.int (Int32.ofInt a0_)] [] l_Troupe_61 (u_Group_begin l d_ Mz (hf.w hW) a0_ ha0_a ha0_b P_ (show a0_ = P_ by first | assumption | omega) (show 1 ≤ P_ by first | assumption | omega) (show P_ ≤ 6 by first | assumption | omega)) rfl rfl ((hf.w hW).kr (o := 1) (by decide)) (by decide) (by decide) (Nat.le_of_ble_eq_true rfl) (zdal_p dlA_Troupe_begin_15 (i := 3) rfl) ?_
  rintro _ N1_ ⟨rfl, hsN1_, ⟨hp0_N1_, hp1_N1_⟩⟩
  have hf_N1_ : zFc d_ [] [] [(0, 6), (0, 7), (0, 8), (1, 5), (1, 6), (1, 7)] [5] Mz N1_ := hf.tr hsN1_ (by decide) (by decide) (by decide) (by decide)
  have eD0_6_N1_ : ze N1_ (d_ + 0) 6 = ze Mz (d_ + 0) 6 := hsN1_.e (by decide)
  have eD0_7_N1_ : ze N1_ (d_ + 0) 7 = ze Mz (d_ + 0) 7 := hsN1_.e (by decide)
  have eD0_8_N1_ : ze N1_ (d_ + 0) 8 = ze Mz (d_ + 0) 8 := hsN1_.e (by decide)
  show zW l m_Troupe_begin (zn Mz + 0, zw Mz + 0) N1_ 8 [some (.ref (d_ + 0)), some (.int (Int32.ofInt a0_))] [] _
  refine zw_aload_n (pc := 8) (n := 0) (x := (d_ + 0)) rfl (zdal_p dlA_Troupe_begin_15 (i := 4) rfl) ?_
  refine zw_iconst (pc := 9) (v := Int32.ofInt 0) (by decide) (zdal_p dlA_Troupe_begin_15 (i := 5) rfl) ?_
  refine zk_putR (pc := 10) (o := 0) (by decide) f_Troupe_64 rfl rfl ((hf_N1_.w hW).kr (o := 0) (by decide)) ⟨by omega, by omega⟩ rfl rfl (zdal_p dlA_Troupe_begin_15 (i := 6) rfl) (fun N3_ hsN3_ hvN3_ => ?_)
  have hf_N3_ : zFc d_ [] [] [(0, 6), (0, 7), (0, 8), (1, 5), (1, 6), (1, 7)] [5] Mz N3_ := hf_N1_.tr hsN3_ (by decide) (by decide) (by decide) (by decide)
  have rD0_6_N3_ := ze_r N3_ (d_ + 0) 6
  have eD0_7_N3_ : ze N3_ (d_ + 0) 7 = ze N1_ (d_ + 0) 7 := hsN3_.e (by decide)
  have eD0_8_N3_ : ze N3_ (d_ + 0) 8 = ze N1_ (d_ + 0) 8 := hsN3_.e (by decide)
  have c4_ : zMvK [] P_ d_ N3_ := zMvK.fr (hf_N1_.w hW) hsN3_ hp0_N1_ (by decide)
  have c5_ : zGg [] P_ d_ N3_ := zGg.fr (hf_N1_.w hW) hsN3_ hp1_N1_ (by decide)
  refine zw_aload_n (pc := 13) (n := 0) (x := (d_ + 0)) rfl (zdal_p dlA_Troupe_begin_15 (i := 7) rfl) ?_
  refine zw_iconst (pc := 14) (v := Int32.ofInt 0) (by decide) (zdal_p dlA_Troupe_begin_15 (i := 8) rfl) ?_
  refine zk_putR (pc := 15) (o := 0) (by decide) f_Troupe_68 rfl rfl ((hf_N3_.w hW).kr (o := 0) (by decide)) ⟨by omega, by omega⟩ rfl rfl (zdal_p dlA_Troupe_begin_15 (i := 9) rfl) (fun N6_ hsN6_ hvN6_ => ?_)
  have hf_N6_ : zFc d_ [] [] [(0, 6), (0, 7), (0, 8), (1, 5), (1, 6), (1, 7)] [5] Mz N6_ := hf_N3_.tr hsN6_ (by decide) (by decide) (by decide) (by decide)
  have eD0_6_N6_ : ze N6_ (d_ + 0) 6 = ze N3_ (d_ + 0) 6 := hsN6_.e (by decide)
  have rD0_7_N6_ := ze_r N6_ (d_ + 0) 7
  have eD0_8_N6_ : ze N6_ (d_ + 0) 8 = ze N3_ (d_ + 0) 8 := hsN6_.e (by decide)
  have c7_ : zMvK [] P_ d_ N6_ := zMvK.fr (hf_N3_.w hW) hsN6_ c4_ (by decide)
  have c8_ : zGg [] P_ d_ N6_ := zGg.fr (hf_N3_.w hW) hsN6_ c5_ (by decide)
  refine zw_aload_n (pc := 18) (n := 0) (x := (d_ + 0)) rfl (zdal_p dlA_Troupe_begin_15 (i := 10) rfl) ?_
  refine zw_iconst (pc := 19) (v := Int32.ofInt 0) (by decide) (zdal_p dlA_Troupe_begin_15 (i := 11) rfl) ?_
  refine zk_putR (pc := 20) (o := 0) (by decide) f_Troupe_71 rfl rfl ((hf_N6_.w hW).kr (o := 0) (by decide)) ⟨by omega, by omega⟩ rfl rfl (zdal_p dlA_Troupe_begin_15 (i := 12) rfl) (fun N9_ hsN9_ hvN9_ => ?_)
  have hf_N9_ : zFc d_ [] [] [(0, 6), (0, 7), (0, 8), (1, 5), (1, 6), (1, 7)] [5] Mz N9_ := hf_N6_.tr hsN9_ (by decide) (by decide) (by decide) (by decide)
  have eD0_6_N9_ : ze N9_ (d_ + 0) 6 = ze N6_ (d_ + 0) 6 := hsN9_.e (by decide)
  have eD0_7_N9_ : ze N9_ (d_ + 0) 7 = ze N6_ (d_ + 0) 7 := hsN9_.e (by decide)
  have rD0_8_N9_ := ze_r N9_ (d_ + 0) 8
  have c10_ : zMvK [] P_ d_ N9_ := zMvK.fr (hf_N6_.w hW) hsN9_ c7_ (by decide)
  have c11_ : zGg [] P_ d_ N9_ := zGg.fr (hf_N6_.w hW) hsN9_ c8_ (by decide)
  exact zk_vret (pc := 23) rfl hf_N9_ ⟨c10_, c11_, (show ze N9_ (d_ + 0) 6 = 0 by first | assumption | omega)⟩ (zdal_p dlA_Troupe_begin_15 (i := 13) rfl)
set_option maxHeartbeats 4000000 in
theorem u_Reader_readPlaces (l : Launch) (d_ : Nat) (Mz : zMem) (hW : zKW d_ Mz) (b_ : Nat → Int) (n_ : Nat) (p0_ : zYb b_ n_ Mz) (p1_ : zYt b_ n_ Mz) : zC l m_Reader_readPlaces 0 0 [.ref 4, .ref (d_ + 0)] Mz (zqcI d_ [(1, 2), (1, 3), (1, 4), (1, 5), (4, 2), (4, 3)] [] [(0, 6), (0, 7), (0, 8), (1, 5), (1, 6), (1, 7)] [5] Mz (fun v N => zYt b_ n_ N ∧ (((v = 1 ∧ (∃ P : Nat, zHd b_ n_ (ze Mz 1 2).toNat P (ze N 1 2).toNat ∧ zMvK [] P d_ N ∧ zGg [] P d_ N) ∧ ze N (d_ + 0) 6 = 0) ∨ (v = 0 ∧ ¬ ∃ P q, zHd b_ n_ (ze Mz 1 2).toNat P q))))) := by
  refine zC_of (L0 := [some (.ref 4), some (.ref (d_ + 0))]) md_Reader_readPlaces (Nat.le_of_ble_eq_true rfl) rfl ?_ zQ0
  have hf : zFc d_ [(1, 2), (1, 3), (1, 4), (1, 5), (4, 2), (4, 3)] [] [(0, 6), (0, 7), (0, 8), (1, 5), (1, 6), (1, 7)] [5] Mz Mz := zFc.rf
  have r_A1_2 := ze_r Mz 1 2
  have r_A1_3 := ze_r Mz 1 3
  have r_A1_5 := ze_r Mz 1 5
  have r_D0_6 := ze_r Mz (d_ + 0) 6
  refine zw_aload_n (pc := 0) (n := 0) (x := 4) rfl (zdal_p dlA_Reader_readPlaces_87 (i := 0) rfl) ?_
  refine zw_getF (pc := 1) f_Reader_15 rfl ((hf.w hW).ka (o := 4) (by decide)) ((hf.w hW).la (o := 4) (s := 0) (r := 1) (by decide)) (zdal_p dlA_Reader_readPlaces_87 (i := 1) rfl) ?_
  refine zw_ldcs (pc := 4) (i := 0) (List.mem_of_getElem? (i := 0) rfl) (zdal_p dlA_Reader_readPlaces_87 (i := 2) rfl) ?_
  refine zk_callV hf.x (pc := 6) [.ref (zK 0)] [] l_Reader_49 (u_Tokens_isWord l d_ Mz (hf.w hW) 0 (by decide) b_ n_ p0_ p1_) rfl rfl ((hf.w hW).ka (o := 1) (by decide)) (by decide) (by decide) (Nat.le_of_ble_eq_true rfl) (zdal_p dlA_Reader_readPlaces_87 (i := 3) rfl) ?_
  rintro _ N1_ ⟨v2_, rfl, ⟨hv2_a, hv2_b⟩, hsN1_, hp0_N1_⟩
  obtain rfl := hsN1_.eq.symm
  replace hp0_N1_ : ((v2_ = 1 ∧ zkd b_ n_ (ze Mz 1 2).toNat = 1 ∧ zkey b_ n_ (ze Mz 1 2).toNat = zkw 0) ∨ (v2_ = 0 ∧ ¬ (zkd b_ n_ (ze Mz 1 2).toNat = 1 ∧ zkey b_ n_ (ze Mz 1 2).toNat = zkw 0))) := hp0_N1_
  rcases hp0_N1_ with ⟨rfl, ha6_0_hp0_N1_, ha6_1_hp0_N1_⟩ | ⟨rfl, ha6_0_hp0_N1_⟩
  · skip
    have hl0_ := And.intro ha6_0_hp0_N1_ ha6_1_hp0_N1_
    show zW l m_Reader_readPlaces (zn Mz + 0, zw Mz + 0) Mz 9 [some (.ref 4), some (.ref (d_ + 0))] [.int (Int32.ofInt 1)] _
    refine zr_if_ne (pc := 9) (tgt := 18) ⟨(by decide), (by decide)⟩ (by decide) (zdal_p dlA_Reader_readPlaces_87 (i := 4) rfl) (fun hc_9 => ?_) (fun hc_9 => ?_)
    · skip
      have hyt_ := p1_
      have hyx_ := hyt_.x
      refine zw_aload_n (pc := 18) (n := 0) (x := 4) rfl (zdal_p dlA_Reader_readPlaces_87 (i := 9) rfl) ?_
      refine zw_getF (pc := 19) f_Reader_15 rfl ((hf.w hW).ka (o := 4) (by decide)) ((hf.w hW).la (o := 4) (s := 0) (r := 1) (by decide)) (zdal_p dlA_Reader_readPlaces_87 (i := 10) rfl) ?_
      refine zk_callV hf.x (pc := 22) [] [] l_Reader_44 (u_Tokens_step l d_ Mz (hf.w hW) b_ n_ p0_ (show 0 ≤ ze Mz 1 3 by first | assumption | omega) (show ze Mz 1 3 ≤ n_ by first | assumption | omega)) rfl rfl ((hf.w hW).ka (o := 1) (by decide)) (by decide) (by decide) (Nat.le_of_ble_eq_true rfl) (zdal_p dlA_Reader_readPlaces_87 (i := 11) rfl) ?_
      rintro _ N3_ ⟨rfl, hsN3_, ⟨hp0_N3_, hp1_N3_⟩⟩
      have hf_N3_ : zFc d_ [(1, 2), (1, 3), (1, 4), (1, 5), (4, 2), (4, 3)] [] [(0, 6), (0, 7), (0, 8), (1, 5), (1, 6), (1, 7)] [5] Mz N3_ := hf.tr hsN3_ (by decide) (by decide) (by decide) (by decide)
      have rA1_2_N3_ := ze_r N3_ 1 2
      have rA1_3_N3_ := ze_r N3_ 1 3
      have rA1_5_N3_ := ze_r N3_ 1 5
      have eD0_6_N3_ : ze N3_ (d_ + 0) 6 = ze Mz (d_ + 0) 6 := hsN3_.e (by decide)
      have c5_ : zYb b_ n_ N3_ := zYb.fr (hf.w hW) hsN3_ p0_ (by decide)
      show zW l m_Reader_readPlaces (zn Mz + 0, zw Mz + 0) N3_ 25 [some (.ref 4), some (.ref (d_ + 0))] [] _
      have hnn_ := hyt_.n hp0_N3_
      have hx1_ : (ze N3_ 1 2).toNat = znx b_ n_ (ze Mz 1 2).toNat := hnn_.2
      refine zw_aload_n (pc := 25) (n := 0) (x := 4) rfl (zdal_p dlA_Reader_readPlaces_87 (i := 12) rfl) ?_
      refine zw_getF (pc := 26) f_Reader_15 rfl ((hf_N3_.w hW).ka (o := 4) (by decide)) ((hf_N3_.w hW).la (o := 4) (s := 0) (r := 1) (by decide)) (zdal_p dlA_Reader_readPlaces_87 (i := 13) rfl) ?_
      refine zk_callV hf_N3_.x (pc := 29) [] [] l_Reader_53 (u_Tokens_isNumber l d_ N3_ (hf_N3_.w hW) b_ n_ hp1_N3_) rfl rfl ((hf_N3_.w hW).ka (o := 1) (by decide)) (by decide) (by decide) (Nat.le_of_ble_eq_true rfl) (zdal_p dlA_Reader_readPlaces_87 (i := 14) rfl) ?_
      rintro _ N6_ ⟨v7_, rfl, ⟨hv7_a, hv7_b⟩, hsN6_, hp0_N6_⟩
      obtain rfl := hsN6_.eq.symm
      replace hp0_N6_ : ((v7_ = 1 ∧ zkd b_ n_ (ze N3_ 1 2).toNat = 2) ∨ (v7_ = 0 ∧ zkd b_ n_ (ze N3_ 1 2).toNat ≠ 2)) := hp0_N6_
      rcases hp0_N6_ with ⟨rfl, ha29_0_hp0_N6_⟩ | ⟨rfl, ha29_0_hp0_N6_⟩
      · skip
        have hk2_ := ha29_0_hp0_N6_
        have hv2_ := hp1_N3_.v2 hk2_
        rw [hx1_] at hk2_ hv2_
        show zW l m_Reader_readPlaces (zn Mz + 0, zw Mz + 0) N3_ 32 [some (.ref 4), some (.ref (d_ + 0))] [.int (Int32.ofInt 1)] _
        refine zr_if_ne (pc := 32) (tgt := 41) ⟨(by decide), (by decide)⟩ (by decide) (zdal_p dlA_Reader_readPlaces_87 (i := 15) rfl) (fun hc_32 => ?_) (fun hc_32 => ?_)
        · skip
          refine zw_aload_n (pc := 41) (n := 0) (x := 4) rfl (zdal_p dlA_Reader_readPlaces_87 (i := 20) rfl) ?_
          refine zw_getF (pc := 42) f_Reader_15 rfl ((hf_N3_.w hW).ka (o := 4) (by decide)) ((hf_N3_.w hW).la (o := 4) (s := 0) (r := 1) (by decide)) (zdal_p dlA_Reader_readPlaces_87 (i := 21) rfl) ?_
          refine zk_getI (pc := 45) f_Reader_57 rfl ((hf_N3_.w hW).ka (o := 1) (by decide)) (zdal_p dlA_Reader_readPlaces_87 (i := 22) rfl) ?_
          refine zw_iconst (pc := 48) (v := Int32.ofInt 1) (by decide) (zdal_p dlA_Reader_readPlaces_87 (i := 23) rfl) ?_
          refine zr_icmp_lt (pc := 49) (tgt := 64) ⟨(ze_r N3_ 1 5).1, (ze_r N3_ 1 5).2⟩ ⟨(by decide), (by decide)⟩ (by decide) (zdal_p dlA_Reader_readPlaces_88 (i := 0) rfl) (fun hc_49 => ?_) (fun hc_49 => ?_)
          · skip
            refine zw_aload_n (pc := 64) (n := 0) (x := 4) rfl (zdal_p dlA_Reader_readPlaces_88 (i := 6) rfl) ?_
            refine zw_iconst (pc := 65) (v := Int32.ofInt 4) (by decide) (zdal_p dlA_Reader_readPlaces_88 (i := 7) rfl) ?_
            refine zk_callV hf_N3_.x (pc := 66) [.int (Int32.ofInt 4)] [] l_Reader_41 (u_Reader_refuse l d_ N3_ (hf_N3_.w hW) 4 (by decide) (by decide)) rfl rfl ((hf_N3_.w hW).ka (o := 4) (by decide)) (by decide) (by decide) (Nat.le_of_ble_eq_true rfl) (zdal_p dlA_Reader_readPlaces_88 (i := 8) rfl) ?_
            rintro _ N8_ ⟨v9_, rfl, ⟨hv9_a, hv9_b⟩, hsN8_, hp0_N8_⟩
            replace hp0_N8_ : ((v9_ = 0)) := hp0_N8_
            have hf_N8_ : zFc d_ [(1, 2), (1, 3), (1, 4), (1, 5), (4, 2), (4, 3)] [] [(0, 6), (0, 7), (0, 8), (1, 5), (1, 6), (1, 7)] [5] Mz N8_ := hf_N3_.tr hsN8_ (by decide) (by decide) (by decide) (by decide)
            have eA1_2_N8_ : ze N8_ 1 2 = ze N3_ 1 2 := hsN8_.ea (hf_N3_.w hW) (by decide)
            have eA1_3_N8_ : ze N8_ 1 3 = ze N3_ 1 3 := hsN8_.ea (hf_N3_.w hW) (by decide)
            have eA1_5_N8_ : ze N8_ 1 5 = ze N3_ 1 5 := hsN8_.ea (hf_N3_.w hW) (by decide)
            have eD0_6_N8_ : ze N8_ (d_ + 0) 6 = ze N3_ (d_ + 0) 6 := hsN8_.e (by decide)
            have c10_ : zYb b_ n_ N8_ := zYb.fr (hf_N3_.w hW) hsN8_ c5_ (by decide)
            have c11_ : zYt b_ n_ N8_ := zYt.fr (hf_N3_.w hW) hsN8_ hp1_N3_ (by decide)
            rcases hp0_N8_ with rfl
            · skip
              show zW l m_Reader_readPlaces (zn Mz + 0, zw Mz + 0) N8_ 69 [some (.ref 4), some (.ref (d_ + 0))] [.int (Int32.ofInt 0)] _
              exact zk_iret (pc := 69) (ty := .boolean) rfl (z_narB (by omega)) ⟨by omega, by omega⟩ hf_N8_ ⟨c11_, (show ((0 = 1 ∧ (∃ P : Nat, zHd b_ n_ (ze Mz 1 2).toNat P (ze N8_ 1 2).toNat ∧ zMvK [] P d_ N8_ ∧ zGg [] P d_ N8_) ∧ ze N8_ (d_ + 0) 6 = 0) ∨ (0 = 0 ∧ ¬ ∃ P q, zHd b_ n_ (ze Mz 1 2).toNat P q)) from Or.inr (⟨(show 0 = 0 by first | rfl | exact hrt_ | (rintro ⟨P, q, h⟩; have h2_ := h.2.1; omega)), (show ¬ ∃ P q, zHd b_ n_ (ze Mz 1 2).toNat P q by first | rfl | exact hrt_ | (rintro ⟨P, q, h⟩; have h2_ := h.2.1; omega))⟩))⟩ (zdal_p dlA_Reader_readPlaces_88 (i := 9) rfl)
          · skip
            refine zw_aload_n (pc := 52) (n := 0) (x := 4) rfl (zdal_p dlA_Reader_readPlaces_88 (i := 1) rfl) ?_
            refine zw_getF (pc := 53) f_Reader_15 rfl ((hf_N3_.w hW).ka (o := 4) (by decide)) ((hf_N3_.w hW).la (o := 4) (s := 0) (r := 1) (by decide)) (zdal_p dlA_Reader_readPlaces_88 (i := 2) rfl) ?_
            refine zk_getI (pc := 56) f_Reader_57 rfl ((hf_N3_.w hW).ka (o := 1) (by decide)) (zdal_p dlA_Reader_readPlaces_88 (i := 3) rfl) ?_
            refine zw_bipush (pc := 59) (v := Int32.ofInt 6) (by decide) (zdal_p dlA_Reader_readPlaces_88 (i := 4) rfl) ?_
            refine zr_icmp_le (pc := 61) (tgt := 70) ⟨(ze_r N3_ 1 5).1, (ze_r N3_ 1 5).2⟩ ⟨(by decide), (by decide)⟩ (by decide) (zdal_p dlA_Reader_readPlaces_88 (i := 5) rfl) (fun hc_61 => ?_) (fun hc_61 => ?_)
            · skip
              refine zw_aload_n (pc := 70) (n := 1) (x := (d_ + 0)) rfl (zdal_p dlA_Reader_readPlaces_88 (i := 10) rfl) ?_
              refine zw_aload_n (pc := 71) (n := 0) (x := 4) rfl (zdal_p dlA_Reader_readPlaces_88 (i := 11) rfl) ?_
              refine zw_getF (pc := 72) f_Reader_15 rfl ((hf_N3_.w hW).ka (o := 4) (by decide)) ((hf_N3_.w hW).la (o := 4) (s := 0) (r := 1) (by decide)) (zdal_p dlA_Reader_readPlaces_88 (i := 12) rfl) ?_
              refine zk_getI (pc := 75) f_Reader_57 rfl ((hf_N3_.w hW).ka (o := 1) (by decide)) (zdal_p dlA_Reader_readPlaces_88 (i := 13) rfl) ?_
              refine zk_callV hf_N3_.x (pc := 78) [.int (Int32.ofInt (ze N3_ 1 5))] [] l_Reader_60 (u_Troupe_begin l d_ N3_ (hf_N3_.w hW) (ze N3_ 1 5) (ze_r N3_ 1 5).1 (ze_r N3_ 1 5).2 (ze N3_ 1 5).toNat (show (ze N3_ 1 5) = (ze N3_ 1 5).toNat by omega) (show 1 ≤ (ze N3_ 1 5).toNat by omega) (show (ze N3_ 1 5).toNat ≤ 6 by omega)) rfl rfl ((hf_N3_.w hW).kr (o := 0) (by decide)) (by decide) (by decide) (Nat.le_of_ble_eq_true rfl) (zdal_p dlA_Reader_readPlaces_88 (i := 14) rfl) ?_
              rintro _ N12_ ⟨rfl, hsN12_, ⟨hp0_N12_, hp1_N12_, hp2_N12_⟩⟩
              have hf_N12_ : zFc d_ [(1, 2), (1, 3), (1, 4), (1, 5), (4, 2), (4, 3)] [] [(0, 6), (0, 7), (0, 8), (1, 5), (1, 6), (1, 7)] [5] Mz N12_ := hf_N3_.tr hsN12_ (by decide) (by decide) (by decide) (by decide)
              have eA1_2_N12_ : ze N12_ 1 2 = ze N3_ 1 2 := hsN12_.ea (hf_N3_.w hW) (by decide)
              have eA1_3_N12_ : ze N12_ 1 3 = ze N3_ 1 3 := hsN12_.ea (hf_N3_.w hW) (by decide)
              have eA1_5_N12_ : ze N12_ 1 5 = ze N3_ 1 5 := hsN12_.ea (hf_N3_.w hW) (by decide)
              have rD0_6_N12_ := ze_r N12_ (d_ + 0) 6
              have c14_ : zYb b_ n_ N12_ := zYb.fr (hf_N3_.w hW) hsN12_ c5_ (by decide)
              have c15_ : zYt b_ n_ N12_ := zYt.fr (hf_N3_.w hW) hsN12_ hp1_N3_ (by decide)
              show zW l m_Reader_readPlaces (zn Mz + 0, zw Mz + 0) N12_ 81 [some (.ref 4), some (.ref (d_ + 0))] [] _
              have hb0_ := hp0_N12_
              have hb1_ := hp1_N12_
              have hb2_ := hp2_N12_
              obtain ⟨P_, hP_⟩ : ∃ P_ : Nat, P_ = (ze N3_ 1 5).toNat := ⟨_, rfl⟩
              rw [← hP_] at hb0_ hb1_
              have hyt_ := c15_
              have hyx_ := hyt_.x
              refine zw_aload_n (pc := 81) (n := 0) (x := 4) rfl (zdal_p dlA_Reader_readPlaces_88 (i := 15) rfl) ?_
              refine zw_getF (pc := 82) f_Reader_15 rfl ((hf_N12_.w hW).ka (o := 4) (by decide)) ((hf_N12_.w hW).la (o := 4) (s := 0) (r := 1) (by decide)) (zdal_p dlA_Reader_readPlaces_88 (i := 16) rfl) ?_
              refine zk_callV hf_N12_.x (pc := 85) [] [] l_Reader_44 (u_Tokens_step l d_ N12_ (hf_N12_.w hW) b_ n_ c14_ (show 0 ≤ ze N12_ 1 3 by first | assumption | omega) (show ze N12_ 1 3 ≤ n_ by first | assumption | omega)) rfl rfl ((hf_N12_.w hW).ka (o := 1) (by decide)) (by decide) (by decide) (Nat.le_of_ble_eq_true rfl) (zdal_p dlA_Reader_readPlaces_88 (i := 17) rfl) ?_
              rintro _ N16_ ⟨rfl, hsN16_, ⟨hp0_N16_, hp1_N16_⟩⟩
              have hf_N16_ : zFc d_ [(1, 2), (1, 3), (1, 4), (1, 5), (4, 2), (4, 3)] [] [(0, 6), (0, 7), (0, 8), (1, 5), (1, 6), (1, 7)] [5] Mz N16_ := hf_N12_.tr hsN16_ (by decide) (by decide) (by decide) (by decide)
              have rA1_2_N16_ := ze_r N16_ 1 2
              have rA1_3_N16_ := ze_r N16_ 1 3
              have rA1_5_N16_ := ze_r N16_ 1 5
              have eD0_6_N16_ : ze N16_ (d_ + 0) 6 = ze N12_ (d_ + 0) 6 := hsN16_.e (by decide)
              have c18_ : zYb b_ n_ N16_ := zYb.fr (hf_N12_.w hW) hsN16_ c14_ (by decide)
              have c19_ : zMvK [] (ze N3_ 1 5).toNat d_ N16_ := zMvK.fr (hf_N12_.w hW) hsN16_ hp0_N12_ (by decide)
              have c20_ : zGg [] (ze N3_ 1 5).toNat d_ N16_ := zGg.fr (hf_N12_.w hW) hsN16_ hp1_N12_ (by decide)
              show zW l m_Reader_readPlaces (zn Mz + 0, zw Mz + 0) N16_ 88 [some (.ref 4), some (.ref (d_ + 0))] [] _
              have hnn_ := hyt_.n hp0_N16_
              have hx2_ : (ze N16_ 1 2).toNat = znx b_ n_ (znx b_ n_ (ze Mz 1 2).toNat) := hnn_.2.trans (by rw [show ze N12_ 1 2 = ze N3_ 1 2 by omega, hx1_])
              have hb3_ : zMvK [] P_ d_ N16_ := by rw [hP_]; assumption
              have hb4_ : zGg [] P_ d_ N16_ := by rw [hP_]; assumption
              refine zw_aload_n (pc := 88) (n := 0) (x := 4) rfl (zdal_p dlA_Reader_readPlaces_88 (i := 18) rfl) ?_
              refine zw_bipush (pc := 89) (v := Int32.ofInt 59) (by decide) (zdal_p dlA_Reader_readPlaces_88 (i := 19) rfl) ?_
              refine zk_callV hf_N16_.x (pc := 91) [.int (Int32.ofInt 59)] [] l_Reader_66 (u_Reader_passSign l d_ N16_ (hf_N16_.w hW) 59 (by decide) (by decide) b_ n_ c18_ hp1_N16_) rfl rfl ((hf_N16_.w hW).ka (o := 4) (by decide)) (by decide) (by decide) (Nat.le_of_ble_eq_true rfl) (zdal_p dlA_Reader_readPlaces_88 (i := 20) rfl) ?_
              rintro _ N21_ ⟨v22_, rfl, ⟨hv22_a, hv22_b⟩, hsN21_, ⟨hp0_N21_, hp1_N21_⟩⟩
              have hf_N21_ : zFc d_ [(1, 2), (1, 3), (1, 4), (1, 5), (4, 2), (4, 3)] [] [(0, 6), (0, 7), (0, 8), (1, 5), (1, 6), (1, 7)] [5] Mz N21_ := hf_N16_.tr hsN21_ (by decide) (by decide) (by decide) (by decide)
              have rA1_2_N21_ := ze_r N21_ 1 2
              have rA1_3_N21_ := ze_r N21_ 1 3
              have rA1_5_N21_ := ze_r N21_ 1 5
              have eD0_6_N21_ : ze N21_ (d_ + 0) 6 = ze N16_ (d_ + 0) 6 := hsN21_.e (by decide)
              have c23_ : zYb b_ n_ N21_ := zYb.fr (hf_N16_.w hW) hsN21_ c18_ (by decide)
              have c24_ : zMvK [] (ze N3_ 1 5).toNat d_ N21_ := zMvK.fr (hf_N16_.w hW) hsN21_ c19_ (by decide)
              have c25_ : zGg [] (ze N3_ 1 5).toNat d_ N21_ := zGg.fr (hf_N16_.w hW) hsN21_ c20_ (by decide)
              rcases hp1_N21_ with ⟨rfl, ha91_0_hp1_N21_, ha91_1_hp1_N21_⟩ | ⟨rfl, ha91_0_hp1_N21_⟩
              · skip
                have hs1_ := ha91_0_hp1_N21_
                have hs2_ := ha91_1_hp1_N21_
                rw [hx2_] at hs1_ hs2_
                have hb5_ : zMvK [] P_ d_ N21_ := by rw [hP_]; assumption
                have hb6_ : zGg [] P_ d_ N21_ := by rw [hP_]; assumption
                show zW l m_Reader_readPlaces (zn Mz + 0, zw Mz + 0) N21_ 94 [some (.ref 4), some (.ref (d_ + 0))] [.int (Int32.ofInt 1)] _
                exact zk_iret (pc := 94) (ty := .boolean) rfl (z_narB (by omega)) ⟨by omega, by omega⟩ hf_N21_ ⟨hp0_N21_, (show ((1 = 1 ∧ (∃ P : Nat, zHd b_ n_ (ze Mz 1 2).toNat P (ze N21_ 1 2).toNat ∧ zMvK [] P d_ N21_ ∧ zGg [] P d_ N21_) ∧ ze N21_ (d_ + 0) 6 = 0) ∨ (1 = 0 ∧ ¬ ∃ P q, zHd b_ n_ (ze Mz 1 2).toNat P q)) from Or.inl (⟨(show 1 = 1 by first | rfl | omega | exact ⟨P_, ⟨hl0_, ⟨hk2_, by omega, by omega, by omega⟩, hs1_, hs2_⟩, hb5_, hb6_⟩), (show (∃ P : Nat, zHd b_ n_ (ze Mz 1 2).toNat P (ze N21_ 1 2).toNat ∧ zMvK [] P d_ N21_ ∧ zGg [] P d_ N21_) by first | rfl | omega | exact ⟨P_, ⟨hl0_, ⟨hk2_, by omega, by omega, by omega⟩, hs1_, hs2_⟩, hb5_, hb6_⟩), (show ze N21_ (d_ + 0) 6 = 0 by first | rfl | omega | exact ⟨P_, ⟨hl0_, ⟨hk2_, by omega, by omega, by omega⟩, hs1_, hs2_⟩, hb5_, hb6_⟩)⟩))⟩ (zdal_p dlA_Reader_readPlaces_88 (i := 21) rfl)
              · skip
                have hs1_ := ha91_0_hp1_N21_
                rw [hx2_] at hs1_
                have hrt_ : ¬ ∃ P q, zHd b_ n_ (ze Mz 1 2).toNat P q := fun ⟨P, q, h⟩ => hs1_ h.2.2.1
                show zW l m_Reader_readPlaces (zn Mz + 0, zw Mz + 0) N21_ 94 [some (.ref 4), some (.ref (d_ + 0))] [.int (Int32.ofInt 0)] _
                exact zk_iret (pc := 94) (ty := .boolean) rfl (z_narB (by omega)) ⟨by omega, by omega⟩ hf_N21_ ⟨hp0_N21_, (show ((0 = 1 ∧ (∃ P : Nat, zHd b_ n_ (ze Mz 1 2).toNat P (ze N21_ 1 2).toNat ∧ zMvK [] P d_ N21_ ∧ zGg [] P d_ N21_) ∧ ze N21_ (d_ + 0) 6 = 0) ∨ (0 = 0 ∧ ¬ ∃ P q, zHd b_ n_ (ze Mz 1 2).toNat P q)) from Or.inr (⟨(show 0 = 0 by first | rfl | exact hrt_ | (rintro ⟨P, q, h⟩; have h2_ := h.2.1; omega)), (show ¬ ∃ P q, zHd b_ n_ (ze Mz 1 2).toNat P q by first | rfl | exact hrt_ | (rintro ⟨P, q, h⟩; have h2_ := h.2.1; omega))⟩))⟩ (zdal_p dlA_Reader_readPlaces_88 (i := 21) rfl)
            · skip
              refine zw_aload_n (pc := 64) (n := 0) (x := 4) rfl (zdal_p dlA_Reader_readPlaces_88 (i := 6) rfl) ?_
              refine zw_iconst (pc := 65) (v := Int32.ofInt 4) (by decide) (zdal_p dlA_Reader_readPlaces_88 (i := 7) rfl) ?_
              refine zk_callV hf_N3_.x (pc := 66) [.int (Int32.ofInt 4)] [] l_Reader_41 (u_Reader_refuse l d_ N3_ (hf_N3_.w hW) 4 (by decide) (by decide)) rfl rfl ((hf_N3_.w hW).ka (o := 4) (by decide)) (by decide) (by decide) (Nat.le_of_ble_eq_true rfl) (zdal_p dlA_Reader_readPlaces_88 (i := 8) rfl) ?_
              rintro _ N26_ ⟨v27_, rfl, ⟨hv27_a, hv27_b⟩, hsN26_, hp0_N26_⟩
              replace hp0_N26_ : ((v27_ = 0)) := hp0_N26_
              have hf_N26_ : zFc d_ [(1, 2), (1, 3), (1, 4), (1, 5), (4, 2), (4, 3)] [] [(0, 6), (0, 7), (0, 8), (1, 5), (1, 6), (1, 7)] [5] Mz N26_ := hf_N3_.tr hsN26_ (by decide) (by decide) (by decide) (by decide)
              have eA1_2_N26_ : ze N26_ 1 2 = ze N3_ 1 2 := hsN26_.ea (hf_N3_.w hW) (by decide)
              have eA1_3_N26_ : ze N26_ 1 3 = ze N3_ 1 3 := hsN26_.ea (hf_N3_.w hW) (by decide)
              have eA1_5_N26_ : ze N26_ 1 5 = ze N3_ 1 5 := hsN26_.ea (hf_N3_.w hW) (by decide)
              have eD0_6_N26_ : ze N26_ (d_ + 0) 6 = ze N3_ (d_ + 0) 6 := hsN26_.e (by decide)
              have c28_ : zYb b_ n_ N26_ := zYb.fr (hf_N3_.w hW) hsN26_ c5_ (by decide)
              have c29_ : zYt b_ n_ N26_ := zYt.fr (hf_N3_.w hW) hsN26_ hp1_N3_ (by decide)
              rcases hp0_N26_ with rfl
              · skip
                show zW l m_Reader_readPlaces (zn Mz + 0, zw Mz + 0) N26_ 69 [some (.ref 4), some (.ref (d_ + 0))] [.int (Int32.ofInt 0)] _
                exact zk_iret (pc := 69) (ty := .boolean) rfl (z_narB (by omega)) ⟨by omega, by omega⟩ hf_N26_ ⟨c29_, (show ((0 = 1 ∧ (∃ P : Nat, zHd b_ n_ (ze Mz 1 2).toNat P (ze N26_ 1 2).toNat ∧ zMvK [] P d_ N26_ ∧ zGg [] P d_ N26_) ∧ ze N26_ (d_ + 0) 6 = 0) ∨ (0 = 0 ∧ ¬ ∃ P q, zHd b_ n_ (ze Mz 1 2).toNat P q)) from Or.inr (⟨(show 0 = 0 by first | rfl | exact hrt_ | (rintro ⟨P, q, h⟩; have h2_ := h.2.1; omega)), (show ¬ ∃ P q, zHd b_ n_ (ze Mz 1 2).toNat P q by first | rfl | exact hrt_ | (rintro ⟨P, q, h⟩; have h2_ := h.2.1; omega))⟩))⟩ (zdal_p dlA_Reader_readPlaces_88 (i := 9) rfl)
        · skip
          exact absurd hc_32 (by decide)
      · skip
        have hk2_ := ha29_0_hp0_N6_
        rw [hx1_] at hk2_
        have hrt_ : ¬ ∃ P q, zHd b_ n_ (ze Mz 1 2).toNat P q := fun ⟨P, q, h⟩ => hk2_ h.2.1.1
        show zW l m_Reader_readPlaces (zn Mz + 0, zw Mz + 0) N3_ 32 [some (.ref 4), some (.ref (d_ + 0))] [.int (Int32.ofInt 0)] _
        refine zr_if_ne (pc := 32) (tgt := 41) ⟨(by decide), (by decide)⟩ (by decide) (zdal_p dlA_Reader_readPlaces_87 (i := 15) rfl) (fun hc_32 => ?_) (fun hc_32 => ?_)
        · skip
          exact absurd hc_32 (by decide)
        · skip
          refine zw_aload_n (pc := 35) (n := 0) (x := 4) rfl (zdal_p dlA_Reader_readPlaces_87 (i := 16) rfl) ?_
          refine zw_iconst (pc := 36) (v := Int32.ofInt 2) (by decide) (zdal_p dlA_Reader_readPlaces_87 (i := 17) rfl) ?_
          refine zk_callV hf_N3_.x (pc := 37) [.int (Int32.ofInt 2)] [] l_Reader_41 (u_Reader_refuse l d_ N3_ (hf_N3_.w hW) 2 (by decide) (by decide)) rfl rfl ((hf_N3_.w hW).ka (o := 4) (by decide)) (by decide) (by decide) (Nat.le_of_ble_eq_true rfl) (zdal_p dlA_Reader_readPlaces_87 (i := 18) rfl) ?_
          rintro _ N30_ ⟨v31_, rfl, ⟨hv31_a, hv31_b⟩, hsN30_, hp0_N30_⟩
          replace hp0_N30_ : ((v31_ = 0)) := hp0_N30_
          have hf_N30_ : zFc d_ [(1, 2), (1, 3), (1, 4), (1, 5), (4, 2), (4, 3)] [] [(0, 6), (0, 7), (0, 8), (1, 5), (1, 6), (1, 7)] [5] Mz N30_ := hf_N3_.tr hsN30_ (by decide) (by decide) (by decide) (by decide)
          have eA1_2_N30_ : ze N30_ 1 2 = ze N3_ 1 2 := hsN30_.ea (hf_N3_.w hW) (by decide)
          have eA1_3_N30_ : ze N30_ 1 3 = ze N3_ 1 3 := hsN30_.ea (hf_N3_.w hW) (by decide)
          have eA1_5_N30_ : ze N30_ 1 5 = ze N3_ 1 5 := hsN30_.ea (hf_N3_.w hW) (by decide)
          have eD0_6_N30_ : ze N30_ (d_ + 0) 6 = ze N3_ (d_ + 0) 6 := hsN30_.e (by decide)
          have c32_ : zYb b_ n_ N30_ := zYb.fr (hf_N3_.w hW) hsN30_ c5_ (by decide)
          have c33_ : zYt b_ n_ N30_ := zYt.fr (hf_N3_.w hW) hsN30_ hp1_N3_ (by decide)
          rcases hp0_N30_ with rfl
          · skip
            show zW l m_Reader_readPlaces (zn Mz + 0, zw Mz + 0) N30_ 40 [some (.ref 4), some (.ref (d_ + 0))] [.int (Int32.ofInt 0)] _
            exact zk_iret (pc := 40) (ty := .boolean) rfl (z_narB (by omega)) ⟨by omega, by omega⟩ hf_N30_ ⟨c33_, (show ((0 = 1 ∧ (∃ P : Nat, zHd b_ n_ (ze Mz 1 2).toNat P (ze N30_ 1 2).toNat ∧ zMvK [] P d_ N30_ ∧ zGg [] P d_ N30_) ∧ ze N30_ (d_ + 0) 6 = 0) ∨ (0 = 0 ∧ ¬ ∃ P q, zHd b_ n_ (ze Mz 1 2).toNat P q)) from Or.inr (⟨(show 0 = 0 by first | rfl | exact hrt_ | (rintro ⟨P, q, h⟩; have h2_ := h.2.1; omega)), (show ¬ ∃ P q, zHd b_ n_ (ze Mz 1 2).toNat P q by first | rfl | exact hrt_ | (rintro ⟨P, q, h⟩; have h2_ := h.2.1; omega))⟩))⟩ (zdal_p dlA_Reader_readPlaces_87 (i := 19) rfl)
    · skip
      exact absurd hc_9 (by decide)
  · skip
    have hrt_ : ¬ ∃ P q, zHd b_ n_ (ze Mz 1 2).toNat P q := fun ⟨P, q, h⟩ => ha6_0_hp0_N1_ h.1
    show zW l m_Reader_readPlaces (zn Mz + 0, zw Mz + 0) Mz 9 [some (.ref 4), some (.ref (d_ + 0))] [.int (Int32.ofInt 0)] _
    refine zr_if_ne (pc := 9) (tgt := 18) ⟨(by decide), (by decide)⟩ (by decide) (zdal_p dlA_Reader_readPlaces_87 (i := 4) rfl) (fun hc_9 => ?_) (fun hc_9 => ?_)
    · skip
      exact absurd hc_9 (by decide)
    · skip
      refine zw_aload_n (pc := 12) (n := 0) (x := 4) rfl (zdal_p dlA_Reader_readPlaces_87 (i := 5) rfl) ?_
      refine zw_iconst (pc := 13) (v := Int32.ofInt 2) (by decide) (zdal_p dlA_Reader_readPlaces_87 (i := 6) rfl) ?_
      refine zk_callV hf.x (pc := 14) [.int (Int32.ofInt 2)] [] l_Reader_41 (u_Reader_refuse l d_ Mz (hf.w hW) 2 (by decide) (by decide)) rfl rfl ((hf.w hW).ka (o := 4) (by decide)) (by decide) (by decide) (Nat.le_of_ble_eq_true rfl) (zdal_p dlA_Reader_readPlaces_87 (i := 7) rfl) ?_
      rintro _ N34_ ⟨v35_, rfl, ⟨hv35_a, hv35_b⟩, hsN34_, hp0_N34_⟩
      replace hp0_N34_ : ((v35_ = 0)) := hp0_N34_
      have hf_N34_ : zFc d_ [(1, 2), (1, 3), (1, 4), (1, 5), (4, 2), (4, 3)] [] [(0, 6), (0, 7), (0, 8), (1, 5), (1, 6), (1, 7)] [5] Mz N34_ := hf.tr hsN34_ (by decide) (by decide) (by decide) (by decide)
      have eA1_2_N34_ : ze N34_ 1 2 = ze Mz 1 2 := hsN34_.ea (hf.w hW) (by decide)
      have eA1_3_N34_ : ze N34_ 1 3 = ze Mz 1 3 := hsN34_.ea (hf.w hW) (by decide)
      have eA1_5_N34_ : ze N34_ 1 5 = ze Mz 1 5 := hsN34_.ea (hf.w hW) (by decide)
      have eD0_6_N34_ : ze N34_ (d_ + 0) 6 = ze Mz (d_ + 0) 6 := hsN34_.e (by decide)
      have c36_ : zYb b_ n_ N34_ := zYb.fr (hf.w hW) hsN34_ p0_ (by decide)
      have c37_ : zYt b_ n_ N34_ := zYt.fr (hf.w hW) hsN34_ p1_ (by decide)
      rcases hp0_N34_ with rfl
      · skip
        show zW l m_Reader_readPlaces (zn Mz + 0, zw Mz + 0) N34_ 17 [some (.ref 4), some (.ref (d_ + 0))] [.int (Int32.ofInt 0)] _
        exact zk_iret (pc := 17) (ty := .boolean) rfl (z_narB (by omega)) ⟨by omega, by omega⟩ hf_N34_ ⟨c37_, (show ((0 = 1 ∧ (∃ P : Nat, zHd b_ n_ (ze Mz 1 2).toNat P (ze N34_ 1 2).toNat ∧ zMvK [] P d_ N34_ ∧ zGg [] P d_ N34_) ∧ ze N34_ (d_ + 0) 6 = 0) ∨ (0 = 0 ∧ ¬ ∃ P q, zHd b_ n_ (ze Mz 1 2).toNat P q)) from Or.inr (⟨(show 0 = 0 by first | rfl | exact hrt_ | (rintro ⟨P, q, h⟩; have h2_ := h.2.1; omega)), (show ¬ ∃ P q, zHd b_ n_ (ze Mz 1 2).toNat P q by first | rfl | exact hrt_ | (rintro ⟨P, q, h⟩; have h2_ := h.2.1; omega))⟩))⟩ (zdal_p dlA_Reader_readPlaces_87 (i := 8) rfl)
