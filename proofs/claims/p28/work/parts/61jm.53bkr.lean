set_option maxHeartbeats 4000000 in
theorem u_Sorts_spannedSortG (l : Launch) (d_ : Nat) (Mz : zMem) (hW : zKW d_ Mz) (a0_ : Int) (ha0_a : -2147483648 ≤ a0_) (ha0_b : a0_ < 2147483648) (T_ : zGT) (hT_ : T_ ∈ gTabs) (hAs_ : gAs T_) (p0_ : zTt T_ d_ Mz) (p1_ : zSbK T_ d_ Mz) (p2_ : 0 ≤ a0_) (p3_ : (a0_).toNat < 2 ^ gN T_) : zC l m_Sorts_spannedSort 0 0 [.ref (d_ + 12), .int (Int32.ofInt a0_)] Mz (zqcI d_ [] [] [] [11] Mz (fun v N => (∃ R_ : Nat, gLC T_ (a0_).toNat R_ ∧ zSrt T_ R_ v))) := by
  refine zC_of (L0 := [some (.ref (d_ + 12)), some (.int (Int32.ofInt a0_))]) md_Sorts_spannedSort (Nat.le_of_ble_eq_true rfl) rfl ?_ zQ0
  have hf : zFc d_ [] [] [] [11] Mz Mz := zFc.rf
  have r_D12_6 := ze_r Mz (d_ + 12) 6
  have hO_ := gTabs_ok T_ hT_
  have hG_ := hO_.1
  have hn24_ := hG_.2.1
  have hn1_ := hG_.1
  refine zw_aload_n (pc := 0) (n := 0) (x := (d_ + 12)) rfl (zdal_p dlB_Sorts_spannedSort_13 (i := 0) rfl) ?_
  refine zw_getF (pc := 1) f_Sorts_20 rfl ((hf.w hW).kr (o := 12) (by decide)) ((hf.w hW).lr (o := 12) (s := 2) (r := 15) (by decide)) (zdal_p dlB_Sorts_spannedSort_13 (i := 1) rfl) ?_
  refine zw_aload_n (pc := 4) (n := 0) (x := (d_ + 12)) rfl (zdal_p dlB_Sorts_spannedSort_13 (i := 2) rfl) ?_
  refine zw_aload_n (pc := 5) (n := 0) (x := (d_ + 12)) rfl (zdal_p dlB_Sorts_spannedSort_13 (i := 3) rfl) ?_
  refine zw_getF (pc := 6) f_Sorts_32 rfl ((hf.w hW).kr (o := 12) (by decide)) ((hf.w hW).lr (o := 12) (s := 0) (r := 1) (by decide)) (zdal_p dlB_Sorts_spannedSort_13 (i := 4) rfl) ?_
  refine zw_iload_n (pc := 9) (n := 1) (x := Int32.ofInt a0_) rfl (zdal_p dlB_Sorts_spannedSort_13 (i := 5) rfl) ?_
  refine zk_callV hf.x (pc := 10) [.int (Int32.ofInt a0_)] [.ref (d_ + 12), .ref (d_ + 15)] l_Sorts_57 (u_Group_spanOf l d_ Mz (hf.w hW) a0_ ha0_a ha0_b T_ hT_ hAs_ p0_ (show 0 ≤ a0_ by first | assumption | omega) (show (a0_).toNat < 2 ^ gN T_ by first | assumption | omega)) rfl rfl ((hf.w hW).kr (o := 1) (by decide)) (by decide) (by decide) (Nat.le_of_ble_eq_true rfl) (zdal_p dlB_Sorts_spannedSort_13 (i := 6) rfl) ?_
  rintro _ N1_ ⟨v2_, rfl, ⟨hv2_a, hv2_b⟩, hsN1_, ⟨hp0_N1_, hp1_N1_, hp2_N1_⟩⟩
  have hf_N1_ : zFc d_ [] [] [] [11] Mz N1_ := hf.tr hsN1_ (by decide) (by decide) (by decide) (by decide)
  have eD12_6_N1_ : ze N1_ (d_ + 12) 6 = ze Mz (d_ + 12) 6 := hsN1_.e (by decide)
  have c3_ : zTt T_ d_ N1_ := zTt.fr (hf.w hW) hsN1_ p0_ (by decide)
  have c4_ : zSbK T_ d_ N1_ := zSbK.fr (hf.w hW) hsN1_ p1_ (by decide)
  show zW l m_Sorts_spannedSort (zn Mz + 0, zw Mz + 0) N1_ 13 [some (.ref (d_ + 12)), some (.int (Int32.ofInt a0_))] [.int (Int32.ofInt v2_), .ref (d_ + 12), .ref (d_ + 15)] _
  have hlc_ := hp0_N1_
  have hl0_ := hp1_N1_
  have hsb_ := c4_
  obtain ⟨⟨hm1_, hm35_⟩, hmm_, hms_, -⟩ := id hsb_.1
  refine zk_callV hf_N1_.x (pc := 13) [.int (Int32.ofInt v2_)] [.ref (d_ + 15)] l_Sorts_72 (u_Sorts_indexOf l d_ N1_ (hf_N1_.w hW) v2_ hv2_a hv2_b (show 0 ≤ ze N1_ (d_ + 12) 6 by first | assumption | omega) (show ze N1_ (d_ + 12) 6 ≤ 35 by first | assumption | omega)) rfl rfl ((hf_N1_.w hW).kr (o := 12) (by decide)) (by decide) (by decide) (Nat.le_of_ble_eq_true rfl) (zdal_p dlB_Sorts_spannedSort_13 (i := 7) rfl) ?_
  rintro _ N5_ ⟨v6_, rfl, ⟨hv6_a, hv6_b⟩, hsN5_, hp0_N5_⟩
  obtain rfl := hsN5_.eq.symm
  replace hp0_N5_ : ((v6_ = -1 ∧ (∀ i : Nat, (i : Int) < ze N1_ (d_ + 12) 6 → ze N1_ (d_ + 14) i ≠ v2_)) ∨ (0 ≤ v6_ ∧ v6_ < ze N1_ (d_ + 12) 6 ∧ ze N1_ (d_ + 14) (v6_).toNat = v2_)) := hp0_N5_
  rcases hp0_N5_ with ⟨rfl, ha13_0_hp0_N5_⟩ | ⟨ha13_0_hp0_N5_, ha13_1_hp0_N5_, ha13_2_hp0_N5_⟩
  · skip
    exact absurd (hO_.mem hlc_) (fun q_ => by obtain ⟨j_, hj1_, hj2_⟩ := hms_ _ q_; have hj3_ := (hmm_ j_ hj1_).1; exact ha13_0_hp0_N5_ j_ hj1_ (by unfold zRw at hj2_ hj3_; omega))
  · skip
    have hx0_ := ha13_0_hp0_N5_
    have hx1_ := ha13_1_hp0_N5_
    have hx2_ := ha13_2_hp0_N5_
    show zW l m_Sorts_spannedSort (zn Mz + 0, zw Mz + 0) N1_ 16 [some (.ref (d_ + 12)), some (.int (Int32.ofInt a0_))] [.int (Int32.ofInt v6_), .ref (d_ + 15)] _
    have hso_ := hsb_.2 (v6_).toNat (by omega)
    rw [hx2_] at hso_
    refine zk_at hf_N1_.x (pc := 16) l_Sorts_49 ((hf_N1_.w hW).kr (o := 15) (by decide)) ((hf_N1_.w hW).lr (o := 15) (s := 0) (r := 16) (by decide)) ((hf_N1_.w hW).rr (o := 16) (t := 1) (n := 35) (by decide)) (by decide) (by omega) (by omega) (by decide) (Nat.le_of_ble_eq_true rfl) (zdal_p dlB_Sorts_spannedSort_13 (i := 8) rfl) (fun v7_ hv7_ hv7_a hv7_b => ?_)
    rw [hf_N1_.r (by decide)] at hv7_
    have hv_ := hv7_
    exact zk_iret (pc := 19) (ty := .int) rfl rfl ⟨by omega, by omega⟩ hf_N1_ (show (∃ R_ : Nat, gLC T_ (a0_).toNat R_ ∧ zSrt T_ R_ v7_) by exact ⟨_, hlc_, by rw [hv_, ← hf_N1_.r (o := 16) (by decide)]; exact hso_⟩) (zdal_p dlB_Sorts_spannedSort_13 (i := 9) rfl)
set_option maxHeartbeats 4000000 in
theorem u_T_joinG (l : Launch) (d_ : Nat) (Mz : zMem) (hW : zKW d_ Mz) (hnow : zf Mz 0 2 = some (d_ + 0)) (a0_ : Int) (ha0_a : -2147483648 ≤ a0_) (ha0_b : a0_ < 2147483648) (a1_ : Int) (ha1_a : -2147483648 ≤ a1_) (ha1_b : a1_ < 2147483648) (T_ : zGT) (hT_ : T_ ∈ gTabs) (hAs_ : gAs T_) (p0_ : zTt T_ d_ Mz) (p1_ : zFir T_ d_ Mz) (p2_ : zSbK T_ d_ Mz) : zC l m_T_join 0 0 [.ref 0, .int (Int32.ofInt a0_), .int (Int32.ofInt a1_)] Mz (zqcI d_ [] [] [] [11] Mz (fun v N => (((0 ≤ a0_ ∧ a0_ < ((gF T_).length : Int) ∧ 0 ≤ a1_ ∧ a1_ < ((gF T_).length : Int) ∧ ∃ R_ : Nat, gLC T_ (gFn T_ (a0_).toNat ||| gFn T_ (a1_).toNat) R_ ∧ zSrt T_ R_ v) ∨ (¬ (0 ≤ a0_ ∧ a0_ < ((gF T_).length : Int) ∧ 0 ≤ a1_ ∧ a1_ < ((gF T_).length : Int)) ∧ v = (-1 : Int)))))) := by
  refine zC_of (L0 := [some (.ref 0), some (.int (Int32.ofInt a0_)), some (.int (Int32.ofInt a1_)), none]) md_T_join (Nat.le_of_ble_eq_true rfl) rfl ?_ zQ0
  have hf : zFc d_ [] [] [] [11] Mz Mz := zFc.rf
  have r_D12_7 := ze_r Mz (d_ + 12) 7
  have hO_ := gTabs_ok T_ hT_
  have hG_ := hO_.1
  have hn24_ := hG_.2.1
  have hn1_ := hG_.1
  have hfl_ := p1_.1
  obtain ⟨⟨hF1_, hF27_⟩, hAr_⟩ := id (gT_zTA hT_)
  refine zw_aload_n (pc := 0) (n := 0) (x := 0) rfl (zdal_p dlB_T_join_65 (i := 0) rfl) ?_
  refine zw_getF (pc := 1) f_T_28 rfl ((hf.w hW).ka (o := 0) (by decide)) (hf.now hnow) (zdal_p dlB_T_join_65 (i := 1) rfl) ?_
  refine zw_getF (pc := 4) f_T_85 rfl ((hf.w hW).kr (o := 0) (by decide)) ((hf.w hW).lr (o := 0) (s := 1) (r := 12) (by decide)) (zdal_p dlB_T_join_65 (i := 2) rfl) ?_
  refine zw_astore_n (pc := 7) (i := 3) (L2 := [some (.ref 0), some (.int (Int32.ofInt a0_)), some (.int (Int32.ofInt a1_)), some (.ref (d_ + 12))]) rfl (by decide) rfl (zdal_p dlB_T_join_65 (i := 3) rfl) ?_
  refine zw_aload_n (pc := 8) (n := 3) (x := (d_ + 12)) rfl (zdal_p dlB_T_join_65 (i := 4) rfl) ?_
  refine zw_iload_n (pc := 9) (n := 1) (x := Int32.ofInt a0_) rfl (zdal_p dlB_T_join_65 (i := 5) rfl) ?_
  refine zk_callV hf.x (pc := 10) [.int (Int32.ofInt a0_)] [] l_T_143 (u_Sorts_hasSortG l d_ Mz (hf.w hW) a0_ ha0_a ha0_b) rfl rfl ((hf.w hW).kr (o := 12) (by decide)) (by decide) (by decide) (Nat.le_of_ble_eq_true rfl) (zdal_p dlB_T_join_65 (i := 6) rfl) ?_
  rintro _ N1_ ⟨v2_, rfl, ⟨hv2_a, hv2_b⟩, hsN1_, hp0_N1_⟩
  obtain rfl := hsN1_.eq.symm
  replace hp0_N1_ : ((v2_ = 1 ∧ 0 ≤ a0_ ∧ a0_ < ze Mz (d_ + 12) 7) ∨ (v2_ = 0 ∧ (a0_ < 0 ∨ ze Mz (d_ + 12) 7 ≤ a0_))) := hp0_N1_
  rcases hp0_N1_ with ⟨rfl, ha10_0_hp0_N1_, ha10_1_hp0_N1_⟩ | ⟨rfl, ha10_0_hp0_N1_⟩
  · skip
    show zW l m_T_join (zn Mz + 0, zw Mz + 0) Mz 13 [some (.ref 0), some (.int (Int32.ofInt a0_)), some (.int (Int32.ofInt a1_)), some (.ref (d_ + 12))] [.int (Int32.ofInt 1)] _
    refine zr_if_eq (pc := 13) (tgt := 24) ⟨(by decide), (by decide)⟩ (by decide) (zdal_p dlB_T_join_65 (i := 7) rfl) (fun hc_13 => ?_) (fun hc_13 => ?_)
    · skip
      exact absurd hc_13 (by decide)
    · skip
      refine zw_aload_n (pc := 16) (n := 3) (x := (d_ + 12)) rfl (zdal_p dlB_T_join_65 (i := 8) rfl) ?_
      refine zw_iload_n (pc := 17) (n := 2) (x := Int32.ofInt a1_) rfl (zdal_p dlB_T_join_65 (i := 9) rfl) ?_
      refine zk_callV hf.x (pc := 18) [.int (Int32.ofInt a1_)] [] l_T_143 (u_Sorts_hasSortG l d_ Mz (hf.w hW) a1_ ha1_a ha1_b) rfl rfl ((hf.w hW).kr (o := 12) (by decide)) (by decide) (by decide) (Nat.le_of_ble_eq_true rfl) (zdal_p dlB_T_join_65 (i := 10) rfl) ?_
      rintro _ N3_ ⟨v4_, rfl, ⟨hv4_a, hv4_b⟩, hsN3_, hp0_N3_⟩
      obtain rfl := hsN3_.eq.symm
      replace hp0_N3_ : ((v4_ = 1 ∧ 0 ≤ a1_ ∧ a1_ < ze Mz (d_ + 12) 7) ∨ (v4_ = 0 ∧ (a1_ < 0 ∨ ze Mz (d_ + 12) 7 ≤ a1_))) := hp0_N3_
      rcases hp0_N3_ with ⟨rfl, ha18_0_hp0_N3_, ha18_1_hp0_N3_⟩ | ⟨rfl, ha18_0_hp0_N3_⟩
      · skip
        show zW l m_T_join (zn Mz + 0, zw Mz + 0) Mz 21 [some (.ref 0), some (.int (Int32.ofInt a0_)), some (.int (Int32.ofInt a1_)), some (.ref (d_ + 12))] [.int (Int32.ofInt 1)] _
        refine zr_if_ne (pc := 21) (tgt := 26) ⟨(by decide), (by decide)⟩ (by decide) (zdal_p dlB_T_join_65 (i := 11) rfl) (fun hc_21 => ?_) (fun hc_21 => ?_)
        · skip
          refine zw_aload_n (pc := 26) (n := 3) (x := (d_ + 12)) rfl (zdal_p dlB_T_join_65 (i := 14) rfl) ?_
          refine zw_aload_n (pc := 27) (n := 3) (x := (d_ + 12)) rfl (zdal_p dlB_T_join_65 (i := 15) rfl) ?_
          refine zw_getF (pc := 28) f_T_146 rfl ((hf.w hW).kr (o := 12) (by decide)) ((hf.w hW).lr (o := 12) (s := 4) (r := 19) (by decide)) (zdal_p dlB_T_join_65 (i := 16) rfl) ?_
          refine zw_iload_n (pc := 31) (n := 1) (x := Int32.ofInt a0_) rfl (zdal_p dlB_T_join_65 (i := 17) rfl) ?_
          refine zk_at hf.x (pc := 32) l_T_118 ((hf.w hW).kr (o := 19) (by decide)) ((hf.w hW).lr (o := 19) (s := 0) (r := 20) (by decide)) ((hf.w hW).rr (o := 20) (t := 1) (n := 27) (by decide)) (by decide) (by omega) (by omega) (by decide) (Nat.le_of_ble_eq_true rfl) (zdal_p dlB_T_join_65 (i := 18) rfl) (fun v5_ hv5_ hv5_a hv5_b => ?_)
          have hfva_ := hv5_
          have hfwa_ : v5_ = ((gFn T_ (a0_).toNat : Nat) : Int) := hfva_.trans (p1_.2 _ (by omega))
          have hfma_ := (hO_.2.2.1.2.1 _ (gFn_m (T := T_) (i := (a0_).toNat) (by omega))).1
          have hfba_ := gS_b hO_ hfma_
          refine zw_aload_n (pc := 35) (n := 3) (x := (d_ + 12)) rfl (zdal_p dlB_T_join_65 (i := 19) rfl) ?_
          refine zw_getF (pc := 36) f_T_146 rfl ((hf.w hW).kr (o := 12) (by decide)) ((hf.w hW).lr (o := 12) (s := 4) (r := 19) (by decide)) (zdal_p dlB_T_join_65 (i := 20) rfl) ?_
          refine zw_iload_n (pc := 39) (n := 2) (x := Int32.ofInt a1_) rfl (zdal_p dlB_T_join_65 (i := 21) rfl) ?_
          refine zk_at hf.x (pc := 40) l_T_118 ((hf.w hW).kr (o := 19) (by decide)) ((hf.w hW).lr (o := 19) (s := 0) (r := 20) (by decide)) ((hf.w hW).rr (o := 20) (t := 1) (n := 27) (by decide)) (by decide) (by omega) (by omega) (by decide) (Nat.le_of_ble_eq_true rfl) (zdal_p dlB_T_join_65 (i := 22) rfl) (fun v6_ hv6_ hv6_a hv6_b => ?_)
          have hfvb_ := hv6_
          have hfwb_ : v6_ = ((gFn T_ (a1_).toNat : Nat) : Int) := hfvb_.trans (p1_.2 _ (by omega))
          have hfmb_ := (hO_.2.2.1.2.1 _ (gFn_m (T := T_) (i := (a1_).toNat) (by omega))).1
          have hfbb_ := gS_b hO_ hfmb_
          refine zr_ior (pc := 43) (zdal_p dlB_T_join_65 (i := 23) rfl) ?_
          have hr7_ := zor_r v5_ v6_
          have hnd_ : (zor v5_ v6_) = (((gFn T_ (a0_).toNat ||| gFn T_ (a1_).toNat) : Nat) : Int) := by rw [hfwa_, hfwb_]; exact zor_n _ _ (by omega) (by omega)
          have hnl_ : (gFn T_ (a0_).toNat ||| gFn T_ (a1_).toNat) < 2 ^ gN T_ := Nat.or_lt_two_pow hfba_.1 hfbb_.1
          refine zk_callV hf.x (pc := 44) [.int (Int32.ofInt (zor v5_ v6_))] [] l_T_140 (u_Sorts_spannedSortG l d_ Mz (hf.w hW) (zor v5_ v6_) (by omega) (by omega) T_ hT_ hAs_ p0_ p2_ (show 0 ≤ (zor v5_ v6_) by omega) (show ((zor v5_ v6_)).toNat < 2 ^ gN T_ by rw [hnd_, Int.toNat_natCast]; exact hnl_)) rfl rfl ((hf.w hW).kr (o := 12) (by decide)) (by decide) (by decide) (Nat.le_of_ble_eq_true rfl) (zdal_p dlB_T_join_66 (i := 0) rfl) ?_
          rintro _ N8_ ⟨v9_, rfl, ⟨hv9_a, hv9_b⟩, hsN8_, hp0_N8_⟩
          replace hp0_N8_ : (∃ R_ : Nat, gLC T_ ((zor v5_ v6_)).toNat R_ ∧ zSrt T_ R_ v9_) := hp0_N8_
          have hf_N8_ : zFc d_ [] [] [] [11] Mz N8_ := hf.tr hsN8_ (by decide) (by decide) (by decide) (by decide)
          have eD12_7_N8_ : ze N8_ (d_ + 12) 7 = ze Mz (d_ + 12) 7 := hsN8_.e (by decide)
          have c10_ : zTt T_ d_ N8_ := zTt.fr (hf.w hW) hsN8_ p0_ (by decide)
          have c11_ : zFir T_ d_ N8_ := zFir.fr (hf.w hW) hsN8_ p1_ (by decide)
          have c12_ : zSbK T_ d_ N8_ := zSbK.fr (hf.w hW) hsN8_ p2_ (by decide)
          show zW l m_T_join (zn Mz + 0, zw Mz + 0) N8_ 47 [some (.ref 0), some (.int (Int32.ofInt a0_)), some (.int (Int32.ofInt a1_)), some (.ref (d_ + 12))] [.int (Int32.ofInt v9_)] _
          have hsp_ := hp0_N8_
          rw [hnd_, Int.toNat_natCast] at hsp_
          exact zk_iret (pc := 47) (ty := .int) rfl rfl ⟨by omega, by omega⟩ hf_N8_ (show ((0 ≤ a0_ ∧ a0_ < ((gF T_).length : Int) ∧ 0 ≤ a1_ ∧ a1_ < ((gF T_).length : Int) ∧ ∃ R_ : Nat, gLC T_ (gFn T_ (a0_).toNat ||| gFn T_ (a1_).toNat) R_ ∧ zSrt T_ R_ v9_) ∨ (¬ (0 ≤ a0_ ∧ a0_ < ((gF T_).length : Int) ∧ 0 ≤ a1_ ∧ a1_ < ((gF T_).length : Int)) ∧ v9_ = (-1 : Int))) by first | exact Or.inr ⟨by omega, rfl⟩ | exact Or.inl ⟨by omega, by omega, by omega, by omega, hsp_⟩) (zdal_p dlB_T_join_66 (i := 1) rfl)
        · skip
          exact absurd hc_21 (by decide)
      · skip
        show zW l m_T_join (zn Mz + 0, zw Mz + 0) Mz 21 [some (.ref 0), some (.int (Int32.ofInt a0_)), some (.int (Int32.ofInt a1_)), some (.ref (d_ + 12))] [.int (Int32.ofInt 0)] _
        refine zr_if_ne (pc := 21) (tgt := 26) ⟨(by decide), (by decide)⟩ (by decide) (zdal_p dlB_T_join_65 (i := 11) rfl) (fun hc_21 => ?_) (fun hc_21 => ?_)
        · skip
          exact absurd hc_21 (by decide)
        · skip
          refine zw_iconst (pc := 24) (v := Int32.ofInt (-1)) (by decide) (zdal_p dlB_T_join_65 (i := 12) rfl) ?_
          exact zk_iret (pc := 25) (ty := .int) rfl rfl ⟨by omega, by omega⟩ hf (show ((0 ≤ a0_ ∧ a0_ < ((gF T_).length : Int) ∧ 0 ≤ a1_ ∧ a1_ < ((gF T_).length : Int) ∧ ∃ R_ : Nat, gLC T_ (gFn T_ (a0_).toNat ||| gFn T_ (a1_).toNat) R_ ∧ zSrt T_ R_ ((-1))) ∨ (¬ (0 ≤ a0_ ∧ a0_ < ((gF T_).length : Int) ∧ 0 ≤ a1_ ∧ a1_ < ((gF T_).length : Int)) ∧ ((-1)) = (-1 : Int))) by first | exact Or.inr ⟨by omega, rfl⟩ | exact Or.inl ⟨by omega, by omega, by omega, by omega, hsp_⟩) (zdal_p dlB_T_join_65 (i := 13) rfl)
  · skip
    show zW l m_T_join (zn Mz + 0, zw Mz + 0) Mz 13 [some (.ref 0), some (.int (Int32.ofInt a0_)), some (.int (Int32.ofInt a1_)), some (.ref (d_ + 12))] [.int (Int32.ofInt 0)] _
    refine zr_if_eq (pc := 13) (tgt := 24) ⟨(by decide), (by decide)⟩ (by decide) (zdal_p dlB_T_join_65 (i := 7) rfl) (fun hc_13 => ?_) (fun hc_13 => ?_)
    · skip
      refine zw_iconst (pc := 24) (v := Int32.ofInt (-1)) (by decide) (zdal_p dlB_T_join_65 (i := 12) rfl) ?_
      exact zk_iret (pc := 25) (ty := .int) rfl rfl ⟨by omega, by omega⟩ hf (show ((0 ≤ a0_ ∧ a0_ < ((gF T_).length : Int) ∧ 0 ≤ a1_ ∧ a1_ < ((gF T_).length : Int) ∧ ∃ R_ : Nat, gLC T_ (gFn T_ (a0_).toNat ||| gFn T_ (a1_).toNat) R_ ∧ zSrt T_ R_ ((-1))) ∨ (¬ (0 ≤ a0_ ∧ a0_ < ((gF T_).length : Int) ∧ 0 ≤ a1_ ∧ a1_ < ((gF T_).length : Int)) ∧ ((-1)) = (-1 : Int))) by first | exact Or.inr ⟨by omega, rfl⟩ | exact Or.inl ⟨by omega, by omega, by omega, by omega, hsp_⟩) (zdal_p dlB_T_join_65 (i := 13) rfl)
    · skip
      exact absurd hc_13 (by decide)
