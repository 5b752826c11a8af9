/-! 46p -/
set_option maxHeartbeats 4000000 in
theorem u_Sorts_settle (l : Launch) (d_ : Nat) (Mz : zMem) (hW : zKW d_ Mz) (T_ : zGT) (hT_ : T_ ∈ gTabs) (l_ : List Nat) (Kp_ : Nat) (hol_ : gOL T_ l_ Kp_ gKL) (hAs_ : gAs T_) (p0_ : zTt T_ d_ Mz) : zC l m_Sorts_settle 0 0 [.ref (d_ + 12)] Mz (zqcV d_ [] [] [(12, 6), (12, 7)] [11, 14, 16, 20, 22] Mz (fun N => zKm (gF T_).length (gmkI T_) d_ N ∧ zTt T_ d_ N)) := by
  refine zC_of (L0 := [some (.ref (d_ + 12)), none, none]) md_Sorts_settle (Nat.le_of_ble_eq_true rfl) rfl ?_ zQ0
  have hf : zFc d_ [] [] [(12, 6), (12, 7)] [11, 14, 16, 20, 22] Mz Mz := zFc.rf
  have r_D1_7 := ze_r Mz (d_ + 1) 7
  have r_D12_6 := ze_r Mz (d_ + 12) 6
  have r_D12_7 := ze_r Mz (d_ + 12) 7
  have hO_ := gTabs_ok T_ hT_
  have hG_ := hO_.1
  have hn24_ := hG_.2.1
  have hn1_ := hG_.1
  have hsz_ := p0_.1
  refine zw_aload_n (pc := 0) (n := 0) (x := (d_ + 12)) rfl d_Sorts_settle_0 ?_
  refine zw_iconst (pc := 1) (v := Int32.ofInt 1) (by decide) d_Sorts_settle_1 ?_
  refine zk_putR (pc := 2) (o := 12) (by decide) f_Sorts_36 rfl rfl ((hf.w hW).kr (o := 12) (by decide)) ⟨by omega, by omega⟩ rfl rfl d_Sorts_settle_2 (fun N1_ hsN1_ hvN1_ => ?_)
  have hf_N1_ : zFc d_ [] [] [(12, 6), (12, 7)] [11, 14, 16, 20, 22] Mz N1_ := hf.tr hsN1_ (by decide) (by decide) (by decide) (by decide)
  have eD1_7_N1_ : ze N1_ (d_ + 1) 7 = ze Mz (d_ + 1) 7 := hsN1_.e (by decide)
  have rD12_6_N1_ := ze_r N1_ (d_ + 12) 6
  have eD12_7_N1_ : ze N1_ (d_ + 12) 7 = ze Mz (d_ + 12) 7 := hsN1_.e (by decide)
  have c2_ : zTt T_ d_ N1_ := zTt.fr (hf.w hW) hsN1_ p0_ (by decide)
  refine zw_aload_n (pc := 5) (n := 0) (x := (d_ + 12)) rfl d_Sorts_settle_5 ?_
  refine zw_getF (pc := 6) f_Sorts_14 rfl ((hf_N1_.w hW).kr (o := 12) (by decide)) ((hf_N1_.w hW).lr (o := 12) (s := 1) (r := 13) (by decide)) d_Sorts_settle_6 ?_
  refine zw_iconst (pc := 9) (v := Int32.ofInt 0) (by decide) d_Sorts_settle_9 ?_
  refine zw_iconst (pc := 10) (v := Int32.ofInt 1) (by decide) d_Sorts_settle_10 ?_
  refine zk_st hf_N1_.x (pc := 11) (o := 14) (by decide) l_Sorts_40 ((hf_N1_.w hW).kr (o := 13) (by decide)) ((hf_N1_.w hW).lr (o := 13) (s := 0) (r := 14) (by decide)) ((hf_N1_.w hW).rr (o := 14) (t := 1) (n := 35) (by decide)) (by decide) (by omega) (by omega) (by decide) (Nat.le_of_ble_eq_true rfl) d_Sorts_settle_11 (fun N3_ hN3_ hsN3_ => ?_)
  have hf_N3_ : zFc d_ [] [] [(12, 6), (12, 7)] [11, 14, 16, 20, 22] Mz N3_ := hf_N1_.tr hsN3_ (by decide) (by decide) (by decide) (by decide)
  have eD1_7_N3_ : ze N3_ (d_ + 1) 7 = ze N1_ (d_ + 1) 7 := hsN3_.e (by decide)
  have eD12_6_N3_ : ze N3_ (d_ + 12) 6 = ze N1_ (d_ + 12) 6 := hsN3_.e (by decide)
  have eD12_7_N3_ : ze N3_ (d_ + 12) 7 = ze N1_ (d_ + 12) 7 := hsN3_.e (by decide)
  have c4_ : zTt T_ d_ N3_ := zTt.fr (hf_N1_.w hW) hsN3_ c2_ (by decide)
  have hw_ := zs_get hN3_ ⟨by omega, by omega⟩
  obtain ⟨hj0_, hx0_⟩ := zJk_0 (f := zRw d_ 14 N3_) hO_ hw_
  refine zw_iconst (pc := 14) (v := Int32.ofInt 0) (by decide) d_Sorts_settle_14 ?_
  refine zw_istore_n (pc := 15) (i := 1) (L2 := [some (.ref (d_ + 12)), some (.int (Int32.ofInt 0)), none]) rfl (by decide) rfl d_Sorts_settle_15 ?_
  have lp_16 : ∀ (n : Nat) (u5_ : Int) (hu5_a : -2147483648 ≤ u5_) (hu5_b : u5_ < 2147483648) (N6_ : zMem) (hs7_ : zFc d_ [] [] [(12, 6)] [11, 14] N3_ N6_) (i8_ : 0 ≤ u5_) (i9_ : zJk T_ (zRw d_ 14 N6_) (ze N6_ (d_ + 12) 6)) (i10_ : zXk T_ (zRw d_ 14 N6_) (ze N6_ (d_ + 12) 6) u5_ 0) (i11_ : zTt T_ d_ N6_), (36 - u5_).toNat < n → zW l m_Sorts_settle (zn Mz + 0, zw Mz + 0) N6_ 16 [some (.ref (d_ + 12)), some (.int (Int32.ofInt u5_)), none] [] (zqcV d_ [] [] [(12, 6), (12, 7)] [11, 14, 16, 20, 22] Mz (fun N => zKm (gF T_).length (gmkI T_) d_ N ∧ zTt T_ d_ N)) := by
    intro n
    induction n with
    | zero =>
      intro u5_ hu5_a hu5_b N6_ hs7_ i8_ i9_ i10_ i11_ h0
      exact absurd h0 (Nat.not_lt_zero _)
    | succ n ih_16 =>
      intro u5_ hu5_a hu5_b N6_ hs7_ i8_ i9_ i10_ i11_ hlt_16
      have hf_N6_ : zFc d_ [] [] [(12, 6), (12, 7)] [11, 14, 16, 20, 22] Mz N6_ := hf_N3_.tr hs7_ (by decide) (by decide) (by decide) (by decide)
      have eD1_7_N6_ : ze N6_ (d_ + 1) 7 = ze N3_ (d_ + 1) 7 := hs7_.e (by decide)
      have rD12_6_N6_ := ze_r N6_ (d_ + 12) 6
      have eD12_7_N6_ : ze N6_ (d_ + 12) 7 = ze N3_ (d_ + 12) 7 := hs7_.e (by decide)
      have hj_ := (show zJk T_ (zRw d_ 14 N6_) (ze N6_ (d_ + 12) 6) by assumption)
      have hx_ := (show zXk T_ (zRw d_ 14 N6_) (ze N6_ (d_ + 12) 6) u5_ 0 by assumption)
      have hjm_ := hj_.1
      refine zw_iload_n (pc := 16) (n := 1) (x := Int32.ofInt u5_) rfl d_Sorts_settle_16 ?_
      refine zw_aload_n (pc := 17) (n := 0) (x := (d_ + 12)) rfl d_Sorts_settle_17 ?_
      refine zk_getI (pc := 18) f_Sorts_36 rfl ((hf_N6_.w hW).kr (o := 12) (by decide)) d_Sorts_settle_18 ?_
      refine zr_icmp_ge (pc := 21) (tgt := 93) ⟨hu5_a, hu5_b⟩ ⟨(ze_r N6_ (d_ + 12) 6).1, (ze_r N6_ (d_ + 12) 6).2⟩ (by decide) d_Sorts_settle_21 (fun hc_21 => ?_) (fun hc_21 => ?_)
      · skip
        have hce_ := zJk_e hO_ hj_ hx_ (by omega)
        refine zw_aload_n (pc := 93) (n := 0) (x := (d_ + 12)) rfl d_Sorts_settle_93 ?_
        refine zk_callV hf_N6_.x (pc := 94) [] [] l_Sorts_63 (u_Sorts_arrange l d_ N6_ (hf_N6_.w hW) (show 1 ≤ ze N6_ (d_ + 12) 6 by first | assumption | omega) (show ze N6_ (d_ + 12) 6 ≤ 35 by first | assumption | omega) (show zSoK zkyK (zRw d_ 14 N6_) (zRw d_ 14 N6_) (ze N6_ (d_ + 12) 6).toNat 1 by exact zJk_s hO_ hj_) (show (∀ k : Nat, (k : Int) < ze N6_ (d_ + 12) 6 → (0 ≤ ze N6_ (d_ + 14) k ∧ ze N6_ (d_ + 14) k < 16777216) ∧ kbc (ze N6_ (d_ + 14) k).toNat = gcb (ze N6_ (d_ + 14) k).toNat) by intro k_ hk_; have hq_ := hj_.2.2.1 k_ hk_; have hb_ := gS_b hO_ hq_.2; exact ⟨⟨hq_.1, by have h1_ := hq_.1; have h2_ := hb_.2.1; unfold zRw at h1_ h2_; omega⟩, hol_.2.2.2.2.2.2.2.2.2 _ hq_.2⟩)) rfl rfl ((hf_N6_.w hW).kr (o := 12) (by decide)) (by decide) (by decide) (Nat.le_of_ble_eq_true rfl) d_Sorts_settle_94 ?_
        rintro _ N12_ ⟨rfl, hsN12_, hp0_N12_⟩
        replace hp0_N12_ : (∃ i : Nat, (ze N6_ (d_ + 12) 6).toNat ≤ i ∧ zSoK zkyK (zRw d_ 14 N6_) (zRw d_ 14 N12_) (ze N6_ (d_ + 12) 6).toNat i) := hp0_N12_
        have hf_N12_ : zFc d_ [] [] [(12, 6), (12, 7)] [11, 14, 16, 20, 22] Mz N12_ := hf_N6_.tr hsN12_ (by decide) (by decide) (by decide) (by decide)
        have eD1_7_N12_ : ze N12_ (d_ + 1) 7 = ze N6_ (d_ + 1) 7 := hsN12_.e (by decide)
        have eD12_6_N12_ : ze N12_ (d_ + 12) 6 = ze N6_ (d_ + 12) 6 := hsN12_.e (by decide)
        have eD12_7_N12_ : ze N12_ (d_ + 12) 7 = ze N6_ (d_ + 12) 7 := hsN12_.e (by decide)
        have c14_ : zTt T_ d_ N12_ := zTt.fr (hf_N6_.w hW) hsN12_ i11_ (by decide)
        show zW l m_Sorts_settle (zn Mz + 0, zw Mz + 0) N12_ 97 [some (.ref (d_ + 12)), some (.int (Int32.ofInt u5_)), none] [] (zqcV d_ [] [] [(12, 6), (12, 7)] [11, 14, 16, 20, 22] Mz (fun N => zKm (gF T_).length (gmkI T_) d_ N ∧ zTt T_ d_ N))
        obtain ⟨i_, hi1_, hi2_⟩ := hp0_N12_
        have hls_ := zLs_i hj_ hce_ hi2_ hi1_
        have hm7_ : ze N12_ (d_ + 12) 6 = ze N6_ (d_ + 12) 6 := by omega
        rw [← hm7_] at hls_
        refine zw_aload_n (pc := 97) (n := 0) (x := (d_ + 12)) rfl d_Sorts_settle_97 ?_
        refine zk_callV hf_N12_.x (pc := 98) [] [] l_Sorts_66 (u_Sorts_numberSorts l d_ N12_ (hf_N12_.w hW) T_ hT_ l_ Kp_ hol_ c14_ (show zLs T_ (zRw d_ 14 N12_) (ze N12_ (d_ + 12) 6) by exact hls_)) rfl rfl ((hf_N12_.w hW).kr (o := 12) (by decide)) (by decide) (by decide) (Nat.le_of_ble_eq_true rfl) d_Sorts_settle_98 ?_
        rintro _ N15_ ⟨rfl, hsN15_, hp0_N15_⟩
        replace hp0_N15_ : zFir T_ d_ N15_ := hp0_N15_
        have hf_N15_ : zFc d_ [] [] [(12, 6), (12, 7)] [11, 14, 16, 20, 22] Mz N15_ := hf_N12_.tr hsN15_ (by decide) (by decide) (by decide) (by decide)
        have eD1_7_N15_ : ze N15_ (d_ + 1) 7 = ze N12_ (d_ + 1) 7 := hsN15_.e (by decide)
        have eD12_6_N15_ : ze N15_ (d_ + 12) 6 = ze N12_ (d_ + 12) 6 := hsN15_.e (by decide)
        have rD12_7_N15_ := ze_r N15_ (d_ + 12) 7
        have c17_ : zTt T_ d_ N15_ := zTt.fr (hf_N12_.w hW) hsN15_ c14_ (by decide)
        show zW l m_Sorts_settle (zn Mz + 0, zw Mz + 0) N15_ 101 [some (.ref (d_ + 12)), some (.int (Int32.ofInt u5_)), none] [] (zqcV d_ [] [] [(12, 6), (12, 7)] [11, 14, 16, 20, 22] Mz (fun N => zKm (gF T_).length (gmkI T_) d_ N ∧ zTt T_ d_ N))
        have hfi_ := hp0_N15_
        refine zw_aload_n (pc := 101) (n := 0) (x := (d_ + 12)) rfl d_Sorts_settle_101 ?_
        refine zk_callV hf_N15_.x (pc := 102) [] [] l_Sorts_69 (u_Sorts_fillTable l d_ N15_ (hf_N15_.w hW) T_ hT_ l_ Kp_ hol_ c17_ hfi_) rfl rfl ((hf_N15_.w hW).kr (o := 12) (by decide)) (by decide) (by decide) (Nat.le_of_ble_eq_true rfl) d_Sorts_settle_102 ?_
        rintro _ N18_ ⟨rfl, hsN18_, hp0_N18_⟩
        replace hp0_N18_ : zKm (gF T_).length (gmkI T_) d_ N18_ := hp0_N18_
        have hf_N18_ : zFc d_ [] [] [(12, 6), (12, 7)] [11, 14, 16, 20, 22] Mz N18_ := hf_N15_.tr hsN18_ (by decide) (by decide) (by decide) (by decide)
        have eD1_7_N18_ : ze N18_ (d_ + 1) 7 = ze N15_ (d_ + 1) 7 := hsN18_.e (by decide)
        have eD12_6_N18_ : ze N18_ (d_ + 12) 6 = ze N15_ (d_ + 12) 6 := hsN18_.e (by decide)
        have eD12_7_N18_ : ze N18_ (d_ + 12) 7 = ze N15_ (d_ + 12) 7 := hsN18_.e (by decide)
        have c20_ : zTt T_ d_ N18_ := zTt.fr (hf_N15_.w hW) hsN18_ c17_ (by decide)
        have c21_ : zFir T_ d_ N18_ := zFir.fr (hf_N15_.w hW) hsN18_ hfi_ (by decide)
        show zW l m_Sorts_settle (zn Mz + 0, zw Mz + 0) N18_ 105 [some (.ref (d_ + 12)), some (.int (Int32.ofInt u5_)), none] [] (zqcV d_ [] [] [(12, 6), (12, 7)] [11, 14, 16, 20, 22] Mz (fun N => zKm (gF T_).length (gmkI T_) d_ N ∧ zTt T_ d_ N))
        exact zk_vret (pc := 105) rfl hf_N18_ ⟨(show zKm (gF T_).length (gmkI T_) d_ N18_ by first | assumption | omega), c20_⟩ d_Sorts_settle_105
      · skip
        refine zw_iload_n (pc := 24) (n := 1) (x := Int32.ofInt u5_) rfl d_Sorts_settle_24 ?_
        refine zw_bipush (pc := 25) (v := Int32.ofInt 35) (by decide) d_Sorts_settle_25 ?_
        refine zr_icmp_ge (pc := 27) (tgt := 93) ⟨hu5_a, hu5_b⟩ ⟨(by decide), (by decide)⟩ (by decide) d_Sorts_settle_27 (fun hc_27 => ?_) (fun hc_27 => ?_)
        · skip
          have hce_ := zJk_e hO_ hj_ hx_ (by omega)
          refine zw_aload_n (pc := 93) (n := 0) (x := (d_ + 12)) rfl d_Sorts_settle_93 ?_
          refine zk_callV hf_N6_.x (pc := 94) [] [] l_Sorts_63 (u_Sorts_arrange l d_ N6_ (hf_N6_.w hW) (show 1 ≤ ze N6_ (d_ + 12) 6 by first | assumption | omega) (show ze N6_ (d_ + 12) 6 ≤ 35 by first | assumption | omega) (show zSoK zkyK (zRw d_ 14 N6_) (zRw d_ 14 N6_) (ze N6_ (d_ + 12) 6).toNat 1 by exact zJk_s hO_ hj_) (show (∀ k : Nat, (k : Int) < ze N6_ (d_ + 12) 6 → (0 ≤ ze N6_ (d_ + 14) k ∧ ze N6_ (d_ + 14) k < 16777216) ∧ kbc (ze N6_ (d_ + 14) k).toNat = gcb (ze N6_ (d_ + 14) k).toNat) by intro k_ hk_; have hq_ := hj_.2.2.1 k_ hk_; have hb_ := gS_b hO_ hq_.2; exact ⟨⟨hq_.1, by have h1_ := hq_.1; have h2_ := hb_.2.1; unfold zRw at h1_ h2_; omega⟩, hol_.2.2.2.2.2.2.2.2.2 _ hq_.2⟩)) rfl rfl ((hf_N6_.w hW).kr (o := 12) (by decide)) (by decide) (by decide) (Nat.le_of_ble_eq_true rfl) d_Sorts_settle_94 ?_
          rintro _ N22_ ⟨rfl, hsN22_, hp0_N22_⟩
          replace hp0_N22_ : (∃ i : Nat, (ze N6_ (d_ + 12) 6).toNat ≤ i ∧ zSoK zkyK (zRw d_ 14 N6_) (zRw d_ 14 N22_) (ze N6_ (d_ + 12) 6).toNat i) := hp0_N22_
          have hf_N22_ : zFc d_ [] [] [(12, 6), (12, 7)] [11, 14, 16, 20, 22] Mz N22_ := hf_N6_.tr hsN22_ (by decide) (by decide) (by decide) (by decide)
          have eD1_7_N22_ : ze N22_ (d_ + 1) 7 = ze N6_ (d_ + 1) 7 := hsN22_.e (by decide)
          have eD12_6_N22_ : ze N22_ (d_ + 12) 6 = ze N6_ (d_ + 12) 6 := hsN22_.e (by decide)
          have eD12_7_N22_ : ze N22_ (d_ + 12) 7 = ze N6_ (d_ + 12) 7 := hsN22_.e (by decide)
          have c24_ : zTt T_ d_ N22_ := zTt.fr (hf_N6_.w hW) hsN22_ i11_ (by decide)
          show zW l m_Sorts_settle (zn Mz + 0, zw Mz + 0) N22_ 97 [some (.ref (d_ + 12)), some (.int (Int32.ofInt u5_)), none] [] (zqcV d_ [] [] [(12, 6), (12, 7)] [11, 14, 16, 20, 22] Mz (fun N => zKm (gF T_).length (gmkI T_) d_ N ∧ zTt T_ d_ N))
          obtain ⟨i_, hi1_, hi2_⟩ := hp0_N22_
          have hls_ := zLs_i hj_ hce_ hi2_ hi1_
          have hm7_ : ze N22_ (d_ + 12) 6 = ze N6_ (d_ + 12) 6 := by omega
          rw [← hm7_] at hls_
          refine zw_aload_n (pc := 97) (n := 0) (x := (d_ + 12)) rfl d_Sorts_settle_97 ?_
          refine zk_callV hf_N22_.x (pc := 98) [] [] l_Sorts_66 (u_Sorts_numberSorts l d_ N22_ (hf_N22_.w hW) T_ hT_ l_ Kp_ hol_ c24_ (show zLs T_ (zRw d_ 14 N22_) (ze N22_ (d_ + 12) 6) by exact hls_)) rfl rfl ((hf_N22_.w hW).kr (o := 12) (by decide)) (by decide) (by decide) (Nat.le_of_ble_eq_true rfl) d_Sorts_settle_98 ?_
          rintro _ N25_ ⟨rfl, hsN25_, hp0_N25_⟩
          replace hp0_N25_ : zFir T_ d_ N25_ := hp0_N25_
          have hf_N25_ : zFc d_ [] [] [(12, 6), (12, 7)] [11, 14, 16, 20, 22] Mz N25_ := hf_N22_.tr hsN25_ (by decide) (by decide) (by decide) (by decide)
          have eD1_7_N25_ : ze N25_ (d_ + 1) 7 = ze N22_ (d_ + 1) 7 := hsN25_.e (by decide)
          have eD12_6_N25_ : ze N25_ (d_ + 12) 6 = ze N22_ (d_ + 12) 6 := hsN25_.e (by decide)
          have rD12_7_N25_ := ze_r N25_ (d_ + 12) 7
          have c27_ : zTt T_ d_ N25_ := zTt.fr (hf_N22_.w hW) hsN25_ c24_ (by decide)
          show zW l m_Sorts_settle (zn Mz + 0, zw Mz + 0) N25_ 101 [some (.ref (d_ + 12)), some (.int (Int32.ofInt u5_)), none] [] (zqcV d_ [] [] [(12, 6), (12, 7)] [11, 14, 16, 20, 22] Mz (fun N => zKm (gF T_).length (gmkI T_) d_ N ∧ zTt T_ d_ N))
          have hfi_ := hp0_N25_
          refine zw_aload_n (pc := 101) (n := 0) (x := (d_ + 12)) rfl d_Sorts_settle_101 ?_
          refine zk_callV hf_N25_.x (pc := 102) [] [] l_Sorts_69 (u_Sorts_fillTable l d_ N25_ (hf_N25_.w hW) T_ hT_ l_ Kp_ hol_ c27_ hfi_) rfl rfl ((hf_N25_.w hW).kr (o := 12) (by decide)) (by decide) (by decide) (Nat.le_of_ble_eq_true rfl) d_Sorts_settle_102 ?_
          rintro _ N28_ ⟨rfl, hsN28_, hp0_N28_⟩
          replace hp0_N28_ : zKm (gF T_).length (gmkI T_) d_ N28_ := hp0_N28_
          have hf_N28_ : zFc d_ [] [] [(12, 6), (12, 7)] [11, 14, 16, 20, 22] Mz N28_ := hf_N25_.tr hsN28_ (by decide) (by decide) (by decide) (by decide)
          have eD1_7_N28_ : ze N28_ (d_ + 1) 7 = ze N25_ (d_ + 1) 7 := hsN28_.e (by decide)
          have eD12_6_N28_ : ze N28_ (d_ + 12) 6 = ze N25_ (d_ + 12) 6 := hsN28_.e (by decide)
          have eD12_7_N28_ : ze N28_ (d_ + 12) 7 = ze N25_ (d_ + 12) 7 := hsN28_.e (by decide)
          have c30_ : zTt T_ d_ N28_ := zTt.fr (hf_N25_.w hW) hsN28_ c27_ (by decide)
          have c31_ : zFir T_ d_ N28_ := zFir.fr (hf_N25_.w hW) hsN28_ hfi_ (by decide)
          show zW l m_Sorts_settle (zn Mz + 0, zw Mz + 0) N28_ 105 [some (.ref (d_ + 12)), some (.int (Int32.ofInt u5_)), none] [] (zqcV d_ [] [] [(12, 6), (12, 7)] [11, 14, 16, 20, 22] Mz (fun N => zKm (gF T_).length (gmkI T_) d_ N ∧ zTt T_ d_ N))
          exact zk_vret (pc := 105) rfl hf_N28_ ⟨(show zKm (gF T_).length (gmkI T_) d_ N28_ by first | assumption | omega), c30_⟩ d_Sorts_settle_105
        · skip
          refine zw_iconst (pc := 30) (v := Int32.ofInt 0) (by decide) d_Sorts_settle_30 ?_
          refine zw_istore_n (pc := 31) (i := 2) (L2 := [some (.ref (d_ + 12)), some (.int (Int32.ofInt u5_)), some (.int (Int32.ofInt 0))]) rfl (by decide) rfl d_Sorts_settle_31 ?_
          have lp_32 : ∀ (n : Nat) (u32_ : Int) (hu32_a : -2147483648 ≤ u32_) (hu32_b : u32_ < 2147483648) (N33_ : zMem) (hs34_ : zFc d_ [] [] [(12, 6)] [11, 14] N6_ N33_) (i35_ : 0 ≤ u32_) (i36_ : u5_ < (ze N33_ (d_ + 12) 6)) (i37_ : zJk T_ (zRw d_ 14 N33_) (ze N33_ (d_ + 12) 6)) (i38_ : zXk T_ (zRw d_ 14 N33_) (ze N33_ (d_ + 12) 6) u5_ u32_) (i39_ : zTt T_ d_ N33_), (gN T_ - u32_).toNat < n → zW l m_Sorts_settle (zn Mz + 0, zw Mz + 0) N33_ 32 [some (.ref (d_ + 12)), some (.int (Int32.ofInt u5_)), some (.int (Int32.ofInt u32_))] [] (zqcV d_ [] [] [(12, 6), (12, 7)] [11, 14, 16, 20, 22] Mz (fun N => zKm (gF T_).length (gmkI T_) d_ N ∧ zTt T_ d_ N)) := by
            intro n
            induction n with
            | zero =>
              intro u32_ hu32_a hu32_b N33_ hs34_ i35_ i36_ i37_ i38_ i39_ h0
              exact absurd h0 (Nat.not_lt_zero _)
            | succ n ih_32 =>
              intro u32_ hu32_a hu32_b N33_ hs34_ i35_ i36_ i37_ i38_ i39_ hlt_32
              have hf_N33_ : zFc d_ [] [] [(12, 6), (12, 7)] [11, 14, 16, 20, 22] Mz N33_ := hf_N6_.tr hs34_ (by decide) (by decide) (by decide) (by decide)
              have hb0_N33_ : zFc d_ [] [] [(12, 6)] [11, 14] N3_ N33_ := hs7_.tr hs34_ (by decide) (by decide) (by decide) (by decide)
              have eD1_7_N33_ : ze N33_ (d_ + 1) 7 = ze N6_ (d_ + 1) 7 := hs34_.e (by decide)
              have rD12_6_N33_ := ze_r N33_ (d_ + 12) 6
              have eD12_7_N33_ : ze N33_ (d_ + 12) 7 = ze N6_ (d_ + 12) 7 := hs34_.e (by decide)
              have hj2_ := (show zJk T_ (zRw d_ 14 N33_) (ze N33_ (d_ + 12) 6) by assumption)
              have hx2_ := (show zXk T_ (zRw d_ 14 N33_) (ze N33_ (d_ + 12) 6) u5_ u32_ by assumption)
              have hjn_ := hj2_.1
              have hst_ := i39_.1
              refine zw_iload_n (pc := 32) (n := 2) (x := Int32.ofInt u32_) rfl d_Sorts_settle_32 ?_
              refine zw_aload_n (pc := 33) (n := 0) (x := (d_ + 12)) rfl d_Sorts_settle_33 ?_
              refine zw_getF (pc := 34) f_Sorts_32 rfl ((hf_N33_.w hW).kr (o := 12) (by decide)) ((hf_N33_.w hW).lr (o := 12) (s := 0) (r := 1) (by decide)) d_Sorts_settle_34 ?_
              refine zk_getI (pc := 37) f_Sorts_44 rfl ((hf_N33_.w hW).kr (o := 1) (by decide)) d_Sorts_settle_37 ?_
              rw [hf_N33_.e (by decide)]
              refine zr_icmp_ge (pc := 40) (tgt := 87) ⟨hu32_a, hu32_b⟩ ⟨(ze_r Mz (d_ + 1) 7).1, (ze_r Mz (d_ + 1) 7).2⟩ (by decide) d_Sorts_settle_40 (fun hc_40 => ?_) (fun hc_40 => ?_)
              · skip
                refine zr_iinc (pc := 87) (i := 1) (a := u5_) (n := 1) (L2 := [some (.ref (d_ + 12)), some (.int (Int32.ofInt (u5_ + 1))), some (.int (Int32.ofInt u32_))]) rfl (by decide) rfl d_Sorts_settle_87 ?_
                refine zw_goto (pc := 90) (tgt := 16) (by decide) d_Sorts_settle_90 ?_
                refine zW_le [some (.ref (d_ + 12)), some (.int (Int32.ofInt (u5_ + 1))), none] (⟨rfl, rfl, trivial⟩) ?_
                exact ih_16 (u5_ + 1) (by omega) (by omega) N33_ hb0_N33_ (show 0 ≤ (u5_ + 1) by first | assumption | omega) (show zJk T_ (zRw d_ 14 N33_) (ze N33_ (d_ + 12) 6) by exact hj2_) (show zXk T_ (zRw d_ 14 N33_) (ze N33_ (d_ + 12) 6) (u5_ + 1) 0 by exact zXk_n hx2_ (by omega)) i39_ (by omega)
              · skip
                refine zw_aload_n (pc := 43) (n := 0) (x := (d_ + 12)) rfl d_Sorts_settle_43 ?_
                refine zw_getF (pc := 44) f_Sorts_14 rfl ((hf_N33_.w hW).kr (o := 12) (by decide)) ((hf_N33_.w hW).lr (o := 12) (s := 1) (r := 13) (by decide)) d_Sorts_settle_44 ?_
                refine zw_iload_n (pc := 47) (n := 1) (x := Int32.ofInt u5_) rfl d_Sorts_settle_47 ?_
                refine zk_at hf_N33_.x (pc := 48) l_Sorts_49 ((hf_N33_.w hW).kr (o := 13) (by decide)) ((hf_N33_.w hW).lr (o := 13) (s := 0) (r := 14) (by decide)) ((hf_N33_.w hW).rr (o := 14) (t := 1) (n := 35) (by decide)) (by decide) (by omega) (by omega) (by decide) (Nat.le_of_ble_eq_true rfl) d_Sorts_settle_48 (fun v40_ hv40_ hv40_a hv40_b => ?_)
                have hv_ := hv40_
                have hm_ := hj2_.2.2.1 (u5_).toNat (by omega)
                rw [show zRw d_ 14 N33_ (u5_).toNat = v40_ from hv_.symm] at hm_
                have hgb_ := gS_b hO_ hm_.2
                refine zw_iload_n (pc := 51) (n := 2) (x := Int32.ofInt u32_) rfl d_Sorts_settle_51 ?_
                refine zr_callS hf_N33_.x (pc := 52) [.int (Int32.ofInt v40_), .int (Int32.ofInt u32_)] [] l_Sorts_53 (u_T_isIn l d_ N33_ (hf_N33_.w hW) v40_ hv40_a hv40_b u32_ hu32_a hu32_b (show 0 ≤ v40_ by first | assumption | omega) (show v40_ < 2147483648 by first | assumption | omega) (show 0 ≤ u32_ by first | assumption | omega) (show u32_ < 31 by first | assumption | omega)) rfl rfl (by decide) (Nat.le_of_ble_eq_true rfl) d_Sorts_settle_52 ?_
                rintro _ N41_ ⟨v42_, rfl, ⟨hv42_a, hv42_b⟩, hsN41_, hp0_N41_⟩
                obtain rfl := hsN41_.eq.symm
                replace hp0_N41_ : ((v42_ = 1 ∧ zbt v40_ u32_) ∨ (v42_ = 0 ∧ ¬ zbt v40_ u32_)) := hp0_N41_
                rcases hp0_N41_ with ⟨rfl, ha52_0_hp0_N41_⟩ | ⟨rfl, ha52_0_hp0_N41_⟩
                · skip
                  have hxb_ := zXk_b (by omega) (by omega) hx2_ (show _ = zRw d_ 14 N33_ (u5_).toNat from hv_) ha52_0_hp0_N41_
                  show zW l m_Sorts_settle (zn Mz + 0, zw Mz + 0) N33_ 55 [some (.ref (d_ + 12)), some (.int (Int32.ofInt u5_)), some (.int (Int32.ofInt u32_))] [.int (Int32.ofInt 1)] (zqcV d_ [] [] [(12, 6), (12, 7)] [11, 14, 16, 20, 22] Mz (fun N => zKm (gF T_).length (gmkI T_) d_ N ∧ zTt T_ d_ N))
                  refine zr_if_ne (pc := 55) (tgt := 81) ⟨(by decide), (by decide)⟩ (by decide) d_Sorts_settle_55 (fun hc_55 => ?_) (fun hc_55 => ?_)
                  · skip
                    refine zr_iinc (pc := 81) (i := 2) (a := u32_) (n := 1) (L2 := [some (.ref (d_ + 12)), some (.int (Int32.ofInt u5_)), some (.int (Int32.ofInt (u32_ + 1)))]) rfl (by decide) rfl d_Sorts_settle_81 ?_
                    refine zw_goto (pc := 84) (tgt := 32) (by decide) d_Sorts_settle_84 ?_
                    exact ih_32 (u32_ + 1) (by omega) (by omega) N33_ hs34_ (show 0 ≤ (u32_ + 1) by first | assumption | omega) (show u5_ < (ze N33_ (d_ + 12) 6) by first | assumption | omega) (show zJk T_ (zRw d_ 14 N33_) (ze N33_ (d_ + 12) 6) by first | exact hj3_ | exact hj2_) (show zXk T_ (zRw d_ 14 N33_) (ze N33_ (d_ + 12) 6) u5_ (u32_ + 1) by first | exact hxb_ | exact hxn_) i39_ (by omega)
                  · skip
                    exact absurd hc_55 (by decide)
                · skip
                  show zW l m_Sorts_settle (zn Mz + 0, zw Mz + 0) N33_ 55 [some (.ref (d_ + 12)), some (.int (Int32.ofInt u5_)), some (.int (Int32.ofInt u32_))] [.int (Int32.ofInt 0)] (zqcV d_ [] [] [(12, 6), (12, 7)] [11, 14, 16, 20, 22] Mz (fun N => zKm (gF T_).length (gmkI T_) d_ N ∧ zTt T_ d_ N))
                  refine zr_if_ne (pc := 55) (tgt := 81) ⟨(by decide), (by decide)⟩ (by decide) d_Sorts_settle_55 (fun hc_55 => ?_) (fun hc_55 => ?_)
                  · skip
                    exact absurd hc_55 (by decide)
                  · skip
                    refine zw_aload_n (pc := 58) (n := 0) (x := (d_ + 12)) rfl d_Sorts_settle_58 ?_
                    refine zw_aload_n (pc := 59) (n := 0) (x := (d_ + 12)) rfl d_Sorts_settle_59 ?_
                    refine zw_getF (pc := 60) f_Sorts_32 rfl ((hf_N33_.w hW).kr (o := 12) (by decide)) ((hf_N33_.w hW).lr (o := 12) (s := 0) (r := 1) (by decide)) d_Sorts_settle_60 ?_
                    refine zw_aload_n (pc := 63) (n := 0) (x := (d_ + 12)) rfl d_Sorts_settle_63 ?_
                    refine zw_getF (pc := 64) f_Sorts_14 rfl ((hf_N33_.w hW).kr (o := 12) (by decide)) ((hf_N33_.w hW).lr (o := 12) (s := 1) (r := 13) (by decide)) d_Sorts_settle_64 ?_
                    refine zw_iload_n (pc := 67) (n := 1) (x := Int32.ofInt u5_) rfl d_Sorts_settle_67 ?_
                    refine zk_at hf_N33_.x (pc := 68) l_Sorts_49 ((hf_N33_.w hW).kr (o := 13) (by decide)) ((hf_N33_.w hW).lr (o := 13) (s := 0) (r := 14) (by decide)) ((hf_N33_.w hW).rr (o := 14) (t := 1) (n := 35) (by decide)) (by decide) (by omega) (by omega) (by decide) (Nat.le_of_ble_eq_true rfl) d_Sorts_settle_68 (fun v43_ hv43_ hv43_a hv43_b => ?_)
                    have hv2_ := hv43_
                    have hm2_ := hj2_.2.2.1 (u5_).toNat (by omega)
                    rw [show zRw d_ 14 N33_ (u5_).toNat = v43_ from hv2_.symm] at hm2_
                    have hgc_ := gS_b hO_ hm2_.2
                    have hzo_ := zorb (x := v43_) (k := u32_) (by omega) (by omega) (by omega) (by omega)
                    have hol2_ : (v43_).toNat ||| 2 ^ (u32_).toNat < 2 ^ gN T_ := Nat.or_lt_two_pow hgc_.1 (Nat.pow_lt_pow_right (by omega) (by omega))
                    obtain ⟨v_, hvv_⟩ : ∃ v : Int, v = v43_ := ⟨_, rfl⟩
                    rw [← hvv_] at hv2_
                    refine zw_iconst (pc := 71) (v := Int32.ofInt 1) (by decide) d_Sorts_settle_71 ?_
                    refine zw_iload_n (pc := 72) (n := 2) (x := Int32.ofInt u32_) rfl d_Sorts_settle_72 ?_
                    refine zr_ishl (pc := 73) d_Sorts_settle_73 ?_
                    have hr44_ := zshl_r 1 u32_
                    refine zr_ior (pc := 74) d_Sorts_settle_74 ?_
                    have hr45_ := zor_r v43_ (zshl 1 u32_)
                    refine zk_callV hf_N33_.x (pc := 75) [.int (Int32.ofInt (zor v43_ (zshl 1 u32_)))] [.ref (d_ + 12)] l_Sorts_57 (u_Group_spanOf l d_ N33_ (hf_N33_.w hW) (zor v43_ (zshl 1 u32_)) (by omega) (by omega) T_ hT_ hAs_ i39_ (show 0 ≤ (zor v43_ (zshl 1 u32_)) by rw [hzo_]; omega) (show ((zor v43_ (zshl 1 u32_))).toNat < 2 ^ gN T_ by rw [hzo_, Int.toNat_natCast]; exact hol2_)) rfl rfl ((hf_N33_.w hW).kr (o := 1) (by decide)) (by decide) (by decide) (Nat.le_of_ble_eq_true rfl) d_Sorts_settle_75 ?_
                    rintro _ N46_ ⟨v47_, rfl, ⟨hv47_a, hv47_b⟩, hsN46_, ⟨hp0_N46_, hp1_N46_, hp2_N46_⟩⟩
                    have hf_N46_ : zFc d_ [] [] [(12, 6), (12, 7)] [11, 14, 16, 20, 22] Mz N46_ := hf_N33_.tr hsN46_ (by decide) (by decide) (by decide) (by decide)
                    have hb0_N46_ : zFc d_ [] [] [(12, 6)] [11, 14] N3_ N46_ := hb0_N33_.tr hsN46_ (by decide) (by decide) (by decide) (by decide)
                    have hb1_N46_ : zFc d_ [] [] [(12, 6)] [11, 14] N6_ N46_ := hs34_.tr hsN46_ (by decide) (by decide) (by decide) (by decide)
                    have eD1_7_N46_ : ze N46_ (d_ + 1) 7 = ze N33_ (d_ + 1) 7 := hsN46_.e (by decide)
                    have eD12_6_N46_ : ze N46_ (d_ + 12) 6 = ze N33_ (d_ + 12) 6 := hsN46_.e (by decide)
                    have eD12_7_N46_ : ze N46_ (d_ + 12) 7 = ze N33_ (d_ + 12) 7 := hsN46_.e (by decide)
                    have c48_ : zTt T_ d_ N46_ := zTt.fr (hf_N33_.w hW) hsN46_ i39_ (by decide)
                    show zW l m_Sorts_settle (zn Mz + 0, zw Mz + 0) N46_ 78 [some (.ref (d_ + 12)), some (.int (Int32.ofInt u5_)), some (.int (Int32.ofInt u32_))] [.int (Int32.ofInt v47_), .ref (d_ + 12)] (zqcV d_ [] [] [(12, 6), (12, 7)] [11, 14, 16, 20, 22] Mz (fun N => zKm (gF T_).length (gmkI T_) d_ N ∧ zTt T_ d_ N))
                    have hlc_ := hp0_N46_
                    rw [hzo_, Int.toNat_natCast, ← hvv_] at hlc_
                    have hr0_ := hp1_N46_
                    have hrm_ := hO_.mem hlc_
                    have hf_ : zRw d_ 14 N46_ = zRw d_ 14 N33_ := funext fun j => hsN46_.r (by decide) j
                    have hm6_ : ze N46_ (d_ + 12) 6 = ze N33_ (d_ + 12) 6 := by omega
                    rw [show v_ = zRw d_ 14 N33_ (u5_).toNat from hv2_] at hlc_
                    rw [← hf_, ← hm6_] at hj2_ hx2_
                    rw [← hf_] at hlc_
                    have hroom_ := zJk_c hol_.1.1 hj2_ hr0_ hrm_
                    refine zk_callV hf_N46_.x (pc := 78) [.int (Int32.ofInt v47_)] [] l_Sorts_60 (u_Sorts_addSubgroup l d_ N46_ (hf_N46_.w hW) v47_ hv47_a hv47_b (show 0 ≤ ze N46_ (d_ + 12) 6 by first | assumption | omega) (show ze N46_ (d_ + 12) 6 ≤ 35 by first | assumption | omega) (show (∀ i : Nat, (i : Int) < ze N46_ (d_ + 12) 6 → ze N46_ (d_ + 14) i ≠ v47_) → ze N46_ (d_ + 12) 6 ≤ 34 by exact fun q_ => hroom_ q_)) rfl rfl ((hf_N46_.w hW).kr (o := 12) (by decide)) (by decide) (by decide) (Nat.le_of_ble_eq_true rfl) d_Sorts_settle_78 ?_
                    rintro _ N49_ ⟨rfl, hsN49_, hp0_N49_⟩
                    replace hp0_N49_ : (((∃ k : Nat, (k : Int) < ze N46_ (d_ + 12) 6 ∧ ze N46_ (d_ + 14) k = v47_) ∧ (∀ j : Nat, zRw d_ 14 N49_ j = zRw d_ 14 N46_ j) ∧ ze N49_ (d_ + 12) 6 = ze N46_ (d_ + 12) 6) ∨ ((∀ i : Nat, (i : Int) < ze N46_ (d_ + 12) 6 → ze N46_ (d_ + 14) i ≠ v47_) ∧ ze N49_ (d_ + 12) 6 = ze N46_ (d_ + 12) 6 + 1 ∧ (∀ j : Nat, zRw d_ 14 N49_ j = zst (zRw d_ 14 N46_) (ze N46_ (d_ + 12) 6).toNat v47_ j))) := hp0_N49_
                    have hf_N49_ : zFc d_ [] [] [(12, 6), (12, 7)] [11, 14, 16, 20, 22] Mz N49_ := hf_N46_.tr hsN49_ (by decide) (by decide) (by decide) (by decide)
                    have hb0_N49_ : zFc d_ [] [] [(12, 6)] [11, 14] N3_ N49_ := hb0_N46_.tr hsN49_ (by decide) (by decide) (by decide) (by decide)
                    have hb1_N49_ : zFc d_ [] [] [(12, 6)] [11, 14] N6_ N49_ := hb1_N46_.tr hsN49_ (by decide) (by decide) (by decide) (by decide)
                    have eD1_7_N49_ : ze N49_ (d_ + 1) 7 = ze N46_ (d_ + 1) 7 := hsN49_.e (by decide)
                    have rD12_6_N49_ := ze_r N49_ (d_ + 12) 6
                    have eD12_7_N49_ : ze N49_ (d_ + 12) 7 = ze N46_ (d_ + 12) 7 := hsN49_.e (by decide)
                    have c51_ : zTt T_ d_ N49_ := zTt.fr (hf_N46_.w hW) hsN49_ c48_ (by decide)
                    rcases hp0_N49_ with ⟨ha78_0_hp0_N49_, ha78_1_hp0_N49_, ha78_2_hp0_N49_⟩ | ⟨ha78_0_hp0_N49_, ha78_1_hp0_N49_, ha78_2_hp0_N49_⟩
                    · skip
                      obtain ⟨k_, hk1_, hk2_⟩ := ha78_0_hp0_N49_
                      have hsm_ : zRw d_ 14 N49_ = zRw d_ 14 N46_ := funext ha78_1_hp0_N49_
                      have hmm_ := ha78_2_hp0_N49_
                      have hxn_ := zXk_f (by omega) (by omega) hx2_ hlc_ hk1_ (show zRw d_ 14 N46_ k_ = _ from hk2_)
                      rw [← hsm_, ← hmm_] at hxn_ hj2_
                      show zW l m_Sorts_settle (zn Mz + 0, zw Mz + 0) N49_ 81 [some (.ref (d_ + 12)), some (.int (Int32.ofInt u5_)), some (.int (Int32.ofInt u32_))] [] (zqcV d_ [] [] [(12, 6), (12, 7)] [11, 14, 16, 20, 22] Mz (fun N => zKm (gF T_).length (gmkI T_) d_ N ∧ zTt T_ d_ N))
                      refine zr_iinc (pc := 81) (i := 2) (a := u32_) (n := 1) (L2 := [some (.ref (d_ + 12)), some (.int (Int32.ofInt u5_)), some (.int (Int32.ofInt (u32_ + 1)))]) rfl (by decide) rfl d_Sorts_settle_81 ?_
                      refine zw_goto (pc := 84) (tgt := 32) (by decide) d_Sorts_settle_84 ?_
                      exact ih_32 (u32_ + 1) (by omega) (by omega) N49_ hb1_N49_ (show 0 ≤ (u32_ + 1) by first | assumption | omega) (show u5_ < (ze N49_ (d_ + 12) 6) by first | assumption | omega) (show zJk T_ (zRw d_ 14 N49_) (ze N49_ (d_ + 12) 6) by first | exact hj3_ | exact hj2_) (show zXk T_ (zRw d_ 14 N49_) (ze N49_ (d_ + 12) 6) u5_ (u32_ + 1) by first | exact hxb_ | exact hxn_) c51_ (by omega)
                    · skip
                      have hno_ := ha78_0_hp0_N49_
                      have hmm_ := ha78_1_hp0_N49_
                      have hwr_ := ha78_2_hp0_N49_
                      obtain ⟨hj3_, hxn_⟩ := zJk_a hj2_ (hroom_ hno_) hr0_ hrm_ hno_ hwr_ hx2_ (by omega) (by omega) hlc_
                      rw [← hmm_] at hj3_ hxn_
                      show zW l m_Sorts_settle (zn Mz + 0, zw Mz + 0) N49_ 81 [some (.ref (d_ + 12)), some (.int (Int32.ofInt u5_)), some (.int (Int32.ofInt u32_))] [] (zqcV d_ [] [] [(12, 6), (12, 7)] [11, 14, 16, 20, 22] Mz (fun N => zKm (gF T_).length (gmkI T_) d_ N ∧ zTt T_ d_ N))
                      refine zr_iinc (pc := 81) (i := 2) (a := u32_) (n := 1) (L2 := [some (.ref (d_ + 12)), some (.int (Int32.ofInt u5_)), some (.int (Int32.ofInt (u32_ + 1)))]) rfl (by decide) rfl d_Sorts_settle_81 ?_
                      refine zw_goto (pc := 84) (tgt := 32) (by decide) d_Sorts_settle_84 ?_
                      exact ih_32 (u32_ + 1) (by omega) (by omega) N49_ hb1_N49_ (show 0 ≤ (u32_ + 1) by first | assumption | omega) (show u5_ < (ze N49_ (d_ + 12) 6) by first | assumption | omega) (show zJk T_ (zRw d_ 14 N49_) (ze N49_ (d_ + 12) 6) by first | exact hj3_ | exact hj2_) (show zXk T_ (zRw d_ 14 N49_) (ze N49_ (d_ + 12) 6) u5_ (u32_ + 1) by first | exact hxb_ | exact hxn_) c51_ (by omega)
          exact lp_32 _ 0 (by decide) (by decide) N6_ zFc.rf (show 0 ≤ (0 : Int) by first | assumption | omega) (show u5_ < (ze N6_ (d_ + 12) 6) by first | assumption | omega) (show zJk T_ (zRw d_ 14 N6_) (ze N6_ (d_ + 12) 6) by exact hj_) (show zXk T_ (zRw d_ 14 N6_) (ze N6_ (d_ + 12) 6) u5_ (0 : Int) by exact hx_) i11_ (Nat.lt_succ_self _)
  exact lp_16 _ 0 (by decide) (by decide) N3_ zFc.rf (show 0 ≤ (0 : Int) by first | assumption | omega) (show zJk T_ (zRw d_ 14 N3_) (ze N3_ (d_ + 12) 6) by rw [show ze N3_ (d_ + 12) 6 = 1 by omega]; exact hj0_) (show zXk T_ (zRw d_ 14 N3_) (ze N3_ (d_ + 12) 6) (0 : Int) 0 by rw [show ze N3_ (d_ + 12) 6 = 1 by omega]; exact hx0_) c4_ (Nat.lt_succ_self _)
set_option maxHeartbeats 4000000 in
theorem u_Units_forget (l : Launch) (d_ : Nat) (Mz : zMem) (hW : zKW d_ Mz) : zC l m_Units_forget 0 0 [.ref (d_ + 28)] Mz (zqcV d_ [] [] [(28, 4)] [] Mz (fun N => True)) := by
  refine zC_of (L0 := [some (.ref (d_ + 28))]) md_Units_forget (Nat.le_of_ble_eq_true rfl) rfl ?_ zQ0
  have hf : zFc d_ [] [] [(28, 4)] [] Mz Mz := zFc.rf
  have r_D28_4 := ze_r Mz (d_ + 28) 4
  refine zw_aload_n (pc := 0) (n := 0) (x := (d_ + 28)) rfl d_Units_forget_0 ?_
  refine zw_iconst (pc := 1) (v := Int32.ofInt 0) (by decide) d_Units_forget_1 ?_
  refine zk_putR (pc := 2) (o := 28) (by decide) f_Units_27 rfl rfl ((hf.w hW).kr (o := 28) (by decide)) ⟨by omega, by omega⟩ (z_narB (by omega)) (z_fitB (by omega)) d_Units_forget_2 (fun N1_ hsN1_ hvN1_ => ?_)
  have hf_N1_ : zFc d_ [] [] [(28, 4)] [] Mz N1_ := hf.tr hsN1_ (by decide) (by decide) (by decide) (by decide)
  have rD28_4_N1_ := ze_r N1_ (d_ + 28) 4
  exact zk_vret (pc := 5) rfl hf_N1_ trivial d_Units_forget_5
set_option maxHeartbeats 4000000 in
theorem u_Troupe_settle (l : Launch) (d_ : Nat) (Mz : zMem) (hW : zKW d_ Mz) (P_ : Nat) (mv_ : List Nat) (hpm_ : ∀ g ∈ mv_, gpm g) (p0_ : zMvK mv_ P_ d_ Mz) (p1_ : zGg mv_ P_ d_ Mz) : zC l m_Troupe_settle 0 0 [.ref (d_ + 0)] Mz (zqcV d_ [] [] [(12, 6), (12, 7), (28, 4)] [5, 7, 9, 11, 14, 16, 20, 22, 25] Mz (fun N => (∃ T : zGT, T ∈ gTabs ∧ zTm mv_ T ∧ zKm (gF T).length (gmkI T) d_ N ∧ ze N (d_ + 1) 7 = gN T) ∧ ze N (d_ + 0) 6 = ze Mz (d_ + 0) 6)) := by
  refine zC_of (L0 := [some (.ref (d_ + 0))]) md_Troupe_settle (Nat.le_of_ble_eq_true rfl) rfl ?_ zQ0
  have hf : zFc d_ [] [] [(12, 6), (12, 7), (28, 4)] [5, 7, 9, 11, 14, 16, 20, 22, 25] Mz Mz := zFc.rf
  have r_D0_6 := ze_r Mz (d_ + 0) 6
  have r_D1_7 := ze_r Mz (d_ + 1) 7
  refine zw_aload_n (pc := 0) (n := 0) (x := (d_ + 0)) rfl d_Troupe_settle_0 ?_
  refine zw_getF (pc := 1) f_Troupe_12 rfl ((hf.w hW).kr (o := 0) (by decide)) ((hf.w hW).lr (o := 0) (s := 0) (r := 1) (by decide)) d_Troupe_settle_1 ?_
  refine zk_callV hf.x (pc := 4) [] [] l_Troupe_74 (u_Group_settle l d_ Mz (hf.w hW) P_ mv_ hpm_ p0_ p1_) rfl rfl ((hf.w hW).kr (o := 1) (by decide)) (by decide) (by decide) (Nat.le_of_ble_eq_true rfl) d_Troupe_settle_4 ?_
  rintro _ N1_ ⟨rfl, hsN1_, hp0_N1_⟩
  replace hp0_N1_ : (∃ T : zGT, zTm mv_ T ∧ zTt T d_ N1_) := hp0_N1_
  have hf_N1_ : zFc d_ [] [] [(12, 6), (12, 7), (28, 4)] [5, 7, 9, 11, 14, 16, 20, 22, 25] Mz N1_ := hf.tr hsN1_ (by decide) (by decide) (by decide) (by decide)
  have eD0_6_N1_ : ze N1_ (d_ + 0) 6 = ze Mz (d_ + 0) 6 := hsN1_.e (by decide)
  have eD1_7_N1_ : ze N1_ (d_ + 1) 7 = ze Mz (d_ + 1) 7 := hsN1_.e (by decide)
  have c3_ : zMvK mv_ P_ d_ N1_ := zMvK.fr (hf.w hW) hsN1_ p0_ (by decide)
  show zW l m_Troupe_settle (zn Mz + 0, zw Mz + 0) N1_ 7 [some (.ref (d_ + 0))] [] (zqcV d_ [] [] [(12, 6), (12, 7), (28, 4)] [5, 7, 9, 11, 14, 16, 20, 22, 25] Mz (fun N => (∃ T : zGT, T ∈ gTabs ∧ zTm mv_ T ∧ zKm (gF T).length (gmkI T) d_ N ∧ ze N (d_ + 1) 7 = gN T) ∧ ze N (d_ + 0) 6 = ze Mz (d_ + 0) 6))
  obtain ⟨T_, hm_, htt_⟩ := hp0_N1_
  have hT_ : T_ ∈ gTabs := by obtain ⟨c_, hc_⟩ := hm_; exact hc_.1
  obtain ⟨l_, Kp_, hol_⟩ := gTabs_ol T_ hT_
  refine zw_aload_n (pc := 7) (n := 0) (x := (d_ + 0)) rfl d_Troupe_settle_7 ?_
  refine zw_getF (pc := 8) f_Troupe_23 rfl ((hf_N1_.w hW).kr (o := 0) (by decide)) ((hf_N1_.w hW).lr (o := 0) (s := 1) (r := 12) (by decide)) d_Troupe_settle_8 ?_
  refine zk_callV hf_N1_.x (pc := 11) [] [] l_Troupe_77 (u_Sorts_settle l d_ N1_ (hf_N1_.w hW) T_ hT_ l_ Kp_ hol_ (hm_.as hpm_) htt_) rfl rfl ((hf_N1_.w hW).kr (o := 12) (by decide)) (by decide) (by decide) (Nat.le_of_ble_eq_true rfl) d_Troupe_settle_11 ?_
  rintro _ N4_ ⟨rfl, hsN4_, ⟨hp0_N4_, hp1_N4_⟩⟩
  have hf_N4_ : zFc d_ [] [] [(12, 6), (12, 7), (28, 4)] [5, 7, 9, 11, 14, 16, 20, 22, 25] Mz N4_ := hf_N1_.tr hsN4_ (by decide) (by decide) (by decide) (by decide)
  have eD0_6_N4_ : ze N4_ (d_ + 0) 6 = ze N1_ (d_ + 0) 6 := hsN4_.e (by decide)
  have eD1_7_N4_ : ze N4_ (d_ + 1) 7 = ze N1_ (d_ + 1) 7 := hsN4_.e (by decide)
  have c6_ : zMvK mv_ P_ d_ N4_ := zMvK.fr (hf_N1_.w hW) hsN4_ c3_ (by decide)
  have c7_ : zTt T_ d_ N4_ := zTt.fr (hf_N1_.w hW) hsN4_ htt_ (by decide)
  show zW l m_Troupe_settle (zn Mz + 0, zw Mz + 0) N4_ 14 [some (.ref (d_ + 0))] [] (zqcV d_ [] [] [(12, 6), (12, 7), (28, 4)] [5, 7, 9, 11, 14, 16, 20, 22, 25] Mz (fun N => (∃ T : zGT, T ∈ gTabs ∧ zTm mv_ T ∧ zKm (gF T).length (gmkI T) d_ N ∧ ze N (d_ + 1) 7 = gN T) ∧ ze N (d_ + 0) 6 = ze Mz (d_ + 0) 6))
  have hkm_ := hp0_N4_
  refine zw_aload_n (pc := 14) (n := 0) (x := (d_ + 0)) rfl d_Troupe_settle_14 ?_
  refine zw_getF (pc := 15) f_Troupe_39 rfl ((hf_N4_.w hW).kr (o := 0) (by decide)) ((hf_N4_.w hW).lr (o := 0) (s := 3) (r := 28) (by decide)) d_Troupe_settle_15 ?_
  refine zk_callV hf_N4_.x (pc := 18) [] [] l_Troupe_78 (u_Units_forget l d_ N4_ (hf_N4_.w hW) ) rfl rfl ((hf_N4_.w hW).kr (o := 28) (by decide)) (by decide) (by decide) (Nat.le_of_ble_eq_true rfl) d_Troupe_settle_18 ?_
  rintro _ N8_ ⟨rfl, hsN8_, -⟩
  have hf_N8_ : zFc d_ [] [] [(12, 6), (12, 7), (28, 4)] [5, 7, 9, 11, 14, 16, 20, 22, 25] Mz N8_ := hf_N4_.tr hsN8_ (by decide) (by decide) (by decide) (by decide)
  have eD0_6_N8_ : ze N8_ (d_ + 0) 6 = ze N4_ (d_ + 0) 6 := hsN8_.e (by decide)
  have eD1_7_N8_ : ze N8_ (d_ + 1) 7 = ze N4_ (d_ + 1) 7 := hsN8_.e (by decide)
  have c10_ : zMvK mv_ P_ d_ N8_ := zMvK.fr (hf_N4_.w hW) hsN8_ c6_ (by decide)
  have c11_ : zTt T_ d_ N8_ := zTt.fr (hf_N4_.w hW) hsN8_ hp1_N4_ (by decide)
  have c12_ : zKm (gF T_).length (gmkI T_) d_ N8_ := zKm.fr (hf_N4_.w hW) hsN8_ hkm_ (by decide)
  show zW l m_Troupe_settle (zn Mz + 0, zw Mz + 0) N8_ 21 [some (.ref (d_ + 0))] [] (zqcV d_ [] [] [(12, 6), (12, 7), (28, 4)] [5, 7, 9, 11, 14, 16, 20, 22, 25] Mz (fun N => (∃ T : zGT, T ∈ gTabs ∧ zTm mv_ T ∧ zKm (gF T).length (gmkI T) d_ N ∧ ze N (d_ + 1) 7 = gN T) ∧ ze N (d_ + 0) 6 = ze Mz (d_ + 0) 6))
  refine zw_aload_n (pc := 21) (n := 0) (x := (d_ + 0)) rfl d_Troupe_settle_21 ?_
  refine zw_getF (pc := 22) f_Troupe_32 rfl ((hf_N8_.w hW).kr (o := 0) (by decide)) ((hf_N8_.w hW).lr (o := 0) (s := 2) (r := 23) (by decide)) d_Troupe_settle_22 ?_
  refine zw_iconst (pc := 25) (v := Int32.ofInt 0) (by decide) d_Troupe_settle_25 ?_
  refine zw_iconst (pc := 26) (v := Int32.ofInt (-1)) (by decide) d_Troupe_settle_26 ?_
  refine zw_lconst (pc := 27) (v := Int64.ofInt 0) (by decide) d_Troupe_settle_27 ?_
  refine zk_callV hf_N8_.x (pc := 28) [.int (Int32.ofInt 0), .int (Int32.ofInt ((-1))), .long (Int64.ofInt 0)] [] l_Troupe_81 (u_Sums_putSingle l d_ N8_ (hf_N8_.w hW) 0 (by decide) (by decide) ((-1)) (by decide) (by decide) 0 (by decide) (by decide) (gF T_).length (gmkI T_) (gT_zTA hT_) c12_ (show 0 ≤ 0 by first | assumption | omega) (show 0 ≤ 39 by first | assumption | omega)) rfl rfl ((hf_N8_.w hW).kr (o := 23) (by decide)) (by decide) (by decide) (Nat.le_of_ble_eq_true rfl) d_Troupe_settle_28 ?_
  rintro _ N13_ ⟨rfl, hsN13_, hp0_N13_⟩
  replace hp0_N13_ : zSh (gF T_).length d_ N8_ N13_ 0 (zone ((-1)) 0) := hp0_N13_
  have hf_N13_ : zFc d_ [] [] [(12, 6), (12, 7), (28, 4)] [5, 7, 9, 11, 14, 16, 20, 22, 25] Mz N13_ := hf_N8_.tr hsN13_ (by decide) (by decide) (by decide) (by decide)
  have eD0_6_N13_ : ze N13_ (d_ + 0) 6 = ze N8_ (d_ + 0) 6 := hsN13_.e (by decide)
  have eD1_7_N13_ : ze N13_ (d_ + 1) 7 = ze N8_ (d_ + 1) 7 := hsN13_.e (by decide)
  have c15_ : zMvK mv_ P_ d_ N13_ := zMvK.fr (hf_N8_.w hW) hsN13_ c10_ (by decide)
  have c16_ : zTt T_ d_ N13_ := zTt.fr (hf_N8_.w hW) hsN13_ c11_ (by decide)
  have c17_ : zKm (gF T_).length (gmkI T_) d_ N13_ := zKm.fr (hf_N8_.w hW) hsN13_ c12_ (by decide)
  show zW l m_Troupe_settle (zn Mz + 0, zw Mz + 0) N13_ 31 [some (.ref (d_ + 0))] [] (zqcV d_ [] [] [(12, 6), (12, 7), (28, 4)] [5, 7, 9, 11, 14, 16, 20, 22, 25] Mz (fun N => (∃ T : zGT, T ∈ gTabs ∧ zTm mv_ T ∧ zKm (gF T).length (gmkI T) d_ N ∧ ze N (d_ + 1) 7 = gN T) ∧ ze N (d_ + 0) 6 = ze Mz (d_ + 0) 6))
  exact zk_vret (pc := 31) rfl hf_N13_ ⟨(show (∃ T : zGT, T ∈ gTabs ∧ zTm mv_ T ∧ zKm (gF T).length (gmkI T) d_ N13_ ∧ ze N13_ (d_ + 1) 7 = gN T) by exact ⟨T_, hT_, hm_, c17_, c16_.1⟩), (show ze N13_ (d_ + 0) 6 = ze Mz (d_ + 0) 6 by first | assumption | omega)⟩ d_Troupe_settle_31
set_option maxHeartbeats 4000000 in
theorem u_Troupe_begin (l : Launch) (d_ : Nat) (Mz : zMem) (hW : zKW d_ Mz) (a0_ : Int) (ha0_a : -2147483648 ≤ a0_) (ha0_b : a0_ < 2147483648) (P_ : Nat) (p0_ : a0_ = P_) (p1_ : 1 ≤ P_) (p2_ : P_ ≤ 6) : zC l m_Troupe_begin 0 0 [.ref (d_ + 0), .int (Int32.ofInt a0_)] Mz (zqcV d_ [] [] [(0, 6), (0, 7), (0, 8), (1, 5), (1, 6), (1, 7)] [5] Mz (fun N => zMvK [] P_ d_ N ∧ zGg [] P_ d_ N ∧ ze N (d_ + 0) 6 = 0)) := by
  refine zC_of (L0 := [some (.ref (d_ + 0)), some (.int (Int32.ofInt a0_))]) md_Troupe_begin (Nat.le_of_ble_eq_true rfl) rfl ?_ zQ0
  have hf : zFc d_ [] [] [(0, 6), (0, 7), (0, 8), (1, 5), (1, 6), (1, 7)] [5] Mz Mz := zFc.rf
  have r_D0_6 := ze_r Mz (d_ + 0) 6
  have r_D0_7 := ze_r Mz (d_ + 0) 7
  have r_D0_8 := ze_r Mz (d_ + 0) 8
  refine zw_aload_n (pc := 0) (n := 0) (x := (d_ + 0)) rfl d_Troupe_begin_0 ?_
  refine zw_getF (pc := 1) f_Troupe_12 rfl ((hf.w hW).kr (o := 0) (by decide)) ((hf.w hW).lr (o := 0) (s := 0) (r := 1) (by decide)) d_Troupe_begin_1 ?_
  refine zw_iload_n (pc := 4) (n := 1) (x := Int32.ofInt a0_) rfl d_Troupe_begin_4 ?_
  refine zk_callV hf.x (pc := 5) [.int (Int32.ofInt a0_)] [] l_Troupe_61 (u_Group_begin l d_ Mz (hf.w hW) a0_ ha0_a ha0_b P_ (show a0_ = P_ by first | assumption | omega) (show 1 ≤ P_ by first | assumption | omega) (show P_ ≤ 6 by first | assumption | omega)) rfl rfl ((hf.w hW).kr (o := 1) (by decide)) (by decide) (by decide) (Nat.le_of_ble_eq_true rfl) d_Troupe_begin_5 ?_
  rintro _ N1_ ⟨rfl, hsN1_, ⟨hp0_N1_, hp1_N1_⟩⟩
  have hf_N1_ : zFc d_ [] [] [(0, 6), (0, 7), (0, 8), (1, 5), (1, 6), (1, 7)] [5] Mz N1_ := hf.tr hsN1_ (by decide) (by decide) (by decide) (by decide)
  have eD0_6_N1_ : ze N1_ (d_ + 0) 6 = ze Mz (d_ + 0) 6 := hsN1_.e (by decide)
  have eD0_7_N1_ : ze N1_ (d_ + 0) 7 = ze Mz (d_ + 0) 7 := hsN1_.e (by decide)
  have eD0_8_N1_ : ze N1_ (d_ + 0) 8 = ze Mz (d_ + 0) 8 := hsN1_.e (by decide)
  show zW l m_Troupe_begin (zn Mz + 0, zw Mz + 0) N1_ 8 [some (.ref (d_ + 0)), some (.int (Int32.ofInt a0_))] [] (zqcV d_ [] [] [(0, 6), (0, 7), (0, 8), (1, 5), (1, 6), (1, 7)] [5] Mz (fun N => zMvK [] P_ d_ N ∧ zGg [] P_ d_ N ∧ ze N (d_ + 0) 6 = 0))
  refine zw_aload_n (pc := 8) (n := 0) (x := (d_ + 0)) rfl d_Troupe_begin_8 ?_
  refine zw_iconst (pc := 9) (v := Int32.ofInt 0) (by decide) d_Troupe_begin_9 ?_
  refine zk_putR (pc := 10) (o := 0) (by decide) f_Troupe_64 rfl rfl ((hf_N1_.w hW).kr (o := 0) (by decide)) ⟨by omega, by omega⟩ rfl rfl d_Troupe_begin_10 (fun N3_ hsN3_ hvN3_ => ?_)
  have hf_N3_ : zFc d_ [] [] [(0, 6), (0, 7), (0, 8), (1, 5), (1, 6), (1, 7)] [5] Mz N3_ := hf_N1_.tr hsN3_ (by decide) (by decide) (by decide) (by decide)
  have rD0_6_N3_ := ze_r N3_ (d_ + 0) 6
  have eD0_7_N3_ : ze N3_ (d_ + 0) 7 = ze N1_ (d_ + 0) 7 := hsN3_.e (by decide)
  have eD0_8_N3_ : ze N3_ (d_ + 0) 8 = ze N1_ (d_ + 0) 8 := hsN3_.e (by decide)
  have c4_ : zMvK [] P_ d_ N3_ := zMvK.fr (hf_N1_.w hW) hsN3_ hp0_N1_ (by decide)
  have c5_ : zGg [] P_ d_ N3_ := zGg.fr (hf_N1_.w hW) hsN3_ hp1_N1_ (by decide)
  refine zw_aload_n (pc := 13) (n := 0) (x := (d_ + 0)) rfl d_Troupe_begin_13 ?_
  refine zw_iconst (pc := 14) (v := Int32.ofInt 0) (by decide) d_Troupe_begin_14 ?_
  refine zk_putR (pc := 15) (o := 0) (by decide) f_Troupe_68 rfl rfl ((hf_N3_.w hW).kr (o := 0) (by decide)) ⟨by omega, by omega⟩ rfl rfl d_Troupe_begin_15 (fun N6_ hsN6_ hvN6_ => ?_)
  have hf_N6_ : zFc d_ [] [] [(0, 6), (0, 7), (0, 8), (1, 5), (1, 6), (1, 7)] [5] Mz N6_ := hf_N3_.tr hsN6_ (by decide) (by decide) (by decide) (by decide)
  have eD0_6_N6_ : ze N6_ (d_ + 0) 6 = ze N3_ (d_ + 0) 6 := hsN6_.e (by decide)
  have rD0_7_N6_ := ze_r N6_ (d_ + 0) 7
  have eD0_8_N6_ : ze N6_ (d_ + 0) 8 = ze N3_ (d_ + 0) 8 := hsN6_.e (by decide)
  have c7_ : zMvK [] P_ d_ N6_ := zMvK.fr (hf_N3_.w hW) hsN6_ c4_ (by decide)
  have c8_ : zGg [] P_ d_ N6_ := zGg.fr (hf_N3_.w hW) hsN6_ c5_ (by decide)
  refine zw_aload_n (pc := 18) (n := 0) (x := (d_ + 0)) rfl d_Troupe_begin_18 ?_
  refine zw_iconst (pc := 19) (v := Int32.ofInt 0) (by decide) d_Troupe_begin_19 ?_
  refine zk_putR (pc := 20) (o := 0) (by decide) f_Troupe_71 rfl rfl ((hf_N6_.w hW).kr (o := 0) (by decide)) ⟨by omega, by omega⟩ rfl rfl d_Troupe_begin_20 (fun N9_ hsN9_ hvN9_ => ?_)
  have hf_N9_ : zFc d_ [] [] [(0, 6), (0, 7), (0, 8), (1, 5), (1, 6), (1, 7)] [5] Mz N9_ := hf_N6_.tr hsN9_ (by decide) (by decide) (by decide) (by decide)
  have eD0_6_N9_ : ze N9_ (d_ + 0) 6 = ze N6_ (d_ + 0) 6 := hsN9_.e (by decide)
  have eD0_7_N9_ : ze N9_ (d_ + 0) 7 = ze N6_ (d_ + 0) 7 := hsN9_.e (by decide)
  have rD0_8_N9_ := ze_r N9_ (d_ + 0) 8
  have c10_ : zMvK [] P_ d_ N9_ := zMvK.fr (hf_N6_.w hW) hsN9_ c7_ (by decide)
  have c11_ : zGg [] P_ d_ N9_ := zGg.fr (hf_N6_.w hW) hsN9_ c8_ (by decide)
  exact zk_vret (pc := 23) rfl hf_N9_ ⟨c10_, c11_, (show ze N9_ (d_ + 0) 6 = 0 by first | assumption | omega)⟩ d_Troupe_begin_23
set_option maxHeartbeats 4000000 in
theorem u_Reader_readPlaces (l : Launch) (d_ : Nat) (Mz : zMem) (hW : zKW d_ Mz) (b_ : Nat → Int) (n_ : Nat) (p0_ : zYb b_ n_ Mz) (p1_ : zYt b_ n_ Mz) : zC l m_Reader_readPlaces 0 0 [.ref 4, .ref (d_ + 0)] Mz (zqcI d_ [(1, 2), (1, 3), (1, 4), (1, 5), (4, 2), (4, 3)] [] [(0, 6), (0, 7), (0, 8), (1, 5), (1, 6), (1, 7)] [5] Mz (fun v N => zYt b_ n_ N ∧ (((v = 1 ∧ (∃ P : Nat, zHd b_ n_ (ze Mz 1 2).toNat P (ze N 1 2).toNat ∧ zMvK [] P d_ N ∧ zGg [] P d_ N) ∧ ze N (d_ + 0) 6 = 0) ∨ (v = 0 ∧ ¬ ∃ P q, zHd b_ n_ (ze Mz 1 2).toNat P q))))) := by
  refine zC_of (L0 := [some (.ref 4), some (.ref (d_ + 0))]) md_Reader_readPlaces (Nat.le_of_ble_eq_true rfl) rfl ?_ zQ0
  have hf : zFc d_ [(1, 2), (1, 3), (1, 4), (1, 5), (4, 2), (4, 3)] [] [(0, 6), (0, 7), (0, 8), (1, 5), (1, 6), (1, 7)] [5] Mz Mz := zFc.rf
  have r_A1_2 := ze_r Mz 1 2
  have r_A1_3 := ze_r Mz 1 3
  have r_A1_5 := ze_r Mz 1 5
  have r_D0_6 := ze_r Mz (d_ + 0) 6
  refine zw_aload_n (pc := 0) (n := 0) (x := 4) rfl d_Reader_readPlaces_0 ?_
  refine zw_getF (pc := 1) f_Reader_15 rfl ((hf.w hW).ka (o := 4) (by decide)) ((hf.w hW).la (o := 4) (s := 0) (r := 1) (by decide)) d_Reader_readPlaces_1 ?_
  refine zw_ldcs (pc := 4) (i := 0) (List.mem_of_getElem? (i := 0) rfl) d_Reader_readPlaces_4 ?_
  refine zk_callV hf.x (pc := 6) [.ref (zK 0)] [] l_Reader_49 (u_Tokens_isWord l d_ Mz (hf.w hW) 0 (by decide) b_ n_ p0_ p1_) rfl rfl ((hf.w hW).ka (o := 1) (by decide)) (by decide) (by decide) (Nat.le_of_ble_eq_true rfl) d_Reader_readPlaces_6 ?_
  rintro _ N1_ ⟨v2_, rfl, ⟨hv2_a, hv2_b⟩, hsN1_, hp0_N1_⟩
  obtain rfl := hsN1_.eq.symm
  replace hp0_N1_ : ((v2_ = 1 ∧ zkd b_ n_ (ze Mz 1 2).toNat = 1 ∧ zkey b_ n_ (ze Mz 1 2).toNat = zkw 0) ∨ (v2_ = 0 ∧ ¬ (zkd b_ n_ (ze Mz 1 2).toNat = 1 ∧ zkey b_ n_ (ze Mz 1 2).toNat = zkw 0))) := hp0_N1_
  rcases hp0_N1_ with ⟨rfl, ha6_0_hp0_N1_, ha6_1_hp0_N1_⟩ | ⟨rfl, ha6_0_hp0_N1_⟩
  · skip
    have hl0_ := And.intro ha6_0_hp0_N1_ ha6_1_hp0_N1_
    show zW l m_Reader_readPlaces (zn Mz + 0, zw Mz + 0) Mz 9 [some (.ref 4), some (.ref (d_ + 0))] [.int (Int32.ofInt 1)] (zqcI d_ [(1, 2), (1, 3), (1, 4), (1, 5), (4, 2), (4, 3)] [] [(0, 6), (0, 7), (0, 8), (1, 5), (1, 6), (1, 7)] [5] Mz (fun v N => zYt b_ n_ N ∧ (((v = 1 ∧ (∃ P : Nat, zHd b_ n_ (ze Mz 1 2).toNat P (ze N 1 2).toNat ∧ zMvK [] P d_ N ∧ zGg [] P d_ N) ∧ ze N (d_ + 0) 6 = 0) ∨ (v = 0 ∧ ¬ ∃ P q, zHd b_ n_ (ze Mz 1 2).toNat P q)))))
    refine zr_if_ne (pc := 9) (tgt := 18) ⟨(by decide), (by decide)⟩ (by decide) d_Reader_readPlaces_9 (fun hc_9 => ?_) (fun hc_9 => ?_)
    · skip
      have hyt_ := p1_
      have hyx_ := hyt_.x
      refine zw_aload_n (pc := 18) (n := 0) (x := 4) rfl d_Reader_readPlaces_18 ?_
      refine zw_getF (pc := 19) f_Reader_15 rfl ((hf.w hW).ka (o := 4) (by decide)) ((hf.w hW).la (o := 4) (s := 0) (r := 1) (by decide)) d_Reader_readPlaces_19 ?_
      refine zk_callV hf.x (pc := 22) [] [] l_Reader_44 (u_Tokens_step l d_ Mz (hf.w hW) b_ n_ p0_ (show 0 ≤ ze Mz 1 3 by first | assumption | omega) (show ze Mz 1 3 ≤ n_ by first | assumption | omega)) rfl rfl ((hf.w hW).ka (o := 1) (by decide)) (by decide) (by decide) (Nat.le_of_ble_eq_true rfl) d_Reader_readPlaces_22 ?_
      rintro _ N3_ ⟨rfl, hsN3_, ⟨hp0_N3_, hp1_N3_⟩⟩
      have hf_N3_ : zFc d_ [(1, 2), (1, 3), (1, 4), (1, 5), (4, 2), (4, 3)] [] [(0, 6), (0, 7), (0, 8), (1, 5), (1, 6), (1, 7)] [5] Mz N3_ := hf.tr hsN3_ (by decide) (by decide) (by decide) (by decide)
      have rA1_2_N3_ := ze_r N3_ 1 2
      have rA1_3_N3_ := ze_r N3_ 1 3
      have rA1_5_N3_ := ze_r N3_ 1 5
      have eD0_6_N3_ : ze N3_ (d_ + 0) 6 = ze Mz (d_ + 0) 6 := hsN3_.e (by decide)
      have c5_ : zYb b_ n_ N3_ := zYb.fr (hf.w hW) hsN3_ p0_ (by decide)
      show zW l m_Reader_readPlaces (zn Mz + 0, zw Mz + 0) N3_ 25 [some (.ref 4), some (.ref (d_ + 0))] [] (zqcI d_ [(1, 2), (1, 3), (1, 4), (1, 5), (4, 2), (4, 3)] [] [(0, 6), (0, 7), (0, 8), (1, 5), (1, 6), (1, 7)] [5] Mz (fun v N => zYt b_ n_ N ∧ (((v = 1 ∧ (∃ P : Nat, zHd b_ n_ (ze Mz 1 2).toNat P (ze N 1 2).toNat ∧ zMvK [] P d_ N ∧ zGg [] P d_ N) ∧ ze N (d_ + 0) 6 = 0) ∨ (v = 0 ∧ ¬ ∃ P q, zHd b_ n_ (ze Mz 1 2).toNat P q)))))
      have hnn_ := hyt_.n hp0_N3_
      have hx1_ : (ze N3_ 1 2).toNat = znx b_ n_ (ze Mz 1 2).toNat := hnn_.2
      refine zw_aload_n (pc := 25) (n := 0) (x := 4) rfl d_Reader_readPlaces_25 ?_
      refine zw_getF (pc := 26) f_Reader_15 rfl ((hf_N3_.w hW).ka (o := 4) (by decide)) ((hf_N3_.w hW).la (o := 4) (s := 0) (r := 1) (by decide)) d_Reader_readPlaces_26 ?_
      refine zk_callV hf_N3_.x (pc := 29) [] [] l_Reader_53 (u_Tokens_isNumber l d_ N3_ (hf_N3_.w hW) b_ n_ hp1_N3_) rfl rfl ((hf_N3_.w hW).ka (o := 1) (by decide)) (by decide) (by decide) (Nat.le_of_ble_eq_true rfl) d_Reader_readPlaces_29 ?_
      rintro _ N6_ ⟨v7_, rfl, ⟨hv7_a, hv7_b⟩, hsN6_, hp0_N6_⟩
      obtain rfl := hsN6_.eq.symm
      replace hp0_N6_ : ((v7_ = 1 ∧ zkd b_ n_ (ze N3_ 1 2).toNat = 2) ∨ (v7_ = 0 ∧ zkd b_ n_ (ze N3_ 1 2).toNat ≠ 2)) := hp0_N6_
      rcases hp0_N6_ with ⟨rfl, ha29_0_hp0_N6_⟩ | ⟨rfl, ha29_0_hp0_N6_⟩
      · skip
        have hk2_ := ha29_0_hp0_N6_
        have hv2_ := hp1_N3_.v2 hk2_
        rw [hx1_] at hk2_ hv2_
        show zW l m_Reader_readPlaces (zn Mz + 0, zw Mz + 0) N3_ 32 [some (.ref 4), some (.ref (d_ + 0))] [.int (Int32.ofInt 1)] (zqcI d_ [(1, 2), (1, 3), (1, 4), (1, 5), (4, 2), (4, 3)] [] [(0, 6), (0, 7), (0, 8), (1, 5), (1, 6), (1, 7)] [5] Mz (fun v N => zYt b_ n_ N ∧ (((v = 1 ∧ (∃ P : Nat, zHd b_ n_ (ze Mz 1 2).toNat P (ze N 1 2).toNat ∧ zMvK [] P d_ N ∧ zGg [] P d_ N) ∧ ze N (d_ + 0) 6 = 0) ∨ (v = 0 ∧ ¬ ∃ P q, zHd b_ n_ (ze Mz 1 2).toNat P q)))))
        refine zr_if_ne (pc := 32) (tgt := 41) ⟨(by decide), (by decide)⟩ (by decide) d_Reader_readPlaces_32 (fun hc_32 => ?_) (fun hc_32 => ?_)
        · skip
          refine zw_aload_n (pc := 41) (n := 0) (x := 4) rfl d_Reader_readPlaces_41 ?_
          refine zw_getF (pc := 42) f_Reader_15 rfl ((hf_N3_.w hW).ka (o := 4) (by decide)) ((hf_N3_.w hW).la (o := 4) (s := 0) (r := 1) (by decide)) d_Reader_readPlaces_42 ?_
          refine zk_getI (pc := 45) f_Reader_57 rfl ((hf_N3_.w hW).ka (o := 1) (by decide)) d_Reader_readPlaces_45 ?_
          refine zw_iconst (pc := 48) (v := Int32.ofInt 1) (by decide) d_Reader_readPlaces_48 ?_
          refine zr_icmp_lt (pc := 49) (tgt := 64) ⟨(ze_r N3_ 1 5).1, (ze_r N3_ 1 5).2⟩ ⟨(by decide), (by decide)⟩ (by decide) d_Reader_readPlaces_49 (fun hc_49 => ?_) (fun hc_49 => ?_)
          · skip
            refine zw_aload_n (pc := 64) (n := 0) (x := 4) rfl d_Reader_readPlaces_64 ?_
            refine zw_iconst (pc := 65) (v := Int32.ofInt 4) (by decide) d_Reader_readPlaces_65 ?_
            refine zk_callV hf_N3_.x (pc := 66) [.int (Int32.ofInt 4)] [] l_Reader_41 (u_Reader_refuse l d_ N3_ (hf_N3_.w hW) 4 (by decide) (by decide)) rfl rfl ((hf_N3_.w hW).ka (o := 4) (by decide)) (by decide) (by decide) (Nat.le_of_ble_eq_true rfl) d_Reader_readPlaces_66 ?_
            rintro _ N8_ ⟨v9_, rfl, ⟨hv9_a, hv9_b⟩, hsN8_, hp0_N8_⟩
            replace hp0_N8_ : ((v9_ = 0)) := hp0_N8_
            have hf_N8_ : zFc d_ [(1, 2), (1, 3), (1, 4), (1, 5), (4, 2), (4, 3)] [] [(0, 6), (0, 7), (0, 8), (1, 5), (1, 6), (1, 7)] [5] Mz N8_ := hf_N3_.tr hsN8_ (by decide) (by decide) (by decide) (by decide)
            have eA1_2_N8_ : ze N8_ 1 2 = ze N3_ 1 2 := hsN8_.ea (hf_N3_.w hW) (by decide)
            have eA1_3_N8_ : ze N8_ 1 3 = ze N3_ 1 3 := hsN8_.ea (hf_N3_.w hW) (by decide)
            have eA1_5_N8_ : ze N8_ 1 5 = ze N3_ 1 5 := hsN8_.ea (hf_N3_.w hW) (by decide)
            have eD0_6_N8_ : ze N8_ (d_ + 0) 6 = ze N3_ (d_ + 0) 6 := hsN8_.e (by decide)
            have c10_ : zYb b_ n_ N8_ := zYb.fr (hf_N3_.w hW) hsN8_ c5_ (by decide)
            have c11_ : zYt b_ n_ N8_ := zYt.fr (hf_N3_.w hW) hsN8_ hp1_N3_ (by decide)
            rcases hp0_N8_ with rfl
            · skip
              show zW l m_Reader_readPlaces (zn Mz + 0, zw Mz + 0) N8_ 69 [some (.ref 4), some (.ref (d_ + 0))] [.int (Int32.ofInt 0)] (zqcI d_ [(1, 2), (1, 3), (1, 4), (1, 5), (4, 2), (4, 3)] [] [(0, 6), (0, 7), (0, 8), (1, 5), (1, 6), (1, 7)] [5] Mz (fun v N => zYt b_ n_ N ∧ (((v = 1 ∧ (∃ P : Nat, zHd b_ n_ (ze Mz 1 2).toNat P (ze N 1 2).toNat ∧ zMvK [] P d_ N ∧ zGg [] P d_ N) ∧ ze N (d_ + 0) 6 = 0) ∨ (v = 0 ∧ ¬ ∃ P q, zHd b_ n_ (ze Mz 1 2).toNat P q)))))
              exact zk_iret (pc := 69) (ty := .boolean) rfl (z_narB (by omega)) ⟨by omega, by omega⟩ hf_N8_ ⟨c11_, (show ((0 = 1 ∧ (∃ P : Nat, zHd b_ n_ (ze Mz 1 2).toNat P (ze N8_ 1 2).toNat ∧ zMvK [] P d_ N8_ ∧ zGg [] P d_ N8_) ∧ ze N8_ (d_ + 0) 6 = 0) ∨ (0 = 0 ∧ ¬ ∃ P q, zHd b_ n_ (ze Mz 1 2).toNat P q)) from Or.inr (⟨(show 0 = 0 by first | rfl | exact hrt_ | (rintro ⟨P, q, h⟩; have h2_ := h.2.1; omega)), (show ¬ ∃ P q, zHd b_ n_ (ze Mz 1 2).toNat P q by first | rfl | exact hrt_ | (rintro ⟨P, q, h⟩; have h2_ := h.2.1; omega))⟩))⟩ d_Reader_readPlaces_69
          · skip
            refine zw_aload_n (pc := 52) (n := 0) (x := 4) rfl d_Reader_readPlaces_52 ?_
            refine zw_getF (pc := 53) f_Reader_15 rfl ((hf_N3_.w hW).ka (o := 4) (by decide)) ((hf_N3_.w hW).la (o := 4) (s := 0) (r := 1) (by decide)) d_Reader_readPlaces_53 ?_
            refine zk_getI (pc := 56) f_Reader_57 rfl ((hf_N3_.w hW).ka (o := 1) (by decide)) d_Reader_readPlaces_56 ?_
            refine zw_bipush (pc := 59) (v := Int32.ofInt 6) (by decide) d_Reader_readPlaces_59 ?_
            refine zr_icmp_le (pc := 61) (tgt := 70) ⟨(ze_r N3_ 1 5).1, (ze_r N3_ 1 5).2⟩ ⟨(by decide), (by decide)⟩ (by decide) d_Reader_readPlaces_61 (fun hc_61 => ?_) (fun hc_61 => ?_)
            · skip
              refine zw_aload_n (pc := 70) (n := 1) (x := (d_ + 0)) rfl d_Reader_readPlaces_70 ?_
              refine zw_aload_n (pc := 71) (n := 0) (x := 4) rfl d_Reader_readPlaces_71 ?_
              refine zw_getF (pc := 72) f_Reader_15 rfl ((hf_N3_.w hW).ka (o := 4) (by decide)) ((hf_N3_.w hW).la (o := 4) (s := 0) (r := 1) (by decide)) d_Reader_readPlaces_72 ?_
              refine zk_getI (pc := 75) f_Reader_57 rfl ((hf_N3_.w hW).ka (o := 1) (by decide)) d_Reader_readPlaces_75 ?_
              refine zk_callV hf_N3_.x (pc := 78) [.int (Int32.ofInt (ze N3_ 1 5))] [] l_Reader_60 (u_Troupe_begin l d_ N3_ (hf_N3_.w hW) (ze N3_ 1 5) (ze_r N3_ 1 5).1 (ze_r N3_ 1 5).2 (ze N3_ 1 5).toNat (show (ze N3_ 1 5) = (ze N3_ 1 5).toNat by omega) (show 1 ≤ (ze N3_ 1 5).toNat by omega) (show (ze N3_ 1 5).toNat ≤ 6 by omega)) rfl rfl ((hf_N3_.w hW).kr (o := 0) (by decide)) (by decide) (by decide) (Nat.le_of_ble_eq_true rfl) d_Reader_readPlaces_78 ?_
              rintro _ N12_ ⟨rfl, hsN12_, ⟨hp0_N12_, hp1_N12_, hp2_N12_⟩⟩
              have hf_N12_ : zFc d_ [(1, 2), (1, 3), (1, 4), (1, 5), (4, 2), (4, 3)] [] [(0, 6), (0, 7), (0, 8), (1, 5), (1, 6), (1, 7)] [5] Mz N12_ := hf_N3_.tr hsN12_ (by decide) (by decide) (by decide) (by decide)
              have eA1_2_N12_ : ze N12_ 1 2 = ze N3_ 1 2 := hsN12_.ea (hf_N3_.w hW) (by decide)
              have eA1_3_N12_ : ze N12_ 1 3 = ze N3_ 1 3 := hsN12_.ea (hf_N3_.w hW) (by decide)
              have eA1_5_N12_ : ze N12_ 1 5 = ze N3_ 1 5 := hsN12_.ea (hf_N3_.w hW) (by decide)
              have rD0_6_N12_ := ze_r N12_ (d_ + 0) 6
              have c14_ : zYb b_ n_ N12_ := zYb.fr (hf_N3_.w hW) hsN12_ c5_ (by decide)
              have c15_ : zYt b_ n_ N12_ := zYt.fr (hf_N3_.w hW) hsN12_ hp1_N3_ (by decide)
              show zW l m_Reader_readPlaces (zn Mz + 0, zw Mz + 0) N12_ 81 [some (.ref 4), some (.ref (d_ + 0))] [] (zqcI d_ [(1, 2), (1, 3), (1, 4), (1, 5), (4, 2), (4, 3)] [] [(0, 6), (0, 7), (0, 8), (1, 5), (1, 6), (1, 7)] [5] Mz (fun v N => zYt b_ n_ N ∧ (((v = 1 ∧ (∃ P : Nat, zHd b_ n_ (ze Mz 1 2).toNat P (ze N 1 2).toNat ∧ zMvK [] P d_ N ∧ zGg [] P d_ N) ∧ ze N (d_ + 0) 6 = 0) ∨ (v = 0 ∧ ¬ ∃ P q, zHd b_ n_ (ze Mz 1 2).toNat P q)))))
              have hb0_ := hp0_N12_
              have hb1_ := hp1_N12_
              have hb2_ := hp2_N12_
              obtain ⟨P_, hP_⟩ : ∃ P_ : Nat, P_ = (ze N3_ 1 5).toNat := ⟨_, rfl⟩
              rw [← hP_] at hb0_ hb1_
              have hyt_ := c15_
              have hyx_ := hyt_.x
              refine zw_aload_n (pc := 81) (n := 0) (x := 4) rfl d_Reader_readPlaces_81 ?_
              refine zw_getF (pc := 82) f_Reader_15 rfl ((hf_N12_.w hW).ka (o := 4) (by decide)) ((hf_N12_.w hW).la (o := 4) (s := 0) (r := 1) (by decide)) d_Reader_readPlaces_82 ?_
              refine zk_callV hf_N12_.x (pc := 85) [] [] l_Reader_44 (u_Tokens_step l d_ N12_ (hf_N12_.w hW) b_ n_ c14_ (show 0 ≤ ze N12_ 1 3 by first | assumption | omega) (show ze N12_ 1 3 ≤ n_ by first | assumption | omega)) rfl rfl ((hf_N12_.w hW).ka (o := 1) (by decide)) (by decide) (by decide) (Nat.le_of_ble_eq_true rfl) d_Reader_readPlaces_85 ?_
              rintro _ N16_ ⟨rfl, hsN16_, ⟨hp0_N16_, hp1_N16_⟩⟩
              have hf_N16_ : zFc d_ [(1, 2), (1, 3), (1, 4), (1, 5), (4, 2), (4, 3)] [] [(0, 6), (0, 7), (0, 8), (1, 5), (1, 6), (1, 7)] [5] Mz N16_ := hf_N12_.tr hsN16_ (by decide) (by decide) (by decide) (by decide)
              have rA1_2_N16_ := ze_r N16_ 1 2
              have rA1_3_N16_ := ze_r N16_ 1 3
              have rA1_5_N16_ := ze_r N16_ 1 5
              have eD0_6_N16_ : ze N16_ (d_ + 0) 6 = ze N12_ (d_ + 0) 6 := hsN16_.e (by decide)
              have c18_ : zYb b_ n_ N16_ := zYb.fr (hf_N12_.w hW) hsN16_ c14_ (by decide)
              have c19_ : zMvK [] (ze N3_ 1 5).toNat d_ N16_ := zMvK.fr (hf_N12_.w hW) hsN16_ hp0_N12_ (by decide)
              have c20_ : zGg [] (ze N3_ 1 5).toNat d_ N16_ := zGg.fr (hf_N12_.w hW) hsN16_ hp1_N12_ (by decide)
              show zW l m_Reader_readPlaces (zn Mz + 0, zw Mz + 0) N16_ 88 [some (.ref 4), some (.ref (d_ + 0))] [] (zqcI d_ [(1, 2), (1, 3), (1, 4), (1, 5), (4, 2), (4, 3)] [] [(0, 6), (0, 7), (0, 8), (1, 5), (1, 6), (1, 7)] [5] Mz (fun v N => zYt b_ n_ N ∧ (((v = 1 ∧ (∃ P : Nat, zHd b_ n_ (ze Mz 1 2).toNat P (ze N 1 2).toNat ∧ zMvK [] P d_ N ∧ zGg [] P d_ N) ∧ ze N (d_ + 0) 6 = 0) ∨ (v = 0 ∧ ¬ ∃ P q, zHd b_ n_ (ze Mz 1 2).toNat P q)))))
              have hnn_ := hyt_.n hp0_N16_
              have hx2_ : (ze N16_ 1 2).toNat = znx b_ n_ (znx b_ n_ (ze Mz 1 2).toNat) := hnn_.2.trans (by rw [show ze N12_ 1 2 = ze N3_ 1 2 by omega, hx1_])
              have hb3_ : zMvK [] P_ d_ N16_ := by rw [hP_]; assumption
              have hb4_ : zGg [] P_ d_ N16_ := by rw [hP_]; assumption
              refine zw_aload_n (pc := 88) (n := 0) (x := 4) rfl d_Reader_readPlaces_88 ?_
              refine zw_bipush (pc := 89) (v := Int32.ofInt 59) (by decide) d_Reader_readPlaces_89 ?_
              refine zk_callV hf_N16_.x (pc := 91) [.int (Int32.ofInt 59)] [] l_Reader_66 (u_Reader_passSign l d_ N16_ (hf_N16_.w hW) 59 (by decide) (by decide) b_ n_ c18_ hp1_N16_) rfl rfl ((hf_N16_.w hW).ka (o := 4) (by decide)) (by decide) (by decide) (Nat.le_of_ble_eq_true rfl) d_Reader_readPlaces_91 ?_
              rintro _ N21_ ⟨v22_, rfl, ⟨hv22_a, hv22_b⟩, hsN21_, ⟨hp0_N21_, hp1_N21_⟩⟩
              have hf_N21_ : zFc d_ [(1, 2), (1, 3), (1, 4), (1, 5), (4, 2), (4, 3)] [] [(0, 6), (0, 7), (0, 8), (1, 5), (1, 6), (1, 7)] [5] Mz N21_ := hf_N16_.tr hsN21_ (by decide) (by decide) (by decide) (by decide)
              have rA1_2_N21_ := ze_r N21_ 1 2
              have rA1_3_N21_ := ze_r N21_ 1 3
              have rA1_5_N21_ := ze_r N21_ 1 5
              have eD0_6_N21_ : ze N21_ (d_ + 0) 6 = ze N16_ (d_ + 0) 6 := hsN21_.e (by decide)
              have c23_ : zYb b_ n_ N21_ := zYb.fr (hf_N16_.w hW) hsN21_ c18_ (by decide)
              have c24_ : zMvK [] (ze N3_ 1 5).toNat d_ N21_ := zMvK.fr (hf_N16_.w hW) hsN21_ c19_ (by decide)
              have c25_ : zGg [] (ze N3_ 1 5).toNat d_ N21_ := zGg.fr (hf_N16_.w hW) hsN21_ c20_ (by decide)
              rcases hp1_N21_ with ⟨rfl, ha91_0_hp1_N21_, ha91_1_hp1_N21_⟩ | ⟨rfl, ha91_0_hp1_N21_⟩
              · skip
                have hs1_ := ha91_0_hp1_N21_
                have hs2_ := ha91_1_hp1_N21_
                rw [hx2_] at hs1_ hs2_
                have hb5_ : zMvK [] P_ d_ N21_ := by rw [hP_]; assumption
                have hb6_ : zGg [] P_ d_ N21_ := by rw [hP_]; assumption
                show zW l m_Reader_readPlaces (zn Mz + 0, zw Mz + 0) N21_ 94 [some (.ref 4), some (.ref (d_ + 0))] [.int (Int32.ofInt 1)] (zqcI d_ [(1, 2), (1, 3), (1, 4), (1, 5), (4, 2), (4, 3)] [] [(0, 6), (0, 7), (0, 8), (1, 5), (1, 6), (1, 7)] [5] Mz (fun v N => zYt b_ n_ N ∧ (((v = 1 ∧ (∃ P : Nat, zHd b_ n_ (ze Mz 1 2).toNat P (ze N 1 2).toNat ∧ zMvK [] P d_ N ∧ zGg [] P d_ N) ∧ ze N (d_ + 0) 6 = 0) ∨ (v = 0 ∧ ¬ ∃ P q, zHd b_ n_ (ze Mz 1 2).toNat P q)))))
                exact zk_iret (pc := 94) (ty := .boolean) rfl (z_narB (by omega)) ⟨by omega, by omega⟩ hf_N21_ ⟨hp0_N21_, (show ((1 = 1 ∧ (∃ P : Nat, zHd b_ n_ (ze Mz 1 2).toNat P (ze N21_ 1 2).toNat ∧ zMvK [] P d_ N21_ ∧ zGg [] P d_ N21_) ∧ ze N21_ (d_ + 0) 6 = 0) ∨ (1 = 0 ∧ ¬ ∃ P q, zHd b_ n_ (ze Mz 1 2).toNat P q)) from Or.inl (⟨(show 1 = 1 by first | rfl | omega | exact ⟨P_, ⟨hl0_, ⟨hk2_, by omega, by omega, by omega⟩, hs1_, hs2_⟩, hb5_, hb6_⟩), (show (∃ P : Nat, zHd b_ n_ (ze Mz 1 2).toNat P (ze N21_ 1 2).toNat ∧ zMvK [] P d_ N21_ ∧ zGg [] P d_ N21_) by first | rfl | omega | exact ⟨P_, ⟨hl0_, ⟨hk2_, by omega, by omega, by omega⟩, hs1_, hs2_⟩, hb5_, hb6_⟩), (show ze N21_ (d_ + 0) 6 = 0 by first | rfl | omega | exact ⟨P_, ⟨hl0_, ⟨hk2_, by omega, by omega, by omega⟩, hs1_, hs2_⟩, hb5_, hb6_⟩)⟩))⟩ d_Reader_readPlaces_94
              · skip
                have hs1_ := ha91_0_hp1_N21_
                rw [hx2_] at hs1_
                have hrt_ : ¬ ∃ P q, zHd b_ n_ (ze Mz 1 2).toNat P q := fun ⟨P, q, h⟩ => hs1_ h.2.2.1
                show zW l m_Reader_readPlaces (zn Mz + 0, zw Mz + 0) N21_ 94 [some (.ref 4), some (.ref (d_ + 0))] [.int (Int32.ofInt 0)] (zqcI d_ [(1, 2), (1, 3), (1, 4), (1, 5), (4, 2), (4, 3)] [] [(0, 6), (0, 7), (0, 8), (1, 5), (1, 6), (1, 7)] [5] Mz (fun v N => zYt b_ n_ N ∧ (((v = 1 ∧ (∃ P : Nat, zHd b_ n_ (ze Mz 1 2).toNat P (ze N 1 2).toNat ∧ zMvK [] P d_ N ∧ zGg [] P d_ N) ∧ ze N (d_ + 0) 6 = 0) ∨ (v = 0 ∧ ¬ ∃ P q, zHd b_ n_ (ze Mz 1 2).toNat P q)))))
                exact zk_iret (pc := 94) (ty := .boolean) rfl (z_narB (by omega)) ⟨by omega, by omega⟩ hf_N21_ ⟨hp0_N21_, (show ((0 = 1 ∧ (∃ P : Nat, zHd b_ n_ (ze Mz 1 2).toNat P (ze N21_ 1 2).toNat ∧ zMvK [] P d_ N21_ ∧ zGg [] P d_ N21_) ∧ ze N21_ (d_ + 0) 6 = 0) ∨ (0 = 0 ∧ ¬ ∃ P q, zHd b_ n_ (ze Mz 1 2).toNat P q)) from Or.inr (⟨(show 0 = 0 by first | rfl | exact hrt_ | (rintro ⟨P, q, h⟩; have h2_ := h.2.1; omega)), (show ¬ ∃ P q, zHd b_ n_ (ze Mz 1 2).toNat P q by first | rfl | exact hrt_ | (rintro ⟨P, q, h⟩; have h2_ := h.2.1; omega))⟩))⟩ d_Reader_readPlaces_94
            · skip
              refine zw_aload_n (pc := 64) (n := 0) (x := 4) rfl d_Reader_readPlaces_64 ?_
              refine zw_iconst (pc := 65) (v := Int32.ofInt 4) (by decide) d_Reader_readPlaces_65 ?_
              refine zk_callV hf_N3_.x (pc := 66) [.int (Int32.ofInt 4)] [] l_Reader_41 (u_Reader_refuse l d_ N3_ (hf_N3_.w hW) 4 (by decide) (by decide)) rfl rfl ((hf_N3_.w hW).ka (o := 4) (by decide)) (by decide) (by decide) (Nat.le_of_ble_eq_true rfl) d_Reader_readPlaces_66 ?_
              rintro _ N26_ ⟨v27_, rfl, ⟨hv27_a, hv27_b⟩, hsN26_, hp0_N26_⟩
              replace hp0_N26_ : ((v27_ = 0)) := hp0_N26_
              have hf_N26_ : zFc d_ [(1, 2), (1, 3), (1, 4), (1, 5), (4, 2), (4, 3)] [] [(0, 6), (0, 7), (0, 8), (1, 5), (1, 6), (1, 7)] [5] Mz N26_ := hf_N3_.tr hsN26_ (by decide) (by decide) (by decide) (by decide)
              have eA1_2_N26_ : ze N26_ 1 2 = ze N3_ 1 2 := hsN26_.ea (hf_N3_.w hW) (by decide)
              have eA1_3_N26_ : ze N26_ 1 3 = ze N3_ 1 3 := hsN26_.ea (hf_N3_.w hW) (by decide)
              have eA1_5_N26_ : ze N26_ 1 5 = ze N3_ 1 5 := hsN26_.ea (hf_N3_.w hW) (by decide)
              have eD0_6_N26_ : ze N26_ (d_ + 0) 6 = ze N3_ (d_ + 0) 6 := hsN26_.e (by decide)
              have c28_ : zYb b_ n_ N26_ := zYb.fr (hf_N3_.w hW) hsN26_ c5_ (by decide)
              have c29_ : zYt b_ n_ N26_ := zYt.fr (hf_N3_.w hW) hsN26_ hp1_N3_ (by decide)
              rcases hp0_N26_ with rfl
              · skip
                show zW l m_Reader_readPlaces (zn Mz + 0, zw Mz + 0) N26_ 69 [some (.ref 4), some (.ref (d_ + 0))] [.int (Int32.ofInt 0)] (zqcI d_ [(1, 2), (1, 3), (1, 4), (1, 5), (4, 2), (4, 3)] [] [(0, 6), (0, 7), (0, 8), (1, 5), (1, 6), (1, 7)] [5] Mz (fun v N => zYt b_ n_ N ∧ (((v = 1 ∧ (∃ P : Nat, zHd b_ n_ (ze Mz 1 2).toNat P (ze N 1 2).toNat ∧ zMvK [] P d_ N ∧ zGg [] P d_ N) ∧ ze N (d_ + 0) 6 = 0) ∨ (v = 0 ∧ ¬ ∃ P q, zHd b_ n_ (ze Mz 1 2).toNat P q)))))
                exact zk_iret (pc := 69) (ty := .boolean) rfl (z_narB (by omega)) ⟨by omega, by omega⟩ hf_N26_ ⟨c29_, (show ((0 = 1 ∧ (∃ P : Nat, zHd b_ n_ (ze Mz 1 2).toNat P (ze N26_ 1 2).toNat ∧ zMvK [] P d_ N26_ ∧ zGg [] P d_ N26_) ∧ ze N26_ (d_ + 0) 6 = 0) ∨ (0 = 0 ∧ ¬ ∃ P q, zHd b_ n_ (ze Mz 1 2).toNat P q)) from Or.inr (⟨(show 0 = 0 by first | rfl | exact hrt_ | (rintro ⟨P, q, h⟩; have h2_ := h.2.1; omega)), (show ¬ ∃ P q, zHd b_ n_ (ze Mz 1 2).toNat P q by first | rfl | exact hrt_ | (rintro ⟨P, q, h⟩; have h2_ := h.2.1; omega))⟩))⟩ d_Reader_readPlaces_69
        · skip
          exact absurd hc_32 (by decide)
      · skip
        have hk2_ := ha29_0_hp0_N6_
        rw [hx1_] at hk2_
        have hrt_ : ¬ ∃ P q, zHd b_ n_ (ze Mz 1 2).toNat P q := fun ⟨P, q, h⟩ => hk2_ h.2.1.1
        show zW l m_Reader_readPlaces (zn Mz + 0, zw Mz + 0) N3_ 32 [some (.ref 4), some (.ref (d_ + 0))] [.int (Int32.ofInt 0)] (zqcI d_ [(1, 2), (1, 3), (1, 4), (1, 5), (4, 2), (4, 3)] [] [(0, 6), (0, 7), (0, 8), (1, 5), (1, 6), (1, 7)] [5] Mz (fun v N => zYt b_ n_ N ∧ (((v = 1 ∧ (∃ P : Nat, zHd b_ n_ (ze Mz 1 2).toNat P (ze N 1 2).toNat ∧ zMvK [] P d_ N ∧ zGg [] P d_ N) ∧ ze N (d_ + 0) 6 = 0) ∨ (v = 0 ∧ ¬ ∃ P q, zHd b_ n_ (ze Mz 1 2).toNat P q)))))
        refine zr_if_ne (pc := 32) (tgt := 41) ⟨(by decide), (by decide)⟩ (by decide) d_Reader_readPlaces_32 (fun hc_32 => ?_) (fun hc_32 => ?_)
        · skip
          exact absurd hc_32 (by decide)
        · skip
          refine zw_aload_n (pc := 35) (n := 0) (x := 4) rfl d_Reader_readPlaces_35 ?_
          refine zw_iconst (pc := 36) (v := Int32.ofInt 2) (by decide) d_Reader_readPlaces_36 ?_
          refine zk_callV hf_N3_.x (pc := 37) [.int (Int32.ofInt 2)] [] l_Reader_41 (u_Reader_refuse l d_ N3_ (hf_N3_.w hW) 2 (by decide) (by decide)) rfl rfl ((hf_N3_.w hW).ka (o := 4) (by decide)) (by decide) (by decide) (Nat.le_of_ble_eq_true rfl) d_Reader_readPlaces_37 ?_
          rintro _ N30_ ⟨v31_, rfl, ⟨hv31_a, hv31_b⟩, hsN30_, hp0_N30_⟩
          replace hp0_N30_ : ((v31_ = 0)) := hp0_N30_
          have hf_N30_ : zFc d_ [(1, 2), (1, 3), (1, 4), (1, 5), (4, 2), (4, 3)] [] [(0, 6), (0, 7), (0, 8), (1, 5), (1, 6), (1, 7)] [5] Mz N30_ := hf_N3_.tr hsN30_ (by decide) (by decide) (by decide) (by decide)
          have eA1_2_N30_ : ze N30_ 1 2 = ze N3_ 1 2 := hsN30_.ea (hf_N3_.w hW) (by decide)
          have eA1_3_N30_ : ze N30_ 1 3 = ze N3_ 1 3 := hsN30_.ea (hf_N3_.w hW) (by decide)
          have eA1_5_N30_ : ze N30_ 1 5 = ze N3_ 1 5 := hsN30_.ea (hf_N3_.w hW) (by decide)
          have eD0_6_N30_ : ze N30_ (d_ + 0) 6 = ze N3_ (d_ + 0) 6 := hsN30_.e (by decide)
          have c32_ : zYb b_ n_ N30_ := zYb.fr (hf_N3_.w hW) hsN30_ c5_ (by decide)
          have c33_ : zYt b_ n_ N30_ := zYt.fr (hf_N3_.w hW) hsN30_ hp1_N3_ (by decide)
          rcases hp0_N30_ with rfl
          · skip
            show zW l m_Reader_readPlaces (zn Mz + 0, zw Mz + 0) N30_ 40 [some (.ref 4), some (.ref (d_ + 0))] [.int (Int32.ofInt 0)] (zqcI d_ [(1, 2), (1, 3), (1, 4), (1, 5), (4, 2), (4, 3)] [] [(0, 6), (0, 7), (0, 8), (1, 5), (1, 6), (1, 7)] [5] Mz (fun v N => zYt b_ n_ N ∧ (((v = 1 ∧ (∃ P : Nat, zHd b_ n_ (ze Mz 1 2).toNat P (ze N 1 2).toNat ∧ zMvK [] P d_ N ∧ zGg [] P d_ N) ∧ ze N (d_ + 0) 6 = 0) ∨ (v = 0 ∧ ¬ ∃ P q, zHd b_ n_ (ze Mz 1 2).toNat P q)))))
            exact zk_iret (pc := 40) (ty := .boolean) rfl (z_narB (by omega)) ⟨by omega, by omega⟩ hf_N30_ ⟨c33_, (show ((0 = 1 ∧ (∃ P : Nat, zHd b_ n_ (ze Mz 1 2).toNat P (ze N30_ 1 2).toNat ∧ zMvK [] P d_ N30_ ∧ zGg [] P d_ N30_) ∧ ze N30_ (d_ + 0) 6 = 0) ∨ (0 = 0 ∧ ¬ ∃ P q, zHd b_ n_ (ze Mz 1 2).toNat P q)) from Or.inr (⟨(show 0 = 0 by first | rfl | exact hrt_ | (rintro ⟨P, q, h⟩; have h2_ := h.2.1; omega)), (show ¬ ∃ P q, zHd b_ n_ (ze Mz 1 2).toNat P q by first | rfl | exact hrt_ | (rintro ⟨P, q, h⟩; have h2_ := h.2.1; omega))⟩))⟩ d_Reader_readPlaces_40
    · skip
      exact absurd hc_9 (by decide)
  · skip
    have hrt_ : ¬ ∃ P q, zHd b_ n_ (ze Mz 1 2).toNat P q := fun ⟨P, q, h⟩ => ha6_0_hp0_N1_ h.1
    show zW l m_Reader_readPlaces (zn Mz + 0, zw Mz + 0) Mz 9 [some (.ref 4), some (.ref (d_ + 0))] [.int (Int32.ofInt 0)] (zqcI d_ [(1, 2), (1, 3), (1, 4), (1, 5), (4, 2), (4, 3)] [] [(0, 6), (0, 7), (0, 8), (1, 5), (1, 6), (1, 7)] [5] Mz (fun v N => zYt b_ n_ N ∧ (((v = 1 ∧ (∃ P : Nat, zHd b_ n_ (ze Mz 1 2).toNat P (ze N 1 2).toNat ∧ zMvK [] P d_ N ∧ zGg [] P d_ N) ∧ ze N (d_ + 0) 6 = 0) ∨ (v = 0 ∧ ¬ ∃ P q, zHd b_ n_ (ze Mz 1 2).toNat P q)))))
    refine zr_if_ne (pc := 9) (tgt := 18) ⟨(by decide), (by decide)⟩ (by decide) d_Reader_readPlaces_9 (fun hc_9 => ?_) (fun hc_9 => ?_)
    · skip
      exact absurd hc_9 (by decide)
    · skip
      refine zw_aload_n (pc := 12) (n := 0) (x := 4) rfl d_Reader_readPlaces_12 ?_
      refine zw_iconst (pc := 13) (v := Int32.ofInt 2) (by decide) d_Reader_readPlaces_13 ?_
      refine zk_callV hf.x (pc := 14) [.int (Int32.ofInt 2)] [] l_Reader_41 (u_Reader_refuse l d_ Mz (hf.w hW) 2 (by decide) (by decide)) rfl rfl ((hf.w hW).ka (o := 4) (by decide)) (by decide) (by decide) (Nat.le_of_ble_eq_true rfl) d_Reader_readPlaces_14 ?_
      rintro _ N34_ ⟨v35_, rfl, ⟨hv35_a, hv35_b⟩, hsN34_, hp0_N34_⟩
      replace hp0_N34_ : ((v35_ = 0)) := hp0_N34_
      have hf_N34_ : zFc d_ [(1, 2), (1, 3), (1, 4), (1, 5), (4, 2), (4, 3)] [] [(0, 6), (0, 7), (0, 8), (1, 5), (1, 6), (1, 7)] [5] Mz N34_ := hf.tr hsN34_ (by decide) (by decide) (by decide) (by decide)
      have eA1_2_N34_ : ze N34_ 1 2 = ze Mz 1 2 := hsN34_.ea (hf.w hW) (by decide)
      have eA1_3_N34_ : ze N34_ 1 3 = ze Mz 1 3 := hsN34_.ea (hf.w hW) (by decide)
      have eA1_5_N34_ : ze N34_ 1 5 = ze Mz 1 5 := hsN34_.ea (hf.w hW) (by decide)
      have eD0_6_N34_ : ze N34_ (d_ + 0) 6 = ze Mz (d_ + 0) 6 := hsN34_.e (by decide)
      have c36_ : zYb b_ n_ N34_ := zYb.fr (hf.w hW) hsN34_ p0_ (by decide)
      have c37_ : zYt b_ n_ N34_ := zYt.fr (hf.w hW) hsN34_ p1_ (by decide)
      rcases hp0_N34_ with rfl
      · skip
        show zW l m_Reader_readPlaces (zn Mz + 0, zw Mz + 0) N34_ 17 [some (.ref 4), some (.ref (d_ + 0))] [.int (Int32.ofInt 0)] (zqcI d_ [(1, 2), (1, 3), (1, 4), (1, 5), (4, 2), (4, 3)] [] [(0, 6), (0, 7), (0, 8), (1, 5), (1, 6), (1, 7)] [5] Mz (fun v N => zYt b_ n_ N ∧ (((v = 1 ∧ (∃ P : Nat, zHd b_ n_ (ze Mz 1 2).toNat P (ze N 1 2).toNat ∧ zMvK [] P d_ N ∧ zGg [] P d_ N) ∧ ze N (d_ + 0) 6 = 0) ∨ (v = 0 ∧ ¬ ∃ P q, zHd b_ n_ (ze Mz 1 2).toNat P q)))))
        exact zk_iret (pc := 17) (ty := .boolean) rfl (z_narB (by omega)) ⟨by omega, by omega⟩ hf_N34_ ⟨c37_, (show ((0 = 1 ∧ (∃ P : Nat, zHd b_ n_ (ze Mz 1 2).toNat P (ze N34_ 1 2).toNat ∧ zMvK [] P d_ N34_ ∧ zGg [] P d_ N34_) ∧ ze N34_ (d_ + 0) 6 = 0) ∨ (0 = 0 ∧ ¬ ∃ P q, zHd b_ n_ (ze Mz 1 2).toNat P q)) from Or.inr (⟨(show 0 = 0 by first | rfl | exact hrt_ | (rintro ⟨P, q, h⟩; have h2_ := h.2.1; omega)), (show ¬ ∃ P q, zHd b_ n_ (ze Mz 1 2).toNat P q by first | rfl | exact hrt_ | (rintro ⟨P, q, h⟩; have h2_ := h.2.1; omega))⟩))⟩ d_Reader_readPlaces_17
