set_option maxHeartbeats 4000000 in
theorem u_Units_bitOfU (l : Launch) (d_ : Nat) (Mz : zMem) (hW : zKW d_ Mz) (a0_ : Int) (ha0_a : -2147483648 ≤ a0_) (ha0_b : a0_ < 2147483648) (T_ : zGT) (hT_ : T_ ∈ gTabs) (p0_ : zFir T_ d_ Mz) (p1_ : 0 ≤ a0_) (p2_ : a0_ < ((gF T_).length : Int)) : zC l m_Units_bitOf 0 0 [.ref (d_ + 28), .int (Int32.ofInt a0_)] Mz (zqcI d_ [] [] [] [] Mz (fun v N => v = ((2 ^ ((gF T_).length - 1 - (a0_).toNat) : Nat) : Int) ∧ 0 ≤ v ∧ v < 134217728)) := by
  refine zC_of (L0 := [some (.ref (d_ + 28)), some (.int (Int32.ofInt a0_))]) md_Units_bitOf (Nat.le_of_ble_eq_true rfl) rfl ?_ zQ0
  have hf : zFc d_ [] [] [] [] Mz Mz := zFc.rf
  have r_D12_7 := ze_r Mz (d_ + 12) 7
  have hO_ := gTabs_ok T_ hT_
  have hG_ := hO_.1
  have hn24_ := hG_.2.1
  have hn1_ := hG_.1
  have hfl_ := p0_.1
  obtain ⟨⟨hF1_, hF27_⟩, hAr_⟩ := id (gT_zTA hT_)
  refine zw_iconst (pc := 0) (v := Int32.ofInt 1) (by decide) (zdal_p dlB_Units_bitOf_87 (i := 0) rfl) ?_
  refine zw_aload_n (pc := 1) (n := 0) (x := (d_ + 28)) rfl (zdal_p dlB_Units_bitOf_87 (i := 1) rfl) ?_
  refine zw_getF (pc := 2) f_Units_23 rfl ((hf.w hW).kr (o := 28) (by decide)) ((hf.w hW).lr (o := 28) (s := 0) (r := 12) (by decide)) (zdal_p dlB_Units_bitOf_87 (i := 2) rfl) ?_
  refine zk_getI (pc := 5) f_Units_35 rfl ((hf.w hW).kr (o := 12) (by decide)) (zdal_p dlB_Units_bitOf_87 (i := 3) rfl) ?_
  refine zw_iconst (pc := 8) (v := Int32.ofInt 1) (by decide) (zdal_p dlB_Units_bitOf_87 (i := 4) rfl) ?_
  refine zr_isub (pc := 9) (zdal_p dlB_Units_bitOf_87 (i := 5) rfl) ?_
  refine zw_iload_n (pc := 10) (n := 1) (x := Int32.ofInt a0_) rfl (zdal_p dlB_Units_bitOf_87 (i := 6) rfl) ?_
  refine zr_isub (pc := 11) (zdal_p dlB_Units_bitOf_87 (i := 7) rfl) ?_
  refine zr_ishl (pc := 12) (zdal_p dlB_Units_bitOf_87 (i := 8) rfl) ?_
  have hr1_ := zshl_r 1 (((ze Mz (d_ + 12) 7) - 1) - a0_)
  have hb_ := zubo (F := (gF T_).length) (s := a0_) (v := (zshl 1 (((ze Mz (d_ + 12) 7) - 1) - a0_))) hfl_ ⟨hF1_, hF27_⟩ ⟨p1_, p2_⟩ rfl
  exact zk_iret (pc := 13) (ty := .int) rfl rfl ⟨by omega, by omega⟩ hf ⟨(show (zshl 1 (((ze Mz (d_ + 12) 7) - 1) - a0_)) = ((2 ^ ((gF T_).length - 1 - (a0_).toNat) : Nat) : Int) by exact hb_.1), (show 0 ≤ (zshl 1 (((ze Mz (d_ + 12) 7) - 1) - a0_)) by exact hb_.2.1), (show (zshl 1 (((ze Mz (d_ + 12) 7) - 1) - a0_)) < 134217728 by exact hb_.2.2)⟩ (zdal_p dlB_Units_bitOf_87 (i := 9) rfl)
set_option maxHeartbeats 4000000 in
theorem u_Units_narrowU (l : Launch) (d_ : Nat) (Mz : zMem) (hW : zKW d_ Mz) (a0_ : Int) (ha0_a : -2147483648 ≤ a0_) (ha0_b : a0_ < 2147483648) (S_ : Nat → Prop) (p0_ : zNw S_ d_ Mz) (p1_ : 0 ≤ a0_) (p2_ : a0_ < 134217728) : zC l m_Units_narrow 0 0 [.ref (d_ + 28), .int (Int32.ofInt a0_)] Mz (zqcV d_ [] [] [(28, 3)] [30] Mz (fun N => (zNw (fun x_ => S_ x_ ∧ zpm (a0_).toNat x_ = false) d_ N))) := by
  refine zC_of (L0 := [some (.ref (d_ + 28)), some (.int (Int32.ofInt a0_)), none, none]) md_Units_narrow (Nat.le_of_ble_eq_true rfl) rfl ?_ zQ0
  have hf : zFc d_ [] [] [(28, 3)] [30] Mz Mz := zFc.rf
  have r_D28_3 := ze_r Mz (d_ + 28) 3
  have hm_ := p0_.1
  refine zw_iconst (pc := 0) (v := Int32.ofInt (-1)) (by decide) (zdal_p dlB_Units_narrow_88 (i := 0) rfl) ?_
  refine zw_istore_n (pc := 1) (i := 2) (L2 := [some (.ref (d_ + 28)), some (.int (Int32.ofInt a0_)), some (.int (Int32.ofInt ((-1)))), none]) rfl (by decide) rfl (zdal_p dlB_Units_narrow_88 (i := 1) rfl) ?_
  refine zw_iconst (pc := 2) (v := Int32.ofInt 0) (by decide) (zdal_p dlB_Units_narrow_88 (i := 2) rfl) ?_
  refine zw_istore_n (pc := 3) (i := 3) (L2 := [some (.ref (d_ + 28)), some (.int (Int32.ofInt a0_)), some (.int (Int32.ofInt ((-1)))), some (.int (Int32.ofInt 0))]) rfl (by decide) rfl (zdal_p dlB_Units_narrow_88 (i := 3) rfl) ?_
  have lp_4 : ∀ (n : Nat) (u1_ : Int) (hu1_a : -2147483648 ≤ u1_) (hu1_b : u1_ < 2147483648) (u2_ : Int) (hu2_a : -2147483648 ≤ u2_) (hu2_b : u2_ < 2147483648) (N3_ : zMem) (hs4_ : zFc d_ [] [] [] [30] Mz N3_) (i5_ : 0 ≤ u2_) (i6_ : u2_ ≤ ze Mz (d_ + 28) 3) (i7_ : -1 ≤ u1_ ∧ u1_ < 27) (i8_ : zNv S_ (a0_).toNat u2_ u1_ d_ N3_) (i9_ : ze N3_ (d_ + 28) 3 = ze Mz (d_ + 28) 3), (ze Mz (d_ + 28) 3 - u2_).toNat < n → zW l m_Units_narrow (zn Mz + 0, zw Mz + 0) N3_ 4 [some (.ref (d_ + 28)), some (.int (Int32.ofInt a0_)), some (.int (Int32.ofInt u1_)), some (.int (Int32.ofInt u2_))] [] (zqcV d_ [] [] [(28, 3)] [30] Mz (fun N => (zNw (fun x_ => S_ x_ ∧ zpm (a0_).toNat x_ = false) d_ N))) := by
    intro n
    induction n with
    | zero =>
      intro u1_ hu1_a hu1_b u2_ hu2_a hu2_b N3_ hs4_ i5_ i6_ i7_ i8_ i9_ h0
      exact absurd h0 (Nat.not_lt_zero _)
    | succ n ih_4 =>
      intro u1_ hu1_a hu1_b u2_ hu2_a hu2_b N3_ hs4_ i5_ i6_ i7_ i8_ i9_ hlt_4
      have hf_N3_ : zFc d_ [] [] [(28, 3)] [30] Mz N3_ := hf.tr hs4_ (by decide) (by decide) (by decide) (by decide)
      have eD28_3_N3_ : ze N3_ (d_ + 28) 3 = ze Mz (d_ + 28) 3 := hs4_.e (by decide)
      have hnw_ := (show zNv S_ (a0_).toNat u2_ u1_ d_ N3_ by first | with_reducible assumption | assumption)
      have hno_ := hnw_.2.2
      refine zw_iload_n (pc := 4) (n := 3) (x := Int32.ofInt u2_) rfl (zdal_p dlB_Units_narrow_88 (i := 4) rfl) ?_
      refine zw_aload_n (pc := 5) (n := 0) (x := (d_ + 28)) rfl (zdal_p dlB_Units_narrow_88 (i := 5) rfl) ?_
      refine zk_getI (pc := 6) f_Units_31 rfl ((hf_N3_.w hW).kr (o := 28) (by decide)) (zdal_p dlB_Units_narrow_88 (i := 6) rfl) ?_
      refine zr_icmp_ge (pc := 9) (tgt := 74) ⟨hu2_a, hu2_b⟩ ⟨(ze_r N3_ (d_ + 28) 3).1, (ze_r N3_ (d_ + 28) 3).2⟩ (by decide) (zdal_p dlB_Units_narrow_88 (i := 7) rfl) (fun hc_9 => ?_) (fun hc_9 => ?_)
      · skip
        refine zw_iload_n (pc := 74) (n := 2) (x := Int32.ofInt u1_) rfl (zdal_p dlB_Units_narrow_89 (i := 16) rfl) ?_
        refine zw_iconst (pc := 75) (v := Int32.ofInt (-1)) (by decide) (zdal_p dlB_Units_narrow_89 (i := 17) rfl) ?_
        refine zr_icmp_eq (pc := 76) (tgt := 108) ⟨hu1_a, hu1_b⟩ ⟨(by decide), (by decide)⟩ (by decide) (zdal_p dlB_Units_narrow_89 (i := 18) rfl) (fun hc_76 => ?_) (fun hc_76 => ?_)
        · skip
          exact zk_vret (pc := 108) rfl hf_N3_ (show (zNw (fun x_ => S_ x_ ∧ zpm (a0_).toNat x_ = false) d_ N3_) by first | exact hfin_ | (have hm1_ : u1_ = -1 := (by omega); have hnm_ := hnw_; rw [hm1_] at hnm_; exact zNv_n hnm_ (by omega))) (zdal_p dlB_Units_narrow_90 (i := 10) rfl)
        · skip
          refine zw_aload_n (pc := 79) (n := 0) (x := (d_ + 28)) rfl (zdal_p dlB_Units_narrow_89 (i := 19) rfl) ?_
          refine zw_dup (pc := 80) rfl (zdal_p dlB_Units_narrow_89 (i := 20) rfl) ?_
          refine zk_getI (pc := 81) f_Units_31 rfl ((hf_N3_.w hW).kr (o := 28) (by decide)) (zdal_p dlB_Units_narrow_89 (i := 21) rfl) ?_
          refine zw_iconst (pc := 84) (v := Int32.ofInt 1) (by decide) (zdal_p dlB_Units_narrow_89 (i := 22) rfl) ?_
          refine zr_isub (pc := 85) (zdal_p dlB_Units_narrow_89 (i := 23) rfl) ?_
          refine zk_putR (pc := 86) (o := 28) (by decide) f_Units_31 rfl rfl ((hf_N3_.w hW).kr (o := 28) (by decide)) ⟨by omega, by omega⟩ rfl rfl (zdal_p dlB_Units_narrow_90 (i := 0) rfl) (fun N10_ hsN10_ hvN10_ => ?_)
          have hf_N10_ : zFc d_ [] [] [(28, 3)] [30] Mz N10_ := hf_N3_.tr hsN10_ (by decide) (by decide) (by decide) (by decide)
          have rD28_3_N10_ := ze_r N10_ (d_ + 28) 3
          refine zw_aload_n (pc := 89) (n := 0) (x := (d_ + 28)) rfl (zdal_p dlB_Units_narrow_90 (i := 1) rfl) ?_
          refine zw_getF (pc := 90) f_Units_14 rfl ((hf_N10_.w hW).kr (o := 28) (by decide)) ((hf_N10_.w hW).lr (o := 28) (s := 1) (r := 29) (by decide)) (zdal_p dlB_Units_narrow_90 (i := 2) rfl) ?_
          refine zw_iload_n (pc := 93) (n := 2) (x := Int32.ofInt u1_) rfl (zdal_p dlB_Units_narrow_90 (i := 3) rfl) ?_
          refine zw_aload_n (pc := 94) (n := 0) (x := (d_ + 28)) rfl (zdal_p dlB_Units_narrow_90 (i := 4) rfl) ?_
          refine zw_getF (pc := 95) f_Units_14 rfl ((hf_N10_.w hW).kr (o := 28) (by decide)) ((hf_N10_.w hW).lr (o := 28) (s := 1) (r := 29) (by decide)) (zdal_p dlB_Units_narrow_90 (i := 5) rfl) ?_
          refine zw_aload_n (pc := 98) (n := 0) (x := (d_ + 28)) rfl (zdal_p dlB_Units_narrow_90 (i := 6) rfl) ?_
          refine zk_getI (pc := 99) f_Units_31 rfl ((hf_N10_.w hW).kr (o := 28) (by decide)) (zdal_p dlB_Units_narrow_90 (i := 7) rfl) ?_
          refine zk_at hf_N10_.x (pc := 102) l_Units_57 ((hf_N10_.w hW).kr (o := 29) (by decide)) ((hf_N10_.w hW).lr (o := 29) (s := 0) (r := 30) (by decide)) ((hf_N10_.w hW).rr (o := 30) (t := 1) (n := 27) (by decide)) (by decide) (by omega) (by omega) (by decide) (Nat.le_of_ble_eq_true rfl) (zdal_p dlB_Units_narrow_90 (i := 8) rfl) (fun v11_ hv11_ hv11_a hv11_b => ?_)
          have hl_ := hv11_
          refine zk_st hf_N10_.x (pc := 105) (o := 30) (by decide) l_Units_40 ((hf_N10_.w hW).kr (o := 29) (by decide)) ((hf_N10_.w hW).lr (o := 29) (s := 0) (r := 30) (by decide)) ((hf_N10_.w hW).rr (o := 30) (t := 1) (n := 27) (by decide)) (by decide) (by omega) (by omega) (by decide) (Nat.le_of_ble_eq_true rfl) (zdal_p dlB_Units_narrow_90 (i := 9) rfl) (fun N12_ hN12_ hsN12_ => ?_)
          have hf_N12_ : zFc d_ [] [] [(28, 3)] [30] Mz N12_ := hf_N10_.tr hsN12_ (by decide) (by decide) (by decide) (by decide)
          have eD28_3_N12_ : ze N12_ (d_ + 28) 3 = ze N10_ (d_ + 28) 3 := hsN12_.e (by decide)
          have hfin_ := zNv_d hnw_ (by omega) (by omega) (by omega) (fun i_ hi_ => (zs_oth hN12_ (j := i_) (by omega)).trans (hsN10_.r (by decide) i_)) ((zs_get hN12_ ⟨by omega, by omega⟩).trans (hl_.trans ((hsN10_.r (by decide) _).trans (by rw [show (ze N10_ (d_ + 28) 3).toNat = (ze N3_ (d_ + 28) 3 - 1).toNat by omega]))))
          exact zk_vret (pc := 108) rfl hf_N12_ (show (zNw (fun x_ => S_ x_ ∧ zpm (a0_).toNat x_ = false) d_ N12_) by first | exact hfin_ | (have hm1_ : u1_ = -1 := (by omega); have hnm_ := hnw_; rw [hm1_] at hnm_; exact zNv_n hnm_ (by omega))) (zdal_p dlB_Units_narrow_90 (i := 10) rfl)
      · skip
        refine zw_aload_n (pc := 12) (n := 0) (x := (d_ + 28)) rfl (zdal_p dlB_Units_narrow_88 (i := 8) rfl) ?_
        refine zw_getF (pc := 13) f_Units_14 rfl ((hf_N3_.w hW).kr (o := 28) (by decide)) ((hf_N3_.w hW).lr (o := 28) (s := 1) (r := 29) (by decide)) (zdal_p dlB_Units_narrow_88 (i := 9) rfl) ?_
        refine zw_iload_n (pc := 16) (n := 3) (x := Int32.ofInt u2_) rfl (zdal_p dlB_Units_narrow_88 (i := 10) rfl) ?_
        refine zk_at hf_N3_.x (pc := 17) l_Units_57 ((hf_N3_.w hW).kr (o := 29) (by decide)) ((hf_N3_.w hW).lr (o := 29) (s := 0) (r := 30) (by decide)) ((hf_N3_.w hW).rr (o := 30) (t := 1) (n := 27) (by decide)) (by decide) (by omega) (by omega) (by decide) (Nat.le_of_ble_eq_true rfl) (zdal_p dlB_Units_narrow_88 (i := 11) rfl) (fun v13_ hv13_ hv13_a hv13_b => ?_)
        have hrg_ := hnw_.1.2.1 (u2_).toNat (by omega)
        rw [← hv13_] at hrg_
        have hzu_ : zub d_ N3_ (u2_).toNat = (v13_).toNat := by rw [hv13_]; rfl
        refine zw_iload_n (pc := 20) (n := 1) (x := Int32.ofInt a0_) rfl (zdal_p dlB_Units_narrow_88 (i := 12) rfl) ?_
        refine zr_iand (pc := 21) (zdal_p dlB_Units_narrow_88 (i := 13) rfl) ?_
        have hr14_ := zand_r v13_ a0_
        refine zr_callS hf_N3_.x (pc := 22) [.int (Int32.ofInt (zand v13_ a0_))] [] l_Units_89 (u_Integer_bitCount l d_ N3_ (hf_N3_.w hW) (zand v13_ a0_) (by omega) (by omega) (show 0 ≤ (zand v13_ a0_) by exact zand_p hrg_ ⟨by omega, by omega⟩)) rfl rfl (by decide) (Nat.le_of_ble_eq_true rfl) (zdal_p dlB_Units_narrow_88 (i := 14) rfl) ?_
        rintro _ N15_ ⟨v16_, rfl, ⟨hv16_a, hv16_b⟩, hsN15_, ⟨hp0_N15_, hp1_N15_, hp2_N15_⟩⟩
        obtain rfl := hsN15_.eq.symm
        show zW l m_Units_narrow (zn Mz + 0, zw Mz + 0) N3_ 25 [some (.ref (d_ + 28)), some (.int (Int32.ofInt a0_)), some (.int (Int32.ofInt u1_)), some (.int (Int32.ofInt u2_))] [.int (Int32.ofInt v16_)] _
        have hbc_ := hp0_N15_
        refine zw_iconst (pc := 25) (v := Int32.ofInt 1) (by decide) (zdal_p dlB_Units_narrow_88 (i := 15) rfl) ?_
        refine zr_iand (pc := 26) (zdal_p dlB_Units_narrow_88 (i := 16) rfl) ?_
        have hr17_ := zand_r v16_ 1
        have hpz_ : (zand v16_ 1) = 0 ↔ zpm (a0_).toNat (zub d_ N3_ (u2_).toNat) = false := by rw [hzu_]; exact zpar_i hrg_ ⟨by omega, by omega⟩ hbc_
        refine zr_if_ne (pc := 27) (tgt := 33) ⟨(by omega), (by omega)⟩ (by decide) (zdal_p dlB_Units_narrow_88 (i := 17) rfl) (fun hc_27 => ?_) (fun hc_27 => ?_)
        · skip
          have htr_ : zpm (a0_).toNat (zub d_ N3_ (u2_).toNat) = true := by cases hz_ : zpm (a0_).toNat (zub d_ N3_ (u2_).toNat); exact absurd (hpz_.mpr hz_) (by omega); rfl
          refine zw_iload_n (pc := 33) (n := 2) (x := Int32.ofInt u1_) rfl (zdal_p dlB_Units_narrow_88 (i := 19) rfl) ?_
          refine zw_iconst (pc := 34) (v := Int32.ofInt (-1)) (by decide) (zdal_p dlB_Units_narrow_88 (i := 20) rfl) ?_
          refine zr_icmp_ne (pc := 35) (tgt := 43) ⟨hu1_a, hu1_b⟩ ⟨(by decide), (by decide)⟩ (by decide) (zdal_p dlB_Units_narrow_88 (i := 21) rfl) (fun hc_35 => ?_) (fun hc_35 => ?_)
          · skip
            refine zw_aload_n (pc := 43) (n := 0) (x := (d_ + 28)) rfl (zdal_p dlB_Units_narrow_89 (i := 1) rfl) ?_
            refine zw_getF (pc := 44) f_Units_14 rfl ((hf_N3_.w hW).kr (o := 28) (by decide)) ((hf_N3_.w hW).lr (o := 28) (s := 1) (r := 29) (by decide)) (zdal_p dlB_Units_narrow_89 (i := 2) rfl) ?_
            refine zw_iload_n (pc := 47) (n := 3) (x := Int32.ofInt u2_) rfl (zdal_p dlB_Units_narrow_89 (i := 3) rfl) ?_
            refine zw_aload_n (pc := 48) (n := 0) (x := (d_ + 28)) rfl (zdal_p dlB_Units_narrow_89 (i := 4) rfl) ?_
            refine zw_getF (pc := 49) f_Units_14 rfl ((hf_N3_.w hW).kr (o := 28) (by decide)) ((hf_N3_.w hW).lr (o := 28) (s := 1) (r := 29) (by decide)) (zdal_p dlB_Units_narrow_89 (i := 5) rfl) ?_
            refine zw_iload_n (pc := 52) (n := 3) (x := Int32.ofInt u2_) rfl (zdal_p dlB_Units_narrow_89 (i := 6) rfl) ?_
            refine zk_at hf_N3_.x (pc := 53) l_Units_57 ((hf_N3_.w hW).kr (o := 29) (by decide)) ((hf_N3_.w hW).lr (o := 29) (s := 0) (r := 30) (by decide)) ((hf_N3_.w hW).rr (o := 30) (t := 1) (n := 27) (by decide)) (by decide) (by omega) (by omega) (by decide) (Nat.le_of_ble_eq_true rfl) (zdal_p dlB_Units_narrow_89 (i := 7) rfl) (fun v18_ hv18_ hv18_a hv18_b => ?_)
            have hw1_ := hv18_
            refine zw_aload_n (pc := 56) (n := 0) (x := (d_ + 28)) rfl (zdal_p dlB_Units_narrow_89 (i := 8) rfl) ?_
            refine zw_getF (pc := 57) f_Units_14 rfl ((hf_N3_.w hW).kr (o := 28) (by decide)) ((hf_N3_.w hW).lr (o := 28) (s := 1) (r := 29) (by decide)) (zdal_p dlB_Units_narrow_89 (i := 9) rfl) ?_
            refine zw_iload_n (pc := 60) (n := 2) (x := Int32.ofInt u1_) rfl (zdal_p dlB_Units_narrow_89 (i := 10) rfl) ?_
            refine zk_at hf_N3_.x (pc := 61) l_Units_57 ((hf_N3_.w hW).kr (o := 29) (by decide)) ((hf_N3_.w hW).lr (o := 29) (s := 0) (r := 30) (by decide)) ((hf_N3_.w hW).rr (o := 30) (t := 1) (n := 27) (by decide)) (by decide) (by omega) (by omega) (by decide) (Nat.le_of_ble_eq_true rfl) (zdal_p dlB_Units_narrow_89 (i := 11) rfl) (fun v19_ hv19_ hv19_a hv19_b => ?_)
            have hw2_ := hv19_
            refine zr_ixor (pc := 64) (zdal_p dlB_Units_narrow_89 (i := 12) rfl) ?_
            have hr20_ := zxor_r v18_ v19_
            refine zk_st hf_N3_.x (pc := 65) (o := 30) (by decide) l_Units_40 ((hf_N3_.w hW).kr (o := 29) (by decide)) ((hf_N3_.w hW).lr (o := 29) (s := 0) (r := 30) (by decide)) ((hf_N3_.w hW).rr (o := 30) (t := 1) (n := 27) (by decide)) (by decide) (by omega) (by omega) (by decide) (Nat.le_of_ble_eq_true rfl) (zdal_p dlB_Units_narrow_89 (i := 13) rfl) (fun N21_ hN21_ hsN21_ => ?_)
            have hf_N21_ : zFc d_ [] [] [(28, 3)] [30] Mz N21_ := hf_N3_.tr hsN21_ (by decide) (by decide) (by decide) (by decide)
            have hb0_N21_ : zFc d_ [] [] [] [30] Mz N21_ := hs4_.tr hsN21_ (by decide) (by decide) (by decide) (by decide)
            have eD28_3_N21_ : ze N21_ (d_ + 28) 3 = ze N3_ (d_ + 28) 3 := hsN21_.e (by decide)
            have hx_ : ze N21_ (d_ + 30) (u2_).toNat = zxor (ze N3_ (d_ + 30) (u2_).toNat) (ze N3_ (d_ + 30) (u1_).toNat) := by rw [zs_get hN21_ ⟨by omega, by omega⟩, hw1_, hw2_]
            have hnn_ := zNv_x hnw_ (by omega) (by omega) (by omega) htr_ (by omega) (fun i_ hi_ => zs_oth hN21_ (j := i_) (by omega)) hx_
            refine zr_iinc (pc := 68) (i := 3) (a := u2_) (n := 1) (L2 := [some (.ref (d_ + 28)), some (.int (Int32.ofInt a0_)), some (.int (Int32.ofInt u1_)), some (.int (Int32.ofInt (u2_ + 1)))]) rfl (by decide) rfl (zdal_p dlB_Units_narrow_89 (i := 14) rfl) ?_
            refine zw_goto (pc := 71) (tgt := 4) (by decide) (zdal_p dlB_Units_narrow_89 (i := 15) rfl) ?_
            exact ih_4 u1_ hu1_a hu1_b (u2_ + 1) (by omega) (by omega) N21_ hb0_N21_ (show 0 ≤ (u2_ + 1) by first | with_reducible assumption | assumption | omega) (show (u2_ + 1) ≤ ze Mz (d_ + 28) 3 by first | with_reducible assumption | assumption | omega) (show -1 ≤ u1_ ∧ u1_ < 27 by first | with_reducible assumption | assumption | omega) (show zNv S_ (a0_).toNat (u2_ + 1) u1_ d_ N21_ by exact hnn_) (show ze N21_ (d_ + 28) 3 = ze Mz (d_ + 28) 3 by first | with_reducible assumption | assumption | omega) (by omega)
          · skip
            have hm1_ : u1_ = -1 := by omega
            have hnm_ := hnw_
            rw [hm1_] at hnm_
            have hnn_ := zNv_o hnm_ (by omega) htr_
            refine zw_iload_n (pc := 38) (n := 3) (x := Int32.ofInt u2_) rfl (zdal_p dlB_Units_narrow_88 (i := 22) rfl) ?_
            refine zw_istore_n (pc := 39) (i := 2) (L2 := [some (.ref (d_ + 28)), some (.int (Int32.ofInt a0_)), some (.int (Int32.ofInt u2_)), some (.int (Int32.ofInt u2_))]) rfl (by decide) rfl (zdal_p dlB_Units_narrow_88 (i := 23) rfl) ?_
            refine zw_goto (pc := 40) (tgt := 68) (by decide) (zdal_p dlB_Units_narrow_89 (i := 0) rfl) ?_
            refine zr_iinc (pc := 68) (i := 3) (a := u2_) (n := 1) (L2 := [some (.ref (d_ + 28)), some (.int (Int32.ofInt a0_)), some (.int (Int32.ofInt u2_)), some (.int (Int32.ofInt (u2_ + 1)))]) rfl (by decide) rfl (zdal_p dlB_Units_narrow_89 (i := 14) rfl) ?_
            refine zw_goto (pc := 71) (tgt := 4) (by decide) (zdal_p dlB_Units_narrow_89 (i := 15) rfl) ?_
            exact ih_4 u2_ hu2_a hu2_b (u2_ + 1) (by omega) (by omega) N3_ hs4_ (show 0 ≤ (u2_ + 1) by first | with_reducible assumption | assumption | omega) (show (u2_ + 1) ≤ ze Mz (d_ + 28) 3 by first | with_reducible assumption | assumption | omega) (show -1 ≤ u2_ ∧ u2_ < 27 by first | with_reducible assumption | assumption | omega) (show zNv S_ (a0_).toNat (u2_ + 1) u2_ d_ N3_ by exact hnn_) (show ze N3_ (d_ + 28) 3 = ze Mz (d_ + 28) 3 by first | with_reducible assumption | assumption | omega) (by omega)
        · skip
          have hnn_ := zNv_e hnw_ (by omega) (hpz_.mp (by omega))
          refine zw_goto (pc := 30) (tgt := 68) (by decide) (zdal_p dlB_Units_narrow_88 (i := 18) rfl) ?_
          refine zr_iinc (pc := 68) (i := 3) (a := u2_) (n := 1) (L2 := [some (.ref (d_ + 28)), some (.int (Int32.ofInt a0_)), some (.int (Int32.ofInt u1_)), some (.int (Int32.ofInt (u2_ + 1)))]) rfl (by decide) rfl (zdal_p dlB_Units_narrow_89 (i := 14) rfl) ?_
          refine zw_goto (pc := 71) (tgt := 4) (by decide) (zdal_p dlB_Units_narrow_89 (i := 15) rfl) ?_
          exact ih_4 u1_ hu1_a hu1_b (u2_ + 1) (by omega) (by omega) N3_ hs4_ (show 0 ≤ (u2_ + 1) by first | with_reducible assumption | assumption | omega) (show (u2_ + 1) ≤ ze Mz (d_ + 28) 3 by first | with_reducible assumption | assumption | omega) (show -1 ≤ u1_ ∧ u1_ < 27 by first | with_reducible assumption | assumption | omega) (show zNv S_ (a0_).toNat (u2_ + 1) u1_ d_ N3_ by exact hnn_) (show ze N3_ (d_ + 28) 3 = ze Mz (d_ + 28) 3 by first | with_reducible assumption | assumption | omega) (by omega)
  exact lp_4 _ ((-1)) (by decide) (by decide) 0 (by decide) (by decide) Mz zFc.rf (show 0 ≤ (0 : Int) by first | with_reducible assumption | assumption | omega) (show (0 : Int) ≤ ze Mz (d_ + 28) 3 by first | with_reducible assumption | assumption | omega) (show -1 ≤ ((-1)) ∧ ((-1)) < 27 by first | with_reducible assumption | assumption | omega) (show zNv S_ (a0_).toNat (0 : Int) ((-1)) d_ Mz by exact zNv_0 p0_) (show ze Mz (d_ + 28) 3 = ze Mz (d_ + 28) 3 by first | with_reducible assumption | assumption | omega) (Nat.lt_succ_self _)
set_option maxHeartbeats 4000000 in
theorem u_Units_narrowAtU (l : Launch) (d_ : Nat) (Mz : zMem) (hW : zKW d_ Mz) (a0_ : Int) (ha0_a : -2147483648 ≤ a0_) (ha0_b : a0_ < 2147483648) (T_ : zGT) (hT_ : T_ ∈ gTabs) (hAs_ : gAs T_) (hGr_ : gGr T_) (S_ : Nat → Prop) (p0_ : zTt T_ d_ Mz) (p1_ : zFir T_ d_ Mz) (p2_ : zSbK T_ d_ Mz) (p3_ : zNw S_ d_ Mz) (p4_ : 0 ≤ a0_) (p5_ : a0_ < ((gF T_).length : Int)) : zC l m_Units_narrowAt 0 0 [.ref (d_ + 28), .int (Int32.ofInt a0_)] Mz (zqcV d_ [] [] [(28, 3)] [11, 30, 32] Mz (fun N => (zNw (fun x_ => S_ x_ ∧ zyC T_ (a0_).toNat x_) d_ N))) := by
  refine zC_of (L0 := [some (.ref (d_ + 28)), some (.int (Int32.ofInt a0_)), none, none, none, none, none, none, none]) md_Units_narrowAt (Nat.le_of_ble_eq_true rfl) rfl ?_ zQ0
  have hf : zFc d_ [] [] [(28, 3)] [11, 30, 32] Mz Mz := zFc.rf
  have r_D1_7 := ze_r Mz (d_ + 1) 7
  have hO_ := gTabs_ok T_ hT_
  have hG_ := hO_.1
  have hn24_ := hG_.2.1
  have hn1_ := hG_.1
  have hsz_ := p0_.1
  have hfl_ := p1_.1
  obtain ⟨⟨hF1_, hF27_⟩, hAr_⟩ := id (gT_zTA hT_)
  refine zw_aload_n (pc := 0) (n := 0) (x := (d_ + 28)) rfl (zdal_p dlB_Units_narrowAt_82 (i := 0) rfl) ?_
  refine zw_getF (pc := 1) f_Units_23 rfl ((hf.w hW).kr (o := 28) (by decide)) ((hf.w hW).lr (o := 28) (s := 0) (r := 12) (by decide)) (zdal_p dlB_Units_narrowAt_82 (i := 1) rfl) ?_
  refine zw_getF (pc := 4) f_Units_50 rfl ((hf.w hW).kr (o := 12) (by decide)) ((hf.w hW).lr (o := 12) (s := 0) (r := 1) (by decide)) (zdal_p dlB_Units_narrowAt_82 (i := 2) rfl) ?_
  refine zw_astore_n (pc := 7) (i := 2) (L2 := [some (.ref (d_ + 28)), some (.int (Int32.ofInt a0_)), some (.ref (d_ + 1)), none, none, none, none, none, none]) rfl (by decide) rfl (zdal_p dlB_Units_narrowAt_82 (i := 3) rfl) ?_
  refine zw_aload_n (pc := 8) (n := 0) (x := (d_ + 28)) rfl (zdal_p dlB_Units_narrowAt_82 (i := 4) rfl) ?_
  refine zw_getF (pc := 9) f_Units_23 rfl ((hf.w hW).kr (o := 28) (by decide)) ((hf.w hW).lr (o := 28) (s := 0) (r := 12) (by decide)) (zdal_p dlB_Units_narrowAt_82 (i := 5) rfl) ?_
  refine zw_getF (pc := 12) f_Units_54 rfl ((hf.w hW).kr (o := 12) (by decide)) ((hf.w hW).lr (o := 12) (s := 4) (r := 19) (by decide)) (zdal_p dlB_Units_narrowAt_82 (i := 6) rfl) ?_
  refine zw_iload_n (pc := 15) (n := 1) (x := Int32.ofInt a0_) rfl (zdal_p dlB_Units_narrowAt_82 (i := 7) rfl) ?_
  refine zk_at hf.x (pc := 16) l_Units_57 ((hf.w hW).kr (o := 19) (by decide)) ((hf.w hW).lr (o := 19) (s := 0) (r := 20) (by decide)) ((hf.w hW).rr (o := 20) (t := 1) (n := 27) (by decide)) (by decide) (by omega) (by omega) (by decide) (Nat.le_of_ble_eq_true rfl) (zdal_p dlB_Units_narrowAt_82 (i := 8) rfl) (fun v1_ hv1_ hv1_a hv1_b => ?_)
  have hfv_ := hv1_
  have hfw_ : v1_ = (((gFn T_ (a0_).toNat) : Nat) : Int) := hfv_.trans (p1_.2 _ (by omega))
  have hft_ : (v1_).toNat = (gFn T_ (a0_).toNat) := by omega
  have hfm0_ := gFn_m (T := T_) (i := (a0_).toNat) (by omega)
  have hfma_ := (hO_.2.2.1.2.1 _ hfm0_).1
  have hfb_ := gS_b hO_ hfma_
  refine zw_istore_n (pc := 19) (i := 3) (L2 := [some (.ref (d_ + 28)), some (.int (Int32.ofInt a0_)), some (.ref (d_ + 1)), some (.int (Int32.ofInt v1_)), none, none, none, none, none]) rfl (by decide) rfl (zdal_p dlB_Units_narrowAt_82 (i := 9) rfl) ?_
  refine zw_iconst (pc := 20) (v := Int32.ofInt 0) (by decide) (zdal_p dlB_Units_narrowAt_82 (i := 10) rfl) ?_
  refine zw_istore (pc := 21) (i := 4) (L2 := [some (.ref (d_ + 28)), some (.int (Int32.ofInt a0_)), some (.ref (d_ + 1)), some (.int (Int32.ofInt v1_)), some (.int (Int32.ofInt 0)), none, none, none, none]) (by decide) rfl (zdal_p dlB_Units_narrowAt_82 (i := 11) rfl) ?_
  refine zw_aload_n (pc := 23) (n := 2) (x := (d_ + 1)) rfl (zdal_p dlB_Units_narrowAt_82 (i := 12) rfl) ?_
  refine zw_iload_n (pc := 24) (n := 3) (x := Int32.ofInt v1_) rfl (zdal_p dlB_Units_narrowAt_82 (i := 13) rfl) ?_
  refine zk_callV hf.x (pc := 25) [.int (Int32.ofInt v1_)] [] l_Units_61 (u_Group_normOfG l d_ Mz (hf.w hW) v1_ hv1_a hv1_b T_ hT_ p0_ (show 0 ≤ v1_ by first | with_reducible assumption | assumption | omega) (show (v1_).toNat < 2 ^ gN T_ by rw [hft_]; exact hfb_.1)) rfl rfl ((hf.w hW).kr (o := 1) (by decide)) (by decide) (by decide) (Nat.le_of_ble_eq_true rfl) (zdal_p dlB_Units_narrowAt_82 (i := 14) rfl) ?_
  rintro _ N2_ ⟨v3_, rfl, ⟨hv3_a, hv3_b⟩, hsN2_, ⟨hp0_N2_, hp1_N2_, hp2_N2_⟩⟩
  obtain rfl := hsN2_.eq.symm
  show zW l m_Units_narrowAt (zn Mz + 0, zw Mz + 0) Mz 28 [some (.ref (d_ + 28)), some (.int (Int32.ofInt a0_)), some (.ref (d_ + 1)), some (.int (Int32.ofInt v1_)), some (.int (Int32.ofInt 0)), none, none, none, none] [.int (Int32.ofInt v3_)] _
  have hnm_ := hp0_N2_
  rw [hft_] at hnm_
  refine zw_istore (pc := 28) (i := 5) (L2 := [some (.ref (d_ + 28)), some (.int (Int32.ofInt a0_)), some (.ref (d_ + 1)), some (.int (Int32.ofInt v1_)), some (.int (Int32.ofInt 0)), some (.int (Int32.ofInt v3_)), none, none, none]) (by decide) rfl (zdal_p dlB_Units_narrowAt_82 (i := 15) rfl) ?_
  refine zw_iconst (pc := 30) (v := Int32.ofInt 0) (by decide) (zdal_p dlB_Units_narrowAt_82 (i := 16) rfl) ?_
  refine zw_istore (pc := 31) (i := 6) (L2 := [some (.ref (d_ + 28)), some (.int (Int32.ofInt a0_)), some (.ref (d_ + 1)), some (.int (Int32.ofInt v1_)), some (.int (Int32.ofInt 0)), some (.int (Int32.ofInt v3_)), some (.int (Int32.ofInt 0)), none, none]) (by decide) rfl (zdal_p dlB_Units_narrowAt_82 (i := 17) rfl) ?_
  have lp_33 : ∀ (n : Nat) (u4_ : Int) (hu4_a : -2147483648 ≤ u4_) (hu4_b : u4_ < 2147483648) (u5_ : Int) (hu5_a : -2147483648 ≤ u5_) (hu5_b : u5_ < 2147483648) (N6_ : zMem) (hs7_ : zFc d_ [] [] [] [11, 32] Mz N6_) (i8_ : 0 ≤ u5_) (i9_ : u5_ ≤ gN T_) (i10_ : zJn T_ (a0_).toNat u4_ d_ N6_ u5_), (gN T_ - u5_).toNat < n → zW l m_Units_narrowAt (zn Mz + 0, zw Mz + 0) N6_ 33 [some (.ref (d_ + 28)), some (.int (Int32.ofInt a0_)), some (.ref (d_ + 1)), some (.int (Int32.ofInt v1_)), some (.int (Int32.ofInt u4_)), some (.int (Int32.ofInt v3_)), some (.int (Int32.ofInt u5_)), none, none] [] (zqcV d_ [] [] [(28, 3)] [11, 30, 32] Mz (fun N => (zNw (fun x_ => S_ x_ ∧ zyC T_ (a0_).toNat x_) d_ N))) := by
    intro n
    induction n with
    | zero =>
      intro u4_ hu4_a hu4_b u5_ hu5_a hu5_b N6_ hs7_ i8_ i9_ i10_ h0
      exact absurd h0 (Nat.not_lt_zero _)
    | succ n ih_33 =>
      intro u4_ hu4_a hu4_b u5_ hu5_a hu5_b N6_ hs7_ i8_ i9_ i10_ hlt_33
      have hf_N6_ : zFc d_ [] [] [(28, 3)] [11, 30, 32] Mz N6_ := hf.tr hs7_ (by decide) (by decide) (by decide) (by decide)
      have eD1_7_N6_ : ze N6_ (d_ + 1) 7 = ze Mz (d_ + 1) 7 := hs7_.e (by decide)
      have c11_ : zTt T_ d_ N6_ := zTt.fr (hf.w hW) hs7_ p0_ (by decide)
      have c12_ : zFir T_ d_ N6_ := zFir.fr (hf.w hW) hs7_ p1_ (by decide)
      have c13_ : zSbK T_ d_ N6_ := zSbK.fr (hf.w hW) hs7_ p2_ (by decide)
      have c14_ : zNw S_ d_ N6_ := zNw.fr (hf.w hW) hs7_ p3_ (by decide)
      have hjn_ := (show zJn T_ (a0_).toNat u4_ d_ N6_ u5_ by first | with_reducible assumption | assumption)
      have hjb_ := hjn_.1
      refine zw_iload (pc := 33) (i := 6) (x := Int32.ofInt u5_) rfl (zdal_p dlB_Units_narrowAt_82 (i := 18) rfl) ?_
      refine zw_aload_n (pc := 35) (n := 2) (x := (d_ + 1)) rfl (zdal_p dlB_Units_narrowAt_82 (i := 19) rfl) ?_
      refine zk_getI (pc := 36) f_Units_66 rfl ((hf_N6_.w hW).kr (o := 1) (by decide)) (zdal_p dlB_Units_narrowAt_82 (i := 20) rfl) ?_
      rw [hf_N6_.e (by decide)]
      refine zr_icmp_ge (pc := 39) (tgt := 105) ⟨hu5_a, hu5_b⟩ ⟨(ze_r Mz (d_ + 1) 7).1, (ze_r Mz (d_ + 1) 7).2⟩ (by decide) (zdal_p dlB_Units_narrowAt_82 (i := 21) rfl) (fun hc_39 => ?_) (fun hc_39 => ?_)
      · skip
        refine zw_iconst (pc := 105) (v := Int32.ofInt 0) (by decide) (zdal_p dlB_Units_narrowAt_84 (i := 6) rfl) ?_
        refine zw_istore (pc := 106) (i := 6) (L2 := [some (.ref (d_ + 28)), some (.int (Int32.ofInt a0_)), some (.ref (d_ + 1)), some (.int (Int32.ofInt v1_)), some (.int (Int32.ofInt u4_)), some (.int (Int32.ofInt v3_)), some (.int (Int32.ofInt 0)), none, none]) (by decide) rfl (zdal_p dlB_Units_narrowAt_84 (i := 7) rfl) ?_
        obtain ⟨G_, hG6_, hjG_⟩ : ∃ g_ : Int, g_ = gN T_ ∧ zJn T_ (a0_).toNat u4_ d_ N6_ g_ := ⟨_, (by omega), hjn_⟩
        have lp_108 : ∀ (n : Nat) (u15_ : Int) (hu15_a : -2147483648 ≤ u15_) (hu15_b : u15_ < 2147483648) (N16_ : zMem) (hs17_ : zFc d_ [] [] [(28, 3)] [30] N6_ N16_) (i18_ : 0 ≤ u15_) (i19_ : u15_ ≤ gN T_) (i20_ : (zNw (fun x_ => S_ x_ ∧ zPd T_ (a0_).toNat (u15_).toNat 0 x_) d_ N16_)), (gN T_ - u15_).toNat < n → zW l m_Units_narrowAt (zn Mz + 0, zw Mz + 0) N16_ 108 [some (.ref (d_ + 28)), some (.int (Int32.ofInt a0_)), some (.ref (d_ + 1)), some (.int (Int32.ofInt v1_)), some (.int (Int32.ofInt u4_)), some (.int (Int32.ofInt v3_)), some (.int (Int32.ofInt u15_)), none, none] [] (zqcV d_ [] [] [(28, 3)] [11, 30, 32] Mz (fun N => (zNw (fun x_ => S_ x_ ∧ zyC T_ (a0_).toNat x_) d_ N))) := by
          intro n
          induction n with
          | zero =>
            intro u15_ hu15_a hu15_b N16_ hs17_ i18_ i19_ i20_ h0
            exact absurd h0 (Nat.not_lt_zero _)
          | succ n ih_108 =>
            intro u15_ hu15_a hu15_b N16_ hs17_ i18_ i19_ i20_ hlt_108
            have hf_N16_ : zFc d_ [] [] [(28, 3)] [11, 30, 32] Mz N16_ := hf_N6_.tr hs17_ (by decide) (by decide) (by decide) (by decide)
            have eD1_7_N16_ : ze N16_ (d_ + 1) 7 = ze N6_ (d_ + 1) 7 := hs17_.e (by decide)
            have c21_ : zTt T_ d_ N16_ := zTt.fr (hf_N6_.w hW) hs17_ c11_ (by decide)
            have c22_ : zFir T_ d_ N16_ := zFir.fr (hf_N6_.w hW) hs17_ c12_ (by decide)
            have c23_ : zSbK T_ d_ N16_ := zSbK.fr (hf_N6_.w hW) hs17_ c13_ (by decide)
            have hz6_ := (show (zNw (fun x_ => S_ x_ ∧ zPd T_ (a0_).toNat (u15_).toNat 0 x_) d_ N16_) by first | with_reducible assumption | assumption)
            have hjm_ := zJn_e hjG_ (fun x_ => hs17_.r (by decide) x_)
            refine zw_iload (pc := 108) (i := 6) (x := Int32.ofInt u15_) rfl (zdal_p dlB_Units_narrowAt_84 (i := 8) rfl) ?_
            refine zw_aload_n (pc := 110) (n := 2) (x := (d_ + 1)) rfl (zdal_p dlB_Units_narrowAt_84 (i := 9) rfl) ?_
            refine zk_getI (pc := 111) f_Units_66 rfl ((hf_N16_.w hW).kr (o := 1) (by decide)) (zdal_p dlB_Units_narrowAt_84 (i := 10) rfl) ?_
            rw [hf_N16_.e (by decide)]
            refine zr_icmp_ge (pc := 114) (tgt := 215) ⟨hu15_a, hu15_b⟩ ⟨(ze_r Mz (d_ + 1) 7).1, (ze_r Mz (d_ + 1) 7).2⟩ (by decide) (zdal_p dlB_Units_narrowAt_84 (i := 11) rfl) (fun hc_114 => ?_) (fun hc_114 => ?_)
            · skip
              exact zk_vret (pc := 215) rfl hf_N16_ (show (zNw (fun x_ => S_ x_ ∧ zyC T_ (a0_).toNat x_) d_ N16_) by exact zPd_e hz6_ (by omega)) (zdal_p dlB_Units_narrowAt_86 (i := 10) rfl)
            · skip
              refine zw_iconst (pc := 117) (v := Int32.ofInt 0) (by decide) (zdal_p dlB_Units_narrowAt_84 (i := 12) rfl) ?_
              refine zw_istore (pc := 118) (i := 7) (L2 := [some (.ref (d_ + 28)), some (.int (Int32.ofInt a0_)), some (.ref (d_ + 1)), some (.int (Int32.ofInt v1_)), some (.int (Int32.ofInt u4_)), some (.int (Int32.ofInt v3_)), some (.int (Int32.ofInt u15_)), some (.int (Int32.ofInt 0)), none]) (by decide) rfl (zdal_p dlB_Units_narrowAt_84 (i := 13) rfl) ?_
              have lp_120 : ∀ (n : Nat) (u24_ : Int) (hu24_a : -2147483648 ≤ u24_) (hu24_b : u24_ < 2147483648) (N25_ : zMem) (hs26_ : zFc d_ [] [] [(28, 3)] [30] N16_ N25_) (i27_ : 0 ≤ u24_) (i28_ : u24_ ≤ gN T_) (i29_ : (zNw (fun x_ => S_ x_ ∧ zPd T_ (a0_).toNat (u15_).toNat (u24_).toNat x_) d_ N25_)), (gN T_ - u24_).toNat < n → zW l m_Units_narrowAt (zn Mz + 0, zw Mz + 0) N25_ 120 [some (.ref (d_ + 28)), some (.int (Int32.ofInt a0_)), some (.ref (d_ + 1)), some (.int (Int32.ofInt v1_)), some (.int (Int32.ofInt u4_)), some (.int (Int32.ofInt v3_)), some (.int (Int32.ofInt u15_)), some (.int (Int32.ofInt u24_)), none] [] (zqcV d_ [] [] [(28, 3)] [11, 30, 32] Mz (fun N => (zNw (fun x_ => S_ x_ ∧ zyC T_ (a0_).toNat x_) d_ N))) := by
                intro n
                induction n with
                | zero =>
                  intro u24_ hu24_a hu24_b N25_ hs26_ i27_ i28_ i29_ h0
                  exact absurd h0 (Nat.not_lt_zero _)
                | succ n ih_120 =>
                  intro u24_ hu24_a hu24_b N25_ hs26_ i27_ i28_ i29_ hlt_120
                  have hf_N25_ : zFc d_ [] [] [(28, 3)] [11, 30, 32] Mz N25_ := hf_N16_.tr hs26_ (by decide) (by decide) (by decide) (by decide)
                  have hb0_N25_ : zFc d_ [] [] [(28, 3)] [30] N6_ N25_ := hs17_.tr hs26_ (by decide) (by decide) (by decide) (by decide)
                  have eD1_7_N25_ : ze N25_ (d_ + 1) 7 = ze N16_ (d_ + 1) 7 := hs26_.e (by decide)
                  have c30_ : zTt T_ d_ N25_ := zTt.fr (hf_N16_.w hW) hs26_ c21_ (by decide)
                  have c31_ : zFir T_ d_ N25_ := zFir.fr (hf_N16_.w hW) hs26_ c22_ (by decide)
                  have c32_ : zSbK T_ d_ N25_ := zSbK.fr (hf_N16_.w hW) hs26_ c23_ (by decide)
                  have hz7_ := (show (zNw (fun x_ => S_ x_ ∧ zPd T_ (a0_).toNat (u15_).toNat (u24_).toNat x_) d_ N25_) by first | with_reducible assumption | assumption)
                  have hjk_ := zJn_e hjm_ (fun x_ => hs26_.r (by decide) x_)
                  have hjc_ := hjk_.1
                  refine zw_iload (pc := 120) (i := 7) (x := Int32.ofInt u24_) rfl (zdal_p dlB_Units_narrowAt_84 (i := 14) rfl) ?_
                  refine zw_aload_n (pc := 122) (n := 2) (x := (d_ + 1)) rfl (zdal_p dlB_Units_narrowAt_84 (i := 15) rfl) ?_
                  refine zk_getI (pc := 123) f_Units_66 rfl ((hf_N25_.w hW).kr (o := 1) (by decide)) (zdal_p dlB_Units_narrowAt_84 (i := 16) rfl) ?_
                  rw [hf_N25_.e (by decide)]
                  refine zr_icmp_ge (pc := 126) (tgt := 209) ⟨hu24_a, hu24_b⟩ ⟨(ze_r Mz (d_ + 1) 7).1, (ze_r Mz (d_ + 1) 7).2⟩ (by decide) (zdal_p dlB_Units_narrowAt_84 (i := 17) rfl) (fun hc_126 => ?_) (fun hc_126 => ?_)
                  · skip
                    refine zr_iinc (pc := 209) (i := 6) (a := u15_) (n := 1) (L2 := [some (.ref (d_ + 28)), some (.int (Int32.ofInt a0_)), some (.ref (d_ + 1)), some (.int (Int32.ofInt v1_)), some (.int (Int32.ofInt u4_)), some (.int (Int32.ofInt v3_)), some (.int (Int32.ofInt (u15_ + 1))), some (.int (Int32.ofInt u24_)), none]) rfl (by decide) rfl (zdal_p dlB_Units_narrowAt_86 (i := 8) rfl) ?_
                    refine zw_goto (pc := 212) (tgt := 108) (by decide) (zdal_p dlB_Units_narrowAt_86 (i := 9) rfl) ?_
                    have hzr_ := zPd_r hz7_ (by omega) (by omega)
                    refine zW_le [some (.ref (d_ + 28)), some (.int (Int32.ofInt a0_)), some (.ref (d_ + 1)), some (.int (Int32.ofInt v1_)), some (.int (Int32.ofInt u4_)), some (.int (Int32.ofInt v3_)), some (.int (Int32.ofInt (u15_ + 1))), none, none] (⟨rfl, rfl, rfl, rfl, rfl, rfl, rfl, trivial⟩) ?_
                    exact ih_108 (u15_ + 1) (by omega) (by omega) N25_ hb0_N25_ (show 0 ≤ (u15_ + 1) by first | with_reducible assumption | assumption | omega) (show (u15_ + 1) ≤ gN T_ by first | with_reducible assumption | assumption | omega) (show (zNw (fun x_ => S_ x_ ∧ zPd T_ (a0_).toNat ((u15_ + 1)).toNat 0 x_) d_ N25_) by exact hzr_) (by omega)
                  · skip
                    refine zw_iload (pc := 129) (i := 4) (x := Int32.ofInt u4_) rfl (zdal_p dlB_Units_narrowAt_84 (i := 18) rfl) ?_
                    refine zw_iload (pc := 131) (i := 6) (x := Int32.ofInt u15_) rfl (zdal_p dlB_Units_narrowAt_84 (i := 19) rfl) ?_
                    refine zr_callS hf_N25_.x (pc := 133) [.int (Int32.ofInt u4_), .int (Int32.ofInt u15_)] [] l_Units_69 (u_T_isIn l d_ N25_ (hf_N25_.w hW) u4_ hu4_a hu4_b u15_ hu15_a hu15_b (show 0 ≤ u4_ by first | with_reducible assumption | assumption | omega) (show u4_ < 2147483648 by first | with_reducible assumption | assumption | omega) (show 0 ≤ u15_ by first | with_reducible assumption | assumption | omega) (show u15_ < 31 by first | with_reducible assumption | assumption | omega)) rfl rfl (by decide) (Nat.le_of_ble_eq_true rfl) (zdal_p dlB_Units_narrowAt_84 (i := 20) rfl) ?_
                    rintro _ N33_ ⟨v34_, rfl, ⟨hv34_a, hv34_b⟩, hsN33_, hp0_N33_⟩
                    obtain rfl := hsN33_.eq.symm
                    replace hp0_N33_ : ((v34_ = 1 ∧ zbt u4_ u15_) ∨ (v34_ = 0 ∧ ¬ zbt u4_ u15_)) := hp0_N33_
                    rcases hp0_N33_ with ⟨rfl, ha133_0_hp0_N33_⟩ | ⟨rfl, ha133_0_hp0_N33_⟩
                    · skip
                      have hug_ := (zJn_b hjk_ hG6_ (by omega)).mp ha133_0_hp0_N33_
                      show zW l m_Units_narrowAt (zn Mz + 0, zw Mz + 0) N25_ 136 [some (.ref (d_ + 28)), some (.int (Int32.ofInt a0_)), some (.ref (d_ + 1)), some (.int (Int32.ofInt v1_)), some (.int (Int32.ofInt u4_)), some (.int (Int32.ofInt v3_)), some (.int (Int32.ofInt u15_)), some (.int (Int32.ofInt u24_)), none] [.int (Int32.ofInt 1)] _
                      refine zr_if_eq (pc := 136) (tgt := 203) ⟨(by decide), (by decide)⟩ (by decide) (zdal_p dlB_Units_narrowAt_84 (i := 21) rfl) (fun hc_136 => ?_) (fun hc_136 => ?_)
                      · skip
                        exact absurd hc_136 (by decide)
                      · skip
                        refine zw_iload (pc := 139) (i := 4) (x := Int32.ofInt u4_) rfl (zdal_p dlB_Units_narrowAt_84 (i := 22) rfl) ?_
                        refine zw_iload (pc := 141) (i := 7) (x := Int32.ofInt u24_) rfl (zdal_p dlB_Units_narrowAt_84 (i := 23) rfl) ?_
                        refine zr_callS hf_N25_.x (pc := 143) [.int (Int32.ofInt u4_), .int (Int32.ofInt u24_)] [] l_Units_69 (u_T_isIn l d_ N25_ (hf_N25_.w hW) u4_ hu4_a hu4_b u24_ hu24_a hu24_b (show 0 ≤ u4_ by first | with_reducible assumption | assumption | omega) (show u4_ < 2147483648 by first | with_reducible assumption | assumption | omega) (show 0 ≤ u24_ by first | with_reducible assumption | assumption | omega) (show u24_ < 31 by first | with_reducible assumption | assumption | omega)) rfl rfl (by decide) (Nat.le_of_ble_eq_true rfl) (zdal_p dlB_Units_narrowAt_85 (i := 0) rfl) ?_
                        rintro _ N35_ ⟨v36_, rfl, ⟨hv36_a, hv36_b⟩, hsN35_, hp0_N35_⟩
                        obtain rfl := hsN35_.eq.symm
                        replace hp0_N35_ : ((v36_ = 1 ∧ zbt u4_ u24_) ∨ (v36_ = 0 ∧ ¬ zbt u4_ u24_)) := hp0_N35_
                        rcases hp0_N35_ with ⟨rfl, ha143_0_hp0_N35_⟩ | ⟨rfl, ha143_0_hp0_N35_⟩
                        · skip
                          have huk_ := (zJn_b hjk_ hG6_ (by omega)).mp ha143_0_hp0_N35_
                          show zW l m_Units_narrowAt (zn Mz + 0, zw Mz + 0) N25_ 146 [some (.ref (d_ + 28)), some (.int (Int32.ofInt a0_)), some (.ref (d_ + 1)), some (.int (Int32.ofInt v1_)), some (.int (Int32.ofInt u4_)), some (.int (Int32.ofInt v3_)), some (.int (Int32.ofInt u15_)), some (.int (Int32.ofInt u24_)), none] [.int (Int32.ofInt 1)] _
                          refine zr_if_eq (pc := 146) (tgt := 203) ⟨(by decide), (by decide)⟩ (by decide) (zdal_p dlB_Units_narrowAt_85 (i := 1) rfl) (fun hc_146 => ?_) (fun hc_146 => ?_)
                          · skip
                            exact absurd hc_146 (by decide)
                          · skip
                            refine zw_aload_n (pc := 149) (n := 2) (x := (d_ + 1)) rfl (zdal_p dlB_Units_narrowAt_85 (i := 2) rfl) ?_
                            refine zw_iload_n (pc := 150) (n := 3) (x := Int32.ofInt v1_) rfl (zdal_p dlB_Units_narrowAt_85 (i := 3) rfl) ?_
                            refine zw_aload_n (pc := 151) (n := 2) (x := (d_ + 1)) rfl (zdal_p dlB_Units_narrowAt_85 (i := 4) rfl) ?_
                            refine zw_iload (pc := 152) (i := 6) (x := Int32.ofInt u15_) rfl (zdal_p dlB_Units_narrowAt_85 (i := 5) rfl) ?_
                            refine zw_iload (pc := 154) (i := 7) (x := Int32.ofInt u24_) rfl (zdal_p dlB_Units_narrowAt_85 (i := 6) rfl) ?_
                            refine zk_callV hf_N25_.x (pc := 156) [.int (Int32.ofInt u15_), .int (Int32.ofInt u24_)] [.int (Int32.ofInt v1_), .ref (d_ + 1)] l_Units_83 (u_Group_both l d_ N25_ (hf_N25_.w hW) u15_ hu15_a hu15_b u24_ hu24_a hu24_b T_ hT_ c30_ (show 0 ≤ u15_ by first | with_reducible assumption | assumption | omega) (show u15_ < gN T_ by first | with_reducible assumption | assumption | omega) (show 0 ≤ u24_ by first | with_reducible assumption | assumption | omega) (show u24_ < gN T_ by first | with_reducible assumption | assumption | omega)) rfl rfl ((hf_N25_.w hW).kr (o := 1) (by decide)) (by decide) (by decide) (Nat.le_of_ble_eq_true rfl) (zdal_p dlB_Units_narrowAt_85 (i := 7) rfl) ?_
                            rintro _ N37_ ⟨v38_, rfl, ⟨hv38_a, hv38_b⟩, hsN37_, ⟨hp0_N37_, hp1_N37_, hp2_N37_⟩⟩
                            obtain rfl := hsN37_.eq.symm
                            show zW l m_Units_narrowAt (zn Mz + 0, zw Mz + 0) N25_ 159 [some (.ref (d_ + 28)), some (.int (Int32.ofInt a0_)), some (.ref (d_ + 1)), some (.int (Int32.ofInt v1_)), some (.int (Int32.ofInt u4_)), some (.int (Int32.ofInt v3_)), some (.int (Int32.ofInt u15_)), some (.int (Int32.ofInt u24_)), none] [.int (Int32.ofInt v38_), .int (Int32.ofInt v1_), .ref (d_ + 1)] _
                            have hbt_ := hp0_N37_
                            refine zk_callV hf_N25_.x (pc := 159) [.int (Int32.ofInt v1_), .int (Int32.ofInt v38_)] [] l_Units_73 (u_Group_leastOfCosetG l d_ N25_ (hf_N25_.w hW) v1_ hv1_a hv1_b v38_ hv38_a hv38_b T_ hT_ c30_ (show 0 ≤ v1_ by first | with_reducible assumption | assumption | omega) (show v1_ < 16777216 by first | with_reducible assumption | assumption | omega) (show 0 ≤ v38_ by first | with_reducible assumption | assumption | omega) (show v38_ < gN T_ by first | with_reducible assumption | assumption | omega)) rfl rfl ((hf_N25_.w hW).kr (o := 1) (by decide)) (by decide) (by decide) (Nat.le_of_ble_eq_true rfl) (zdal_p dlB_Units_narrowAt_85 (i := 8) rfl) ?_
                            rintro _ N39_ ⟨v40_, rfl, ⟨hv40_a, hv40_b⟩, hsN39_, ⟨hp0_N39_, hp1_N39_, hp2_N39_⟩⟩
                            obtain rfl := hsN39_.eq.symm
                            show zW l m_Units_narrowAt (zn Mz + 0, zw Mz + 0) N25_ 162 [some (.ref (d_ + 28)), some (.int (Int32.ofInt a0_)), some (.ref (d_ + 1)), some (.int (Int32.ofInt v1_)), some (.int (Int32.ofInt u4_)), some (.int (Int32.ofInt v3_)), some (.int (Int32.ofInt u15_)), some (.int (Int32.ofInt u24_)), none] [.int (Int32.ofInt v40_)] _
                            have hcz_ := hp0_N39_
                            rw [hft_, hbt_, Int.toNat_natCast] at hcz_
                            have hci_ : (v40_).toNat = gcos T_ (gFn T_ (a0_).toNat) (gm T_ (u15_).toNat (u24_).toNat) := by omega
                            have huc_ : gUr T_ (a0_).toNat (v40_).toNat := by rw [hci_]; exact gUr_c hT_ hGr_ (by omega) hug_ huk_
                            have huc1_ := huc_.1
                            refine zw_istore (pc := 162) (i := 8) (L2 := [some (.ref (d_ + 28)), some (.int (Int32.ofInt a0_)), some (.ref (d_ + 1)), some (.int (Int32.ofInt v1_)), some (.int (Int32.ofInt u4_)), some (.int (Int32.ofInt v3_)), some (.int (Int32.ofInt u15_)), some (.int (Int32.ofInt u24_)), some (.int (Int32.ofInt v40_))]) (by decide) rfl (zdal_p dlB_Units_narrowAt_85 (i := 9) rfl) ?_
                            refine zw_aload_n (pc := 164) (n := 0) (x := (d_ + 28)) rfl (zdal_p dlB_Units_narrowAt_85 (i := 10) rfl) ?_
                            refine zw_aload_n (pc := 165) (n := 0) (x := (d_ + 28)) rfl (zdal_p dlB_Units_narrowAt_85 (i := 11) rfl) ?_
                            refine zw_iload_n (pc := 166) (n := 1) (x := Int32.ofInt a0_) rfl (zdal_p dlB_Units_narrowAt_85 (i := 12) rfl) ?_
                            refine zk_callV hf_N25_.x (pc := 167) [.int (Int32.ofInt a0_)] [.ref (d_ + 28)] l_Units_80 (u_Units_bitOfU l d_ N25_ (hf_N25_.w hW) a0_ ha0_a ha0_b T_ hT_ c31_ (show 0 ≤ a0_ by first | with_reducible assumption | assumption | omega) (show a0_ < ((gF T_).length : Int) by first | with_reducible assumption | assumption | omega)) rfl rfl ((hf_N25_.w hW).kr (o := 28) (by decide)) (by decide) (by decide) (Nat.le_of_ble_eq_true rfl) (zdal_p dlB_Units_narrowAt_85 (i := 13) rfl) ?_
                            rintro _ N41_ ⟨v42_, rfl, ⟨hv42_a, hv42_b⟩, hsN41_, ⟨hp0_N41_, hp1_N41_, hp2_N41_⟩⟩
                            obtain rfl := hsN41_.eq.symm
                            show zW l m_Units_narrowAt (zn Mz + 0, zw Mz + 0) N25_ 170 [some (.ref (d_ + 28)), some (.int (Int32.ofInt a0_)), some (.ref (d_ + 1)), some (.int (Int32.ofInt v1_)), some (.int (Int32.ofInt u4_)), some (.int (Int32.ofInt v3_)), some (.int (Int32.ofInt u15_)), some (.int (Int32.ofInt u24_)), some (.int (Int32.ofInt v40_))] [.int (Int32.ofInt v42_), .ref (d_ + 28)] _
                            have hw0_ := hp0_N41_
                            refine zw_aload_n (pc := 170) (n := 0) (x := (d_ + 28)) rfl (zdal_p dlB_Units_narrowAt_85 (i := 14) rfl) ?_
                            refine zw_getF (pc := 171) f_Units_20 rfl ((hf_N25_.w hW).kr (o := 28) (by decide)) ((hf_N25_.w hW).lr (o := 28) (s := 2) (r := 31) (by decide)) (zdal_p dlB_Units_narrowAt_85 (i := 15) rfl) ?_
                            refine zw_iload (pc := 174) (i := 6) (x := Int32.ofInt u15_) rfl (zdal_p dlB_Units_narrowAt_85 (i := 16) rfl) ?_
                            refine zk_at hf_N25_.x (pc := 176) l_Units_57 ((hf_N25_.w hW).kr (o := 31) (by decide)) ((hf_N25_.w hW).lr (o := 31) (s := 0) (r := 32) (by decide)) ((hf_N25_.w hW).rr (o := 32) (t := 1) (n := 24) (by decide)) (by decide) (by omega) (by omega) (by decide) (Nat.le_of_ble_eq_true rfl) (zdal_p dlB_Units_narrowAt_85 (i := 17) rfl) (fun v43_ hv43_ hv43_a hv43_b => ?_)
                            have hw1_ := hv43_.trans (hjk_.2.2 _ (by omega) hug_)
                            refine zr_ixor (pc := 179) (zdal_p dlB_Units_narrowAt_85 (i := 18) rfl) ?_
                            have hr44_ := zxor_r v42_ v43_
                            refine zw_aload_n (pc := 180) (n := 0) (x := (d_ + 28)) rfl (zdal_p dlB_Units_narrowAt_85 (i := 19) rfl) ?_
                            refine zw_getF (pc := 181) f_Units_20 rfl ((hf_N25_.w hW).kr (o := 28) (by decide)) ((hf_N25_.w hW).lr (o := 28) (s := 2) (r := 31) (by decide)) (zdal_p dlB_Units_narrowAt_85 (i := 20) rfl) ?_
                            refine zw_iload (pc := 184) (i := 7) (x := Int32.ofInt u24_) rfl (zdal_p dlB_Units_narrowAt_85 (i := 21) rfl) ?_
                            refine zk_at hf_N25_.x (pc := 186) l_Units_57 ((hf_N25_.w hW).kr (o := 31) (by decide)) ((hf_N25_.w hW).lr (o := 31) (s := 0) (r := 32) (by decide)) ((hf_N25_.w hW).rr (o := 32) (t := 1) (n := 24) (by decide)) (by decide) (by omega) (by omega) (by decide) (Nat.le_of_ble_eq_true rfl) (zdal_p dlB_Units_narrowAt_85 (i := 22) rfl) (fun v45_ hv45_ hv45_a hv45_b => ?_)
                            have hw2_ := hv45_.trans (hjk_.2.2 _ (by omega) huk_)
                            refine zr_ixor (pc := 189) (zdal_p dlB_Units_narrowAt_85 (i := 23) rfl) ?_
                            have hr46_ := zxor_r (zxor v42_ v43_) v45_
                            refine zw_aload_n (pc := 190) (n := 0) (x := (d_ + 28)) rfl (zdal_p dlB_Units_narrowAt_86 (i := 0) rfl) ?_
                            refine zw_getF (pc := 191) f_Units_20 rfl ((hf_N25_.w hW).kr (o := 28) (by decide)) ((hf_N25_.w hW).lr (o := 28) (s := 2) (r := 31) (by decide)) (zdal_p dlB_Units_narrowAt_86 (i := 1) rfl) ?_
                            refine zw_iload (pc := 194) (i := 8) (x := Int32.ofInt v40_) rfl (zdal_p dlB_Units_narrowAt_86 (i := 2) rfl) ?_
                            refine zk_at hf_N25_.x (pc := 196) l_Units_57 ((hf_N25_.w hW).kr (o := 31) (by decide)) ((hf_N25_.w hW).lr (o := 31) (s := 0) (r := 32) (by decide)) ((hf_N25_.w hW).rr (o := 32) (t := 1) (n := 24) (by decide)) (by decide) (by omega) (by omega) (by decide) (Nat.le_of_ble_eq_true rfl) (zdal_p dlB_Units_narrowAt_86 (i := 3) rfl) (fun v47_ hv47_ hv47_a hv47_b => ?_)
                            have hw3_ := hv47_.trans (hjk_.2.2 _ (by omega) huc_)
                            refine zr_ixor (pc := 199) (zdal_p dlB_Units_narrowAt_86 (i := 4) rfl) ?_
                            have hr48_ := zxor_r (zxor (zxor v42_ v43_) v45_) v47_
                            obtain ⟨hqi1_, hqi2_, hqi3_⟩ := zUq_i (T := T_) (j := (a0_).toNat) (g := (u15_).toNat) (k := (u24_).toNat) (c := (v40_).toNat) hF27_ hF1_ hw0_ hw1_ hw2_ hci_ hw3_
                            refine zk_callV hf_N25_.x (pc := 200) [.int (Int32.ofInt (zxor (zxor (zxor v42_ v43_) v45_) v47_))] [] l_Units_86 (u_Units_narrowU l d_ N25_ (hf_N25_.w hW) (zxor (zxor (zxor v42_ v43_) v45_) v47_) (by omega) (by omega) (fun x_ => S_ x_ ∧ zPd T_ (a0_).toNat (u15_).toNat (u24_).toNat x_) hz7_ (show 0 ≤ (zxor (zxor (zxor v42_ v43_) v45_) v47_) by first | with_reducible assumption | assumption | omega) (show (zxor (zxor (zxor v42_ v43_) v45_) v47_) < 134217728 by first | with_reducible assumption | assumption | omega)) rfl rfl ((hf_N25_.w hW).kr (o := 28) (by decide)) (by decide) (by decide) (Nat.le_of_ble_eq_true rfl) (zdal_p dlB_Units_narrowAt_86 (i := 5) rfl) ?_
                            rintro _ N49_ ⟨rfl, hsN49_, hp0_N49_⟩
                            replace hp0_N49_ : (zNw (fun x_ => (fun x_ => S_ x_ ∧ zPd T_ (a0_).toNat (u15_).toNat (u24_).toNat x_) x_ ∧ zpm ((zxor (zxor (zxor v42_ v43_) v45_) v47_)).toNat x_ = false) d_ N49_) := hp0_N49_
                            have hf_N49_ : zFc d_ [] [] [(28, 3)] [11, 30, 32] Mz N49_ := hf_N25_.tr hsN49_ (by decide) (by decide) (by decide) (by decide)
                            have hb0_N49_ : zFc d_ [] [] [(28, 3)] [30] N6_ N49_ := hb0_N25_.tr hsN49_ (by decide) (by decide) (by decide) (by decide)
                            have hb1_N49_ : zFc d_ [] [] [(28, 3)] [30] N16_ N49_ := hs26_.tr hsN49_ (by decide) (by decide) (by decide) (by decide)
                            have eD1_7_N49_ : ze N49_ (d_ + 1) 7 = ze N25_ (d_ + 1) 7 := hsN49_.e (by decide)
                            have c51_ : zTt T_ d_ N49_ := zTt.fr (hf_N25_.w hW) hsN49_ c30_ (by decide)
                            have c52_ : zFir T_ d_ N49_ := zFir.fr (hf_N25_.w hW) hsN49_ c31_ (by decide)
                            have c53_ : zSbK T_ d_ N49_ := zSbK.fr (hf_N25_.w hW) hsN49_ c32_ (by decide)
                            show zW l m_Units_narrowAt (zn Mz + 0, zw Mz + 0) N49_ 203 [some (.ref (d_ + 28)), some (.int (Int32.ofInt a0_)), some (.ref (d_ + 1)), some (.int (Int32.ofInt v1_)), some (.int (Int32.ofInt u4_)), some (.int (Int32.ofInt v3_)), some (.int (Int32.ofInt u15_)), some (.int (Int32.ofInt u24_)), some (.int (Int32.ofInt v40_))] [] _
                            have hpn_ := hp0_N49_
                            rw [hqi1_] at hpn_
                            have hzn_ := zPd_s hpn_ (by omega) hug_ huk_
                            refine zr_iinc (pc := 203) (i := 7) (a := u24_) (n := 1) (L2 := [some (.ref (d_ + 28)), some (.int (Int32.ofInt a0_)), some (.ref (d_ + 1)), some (.int (Int32.ofInt v1_)), some (.int (Int32.ofInt u4_)), some (.int (Int32.ofInt v3_)), some (.int (Int32.ofInt u15_)), some (.int (Int32.ofInt (u24_ + 1))), some (.int (Int32.ofInt v40_))]) rfl (by decide) rfl (zdal_p dlB_Units_narrowAt_86 (i := 6) rfl) ?_
                            refine zw_goto (pc := 206) (tgt := 120) (by decide) (zdal_p dlB_Units_narrowAt_86 (i := 7) rfl) ?_
                            have hzb_ : (zNw (fun x_ => S_ x_ ∧ zPd T_ (a0_).toNat (u15_).toNat ((u24_ + 1)).toNat x_) d_ N49_) := by first | exact hzn_ | exact zPd_k hz7_ (by omega) (fun q_ => hnu_ q_.1) | exact zPd_k hz7_ (by omega) (fun q_ => hnk_ q_.2)
                            refine zW_le [some (.ref (d_ + 28)), some (.int (Int32.ofInt a0_)), some (.ref (d_ + 1)), some (.int (Int32.ofInt v1_)), some (.int (Int32.ofInt u4_)), some (.int (Int32.ofInt v3_)), some (.int (Int32.ofInt u15_)), some (.int (Int32.ofInt (u24_ + 1))), none] (⟨rfl, rfl, rfl, rfl, rfl, rfl, rfl, rfl, trivial⟩) ?_
                            exact ih_120 (u24_ + 1) (by omega) (by omega) N49_ hb1_N49_ (show 0 ≤ (u24_ + 1) by first | with_reducible assumption | assumption | omega) (show (u24_ + 1) ≤ gN T_ by first | with_reducible assumption | assumption | omega) (show (zNw (fun x_ => S_ x_ ∧ zPd T_ (a0_).toNat (u15_).toNat ((u24_ + 1)).toNat x_) d_ N49_) by exact hzb_) (by omega)
                        · skip
                          have hnk_ : ¬ gUr T_ (a0_).toNat (u24_).toNat := fun q_ => ha143_0_hp0_N35_ ((zJn_b hjk_ hG6_ (by omega)).mpr q_)
                          show zW l m_Units_narrowAt (zn Mz + 0, zw Mz + 0) N25_ 146 [some (.ref (d_ + 28)), some (.int (Int32.ofInt a0_)), some (.ref (d_ + 1)), some (.int (Int32.ofInt v1_)), some (.int (Int32.ofInt u4_)), some (.int (Int32.ofInt v3_)), some (.int (Int32.ofInt u15_)), some (.int (Int32.ofInt u24_)), none] [.int (Int32.ofInt 0)] _
                          refine zr_if_eq (pc := 146) (tgt := 203) ⟨(by decide), (by decide)⟩ (by decide) (zdal_p dlB_Units_narrowAt_85 (i := 1) rfl) (fun hc_146 => ?_) (fun hc_146 => ?_)
                          · skip
                            refine zr_iinc (pc := 203) (i := 7) (a := u24_) (n := 1) (L2 := [some (.ref (d_ + 28)), some (.int (Int32.ofInt a0_)), some (.ref (d_ + 1)), some (.int (Int32.ofInt v1_)), some (.int (Int32.ofInt u4_)), some (.int (Int32.ofInt v3_)), some (.int (Int32.ofInt u15_)), some (.int (Int32.ofInt (u24_ + 1))), none]) rfl (by decide) rfl (zdal_p dlB_Units_narrowAt_86 (i := 6) rfl) ?_
                            refine zw_goto (pc := 206) (tgt := 120) (by decide) (zdal_p dlB_Units_narrowAt_86 (i := 7) rfl) ?_
                            have hzb_ : (zNw (fun x_ => S_ x_ ∧ zPd T_ (a0_).toNat (u15_).toNat ((u24_ + 1)).toNat x_) d_ N25_) := by first | exact hzn_ | exact zPd_k hz7_ (by omega) (fun q_ => hnu_ q_.1) | exact zPd_k hz7_ (by omega) (fun q_ => hnk_ q_.2)
                            exact ih_120 (u24_ + 1) (by omega) (by omega) N25_ hs26_ (show 0 ≤ (u24_ + 1) by first | with_reducible assumption | assumption | omega) (show (u24_ + 1) ≤ gN T_ by first | with_reducible assumption | assumption | omega) (show (zNw (fun x_ => S_ x_ ∧ zPd T_ (a0_).toNat (u15_).toNat ((u24_ + 1)).toNat x_) d_ N25_) by exact hzb_) (by omega)
                          · skip
                            exact absurd hc_146 (by decide)
                    · skip
                      have hnu_ : ¬ gUr T_ (a0_).toNat (u15_).toNat := fun q_ => ha133_0_hp0_N33_ ((zJn_b hjk_ hG6_ (by omega)).mpr q_)
                      show zW l m_Units_narrowAt (zn Mz + 0, zw Mz + 0) N25_ 136 [some (.ref (d_ + 28)), some (.int (Int32.ofInt a0_)), some (.ref (d_ + 1)), some (.int (Int32.ofInt v1_)), some (.int (Int32.ofInt u4_)), some (.int (Int32.ofInt v3_)), some (.int (Int32.ofInt u15_)), some (.int (Int32.ofInt u24_)), none] [.int (Int32.ofInt 0)] _
                      refine zr_if_eq (pc := 136) (tgt := 203) ⟨(by decide), (by decide)⟩ (by decide) (zdal_p dlB_Units_narrowAt_84 (i := 21) rfl) (fun hc_136 => ?_) (fun hc_136 => ?_)
                      · skip
                        refine zr_iinc (pc := 203) (i := 7) (a := u24_) (n := 1) (L2 := [some (.ref (d_ + 28)), some (.int (Int32.ofInt a0_)), some (.ref (d_ + 1)), some (.int (Int32.ofInt v1_)), some (.int (Int32.ofInt u4_)), some (.int (Int32.ofInt v3_)), some (.int (Int32.ofInt u15_)), some (.int (Int32.ofInt (u24_ + 1))), none]) rfl (by decide) rfl (zdal_p dlB_Units_narrowAt_86 (i := 6) rfl) ?_
                        refine zw_goto (pc := 206) (tgt := 120) (by decide) (zdal_p dlB_Units_narrowAt_86 (i := 7) rfl) ?_
                        have hzb_ : (zNw (fun x_ => S_ x_ ∧ zPd T_ (a0_).toNat (u15_).toNat ((u24_ + 1)).toNat x_) d_ N25_) := by first | exact hzn_ | exact zPd_k hz7_ (by omega) (fun q_ => hnu_ q_.1) | exact zPd_k hz7_ (by omega) (fun q_ => hnk_ q_.2)
                        exact ih_120 (u24_ + 1) (by omega) (by omega) N25_ hs26_ (show 0 ≤ (u24_ + 1) by first | with_reducible assumption | assumption | omega) (show (u24_ + 1) ≤ gN T_ by first | with_reducible assumption | assumption | omega) (show (zNw (fun x_ => S_ x_ ∧ zPd T_ (a0_).toNat (u15_).toNat ((u24_ + 1)).toNat x_) d_ N25_) by exact hzb_) (by omega)
                      · skip
                        exact absurd hc_136 (by decide)
              exact lp_120 _ 0 (by decide) (by decide) N16_ zFc.rf (show 0 ≤ (0 : Int) by first | with_reducible assumption | assumption | omega) (show (0 : Int) ≤ gN T_ by first | with_reducible assumption | assumption | omega) (show (zNw (fun x_ => S_ x_ ∧ zPd T_ (a0_).toNat (u15_).toNat ((0 : Int)).toNat x_) d_ N16_) by exact hz6_) (Nat.lt_succ_self _)
        exact lp_108 _ 0 (by decide) (by decide) N6_ zFc.rf (show 0 ≤ (0 : Int) by first | with_reducible assumption | assumption | omega) (show (0 : Int) ≤ gN T_ by first | with_reducible assumption | assumption | omega) (show (zNw (fun x_ => S_ x_ ∧ zPd T_ (a0_).toNat ((0 : Int)).toNat 0 x_) d_ N6_) by exact zPd_0 c14_) (Nat.lt_succ_self _)
      · skip
        refine zw_iload (pc := 42) (i := 5) (x := Int32.ofInt v3_) rfl (zdal_p dlB_Units_narrowAt_82 (i := 22) rfl) ?_
        refine zw_iload (pc := 44) (i := 6) (x := Int32.ofInt u5_) rfl (zdal_p dlB_Units_narrowAt_82 (i := 23) rfl) ?_
        refine zr_callS hf_N6_.x (pc := 46) [.int (Int32.ofInt v3_), .int (Int32.ofInt u5_)] [] l_Units_69 (u_T_isIn l d_ N6_ (hf_N6_.w hW) v3_ hv3_a hv3_b u5_ hu5_a hu5_b (show 0 ≤ v3_ by first | with_reducible assumption | assumption | omega) (show v3_ < 2147483648 by first | with_reducible assumption | assumption | omega) (show 0 ≤ u5_ by first | with_reducible assumption | assumption | omega) (show u5_ < 31 by first | with_reducible assumption | assumption | omega)) rfl rfl (by decide) (Nat.le_of_ble_eq_true rfl) (zdal_p dlB_Units_narrowAt_83 (i := 0) rfl) ?_
        rintro _ N54_ ⟨v55_, rfl, ⟨hv55_a, hv55_b⟩, hsN54_, hp0_N54_⟩
        obtain rfl := hsN54_.eq.symm
        replace hp0_N54_ : ((v55_ = 1 ∧ zbt v3_ u5_) ∨ (v55_ = 0 ∧ ¬ zbt v3_ u5_)) := hp0_N54_
        rcases hp0_N54_ with ⟨rfl, ha46_0_hp0_N54_⟩ | ⟨rfl, ha46_0_hp0_N54_⟩
        · skip
          have hin_ := ha46_0_hp0_N54_
          have hgn_ : gtr T_ (gFn T_ (a0_).toNat) (u5_).toNat = (gFn T_ (a0_).toNat) := (norm_in hnm_ (by omega)).mp hin_
          show zW l m_Units_narrowAt (zn Mz + 0, zw Mz + 0) N6_ 49 [some (.ref (d_ + 28)), some (.int (Int32.ofInt a0_)), some (.ref (d_ + 1)), some (.int (Int32.ofInt v1_)), some (.int (Int32.ofInt u4_)), some (.int (Int32.ofInt v3_)), some (.int (Int32.ofInt u5_)), none, none] [.int (Int32.ofInt 1)] _
          refine zr_if_eq (pc := 49) (tgt := 99) ⟨(by decide), (by decide)⟩ (by decide) (zdal_p dlB_Units_narrowAt_83 (i := 1) rfl) (fun hc_49 => ?_) (fun hc_49 => ?_)
          · skip
            exact absurd hc_49 (by decide)
          · skip
            refine zw_aload_n (pc := 52) (n := 2) (x := (d_ + 1)) rfl (zdal_p dlB_Units_narrowAt_83 (i := 2) rfl) ?_
            refine zw_iload_n (pc := 53) (n := 3) (x := Int32.ofInt v1_) rfl (zdal_p dlB_Units_narrowAt_83 (i := 3) rfl) ?_
            refine zw_iload (pc := 54) (i := 6) (x := Int32.ofInt u5_) rfl (zdal_p dlB_Units_narrowAt_83 (i := 4) rfl) ?_
            refine zk_callV hf_N6_.x (pc := 56) [.int (Int32.ofInt v1_), .int (Int32.ofInt u5_)] [] l_Units_73 (u_Group_leastOfCosetG l d_ N6_ (hf_N6_.w hW) v1_ hv1_a hv1_b u5_ hu5_a hu5_b T_ hT_ c11_ (show 0 ≤ v1_ by first | with_reducible assumption | assumption | omega) (show v1_ < 16777216 by first | with_reducible assumption | assumption | omega) (show 0 ≤ u5_ by first | with_reducible assumption | assumption | omega) (show u5_ < gN T_ by first | with_reducible assumption | assumption | omega)) rfl rfl ((hf_N6_.w hW).kr (o := 1) (by decide)) (by decide) (by decide) (Nat.le_of_ble_eq_true rfl) (zdal_p dlB_Units_narrowAt_83 (i := 5) rfl) ?_
            rintro _ N56_ ⟨v57_, rfl, ⟨hv57_a, hv57_b⟩, hsN56_, ⟨hp0_N56_, hp1_N56_, hp2_N56_⟩⟩
            obtain rfl := hsN56_.eq.symm
            show zW l m_Units_narrowAt (zn Mz + 0, zw Mz + 0) N6_ 59 [some (.ref (d_ + 28)), some (.int (Int32.ofInt a0_)), some (.ref (d_ + 1)), some (.int (Int32.ofInt v1_)), some (.int (Int32.ofInt u4_)), some (.int (Int32.ofInt v3_)), some (.int (Int32.ofInt u5_)), none, none] [.int (Int32.ofInt v57_)] _
            have hlc_ := hp0_N56_
            rw [hft_] at hlc_
            refine zw_iload (pc := 59) (i := 6) (x := Int32.ofInt u5_) rfl (zdal_p dlB_Units_narrowAt_83 (i := 6) rfl) ?_
            refine zr_icmp_ne (pc := 61) (tgt := 99) ⟨hv57_a, hv57_b⟩ ⟨hu5_a, hu5_b⟩ (by decide) (zdal_p dlB_Units_narrowAt_83 (i := 7) rfl) (fun hc_61 => ?_) (fun hc_61 => ?_)
            · skip
              refine zr_iinc (pc := 99) (i := 6) (a := u5_) (n := 1) (L2 := [some (.ref (d_ + 28)), some (.int (Int32.ofInt a0_)), some (.ref (d_ + 1)), some (.int (Int32.ofInt v1_)), some (.int (Int32.ofInt u4_)), some (.int (Int32.ofInt v3_)), some (.int (Int32.ofInt (u5_ + 1))), none, none]) rfl (by decide) rfl (zdal_p dlB_Units_narrowAt_84 (i := 4) rfl) ?_
              refine zw_goto (pc := 102) (tgt := 33) (by decide) (zdal_p dlB_Units_narrowAt_84 (i := 5) rfl) ?_
              have hjs_ : zJn T_ (a0_).toNat u4_ d_ N6_ (u5_ + 1) := by first | exact hjd_ | exact zJn_n hjn_ (by omega) (fun q_ => hng_ q_.2.1) | exact zJn_n hjn_ (by omega) (fun q_ => by have h_ := q_.2.2; omega)
              exact ih_33 u4_ hu4_a hu4_b (u5_ + 1) (by omega) (by omega) N6_ hs7_ (show 0 ≤ (u5_ + 1) by first | with_reducible assumption | assumption | omega) (show (u5_ + 1) ≤ gN T_ by first | with_reducible assumption | assumption | omega) (show zJn T_ (a0_).toNat u4_ d_ N6_ (u5_ + 1) by exact hjs_) (by omega)
            · skip
              have hur_ : gUr T_ (a0_).toNat (u5_).toNat := ⟨by omega, hgn_, by omega⟩
              refine zw_iload (pc := 64) (i := 4) (x := Int32.ofInt u4_) rfl (zdal_p dlB_Units_narrowAt_83 (i := 8) rfl) ?_
              refine zw_iconst (pc := 66) (v := Int32.ofInt 1) (by decide) (zdal_p dlB_Units_narrowAt_83 (i := 9) rfl) ?_
              refine zw_iload (pc := 67) (i := 6) (x := Int32.ofInt u5_) rfl (zdal_p dlB_Units_narrowAt_83 (i := 10) rfl) ?_
              refine zr_ishl (pc := 69) (zdal_p dlB_Units_narrowAt_83 (i := 11) rfl) ?_
              have hr58_ := zshl_r 1 u5_
              refine zr_ior (pc := 70) (zdal_p dlB_Units_narrowAt_83 (i := 12) rfl) ?_
              have hr59_ := zor_r u4_ (zshl 1 u5_)
              refine zw_istore (pc := 71) (i := 4) (L2 := [some (.ref (d_ + 28)), some (.int (Int32.ofInt a0_)), some (.ref (d_ + 1)), some (.int (Int32.ofInt v1_)), some (.int (Int32.ofInt (zor u4_ (zshl 1 u5_)))), some (.int (Int32.ofInt v3_)), some (.int (Int32.ofInt u5_)), none, none]) (by decide) rfl (zdal_p dlB_Units_narrowAt_83 (i := 13) rfl) ?_
              refine zw_aload_n (pc := 73) (n := 0) (x := (d_ + 28)) rfl (zdal_p dlB_Units_narrowAt_83 (i := 14) rfl) ?_
              refine zw_getF (pc := 74) f_Units_20 rfl ((hf_N6_.w hW).kr (o := 28) (by decide)) ((hf_N6_.w hW).lr (o := 28) (s := 2) (r := 31) (by decide)) (zdal_p dlB_Units_narrowAt_83 (i := 15) rfl) ?_
              refine zw_iload (pc := 77) (i := 6) (x := Int32.ofInt u5_) rfl (zdal_p dlB_Units_narrowAt_83 (i := 16) rfl) ?_
              refine zw_aload_n (pc := 79) (n := 0) (x := (d_ + 28)) rfl (zdal_p dlB_Units_narrowAt_83 (i := 17) rfl) ?_
              refine zw_aload_n (pc := 80) (n := 0) (x := (d_ + 28)) rfl (zdal_p dlB_Units_narrowAt_83 (i := 18) rfl) ?_
              refine zw_getF (pc := 81) f_Units_23 rfl ((hf_N6_.w hW).kr (o := 28) (by decide)) ((hf_N6_.w hW).lr (o := 28) (s := 0) (r := 12) (by decide)) (zdal_p dlB_Units_narrowAt_83 (i := 19) rfl) ?_
              refine zw_iload_n (pc := 84) (n := 3) (x := Int32.ofInt v1_) rfl (zdal_p dlB_Units_narrowAt_83 (i := 20) rfl) ?_
              refine zw_iconst (pc := 85) (v := Int32.ofInt 1) (by decide) (zdal_p dlB_Units_narrowAt_83 (i := 21) rfl) ?_
              refine zw_iload (pc := 86) (i := 6) (x := Int32.ofInt u5_) rfl (zdal_p dlB_Units_narrowAt_83 (i := 22) rfl) ?_
              refine zr_ishl (pc := 88) (zdal_p dlB_Units_narrowAt_83 (i := 23) rfl) ?_
              have hr60_ := zshl_r 1 u5_
              refine zr_ior (pc := 89) (zdal_p dlB_Units_narrowAt_84 (i := 0) rfl) ?_
              have hr61_ := zor_r v1_ (zshl 1 u5_)
              have hor_ := norm_or (T := T_) (H := (gFn T_ (a0_).toNat)) (g := u5_) hfw_ hfb_.2.1 (by omega) (by omega)
              refine zk_callV hf_N6_.x (pc := 90) [.int (Int32.ofInt (zor v1_ (zshl 1 u5_)))] [.ref (d_ + 28), .int (Int32.ofInt u5_), .ref (d_ + 31)] l_Units_77 (u_Sorts_spannedSortG l d_ N6_ (hf_N6_.w hW) (zor v1_ (zshl 1 u5_)) (by omega) (by omega) T_ hT_ hAs_ c11_ c13_ (show 0 ≤ (zor v1_ (zshl 1 u5_)) by exact zor_p (by omega) (by omega) (zsh_0 (by omega) (by omega)) (zshl_r 1 u5_).2) (show ((zor v1_ (zshl 1 u5_))).toNat < 2 ^ gN T_ by rw [hor_]; exact Nat.or_lt_two_pow hfb_.1 (Nat.pow_lt_pow_right (by decide) (by omega)))) rfl rfl ((hf_N6_.w hW).kr (o := 12) (by decide)) (by decide) (by decide) (Nat.le_of_ble_eq_true rfl) (zdal_p dlB_Units_narrowAt_84 (i := 1) rfl) ?_
              rintro _ N62_ ⟨v63_, rfl, ⟨hv63_a, hv63_b⟩, hsN62_, hp0_N62_⟩
              replace hp0_N62_ : (∃ R_ : Nat, gLC T_ ((zor v1_ (zshl 1 u5_))).toNat R_ ∧ zSrt T_ R_ v63_) := hp0_N62_
              have hf_N62_ : zFc d_ [] [] [(28, 3)] [11, 30, 32] Mz N62_ := hf_N6_.tr hsN62_ (by decide) (by decide) (by decide) (by decide)
              have hb0_N62_ : zFc d_ [] [] [] [11, 32] Mz N62_ := hs7_.tr hsN62_ (by decide) (by decide) (by decide) (by decide)
              have eD1_7_N62_ : ze N62_ (d_ + 1) 7 = ze N6_ (d_ + 1) 7 := hsN62_.e (by decide)
              have c64_ : zTt T_ d_ N62_ := zTt.fr (hf_N6_.w hW) hsN62_ c11_ (by decide)
              have c65_ : zFir T_ d_ N62_ := zFir.fr (hf_N6_.w hW) hsN62_ c12_ (by decide)
              have c66_ : zSbK T_ d_ N62_ := zSbK.fr (hf_N6_.w hW) hsN62_ c13_ (by decide)
              have c67_ : zNw S_ d_ N62_ := zNw.fr (hf_N6_.w hW) hsN62_ c14_ (by decide)
              show zW l m_Units_narrowAt (zn Mz + 0, zw Mz + 0) N62_ 93 [some (.ref (d_ + 28)), some (.int (Int32.ofInt a0_)), some (.ref (d_ + 1)), some (.int (Int32.ofInt v1_)), some (.int (Int32.ofInt (zor u4_ (zshl 1 u5_)))), some (.int (Int32.ofInt v3_)), some (.int (Int32.ofInt u5_)), none, none] [.int (Int32.ofInt v63_), .ref (d_ + 28), .int (Int32.ofInt u5_), .ref (d_ + 31)] _
              obtain ⟨R_, hlc2_, hso_⟩ := hp0_N62_
              rw [hor_] at hlc2_
              have hgs_ := gsr_u hO_ hlc2_ hso_
              have hgl_ := gsr_lt hT_ ((gFn T_ (a0_).toNat) ||| 2 ^ (u5_).toNat)
              refine zk_callV hf_N62_.x (pc := 93) [.int (Int32.ofInt v63_)] [.int (Int32.ofInt u5_), .ref (d_ + 31)] l_Units_80 (u_Units_bitOfU l d_ N62_ (hf_N62_.w hW) v63_ hv63_a hv63_b T_ hT_ c65_ (show 0 ≤ v63_ by first | with_reducible assumption | assumption | omega) (show v63_ < ((gF T_).length : Int) by first | with_reducible assumption | assumption | omega)) rfl rfl ((hf_N62_.w hW).kr (o := 28) (by decide)) (by decide) (by decide) (Nat.le_of_ble_eq_true rfl) (zdal_p dlB_Units_narrowAt_84 (i := 2) rfl) ?_
              rintro _ N68_ ⟨v69_, rfl, ⟨hv69_a, hv69_b⟩, hsN68_, ⟨hp0_N68_, hp1_N68_, hp2_N68_⟩⟩
              obtain rfl := hsN68_.eq.symm
              show zW l m_Units_narrowAt (zn Mz + 0, zw Mz + 0) N62_ 96 [some (.ref (d_ + 28)), some (.int (Int32.ofInt a0_)), some (.ref (d_ + 1)), some (.int (Int32.ofInt v1_)), some (.int (Int32.ofInt (zor u4_ (zshl 1 u5_)))), some (.int (Int32.ofInt v3_)), some (.int (Int32.ofInt u5_)), none, none] [.int (Int32.ofInt v69_), .int (Int32.ofInt u5_), .ref (d_ + 31)] _
              have hbo_ := hp0_N68_
              rw [hgs_, Int.toNat_natCast] at hbo_
              refine zk_st hf_N62_.x (pc := 96) (o := 32) (by decide) l_Units_40 ((hf_N62_.w hW).kr (o := 31) (by decide)) ((hf_N62_.w hW).lr (o := 31) (s := 0) (r := 32) (by decide)) ((hf_N62_.w hW).rr (o := 32) (t := 1) (n := 24) (by decide)) (by decide) (by omega) (by omega) (by decide) (Nat.le_of_ble_eq_true rfl) (zdal_p dlB_Units_narrowAt_84 (i := 3) rfl) (fun N70_ hN70_ hsN70_ => ?_)
              have hf_N70_ : zFc d_ [] [] [(28, 3)] [11, 30, 32] Mz N70_ := hf_N62_.tr hsN70_ (by decide) (by decide) (by decide) (by decide)
              have hb0_N70_ : zFc d_ [] [] [] [11, 32] Mz N70_ := hb0_N62_.tr hsN70_ (by decide) (by decide) (by decide) (by decide)
              have eD1_7_N70_ : ze N70_ (d_ + 1) 7 = ze N62_ (d_ + 1) 7 := hsN70_.e (by decide)
              have c71_ : zTt T_ d_ N70_ := zTt.fr (hf_N62_.w hW) hsN70_ c64_ (by decide)
              have c72_ : zFir T_ d_ N70_ := zFir.fr (hf_N62_.w hW) hsN70_ c65_ (by decide)
              have c73_ : zSbK T_ d_ N70_ := zSbK.fr (hf_N62_.w hW) hsN70_ c66_ (by decide)
              have c74_ : zNw S_ d_ N70_ := zNw.fr (hf_N62_.w hW) hsN70_ c67_ (by decide)
              have hjd_ := zJn_s hjn_ (by omega) (by omega) hur_ rfl (fun i_ hi_ => (zs_oth hN70_ (j := i_) (by omega)).trans (hsN62_.r (by decide) i_)) ((zs_get hN70_ ⟨by omega, by omega⟩).trans hbo_)
              refine zr_iinc (pc := 99) (i := 6) (a := u5_) (n := 1) (L2 := [some (.ref (d_ + 28)), some (.int (Int32.ofInt a0_)), some (.ref (d_ + 1)), some (.int (Int32.ofInt v1_)), some (.int (Int32.ofInt (zor u4_ (zshl 1 u5_)))), some (.int (Int32.ofInt v3_)), some (.int (Int32.ofInt (u5_ + 1))), none, none]) rfl (by decide) rfl (zdal_p dlB_Units_narrowAt_84 (i := 4) rfl) ?_
              refine zw_goto (pc := 102) (tgt := 33) (by decide) (zdal_p dlB_Units_narrowAt_84 (i := 5) rfl) ?_
              have hjs_ : zJn T_ (a0_).toNat (zor u4_ (zshl 1 u5_)) d_ N70_ (u5_ + 1) := by first | exact hjd_ | exact zJn_n hjn_ (by omega) (fun q_ => hng_ q_.2.1) | exact zJn_n hjn_ (by omega) (fun q_ => by have h_ := q_.2.2; omega)
              exact ih_33 (zor u4_ (zshl 1 u5_)) (by omega) (by omega) (u5_ + 1) (by omega) (by omega) N70_ hb0_N70_ (show 0 ≤ (u5_ + 1) by first | with_reducible assumption | assumption | omega) (show (u5_ + 1) ≤ gN T_ by first | with_reducible assumption | assumption | omega) (show zJn T_ (a0_).toNat (zor u4_ (zshl 1 u5_)) d_ N70_ (u5_ + 1) by exact hjs_) (by omega)
        · skip
          have hng_ : ¬ gtr T_ (gFn T_ (a0_).toNat) (u5_).toNat = (gFn T_ (a0_).toNat) := fun q_ => ha46_0_hp0_N54_ ((norm_in hnm_ (by omega)).mpr q_)
          show zW l m_Units_narrowAt (zn Mz + 0, zw Mz + 0) N6_ 49 [some (.ref (d_ + 28)), some (.int (Int32.ofInt a0_)), some (.ref (d_ + 1)), some (.int (Int32.ofInt v1_)), some (.int (Int32.ofInt u4_)), some (.int (Int32.ofInt v3_)), some (.int (Int32.ofInt u5_)), none, none] [.int (Int32.ofInt 0)] _
          refine zr_if_eq (pc := 49) (tgt := 99) ⟨(by decide), (by decide)⟩ (by decide) (zdal_p dlB_Units_narrowAt_83 (i := 1) rfl) (fun hc_49 => ?_) (fun hc_49 => ?_)
          · skip
            refine zr_iinc (pc := 99) (i := 6) (a := u5_) (n := 1) (L2 := [some (.ref (d_ + 28)), some (.int (Int32.ofInt a0_)), some (.ref (d_ + 1)), some (.int (Int32.ofInt v1_)), some (.int (Int32.ofInt u4_)), some (.int (Int32.ofInt v3_)), some (.int (Int32.ofInt (u5_ + 1))), none, none]) rfl (by decide) rfl (zdal_p dlB_Units_narrowAt_84 (i := 4) rfl) ?_
            refine zw_goto (pc := 102) (tgt := 33) (by decide) (zdal_p dlB_Units_narrowAt_84 (i := 5) rfl) ?_
            have hjs_ : zJn T_ (a0_).toNat u4_ d_ N6_ (u5_ + 1) := by first | exact hjd_ | exact zJn_n hjn_ (by omega) (fun q_ => hng_ q_.2.1) | exact zJn_n hjn_ (by omega) (fun q_ => by have h_ := q_.2.2; omega)
            exact ih_33 u4_ hu4_a hu4_b (u5_ + 1) (by omega) (by omega) N6_ hs7_ (show 0 ≤ (u5_ + 1) by first | with_reducible assumption | assumption | omega) (show (u5_ + 1) ≤ gN T_ by first | with_reducible assumption | assumption | omega) (show zJn T_ (a0_).toNat u4_ d_ N6_ (u5_ + 1) by exact hjs_) (by omega)
          · skip
            exact absurd hc_49 (by decide)
  exact lp_33 _ 0 (by decide) (by decide) 0 (by decide) (by decide) Mz zFc.rf (show 0 ≤ (0 : Int) by first | with_reducible assumption | assumption | omega) (show (0 : Int) ≤ gN T_ by first | with_reducible assumption | assumption | omega) (show zJn T_ (a0_).toNat (0 : Int) d_ Mz (0 : Int) by exact zJn_0) (Nat.lt_succ_self _)
set_option maxHeartbeats 4000000 in
theorem u_Units_straightenU (l : Launch) (d_ : Nat) (Mz : zMem) (hW : zKW d_ Mz) (T_ : zGT) (hT_ : T_ ∈ gTabs) (S_ : Nat → Prop) (hS_ : ∀ x, S_ x → x < 2 ^ (gF T_).length) (p0_ : zFir T_ d_ Mz) (p1_ : zNw S_ d_ Mz) : zC l m_Units_straighten 0 0 [.ref (d_ + 28)] Mz (zqcV d_ [] [] [] [30] Mz (fun N => (zUf S_ d_ N))) := by
  refine zC_of (L0 := [some (.ref (d_ + 28)), none, none, none, none, none]) md_Units_straighten (Nat.le_of_ble_eq_true rfl) rfl ?_ zQ0
  have hf : zFc d_ [] [] [] [30] Mz Mz := zFc.rf
  have r_D12_7 := ze_r Mz (d_ + 12) 7
  have r_D28_3 := ze_r Mz (d_ + 28) 3
  have hO_ := gTabs_ok T_ hT_
  have hG_ := hO_.1
  have hn24_ := hG_.2.1
  have hn1_ := hG_.1
  have hfl_ := p0_.1
  obtain ⟨⟨hF1_, hF27_⟩, hAr_⟩ := id (gT_zTA hT_)
  have hm_ := p1_.1
  refine zw_iconst (pc := 0) (v := Int32.ofInt 0) (by decide) (zdal_p dlB_Units_straighten_91 (i := 0) rfl) ?_
  refine zw_istore_n (pc := 1) (i := 1) (L2 := [some (.ref (d_ + 28)), some (.int (Int32.ofInt 0)), none, none, none, none]) rfl (by decide) rfl (zdal_p dlB_Units_straighten_91 (i := 1) rfl) ?_
  refine zw_iconst (pc := 2) (v := Int32.ofInt 0) (by decide) (zdal_p dlB_Units_straighten_91 (i := 2) rfl) ?_
  refine zw_istore_n (pc := 3) (i := 2) (L2 := [some (.ref (d_ + 28)), some (.int (Int32.ofInt 0)), some (.int (Int32.ofInt 0)), none, none, none]) rfl (by decide) rfl (zdal_p dlB_Units_straighten_91 (i := 3) rfl) ?_
  have lp_4 : ∀ (n : Nat) (u1_ : Int) (hu1_a : -2147483648 ≤ u1_) (hu1_b : u1_ < 2147483648) (u2_ : Int) (hu2_a : -2147483648 ≤ u2_) (hu2_b : u2_ < 2147483648) (N3_ : zMem) (hs4_ : zFc d_ [] [] [] [30] Mz N3_) (i5_ : 0 ≤ u2_) (i6_ : u2_ ≤ ((gF T_).length : Int)) (i7_ : 0 ≤ u1_ ∧ u1_ ≤ ze Mz (d_ + 28) 3) (i8_ : zyT S_ (gF T_).length u2_ u1_ d_ N3_), (((gF T_).length : Int) - u2_).toNat < n → zW l m_Units_straighten (zn Mz + 0, zw Mz + 0) N3_ 4 [some (.ref (d_ + 28)), some (.int (Int32.ofInt u1_)), some (.int (Int32.ofInt u2_)), none, none, none] [] (zqcV d_ [] [] [] [30] Mz (fun N => (zUf S_ d_ N))) := by
    intro n
    induction n with
    | zero =>
      intro u1_ hu1_a hu1_b u2_ hu2_a hu2_b N3_ hs4_ i5_ i6_ i7_ i8_ h0
      exact absurd h0 (Nat.not_lt_zero _)
    | succ n ih_4 =>
      intro u1_ hu1_a hu1_b u2_ hu2_a hu2_b N3_ hs4_ i5_ i6_ i7_ i8_ hlt_4
      have hf_N3_ : zFc d_ [] [] [] [30] Mz N3_ := hf.tr hs4_ (by decide) (by decide) (by decide) (by decide)
      have eD12_7_N3_ : ze N3_ (d_ + 12) 7 = ze Mz (d_ + 12) 7 := hs4_.e (by decide)
      have eD28_3_N3_ : ze N3_ (d_ + 28) 3 = ze Mz (d_ + 28) 3 := hs4_.e (by decide)
      have c9_ : zFir T_ d_ N3_ := zFir.fr (hf.w hW) hs4_ p0_ (by decide)
      have hst_ := (show zyT S_ (gF T_).length u2_ u1_ d_ N3_ by first | with_reducible assumption | assumption)
      refine zw_iload_n (pc := 4) (n := 2) (x := Int32.ofInt u2_) rfl (zdal_p dlB_Units_straighten_91 (i := 4) rfl) ?_
      refine zw_aload_n (pc := 5) (n := 0) (x := (d_ + 28)) rfl (zdal_p dlB_Units_straighten_91 (i := 5) rfl) ?_
      refine zw_getF (pc := 6) f_Units_23 rfl ((hf_N3_.w hW).kr (o := 28) (by decide)) ((hf_N3_.w hW).lr (o := 28) (s := 0) (r := 12) (by decide)) (zdal_p dlB_Units_straighten_91 (i := 6) rfl) ?_
      refine zk_getI (pc := 9) f_Units_35 rfl ((hf_N3_.w hW).kr (o := 12) (by decide)) (zdal_p dlB_Units_straighten_91 (i := 7) rfl) ?_
      rw [hf_N3_.e (by decide)]
      refine zr_icmp_ge (pc := 12) (tgt := 167) ⟨hu2_a, hu2_b⟩ ⟨(ze_r Mz (d_ + 12) 7).1, (ze_r Mz (d_ + 12) 7).2⟩ (by decide) (zdal_p dlB_Units_straighten_91 (i := 8) rfl) (fun hc_12 => ?_) (fun hc_12 => ?_)
      · skip
        exact zk_vret (pc := 167) rfl hf_N3_ (show (zUf S_ d_ N3_) by exact zyT_e hst_ (by omega)) (zdal_p dlB_Units_straighten_94 (i := 10) rfl)
      · skip
        refine zw_iload_n (pc := 15) (n := 1) (x := Int32.ofInt u1_) rfl (zdal_p dlB_Units_straighten_91 (i := 9) rfl) ?_
        refine zw_istore_n (pc := 16) (i := 3) (L2 := [some (.ref (d_ + 28)), some (.int (Int32.ofInt u1_)), some (.int (Int32.ofInt u2_)), some (.int (Int32.ofInt u1_)), none, none]) rfl (by decide) rfl (zdal_p dlB_Units_straighten_91 (i := 10) rfl) ?_
        have lp_17 : ∀ (n : Nat) (u10_ : Int) (hu10_a : -2147483648 ≤ u10_) (hu10_b : u10_ < 2147483648) (i11_ : u1_ ≤ u10_) (i12_ : u10_ ≤ ze Mz (d_ + 28) 3) (i13_ : (∀ i : Nat, u1_ ≤ i → (i : Int) < u10_ → (zub d_ N3_ i).testBit (((gF T_).length : Int) - 1 - u2_).toNat = false)), (ze Mz (d_ + 28) 3 - u10_).toNat < n → zW l m_Units_straighten (zn Mz + 0, zw Mz + 0) N3_ 17 [some (.ref (d_ + 28)), some (.int (Int32.ofInt u1_)), some (.int (Int32.ofInt u2_)), some (.int (Int32.ofInt u10_)), none, none] [] (zqcV d_ [] [] [] [30] Mz (fun N => (zUf S_ d_ N))) := by
          intro n
          induction n with
          | zero =>
            intro u10_ hu10_a hu10_b i11_ i12_ i13_ h0
            exact absurd h0 (Nat.not_lt_zero _)
          | succ n ih_17 =>
            intro u10_ hu10_a hu10_b i11_ i12_ i13_ hlt_17
            have hno_ := (show (∀ i : Nat, u1_ ≤ i → (i : Int) < u10_ → (zub d_ N3_ i).testBit (((gF T_).length : Int) - 1 - u2_).toNat = false) by first | with_reducible assumption | assumption)
            refine zw_iload_n (pc := 17) (n := 3) (x := Int32.ofInt u10_) rfl (zdal_p dlB_Units_straighten_91 (i := 11) rfl) ?_
            refine zw_aload_n (pc := 18) (n := 0) (x := (d_ + 28)) rfl (zdal_p dlB_Units_straighten_91 (i := 12) rfl) ?_
            refine zk_getI (pc := 19) f_Units_31 rfl ((hf_N3_.w hW).kr (o := 28) (by decide)) (zdal_p dlB_Units_straighten_91 (i := 13) rfl) ?_
            rw [hf_N3_.e (by decide)]
            have j_48 : ∀ (i14_ : u1_ ≤ u10_) (i15_ : u10_ ≤ ze Mz (d_ + 28) 3) (i16_ : ((u10_ = ze Mz (d_ + 28) 3 ∧ (∀ i : Nat, u1_ ≤ i → (i : Int) < u10_ → (zub d_ N3_ i).testBit (((gF T_).length : Int) - 1 - u2_).toNat = false)) ∨ (u10_ < ze Mz (d_ + 28) 3 ∧ (zub d_ N3_ (u10_).toNat).testBit (((gF T_).length : Int) - 1 - u2_).toNat = true))), zW l m_Units_straighten (zn Mz + 0, zw Mz + 0) N3_ 48 [some (.ref (d_ + 28)), some (.int (Int32.ofInt u1_)), some (.int (Int32.ofInt u2_)), some (.int (Int32.ofInt u10_)), none, none] [] (zqcV d_ [] [] [] [30] Mz (fun N => (zUf S_ d_ N))) := by
              intro i14_ i15_ i16_
              have hj48_ := (show ((u10_ = ze Mz (d_ + 28) 3 ∧ (∀ i : Nat, u1_ ≤ i → (i : Int) < u10_ → (zub d_ N3_ i).testBit (((gF T_).length : Int) - 1 - u2_).toNat = false)) ∨ (u10_ < ze Mz (d_ + 28) 3 ∧ (zub d_ N3_ (u10_).toNat).testBit (((gF T_).length : Int) - 1 - u2_).toNat = true)) by first | with_reducible assumption | assumption)
              refine zw_iload_n (pc := 48) (n := 3) (x := Int32.ofInt u10_) rfl (zdal_p dlB_Units_straighten_92 (i := 2) rfl) ?_
              refine zw_aload_n (pc := 49) (n := 0) (x := (d_ + 28)) rfl (zdal_p dlB_Units_straighten_92 (i := 3) rfl) ?_
              refine zk_getI (pc := 50) f_Units_31 rfl ((hf_N3_.w hW).kr (o := 28) (by decide)) (zdal_p dlB_Units_straighten_92 (i := 4) rfl) ?_
              rw [hf_N3_.e (by decide)]
              refine zr_icmp_lt (pc := 53) (tgt := 59) ⟨hu10_a, hu10_b⟩ ⟨(ze_r Mz (d_ + 28) 3).1, (ze_r Mz (d_ + 28) 3).2⟩ (by decide) (zdal_p dlB_Units_straighten_92 (i := 5) rfl) (fun hc_53 => ?_) (fun hc_53 => ?_)
              · skip
                have hbit_ : (zub d_ N3_ (u10_).toNat).testBit (((gF T_).length : Int) - 1 - u2_).toNat = true := by rcases hj48_ with q_ | q_; (exfalso; omega); exact q_.2
                refine zw_aload_n (pc := 59) (n := 0) (x := (d_ + 28)) rfl (zdal_p dlB_Units_straighten_92 (i := 7) rfl) ?_
                refine zw_getF (pc := 60) f_Units_14 rfl ((hf_N3_.w hW).kr (o := 28) (by decide)) ((hf_N3_.w hW).lr (o := 28) (s := 1) (r := 29) (by decide)) (zdal_p dlB_Units_straighten_92 (i := 8) rfl) ?_
                refine zw_iload_n (pc := 63) (n := 3) (x := Int32.ofInt u10_) rfl (zdal_p dlB_Units_straighten_92 (i := 9) rfl) ?_
                refine zk_at hf_N3_.x (pc := 64) l_Units_57 ((hf_N3_.w hW).kr (o := 29) (by decide)) ((hf_N3_.w hW).lr (o := 29) (s := 0) (r := 30) (by decide)) ((hf_N3_.w hW).rr (o := 30) (t := 1) (n := 27) (by decide)) (by decide) (by omega) (by omega) (by decide) (Nat.le_of_ble_eq_true rfl) (zdal_p dlB_Units_straighten_92 (i := 10) rfl) (fun v17_ hv17_ hv17_a hv17_b => ?_)
                have hv3_ := hv17_
                refine zw_istore (pc := 67) (i := 4) (L2 := [some (.ref (d_ + 28)), some (.int (Int32.ofInt u1_)), some (.int (Int32.ofInt u2_)), some (.int (Int32.ofInt u10_)), some (.int (Int32.ofInt v17_)), none]) (by decide) rfl (zdal_p dlB_Units_straighten_92 (i := 11) rfl) ?_
                refine zw_aload_n (pc := 69) (n := 0) (x := (d_ + 28)) rfl (zdal_p dlB_Units_straighten_92 (i := 12) rfl) ?_
                refine zw_getF (pc := 70) f_Units_14 rfl ((hf_N3_.w hW).kr (o := 28) (by decide)) ((hf_N3_.w hW).lr (o := 28) (s := 1) (r := 29) (by decide)) (zdal_p dlB_Units_straighten_92 (i := 13) rfl) ?_
                refine zw_iload_n (pc := 73) (n := 3) (x := Int32.ofInt u10_) rfl (zdal_p dlB_Units_straighten_92 (i := 14) rfl) ?_
                refine zw_aload_n (pc := 74) (n := 0) (x := (d_ + 28)) rfl (zdal_p dlB_Units_straighten_92 (i := 15) rfl) ?_
                refine zw_getF (pc := 75) f_Units_14 rfl ((hf_N3_.w hW).kr (o := 28) (by decide)) ((hf_N3_.w hW).lr (o := 28) (s := 1) (r := 29) (by decide)) (zdal_p dlB_Units_straighten_92 (i := 16) rfl) ?_
                refine zw_iload_n (pc := 78) (n := 1) (x := Int32.ofInt u1_) rfl (zdal_p dlB_Units_straighten_92 (i := 17) rfl) ?_
                refine zk_at hf_N3_.x (pc := 79) l_Units_57 ((hf_N3_.w hW).kr (o := 29) (by decide)) ((hf_N3_.w hW).lr (o := 29) (s := 0) (r := 30) (by decide)) ((hf_N3_.w hW).rr (o := 30) (t := 1) (n := 27) (by decide)) (by decide) (by omega) (by omega) (by decide) (Nat.le_of_ble_eq_true rfl) (zdal_p dlB_Units_straighten_92 (i := 18) rfl) (fun v18_ hv18_ hv18_a hv18_b => ?_)
                have hv1_ := hv18_
                refine zk_st hf_N3_.x (pc := 82) (o := 30) (by decide) l_Units_40 ((hf_N3_.w hW).kr (o := 29) (by decide)) ((hf_N3_.w hW).lr (o := 29) (s := 0) (r := 30) (by decide)) ((hf_N3_.w hW).rr (o := 30) (t := 1) (n := 27) (by decide)) (by decide) (by omega) (by omega) (by decide) (Nat.le_of_ble_eq_true rfl) (zdal_p dlB_Units_straighten_92 (i := 19) rfl) (fun N19_ hN19_ hsN19_ => ?_)
                have hf_N19_ : zFc d_ [] [] [] [30] Mz N19_ := hf_N3_.tr hsN19_ (by decide) (by decide) (by decide) (by decide)
                have hb0_N19_ : zFc d_ [] [] [] [30] Mz N19_ := hs4_.tr hsN19_ (by decide) (by decide) (by decide) (by decide)
                have eD12_7_N19_ : ze N19_ (d_ + 12) 7 = ze N3_ (d_ + 12) 7 := hsN19_.e (by decide)
                have eD28_3_N19_ : ze N19_ (d_ + 28) 3 = ze N3_ (d_ + 28) 3 := hsN19_.e (by decide)
                have c20_ : zFir T_ d_ N19_ := zFir.fr (hf_N3_.w hW) hsN19_ c9_ (by decide)
                refine zw_aload_n (pc := 85) (n := 0) (x := (d_ + 28)) rfl (zdal_p dlB_Units_straighten_92 (i := 20) rfl) ?_
                refine zw_getF (pc := 86) f_Units_14 rfl ((hf_N19_.w hW).kr (o := 28) (by decide)) ((hf_N19_.w hW).lr (o := 28) (s := 1) (r := 29) (by decide)) (zdal_p dlB_Units_straighten_92 (i := 21) rfl) ?_
                refine zw_iload_n (pc := 89) (n := 1) (x := Int32.ofInt u1_) rfl (zdal_p dlB_Units_straighten_92 (i := 22) rfl) ?_
                refine zw_iload (pc := 90) (i := 4) (x := Int32.ofInt v17_) rfl (zdal_p dlB_Units_straighten_92 (i := 23) rfl) ?_
                refine zk_st hf_N19_.x (pc := 92) (o := 30) (by decide) l_Units_40 ((hf_N19_.w hW).kr (o := 29) (by decide)) ((hf_N19_.w hW).lr (o := 29) (s := 0) (r := 30) (by decide)) ((hf_N19_.w hW).rr (o := 30) (t := 1) (n := 27) (by decide)) (by decide) (by omega) (by omega) (by decide) (Nat.le_of_ble_eq_true rfl) (zdal_p dlB_Units_straighten_93 (i := 0) rfl) (fun N21_ hN21_ hsN21_ => ?_)
                have hf_N21_ : zFc d_ [] [] [] [30] Mz N21_ := hf_N19_.tr hsN21_ (by decide) (by decide) (by decide) (by decide)
                have hb0_N21_ : zFc d_ [] [] [] [30] Mz N21_ := hb0_N19_.tr hsN21_ (by decide) (by decide) (by decide) (by decide)
                have eD12_7_N21_ : ze N21_ (d_ + 12) 7 = ze N19_ (d_ + 12) 7 := hsN21_.e (by decide)
                have eD28_3_N21_ : ze N21_ (d_ + 28) 3 = ze N19_ (d_ + 28) 3 := hsN21_.e (by decide)
                have c22_ : zFir T_ d_ N21_ := zFir.fr (hf_N19_.w hW) hsN21_ c20_ (by decide)
                have hrw_ := zsw2 (k := u1_) (c := u10_) hN19_ hN21_ ⟨by omega, by omega⟩ ⟨by omega, by omega⟩ hv1_ hv3_ (by omega) (by omega)
                have hq0_ := zSq_0 hst_ ⟨by omega, by omega⟩ hbit_ (by omega) hrw_
                have hr0_ : v17_ = ze N21_ (d_ + 30) (u1_).toNat := (zs_get hN21_ ⟨by omega, by omega⟩).symm
                refine zw_iconst (pc := 95) (v := Int32.ofInt 0) (by decide) (zdal_p dlB_Units_straighten_93 (i := 1) rfl) ?_
                refine zw_istore (pc := 96) (i := 5) (L2 := [some (.ref (d_ + 28)), some (.int (Int32.ofInt u1_)), some (.int (Int32.ofInt u2_)), some (.int (Int32.ofInt u10_)), some (.int (Int32.ofInt v17_)), some (.int (Int32.ofInt 0))]) (by decide) rfl (zdal_p dlB_Units_straighten_93 (i := 2) rfl) ?_
                have lp_98 : ∀ (n : Nat) (u23_ : Int) (hu23_a : -2147483648 ≤ u23_) (hu23_b : u23_ < 2147483648) (N24_ : zMem) (hs25_ : zFc d_ [] [] [] [30] N21_ N24_) (i26_ : 0 ≤ u23_) (i27_ : u23_ ≤ ze Mz (d_ + 28) 3) (i28_ : zSq S_ (gF T_).length u2_ u1_ u23_ d_ N24_) (i29_ : v17_ = ze N24_ (d_ + 30) (u1_).toNat), (ze Mz (d_ + 28) 3 - u23_).toNat < n → zW l m_Units_straighten (zn Mz + 0, zw Mz + 0) N24_ 98 [some (.ref (d_ + 28)), some (.int (Int32.ofInt u1_)), some (.int (Int32.ofInt u2_)), some (.int (Int32.ofInt u10_)), some (.int (Int32.ofInt v17_)), some (.int (Int32.ofInt u23_))] [] (zqcV d_ [] [] [] [30] Mz (fun N => (zUf S_ d_ N))) := by
                  intro n
                  induction n with
                  | zero =>
                    intro u23_ hu23_a hu23_b N24_ hs25_ i26_ i27_ i28_ i29_ h0
                    exact absurd h0 (Nat.not_lt_zero _)
                  | succ n ih_98 =>
                    intro u23_ hu23_a hu23_b N24_ hs25_ i26_ i27_ i28_ i29_ hlt_98
                    have hf_N24_ : zFc d_ [] [] [] [30] Mz N24_ := hf_N21_.tr hs25_ (by decide) (by decide) (by decide) (by decide)
                    have hb0_N24_ : zFc d_ [] [] [] [30] Mz N24_ := hb0_N21_.tr hs25_ (by decide) (by decide) (by decide) (by decide)
                    have eD12_7_N24_ : ze N24_ (d_ + 12) 7 = ze N21_ (d_ + 12) 7 := hs25_.e (by decide)
                    have eD28_3_N24_ : ze N24_ (d_ + 28) 3 = ze N21_ (d_ + 28) 3 := hs25_.e (by decide)
                    have c30_ : zFir T_ d_ N24_ := zFir.fr (hf_N21_.w hW) hs25_ c22_ (by decide)
                    have hsq_ := (show zSq S_ (gF T_).length u2_ u1_ u23_ d_ N24_ by first | with_reducible assumption | assumption)
                    have hr4_ := (show v17_ = ze N24_ (d_ + 30) (u1_).toNat by first | with_reducible assumption | assumption)
                    refine zw_iload (pc := 98) (i := 5) (x := Int32.ofInt u23_) rfl (zdal_p dlB_Units_straighten_93 (i := 3) rfl) ?_
                    refine zw_aload_n (pc := 100) (n := 0) (x := (d_ + 28)) rfl (zdal_p dlB_Units_straighten_93 (i := 4) rfl) ?_
                    refine zk_getI (pc := 101) f_Units_31 rfl ((hf_N24_.w hW).kr (o := 28) (by decide)) (zdal_p dlB_Units_straighten_93 (i := 5) rfl) ?_
                    rw [hf_N24_.e (by decide)]
                    refine zr_icmp_ge (pc := 104) (tgt := 158) ⟨hu23_a, hu23_b⟩ ⟨(ze_r Mz (d_ + 28) 3).1, (ze_r Mz (d_ + 28) 3).2⟩ (by decide) (zdal_p dlB_Units_straighten_93 (i := 6) rfl) (fun hc_104 => ?_) (fun hc_104 => ?_)
                    · skip
                      refine zr_iinc (pc := 158) (i := 1) (a := u1_) (n := 1) (L2 := [some (.ref (d_ + 28)), some (.int (Int32.ofInt (u1_ + 1))), some (.int (Int32.ofInt u2_)), some (.int (Int32.ofInt u10_)), some (.int (Int32.ofInt v17_)), some (.int (Int32.ofInt u23_))]) rfl (by decide) rfl (zdal_p dlB_Units_straighten_94 (i := 7) rfl) ?_
                      refine zr_iinc (pc := 161) (i := 2) (a := u2_) (n := 1) (L2 := [some (.ref (d_ + 28)), some (.int (Int32.ofInt (u1_ + 1))), some (.int (Int32.ofInt (u2_ + 1))), some (.int (Int32.ofInt u10_)), some (.int (Int32.ofInt v17_)), some (.int (Int32.ofInt u23_))]) rfl (by decide) rfl (zdal_p dlB_Units_straighten_94 (i := 8) rfl) ?_
                      refine zw_goto (pc := 164) (tgt := 4) (by decide) (zdal_p dlB_Units_straighten_94 (i := 9) rfl) ?_
                      have hsb_ : zyT S_ (gF T_).length (u2_ + 1) (u1_ + 1) d_ N24_ := by first | exact zSq_e hsq_ ⟨by omega, by omega⟩ (by omega) | exact zyT_n hst_ (by omega) hnn_
                      refine zW_le [some (.ref (d_ + 28)), some (.int (Int32.ofInt (u1_ + 1))), some (.int (Int32.ofInt (u2_ + 1))), none, none, none] (⟨rfl, rfl, rfl, trivial⟩) ?_
                      exact ih_4 (u1_ + 1) (by omega) (by omega) (u2_ + 1) (by omega) (by omega) N24_ hb0_N24_ (show 0 ≤ (u2_ + 1) by first | with_reducible assumption | assumption | omega) (show (u2_ + 1) ≤ ((gF T_).length : Int) by first | with_reducible assumption | assumption | omega) (show 0 ≤ (u1_ + 1) ∧ (u1_ + 1) ≤ ze Mz (d_ + 28) 3 by first | with_reducible assumption | assumption | omega) (show zyT S_ (gF T_).length (u2_ + 1) (u1_ + 1) d_ N24_ by exact hsb_) (by omega)
                    · skip
                      refine zw_iload (pc := 107) (i := 5) (x := Int32.ofInt u23_) rfl (zdal_p dlB_Units_straighten_93 (i := 7) rfl) ?_
                      refine zw_iload_n (pc := 109) (n := 1) (x := Int32.ofInt u1_) rfl (zdal_p dlB_Units_straighten_93 (i := 8) rfl) ?_
                      refine zr_icmp_eq (pc := 110) (tgt := 152) ⟨hu23_a, hu23_b⟩ ⟨hu1_a, hu1_b⟩ (by decide) (zdal_p dlB_Units_straighten_93 (i := 9) rfl) (fun hc_110 => ?_) (fun hc_110 => ?_)
                      · skip
                        refine zr_iinc (pc := 152) (i := 5) (a := u23_) (n := 1) (L2 := [some (.ref (d_ + 28)), some (.int (Int32.ofInt u1_)), some (.int (Int32.ofInt u2_)), some (.int (Int32.ofInt u10_)), some (.int (Int32.ofInt v17_)), some (.int (Int32.ofInt (u23_ + 1)))]) rfl (by decide) rfl (zdal_p dlB_Units_straighten_94 (i := 5) rfl) ?_
                        refine zw_goto (pc := 155) (tgt := 98) (by decide) (zdal_p dlB_Units_straighten_94 (i := 6) rfl) ?_
                        have hsb_ : zSq S_ (gF T_).length u2_ u1_ (u23_ + 1) d_ N24_ := by first | exact hsn_ | exact zSq_k hsq_ (by omega) (Or.inl (by omega)) | exact zSq_k hsq_ (by omega) (Or.inr (hbt_.mp (by omega)))
                        exact ih_98 (u23_ + 1) (by omega) (by omega) N24_ hs25_ (show 0 ≤ (u23_ + 1) by first | with_reducible assumption | assumption | omega) (show (u23_ + 1) ≤ ze Mz (d_ + 28) 3 by first | with_reducible assumption | assumption | omega) (show zSq S_ (gF T_).length u2_ u1_ (u23_ + 1) d_ N24_ by exact hsb_) (show v17_ = ze N24_ (d_ + 30) (u1_).toNat by first | exact hr5_ | exact hr4_) (by omega)
                      · skip
                        refine zw_aload_n (pc := 113) (n := 0) (x := (d_ + 28)) rfl (zdal_p dlB_Units_straighten_93 (i := 10) rfl) ?_
                        refine zw_getF (pc := 114) f_Units_14 rfl ((hf_N24_.w hW).kr (o := 28) (by decide)) ((hf_N24_.w hW).lr (o := 28) (s := 1) (r := 29) (by decide)) (zdal_p dlB_Units_straighten_93 (i := 11) rfl) ?_
                        refine zw_iload (pc := 117) (i := 5) (x := Int32.ofInt u23_) rfl (zdal_p dlB_Units_straighten_93 (i := 12) rfl) ?_
                        refine zk_at hf_N24_.x (pc := 119) l_Units_57 ((hf_N24_.w hW).kr (o := 29) (by decide)) ((hf_N24_.w hW).lr (o := 29) (s := 0) (r := 30) (by decide)) ((hf_N24_.w hW).rr (o := 30) (t := 1) (n := 27) (by decide)) (by decide) (by omega) (by omega) (by decide) (Nat.le_of_ble_eq_true rfl) (zdal_p dlB_Units_straighten_93 (i := 13) rfl) (fun v31_ hv31_ hv31_a hv31_b => ?_)
                        have hrg_ := hsq_.1.1.2.1 (u23_).toNat (by omega)
                        rw [← hv31_] at hrg_
                        have hzu_ : zub d_ N24_ (u23_).toNat = (v31_).toNat := by rw [hv31_]; rfl
                        refine zw_aload_n (pc := 122) (n := 0) (x := (d_ + 28)) rfl (zdal_p dlB_Units_straighten_93 (i := 14) rfl) ?_
                        refine zw_iload_n (pc := 123) (n := 2) (x := Int32.ofInt u2_) rfl (zdal_p dlB_Units_straighten_93 (i := 15) rfl) ?_
                        refine zk_callV hf_N24_.x (pc := 124) [.int (Int32.ofInt u2_)] [.int (Int32.ofInt v31_)] l_Units_80 (u_Units_bitOfU l d_ N24_ (hf_N24_.w hW) u2_ hu2_a hu2_b T_ hT_ c30_ (show 0 ≤ u2_ by first | with_reducible assumption | assumption | omega) (show u2_ < ((gF T_).length : Int) by first | with_reducible assumption | assumption | omega)) rfl rfl ((hf_N24_.w hW).kr (o := 28) (by decide)) (by decide) (by decide) (Nat.le_of_ble_eq_true rfl) (zdal_p dlB_Units_straighten_93 (i := 16) rfl) ?_
                        rintro _ N32_ ⟨v33_, rfl, ⟨hv33_a, hv33_b⟩, hsN32_, ⟨hp0_N32_, hp1_N32_, hp2_N32_⟩⟩
                        obtain rfl := hsN32_.eq.symm
                        show zW l m_Units_straighten (zn Mz + 0, zw Mz + 0) N24_ 127 [some (.ref (d_ + 28)), some (.int (Int32.ofInt u1_)), some (.int (Int32.ofInt u2_)), some (.int (Int32.ofInt u10_)), some (.int (Int32.ofInt v17_)), some (.int (Int32.ofInt u23_))] [.int (Int32.ofInt v33_), .int (Int32.ofInt v31_)] _
                        have hbo_ := hp0_N32_
                        refine zr_iand (pc := 127) (zdal_p dlB_Units_straighten_93 (i := 17) rfl) ?_
                        have hr34_ := zand_r v31_ v33_
                        have hbt_ := zubt (F := (gF T_).length) (s := u2_) hrg_ hF27_ ⟨by omega, by omega⟩ hbo_ hzu_
                        refine zr_if_eq (pc := 128) (tgt := 152) ⟨(by omega), (by omega)⟩ (by decide) (zdal_p dlB_Units_straighten_93 (i := 18) rfl) (fun hc_128 => ?_) (fun hc_128 => ?_)
                        · skip
                          refine zr_iinc (pc := 152) (i := 5) (a := u23_) (n := 1) (L2 := [some (.ref (d_ + 28)), some (.int (Int32.ofInt u1_)), some (.int (Int32.ofInt u2_)), some (.int (Int32.ofInt u10_)), some (.int (Int32.ofInt v17_)), some (.int (Int32.ofInt (u23_ + 1)))]) rfl (by decide) rfl (zdal_p dlB_Units_straighten_94 (i := 5) rfl) ?_
                          refine zw_goto (pc := 155) (tgt := 98) (by decide) (zdal_p dlB_Units_straighten_94 (i := 6) rfl) ?_
                          have hsb_ : zSq S_ (gF T_).length u2_ u1_ (u23_ + 1) d_ N24_ := by first | exact hsn_ | exact zSq_k hsq_ (by omega) (Or.inl (by omega)) | exact zSq_k hsq_ (by omega) (Or.inr (hbt_.mp (by omega)))
                          exact ih_98 (u23_ + 1) (by omega) (by omega) N24_ hs25_ (show 0 ≤ (u23_ + 1) by first | with_reducible assumption | assumption | omega) (show (u23_ + 1) ≤ ze Mz (d_ + 28) 3 by first | with_reducible assumption | assumption | omega) (show zSq S_ (gF T_).length u2_ u1_ (u23_ + 1) d_ N24_ by exact hsb_) (show v17_ = ze N24_ (d_ + 30) (u1_).toNat by first | exact hr5_ | exact hr4_) (by omega)
                        · skip
                          refine zw_aload_n (pc := 131) (n := 0) (x := (d_ + 28)) rfl (zdal_p dlB_Units_straighten_93 (i := 19) rfl) ?_
                          refine zw_getF (pc := 132) f_Units_14 rfl ((hf_N24_.w hW).kr (o := 28) (by decide)) ((hf_N24_.w hW).lr (o := 28) (s := 1) (r := 29) (by decide)) (zdal_p dlB_Units_straighten_93 (i := 20) rfl) ?_
                          refine zw_iload (pc := 135) (i := 5) (x := Int32.ofInt u23_) rfl (zdal_p dlB_Units_straighten_93 (i := 21) rfl) ?_
                          refine zw_aload_n (pc := 137) (n := 0) (x := (d_ + 28)) rfl (zdal_p dlB_Units_straighten_93 (i := 22) rfl) ?_
                          refine zw_getF (pc := 138) f_Units_14 rfl ((hf_N24_.w hW).kr (o := 28) (by decide)) ((hf_N24_.w hW).lr (o := 28) (s := 1) (r := 29) (by decide)) (zdal_p dlB_Units_straighten_93 (i := 23) rfl) ?_
                          refine zw_iload (pc := 141) (i := 5) (x := Int32.ofInt u23_) rfl (zdal_p dlB_Units_straighten_94 (i := 0) rfl) ?_
                          refine zk_at hf_N24_.x (pc := 143) l_Units_57 ((hf_N24_.w hW).kr (o := 29) (by decide)) ((hf_N24_.w hW).lr (o := 29) (s := 0) (r := 30) (by decide)) ((hf_N24_.w hW).rr (o := 30) (t := 1) (n := 27) (by decide)) (by decide) (by omega) (by omega) (by decide) (Nat.le_of_ble_eq_true rfl) (zdal_p dlB_Units_straighten_94 (i := 1) rfl) (fun v35_ hv35_ hv35_a hv35_b => ?_)
                          have hv5_ := hv35_
                          have hbs_ : (zub d_ N24_ (u23_).toNat).testBit (((gF T_).length : Int) - 1 - u2_).toNat = true := by cases hz_ : (zub d_ N24_ (u23_).toNat).testBit (((gF T_).length : Int) - 1 - u2_).toNat; exact absurd (hbt_.mpr hz_) (by omega); rfl
                          refine zw_iload (pc := 146) (i := 4) (x := Int32.ofInt v17_) rfl (zdal_p dlB_Units_straighten_94 (i := 2) rfl) ?_
                          refine zr_ixor (pc := 148) (zdal_p dlB_Units_straighten_94 (i := 3) rfl) ?_
                          have hr36_ := zxor_r v35_ v17_
                          refine zk_st hf_N24_.x (pc := 149) (o := 30) (by decide) l_Units_40 ((hf_N24_.w hW).kr (o := 29) (by decide)) ((hf_N24_.w hW).lr (o := 29) (s := 0) (r := 30) (by decide)) ((hf_N24_.w hW).rr (o := 30) (t := 1) (n := 27) (by decide)) (by decide) (by omega) (by omega) (by decide) (Nat.le_of_ble_eq_true rfl) (zdal_p dlB_Units_straighten_94 (i := 4) rfl) (fun N37_ hN37_ hsN37_ => ?_)
                          have hf_N37_ : zFc d_ [] [] [] [30] Mz N37_ := hf_N24_.tr hsN37_ (by decide) (by decide) (by decide) (by decide)
                          have hb0_N37_ : zFc d_ [] [] [] [30] Mz N37_ := hb0_N24_.tr hsN37_ (by decide) (by decide) (by decide) (by decide)
                          have hb1_N37_ : zFc d_ [] [] [] [30] N21_ N37_ := hs25_.tr hsN37_ (by decide) (by decide) (by decide) (by decide)
                          have eD12_7_N37_ : ze N37_ (d_ + 12) 7 = ze N24_ (d_ + 12) 7 := hsN37_.e (by decide)
                          have eD28_3_N37_ : ze N37_ (d_ + 28) 3 = ze N24_ (d_ + 28) 3 := hsN37_.e (by decide)
                          have c38_ : zFir T_ d_ N37_ := zFir.fr (hf_N24_.w hW) hsN37_ c30_ (by decide)
                          have hsn_ := zSq_s hsq_ ⟨by omega, by omega⟩ (by omega) (by omega) (by omega) hbs_ (by omega) (fun i_ hi_ => zs_oth hN37_ (j := i_) (by omega)) (by rw [zs_get hN37_ ⟨by omega, by omega⟩, hv5_, hr4_])
                          have hr5_ : v17_ = ze N37_ (d_ + 30) (u1_).toNat := hr4_.trans (zs_oth hN37_ (j := (u1_).toNat) (by omega)).symm
                          refine zr_iinc (pc := 152) (i := 5) (a := u23_) (n := 1) (L2 := [some (.ref (d_ + 28)), some (.int (Int32.ofInt u1_)), some (.int (Int32.ofInt u2_)), some (.int (Int32.ofInt u10_)), some (.int (Int32.ofInt v17_)), some (.int (Int32.ofInt (u23_ + 1)))]) rfl (by decide) rfl (zdal_p dlB_Units_straighten_94 (i := 5) rfl) ?_
                          refine zw_goto (pc := 155) (tgt := 98) (by decide) (zdal_p dlB_Units_straighten_94 (i := 6) rfl) ?_
                          have hsb_ : zSq S_ (gF T_).length u2_ u1_ (u23_ + 1) d_ N37_ := by first | exact hsn_ | exact zSq_k hsq_ (by omega) (Or.inl (by omega)) | exact zSq_k hsq_ (by omega) (Or.inr (hbt_.mp (by omega)))
                          exact ih_98 (u23_ + 1) (by omega) (by omega) N37_ hb1_N37_ (show 0 ≤ (u23_ + 1) by first | with_reducible assumption | assumption | omega) (show (u23_ + 1) ≤ ze Mz (d_ + 28) 3 by first | with_reducible assumption | assumption | omega) (show zSq S_ (gF T_).length u2_ u1_ (u23_ + 1) d_ N37_ by exact hsb_) (show v17_ = ze N37_ (d_ + 30) (u1_).toNat by first | exact hr5_ | exact hr4_) (by omega)
                exact lp_98 _ 0 (by decide) (by decide) N21_ zFc.rf (show 0 ≤ (0 : Int) by first | with_reducible assumption | assumption | omega) (show (0 : Int) ≤ ze Mz (d_ + 28) 3 by first | with_reducible assumption | assumption | omega) (show zSq S_ (gF T_).length u2_ u1_ (0 : Int) d_ N21_ by exact hq0_) (show v17_ = ze N21_ (d_ + 30) (u1_).toNat by exact hr0_) (Nat.lt_succ_self _)
              · skip
                have hnn_ : ∀ i : Nat, u1_ ≤ i → (i : Int) < ze N3_ (d_ + 28) 3 → (zub d_ N3_ i).testBit (((gF T_).length : Int) - 1 - u2_).toNat = false := by rcases hj48_ with q_ | q_; exact fun i_ h1_ h2_ => q_.2 i_ h1_ (by omega); (exfalso; omega)
                refine zw_goto (pc := 56) (tgt := 161) (by decide) (zdal_p dlB_Units_straighten_92 (i := 6) rfl) ?_
                refine zr_iinc (pc := 161) (i := 2) (a := u2_) (n := 1) (L2 := [some (.ref (d_ + 28)), some (.int (Int32.ofInt u1_)), some (.int (Int32.ofInt (u2_ + 1))), some (.int (Int32.ofInt u10_)), none, none]) rfl (by decide) rfl (zdal_p dlB_Units_straighten_94 (i := 8) rfl) ?_
                refine zw_goto (pc := 164) (tgt := 4) (by decide) (zdal_p dlB_Units_straighten_94 (i := 9) rfl) ?_
                have hsb_ : zyT S_ (gF T_).length (u2_ + 1) u1_ d_ N3_ := by first | exact zSq_e hsq_ ⟨by omega, by omega⟩ (by omega) | exact zyT_n hst_ (by omega) hnn_
                refine zW_le [some (.ref (d_ + 28)), some (.int (Int32.ofInt u1_)), some (.int (Int32.ofInt (u2_ + 1))), none, none, none] (⟨rfl, rfl, rfl, trivial⟩) ?_
                exact ih_4 u1_ hu1_a hu1_b (u2_ + 1) (by omega) (by omega) N3_ hs4_ (show 0 ≤ (u2_ + 1) by first | with_reducible assumption | assumption | omega) (show (u2_ + 1) ≤ ((gF T_).length : Int) by first | with_reducible assumption | assumption | omega) (show 0 ≤ u1_ ∧ u1_ ≤ ze Mz (d_ + 28) 3 by first | with_reducible assumption | assumption | omega) (show zyT S_ (gF T_).length (u2_ + 1) u1_ d_ N3_ by exact hsb_) (by omega)
            refine zr_icmp_ge (pc := 22) (tgt := 48) ⟨hu10_a, hu10_b⟩ ⟨(ze_r Mz (d_ + 28) 3).1, (ze_r Mz (d_ + 28) 3).2⟩ (by decide) (zdal_p dlB_Units_straighten_91 (i := 14) rfl) (fun hc_22 => ?_) (fun hc_22 => ?_)
            · skip
              exact j_48 (show u1_ ≤ u10_ by first | with_reducible assumption | assumption | omega) (show u10_ ≤ ze Mz (d_ + 28) 3 by first | with_reducible assumption | assumption | omega) (show ((u10_ = ze Mz (d_ + 28) 3 ∧ (∀ i : Nat, u1_ ≤ i → (i : Int) < u10_ → (zub d_ N3_ i).testBit (((gF T_).length : Int) - 1 - u2_).toNat = false)) ∨ (u10_ < ze Mz (d_ + 28) 3 ∧ (zub d_ N3_ (u10_).toNat).testBit (((gF T_).length : Int) - 1 - u2_).toNat = true)) by first | exact Or.inr ⟨by omega, hb2_ (by omega)⟩ | exact Or.inl ⟨by omega, hno_⟩)
            · skip
              refine zw_aload_n (pc := 25) (n := 0) (x := (d_ + 28)) rfl (zdal_p dlB_Units_straighten_91 (i := 15) rfl) ?_
              refine zw_getF (pc := 26) f_Units_14 rfl ((hf_N3_.w hW).kr (o := 28) (by decide)) ((hf_N3_.w hW).lr (o := 28) (s := 1) (r := 29) (by decide)) (zdal_p dlB_Units_straighten_91 (i := 16) rfl) ?_
              refine zw_iload_n (pc := 29) (n := 3) (x := Int32.ofInt u10_) rfl (zdal_p dlB_Units_straighten_91 (i := 17) rfl) ?_
              refine zk_at hf_N3_.x (pc := 30) l_Units_57 ((hf_N3_.w hW).kr (o := 29) (by decide)) ((hf_N3_.w hW).lr (o := 29) (s := 0) (r := 30) (by decide)) ((hf_N3_.w hW).rr (o := 30) (t := 1) (n := 27) (by decide)) (by decide) (by omega) (by omega) (by decide) (Nat.le_of_ble_eq_true rfl) (zdal_p dlB_Units_straighten_91 (i := 18) rfl) (fun v39_ hv39_ hv39_a hv39_b => ?_)
              have hrg_ := hst_.1.2.1 (u10_).toNat (by omega)
              rw [← hv39_] at hrg_
              have hzu_ : zub d_ N3_ (u10_).toNat = (v39_).toNat := by rw [hv39_]; rfl
              refine zw_aload_n (pc := 33) (n := 0) (x := (d_ + 28)) rfl (zdal_p dlB_Units_straighten_91 (i := 19) rfl) ?_
              refine zw_iload_n (pc := 34) (n := 2) (x := Int32.ofInt u2_) rfl (zdal_p dlB_Units_straighten_91 (i := 20) rfl) ?_
              refine zk_callV hf_N3_.x (pc := 35) [.int (Int32.ofInt u2_)] [.int (Int32.ofInt v39_)] l_Units_80 (u_Units_bitOfU l d_ N3_ (hf_N3_.w hW) u2_ hu2_a hu2_b T_ hT_ c9_ (show 0 ≤ u2_ by first | with_reducible assumption | assumption | omega) (show u2_ < ((gF T_).length : Int) by first | with_reducible assumption | assumption | omega)) rfl rfl ((hf_N3_.w hW).kr (o := 28) (by decide)) (by decide) (by decide) (Nat.le_of_ble_eq_true rfl) (zdal_p dlB_Units_straighten_91 (i := 21) rfl) ?_
              rintro _ N40_ ⟨v41_, rfl, ⟨hv41_a, hv41_b⟩, hsN40_, ⟨hp0_N40_, hp1_N40_, hp2_N40_⟩⟩
              obtain rfl := hsN40_.eq.symm
              show zW l m_Units_straighten (zn Mz + 0, zw Mz + 0) N3_ 38 [some (.ref (d_ + 28)), some (.int (Int32.ofInt u1_)), some (.int (Int32.ofInt u2_)), some (.int (Int32.ofInt u10_)), none, none] [.int (Int32.ofInt v41_), .int (Int32.ofInt v39_)] _
              have hbo_ := hp0_N40_
              refine zr_iand (pc := 38) (zdal_p dlB_Units_straighten_91 (i := 22) rfl) ?_
              have hr42_ := zand_r v39_ v41_
              have hbt_ := zubt (F := (gF T_).length) (s := u2_) hrg_ hF27_ ⟨by omega, by omega⟩ hbo_ hzu_
              have hb2_ : ∀ z_ : (zand v39_ v41_) ≠ 0, (zub d_ N3_ (u10_).toNat).testBit (((gF T_).length : Int) - 1 - u2_).toNat = true := fun z_ => by cases hz_ : (zub d_ N3_ (u10_).toNat).testBit (((gF T_).length : Int) - 1 - u2_).toNat; exact absurd (hbt_.mpr hz_) z_; rfl
              refine zr_if_ne (pc := 39) (tgt := 48) ⟨(by omega), (by omega)⟩ (by decide) (zdal_p dlB_Units_straighten_91 (i := 23) rfl) (fun hc_39 => ?_) (fun hc_39 => ?_)
              · skip
                exact j_48 (show u1_ ≤ u10_ by first | with_reducible assumption | assumption | omega) (show u10_ ≤ ze Mz (d_ + 28) 3 by first | with_reducible assumption | assumption | omega) (show ((u10_ = ze Mz (d_ + 28) 3 ∧ (∀ i : Nat, u1_ ≤ i → (i : Int) < u10_ → (zub d_ N3_ i).testBit (((gF T_).length : Int) - 1 - u2_).toNat = false)) ∨ (u10_ < ze Mz (d_ + 28) 3 ∧ (zub d_ N3_ (u10_).toNat).testBit (((gF T_).length : Int) - 1 - u2_).toNat = true)) by first | exact Or.inr ⟨by omega, hb2_ (by omega)⟩ | exact Or.inl ⟨by omega, hno_⟩)
              · skip
                have hb0_ := hbt_.mp (by omega)
                have hnx_ : (∀ i : Nat, u1_ ≤ i → (i : Int) < u10_ + 1 → (zub d_ N3_ i).testBit (((gF T_).length : Int) - 1 - u2_).toNat = false) := fun i_ h1_ h2_ => by by_cases g_ : (i_ : Int) = u10_; (rw [show i_ = (u10_).toNat by omega]; exact hb0_); exact hno_ i_ h1_ (by omega)
                refine zr_iinc (pc := 42) (i := 3) (a := u10_) (n := 1) (L2 := [some (.ref (d_ + 28)), some (.int (Int32.ofInt u1_)), some (.int (Int32.ofInt u2_)), some (.int (Int32.ofInt (u10_ + 1))), none, none]) rfl (by decide) rfl (zdal_p dlB_Units_straighten_92 (i := 0) rfl) ?_
                refine zw_goto (pc := 45) (tgt := 17) (by decide) (zdal_p dlB_Units_straighten_92 (i := 1) rfl) ?_
                exact ih_17 (u10_ + 1) (by omega) (by omega) (show u1_ ≤ (u10_ + 1) by first | with_reducible assumption | assumption | omega) (show (u10_ + 1) ≤ ze Mz (d_ + 28) 3 by first | with_reducible assumption | assumption | omega) (show (∀ i : Nat, u1_ ≤ i → (i : Int) < (u10_ + 1) → (zub d_ N3_ i).testBit (((gF T_).length : Int) - 1 - u2_).toNat = false) by exact hnx_) (by omega)
        exact lp_17 _ u1_ hu1_a hu1_b (show u1_ ≤ u1_ by first | with_reducible assumption | assumption | omega) (show u1_ ≤ ze Mz (d_ + 28) 3 by first | with_reducible assumption | assumption | omega) (show (∀ i : Nat, u1_ ≤ i → (i : Int) < u1_ → (zub d_ N3_ i).testBit (((gF T_).length : Int) - 1 - u2_).toNat = false) by exact fun i_ h1_ h2_ => absurd h1_ (by omega)) (Nat.lt_succ_self _)
  exact lp_4 _ 0 (by decide) (by decide) 0 (by decide) (by decide) Mz zFc.rf (show 0 ≤ (0 : Int) by first | with_reducible assumption | assumption | omega) (show (0 : Int) ≤ ((gF T_).length : Int) by first | with_reducible assumption | assumption | omega) (show 0 ≤ (0 : Int) ∧ (0 : Int) ≤ ze Mz (d_ + 28) 3 by first | with_reducible assumption | assumption | omega) (show zyT S_ (gF T_).length (0 : Int) (0 : Int) d_ Mz by exact zyT_0 p1_ hS_) (Nat.lt_succ_self _)
