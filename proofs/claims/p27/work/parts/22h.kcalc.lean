set_option maxHeartbeats 4000000 in
theorem u_Calc_begin (l : Launch) (d_ : Nat) (Mz : zMem) (hW : zKW d_ Mz) (F_ : Nat) (K_ : Nat → Nat → Int) (hA_ : zTA F_ K_) : zC l m_Calc_begin 0 0 [.ref (d_ + 33)] Mz (zqcV d_ [] [] [(33, 2), (33, 3), (33, 4), (33, 5), (33, 6)] [] Mz (fun N => zCI F_ K_ d_ 0 N ∧ zkS d_ N = [] ∧ zkW F_ d_ N = [] ∧ zkG d_ N = false)) := by
  refine zC_of (L0 := [some (.ref (d_ + 33))]) md_Calc_begin (Nat.le_of_ble_eq_true rfl) rfl ?_ zQ0
  have hf : zFc d_ [] [] [(33, 2), (33, 3), (33, 4), (33, 5), (33, 6)] [] Mz Mz := zFc.rf
  have r_D33_2 := ze_r Mz (d_ + 33) 2
  have r_D33_3 := ze_r Mz (d_ + 33) 3
  have r_D33_4 := ze_r Mz (d_ + 33) 4
  have r_D33_5 := ze_r Mz (d_ + 33) 5
  have r_D33_6 := ze_r Mz (d_ + 33) 6
  refine zw_aload_n (pc := 0) (n := 0) (x := (d_ + 33)) rfl (zdal_p dlA_Calc_begin_113 (i := 0) rfl) ?_
  refine zw_iconst (pc := 1) (v := Int32.ofInt 0) (by decide) (zdal_p dlA_Calc_begin_113 (i := 1) rfl) ?_
  refine zk_putR (pc := 2) (o := 33) (by decide) f_Calc_24 rfl rfl ((hf.w hW).kr (o := 33) (by decide)) ⟨by omega, by omega⟩ rfl rfl (zdal_p dlA_Calc_begin_113 (i := 2) rfl) (fun N1_ hsN1_ hvN1_ => ?_)
  have hf_N1_ : zFc d_ [] [] [(33, 2), (33, 3), (33, 4), (33, 5), (33, 6)] [] Mz N1_ := hf.tr hsN1_ (by decide) (by decide) (by decide) (by decide)
  have rD33_2_N1_ := ze_r N1_ (d_ + 33) 2
  have eD33_3_N1_ : ze N1_ (d_ + 33) 3 = ze Mz (d_ + 33) 3 := hsN1_.e (by decide)
  have eD33_4_N1_ : ze N1_ (d_ + 33) 4 = ze Mz (d_ + 33) 4 := hsN1_.e (by decide)
  have eD33_5_N1_ : ze N1_ (d_ + 33) 5 = ze Mz (d_ + 33) 5 := hsN1_.e (by decide)
  have eD33_6_N1_ : ze N1_ (d_ + 33) 6 = ze Mz (d_ + 33) 6 := hsN1_.e (by decide)
  refine zw_aload_n (pc := 5) (n := 0) (x := (d_ + 33)) rfl (zdal_p dlA_Calc_begin_113 (i := 3) rfl) ?_
  refine zw_iconst (pc := 6) (v := Int32.ofInt 0) (by decide) (zdal_p dlA_Calc_begin_113 (i := 4) rfl) ?_
  refine zk_putR (pc := 7) (o := 33) (by decide) f_Calc_28 rfl rfl ((hf_N1_.w hW).kr (o := 33) (by decide)) ⟨by omega, by omega⟩ rfl rfl (zdal_p dlA_Calc_begin_113 (i := 5) rfl) (fun N2_ hsN2_ hvN2_ => ?_)
  have hf_N2_ : zFc d_ [] [] [(33, 2), (33, 3), (33, 4), (33, 5), (33, 6)] [] Mz N2_ := hf_N1_.tr hsN2_ (by decide) (by decide) (by decide) (by decide)
  have eD33_2_N2_ : ze N2_ (d_ + 33) 2 = ze N1_ (d_ + 33) 2 := hsN2_.e (by decide)
  have rD33_3_N2_ := ze_r N2_ (d_ + 33) 3
  have eD33_4_N2_ : ze N2_ (d_ + 33) 4 = ze N1_ (d_ + 33) 4 := hsN2_.e (by decide)
  have eD33_5_N2_ : ze N2_ (d_ + 33) 5 = ze N1_ (d_ + 33) 5 := hsN2_.e (by decide)
  have eD33_6_N2_ : ze N2_ (d_ + 33) 6 = ze N1_ (d_ + 33) 6 := hsN2_.e (by decide)
  refine zw_aload_n (pc := 10) (n := 0) (x := (d_ + 33)) rfl (zdal_p dlA_Calc_begin_113 (i := 6) rfl) ?_
  refine zw_iconst (pc := 11) (v := Int32.ofInt 0) (by decide) (zdal_p dlA_Calc_begin_113 (i := 7) rfl) ?_
  refine zk_putR (pc := 12) (o := 33) (by decide) f_Calc_31 rfl rfl ((hf_N2_.w hW).kr (o := 33) (by decide)) ⟨by omega, by omega⟩ rfl rfl (zdal_p dlA_Calc_begin_113 (i := 8) rfl) (fun N3_ hsN3_ hvN3_ => ?_)
  have hf_N3_ : zFc d_ [] [] [(33, 2), (33, 3), (33, 4), (33, 5), (33, 6)] [] Mz N3_ := hf_N2_.tr hsN3_ (by decide) (by decide) (by decide) (by decide)
  have eD33_2_N3_ : ze N3_ (d_ + 33) 2 = ze N2_ (d_ + 33) 2 := hsN3_.e (by decide)
  have eD33_3_N3_ : ze N3_ (d_ + 33) 3 = ze N2_ (d_ + 33) 3 := hsN3_.e (by decide)
  have rD33_4_N3_ := ze_r N3_ (d_ + 33) 4
  have eD33_5_N3_ : ze N3_ (d_ + 33) 5 = ze N2_ (d_ + 33) 5 := hsN3_.e (by decide)
  have eD33_6_N3_ : ze N3_ (d_ + 33) 6 = ze N2_ (d_ + 33) 6 := hsN3_.e (by decide)
  refine zw_aload_n (pc := 15) (n := 0) (x := (d_ + 33)) rfl (zdal_p dlA_Calc_begin_113 (i := 9) rfl) ?_
  refine zw_iconst (pc := 16) (v := Int32.ofInt 0) (by decide) (zdal_p dlA_Calc_begin_113 (i := 10) rfl) ?_
  refine zk_putR (pc := 17) (o := 33) (by decide) f_Calc_34 rfl rfl ((hf_N3_.w hW).kr (o := 33) (by decide)) ⟨by omega, by omega⟩ rfl rfl (zdal_p dlA_Calc_begin_113 (i := 11) rfl) (fun N4_ hsN4_ hvN4_ => ?_)
  have hf_N4_ : zFc d_ [] [] [(33, 2), (33, 3), (33, 4), (33, 5), (33, 6)] [] Mz N4_ := hf_N3_.tr hsN4_ (by decide) (by decide) (by decide) (by decide)
  have eD33_2_N4_ : ze N4_ (d_ + 33) 2 = ze N3_ (d_ + 33) 2 := hsN4_.e (by decide)
  have eD33_3_N4_ : ze N4_ (d_ + 33) 3 = ze N3_ (d_ + 33) 3 := hsN4_.e (by decide)
  have eD33_4_N4_ : ze N4_ (d_ + 33) 4 = ze N3_ (d_ + 33) 4 := hsN4_.e (by decide)
  have rD33_5_N4_ := ze_r N4_ (d_ + 33) 5
  have eD33_6_N4_ : ze N4_ (d_ + 33) 6 = ze N3_ (d_ + 33) 6 := hsN4_.e (by decide)
  refine zw_aload_n (pc := 20) (n := 0) (x := (d_ + 33)) rfl (zdal_p dlA_Calc_begin_113 (i := 12) rfl) ?_
  refine zw_iconst (pc := 21) (v := Int32.ofInt 0) (by decide) (zdal_p dlA_Calc_begin_113 (i := 13) rfl) ?_
  refine zk_putR (pc := 22) (o := 33) (by decide) f_Calc_37 rfl rfl ((hf_N4_.w hW).kr (o := 33) (by decide)) ⟨by omega, by omega⟩ (z_narB (by omega)) (z_fitB (by omega)) (zdal_p dlA_Calc_begin_113 (i := 14) rfl) (fun N5_ hsN5_ hvN5_ => ?_)
  have hf_N5_ : zFc d_ [] [] [(33, 2), (33, 3), (33, 4), (33, 5), (33, 6)] [] Mz N5_ := hf_N4_.tr hsN5_ (by decide) (by decide) (by decide) (by decide)
  have eD33_2_N5_ : ze N5_ (d_ + 33) 2 = ze N4_ (d_ + 33) 2 := hsN5_.e (by decide)
  have eD33_3_N5_ : ze N5_ (d_ + 33) 3 = ze N4_ (d_ + 33) 3 := hsN5_.e (by decide)
  have eD33_4_N5_ : ze N5_ (d_ + 33) 4 = ze N4_ (d_ + 33) 4 := hsN5_.e (by decide)
  have eD33_5_N5_ : ze N5_ (d_ + 33) 5 = ze N4_ (d_ + 33) 5 := hsN5_.e (by decide)
  have rD33_6_N5_ := ze_r N5_ (d_ + 33) 6
  obtain ⟨k1_, k2_, k3_, k4_⟩ := zCI_0 (d := d_) (F := F_) (K := K_) (Mz := N5_) (by omega) (by omega) (by omega) (by omega) (by omega)
  exact zk_vret (pc := 25) rfl hf_N5_ ⟨k1_, (show zkS d_ N5_ = [] by first | assumption | omega), (show zkW F_ d_ N5_ = [] by first | assumption | omega), (show zkG d_ N5_ = false by first | assumption | omega)⟩ (zdal_p dlA_Calc_begin_113 (i := 15) rfl)
set_option maxHeartbeats 4000000 in
theorem u_Calc_topShelf (l : Launch) (d_ : Nat) (Mz : zMem) (hW : zKW d_ Mz) (p0_ : 0 ≤ ze Mz (d_ + 33) 3) (p1_ : ze Mz (d_ + 33) 3 ≤ 18) : zC l m_Calc_topShelf 0 0 [.ref (d_ + 33)] Mz (zqcI d_ [] [] [] [] Mz (fun v N => v = 20 + ze Mz (d_ + 33) 3)) := by
  refine zC_of (L0 := [some (.ref (d_ + 33))]) md_Calc_topShelf (Nat.le_of_ble_eq_true rfl) rfl ?_ zQ0
  have hf : zFc d_ [] [] [] [] Mz Mz := zFc.rf
  have r_D33_3 := ze_r Mz (d_ + 33) 3
  refine zw_bipush (pc := 0) (v := Int32.ofInt 21) (by decide) (zdal_p dlA_Calc_topShelf_126 (i := 0) rfl) ?_
  refine zw_aload_n (pc := 2) (n := 0) (x := (d_ + 33)) rfl (zdal_p dlA_Calc_topShelf_126 (i := 1) rfl) ?_
  refine zk_getI (pc := 3) f_Calc_28 rfl ((hf.w hW).kr (o := 33) (by decide)) (zdal_p dlA_Calc_topShelf_126 (i := 2) rfl) ?_
  refine zr_iadd (pc := 6) (zdal_p dlA_Calc_topShelf_126 (i := 3) rfl) ?_
  refine zw_iconst (pc := 7) (v := Int32.ofInt 1) (by decide) (zdal_p dlA_Calc_topShelf_126 (i := 4) rfl) ?_
  refine zr_isub (pc := 8) (zdal_p dlA_Calc_topShelf_126 (i := 5) rfl) ?_
  exact zk_iret (pc := 9) (ty := .int) rfl rfl ⟨by omega, by omega⟩ hf (show ((21 + (ze Mz (d_ + 33) 3)) - 1) = 20 + ze Mz (d_ + 33) 3 by first | assumption | omega) (zdal_p dlA_Calc_topShelf_126 (i := 6) rfl)
set_option maxHeartbeats 4000000 in
theorem u_Calc_nextShelf (l : Launch) (d_ : Nat) (Mz : zMem) (hW : zKW d_ Mz) (p0_ : 0 ≤ ze Mz (d_ + 33) 3) (p1_ : ze Mz (d_ + 33) 3 ≤ 17) : zC l m_Calc_nextShelf 0 0 [.ref (d_ + 33)] Mz (zqcI d_ [] [] [(33, 3)] [] Mz (fun v N => v = 21 + ze Mz (d_ + 33) 3 ∧ ze N (d_ + 33) 3 = ze Mz (d_ + 33) 3 + 1)) := by
  refine zC_of (L0 := [some (.ref (d_ + 33))]) md_Calc_nextShelf (Nat.le_of_ble_eq_true rfl) rfl ?_ zQ0
  have hf : zFc d_ [] [] [(33, 3)] [] Mz Mz := zFc.rf
  have r_D33_3 := ze_r Mz (d_ + 33) 3
  refine zw_aload_n (pc := 0) (n := 0) (x := (d_ + 33)) rfl (zdal_p dlA_Calc_nextShelf_125 (i := 0) rfl) ?_
  refine zk_getI (pc := 1) f_Calc_28 rfl ((hf.w hW).kr (o := 33) (by decide)) (zdal_p dlA_Calc_nextShelf_125 (i := 1) rfl) ?_
  refine zw_bipush (pc := 4) (v := Int32.ofInt 18) (by decide) (zdal_p dlA_Calc_nextShelf_125 (i := 2) rfl) ?_
  refine zr_icmp_ge (pc := 6) (tgt := 19) ⟨(ze_r Mz (d_ + 33) 3).1, (ze_r Mz (d_ + 33) 3).2⟩ ⟨(by decide), (by decide)⟩ (by decide) (zdal_p dlA_Calc_nextShelf_125 (i := 3) rfl) (fun hc_6 => ?_) (fun hc_6 => ?_)
  · skip
    refine zw_aload_n (pc := 19) (n := 0) (x := (d_ + 33)) rfl (zdal_p dlA_Calc_nextShelf_125 (i := 10) rfl) ?_
    refine zk_callV hf.x (pc := 20) [] [] l_Calc_43 (u_Calc_topShelf l d_ Mz (hf.w hW) (show 0 ≤ ze Mz (d_ + 33) 3 by first | assumption | omega) (show ze Mz (d_ + 33) 3 ≤ 18 by first | assumption | omega)) rfl rfl ((hf.w hW).kr (o := 33) (by decide)) (by decide) (by decide) (Nat.le_of_ble_eq_true rfl) (zdal_p dlA_Calc_nextShelf_125 (i := 11) rfl) ?_
    rintro _ N1_ ⟨v2_, rfl, ⟨hv2_a, hv2_b⟩, hsN1_, hp0_N1_⟩
    obtain rfl := hsN1_.eq.symm
    replace hp0_N1_ : v2_ = 20 + ze Mz (d_ + 33) 3 := hp0_N1_
    show zW l m_Calc_nextShelf (zn Mz + 0, zw Mz + 0) Mz 23 [some (.ref (d_ + 33))] [.int (Int32.ofInt v2_)] _
    exact zk_iret (pc := 23) (ty := .int) rfl rfl ⟨by omega, by omega⟩ hf ⟨(show v2_ = 21 + ze Mz (d_ + 33) 3 by first | assumption | omega), (show ze Mz (d_ + 33) 3 = ze Mz (d_ + 33) 3 + 1 by first | assumption | omega)⟩ (zdal_p dlA_Calc_nextShelf_125 (i := 12) rfl)
  · skip
    refine zw_aload_n (pc := 9) (n := 0) (x := (d_ + 33)) rfl (zdal_p dlA_Calc_nextShelf_125 (i := 4) rfl) ?_
    refine zw_dup (pc := 10) rfl (zdal_p dlA_Calc_nextShelf_125 (i := 5) rfl) ?_
    refine zk_getI (pc := 11) f_Calc_28 rfl ((hf.w hW).kr (o := 33) (by decide)) (zdal_p dlA_Calc_nextShelf_125 (i := 6) rfl) ?_
    refine zw_iconst (pc := 14) (v := Int32.ofInt 1) (by decide) (zdal_p dlA_Calc_nextShelf_125 (i := 7) rfl) ?_
    refine zr_iadd (pc := 15) (zdal_p dlA_Calc_nextShelf_125 (i := 8) rfl) ?_
    refine zk_putR (pc := 16) (o := 33) (by decide) f_Calc_28 rfl rfl ((hf.w hW).kr (o := 33) (by decide)) ⟨by omega, by omega⟩ rfl rfl (zdal_p dlA_Calc_nextShelf_125 (i := 9) rfl) (fun N3_ hsN3_ hvN3_ => ?_)
    have hf_N3_ : zFc d_ [] [] [(33, 3)] [] Mz N3_ := hf.tr hsN3_ (by decide) (by decide) (by decide) (by decide)
    have rD33_3_N3_ := ze_r N3_ (d_ + 33) 3
    refine zw_aload_n (pc := 19) (n := 0) (x := (d_ + 33)) rfl (zdal_p dlA_Calc_nextShelf_125 (i := 10) rfl) ?_
    refine zk_callV hf_N3_.x (pc := 20) [] [] l_Calc_43 (u_Calc_topShelf l d_ N3_ (hf_N3_.w hW) (show 0 ≤ ze N3_ (d_ + 33) 3 by first | assumption | omega) (show ze N3_ (d_ + 33) 3 ≤ 18 by first | assumption | omega)) rfl rfl ((hf_N3_.w hW).kr (o := 33) (by decide)) (by decide) (by decide) (Nat.le_of_ble_eq_true rfl) (zdal_p dlA_Calc_nextShelf_125 (i := 11) rfl) ?_
    rintro _ N4_ ⟨v5_, rfl, ⟨hv5_a, hv5_b⟩, hsN4_, hp0_N4_⟩
    obtain rfl := hsN4_.eq.symm
    replace hp0_N4_ : v5_ = 20 + ze N3_ (d_ + 33) 3 := hp0_N4_
    show zW l m_Calc_nextShelf (zn Mz + 0, zw Mz + 0) N3_ 23 [some (.ref (d_ + 33))] [.int (Int32.ofInt v5_)] _
    exact zk_iret (pc := 23) (ty := .int) rfl rfl ⟨by omega, by omega⟩ hf_N3_ ⟨(show v5_ = 21 + ze Mz (d_ + 33) 3 by first | assumption | omega), (show ze N3_ (d_ + 33) 3 = ze Mz (d_ + 33) 3 + 1 by first | assumption | omega)⟩ (zdal_p dlA_Calc_nextShelf_125 (i := 12) rfl)
set_option maxHeartbeats 4000000 in
theorem u_Calc_pushSign (l : Launch) (d_ : Nat) (Mz : zMem) (hW : zKW d_ Mz) (a0_ : Int) (ha0_a : -2147483648 ≤ a0_) (ha0_b : a0_ < 2147483648) (p0_ : 0 ≤ ze Mz (d_ + 33) 2) (p1_ : ze Mz (d_ + 33) 2 ≤ 23) : zC l m_Calc_pushSign 0 0 [.ref (d_ + 33), .int (Int32.ofInt a0_)] Mz (zqcV d_ [] [] [(33, 2)] [35] Mz (fun N => ze N (d_ + 33) 2 = ze Mz (d_ + 33) 2 + 1 ∧ ze N (d_ + 35) (ze Mz (d_ + 33) 2).toNat = a0_ ∧ (∀ i : Nat, (i : Int) < ze Mz (d_ + 33) 2 → ze N (d_ + 35) i = ze Mz (d_ + 35) i))) := by
  refine zC_of (L0 := [some (.ref (d_ + 33)), some (.int (Int32.ofInt a0_))]) md_Calc_pushSign (Nat.le_of_ble_eq_true rfl) rfl ?_ zQ0
  have hf : zFc d_ [] [] [(33, 2)] [35] Mz Mz := zFc.rf
  have r_D33_2 := ze_r Mz (d_ + 33) 2
  refine zw_aload_n (pc := 0) (n := 0) (x := (d_ + 33)) rfl (zdal_p dlA_Calc_pushSign_118 (i := 0) rfl) ?_
  refine zk_getI (pc := 1) f_Calc_24 rfl ((hf.w hW).kr (o := 33) (by decide)) (zdal_p dlA_Calc_pushSign_118 (i := 1) rfl) ?_
  refine zw_bipush (pc := 4) (v := Int32.ofInt 24) (by decide) (zdal_p dlA_Calc_pushSign_118 (i := 2) rfl) ?_
  refine zr_icmp_ge (pc := 6) (tgt := 31) ⟨(ze_r Mz (d_ + 33) 2).1, (ze_r Mz (d_ + 33) 2).2⟩ ⟨(by decide), (by decide)⟩ (by decide) (zdal_p dlA_Calc_pushSign_118 (i := 3) rfl) (fun hc_6 => ?_) (fun hc_6 => ?_)
  · skip
    exact zk_vret (pc := 31) rfl hf ⟨(show ze Mz (d_ + 33) 2 = ze Mz (d_ + 33) 2 + 1 by first | assumption | omega), (show ze Mz (d_ + 35) (ze Mz (d_ + 33) 2).toNat = a0_ by first | (exfalso; omega) | exact hg2_), (show (∀ i : Nat, (i : Int) < ze Mz (d_ + 33) 2 → ze Mz (d_ + 35) i = ze Mz (d_ + 35) i) by first | (exfalso; omega) | exact ho2_)⟩ (zdal_p dlA_Calc_pushSign_118 (i := 16) rfl)
  · skip
    refine zw_aload_n (pc := 9) (n := 0) (x := (d_ + 33)) rfl (zdal_p dlA_Calc_pushSign_118 (i := 4) rfl) ?_
    refine zw_getF (pc := 10) f_Calc_14 rfl ((hf.w hW).kr (o := 33) (by decide)) ((hf.w hW).lr (o := 33) (s := 1) (r := 34) (by decide)) (zdal_p dlA_Calc_pushSign_118 (i := 5) rfl) ?_
    refine zw_aload_n (pc := 13) (n := 0) (x := (d_ + 33)) rfl (zdal_p dlA_Calc_pushSign_118 (i := 6) rfl) ?_
    refine zk_getI (pc := 14) f_Calc_24 rfl ((hf.w hW).kr (o := 33) (by decide)) (zdal_p dlA_Calc_pushSign_118 (i := 7) rfl) ?_
    refine zw_iload_n (pc := 17) (n := 1) (x := Int32.ofInt a0_) rfl (zdal_p dlA_Calc_pushSign_118 (i := 8) rfl) ?_
    refine zk_st hf.x (pc := 18) (o := 35) (by decide) l_Calc_47 ((hf.w hW).kr (o := 34) (by decide)) ((hf.w hW).lr (o := 34) (s := 0) (r := 35) (by decide)) ((hf.w hW).rr (o := 35) (t := 1) (n := 24) (by decide)) (by decide) (by omega) (by omega) (by decide) (Nat.le_of_ble_eq_true rfl) (zdal_p dlA_Calc_pushSign_118 (i := 9) rfl) (fun N1_ hN1_ hsN1_ => ?_)
    have hf_N1_ : zFc d_ [] [] [(33, 2)] [35] Mz N1_ := hf.tr hsN1_ (by decide) (by decide) (by decide) (by decide)
    have eD33_2_N1_ : ze N1_ (d_ + 33) 2 = ze Mz (d_ + 33) 2 := hsN1_.e (by decide)
    have hg_ := zs_get hN1_ ⟨by omega, by omega⟩
    have ho_ := fun (i : Nat) (hi : (i : Int) < ze Mz (d_ + 33) 2) => zs_oth hN1_ (j := i) (by omega)
    refine zw_aload_n (pc := 21) (n := 0) (x := (d_ + 33)) rfl (zdal_p dlA_Calc_pushSign_118 (i := 10) rfl) ?_
    refine zw_dup (pc := 22) rfl (zdal_p dlA_Calc_pushSign_118 (i := 11) rfl) ?_
    refine zk_getI (pc := 23) f_Calc_24 rfl ((hf_N1_.w hW).kr (o := 33) (by decide)) (zdal_p dlA_Calc_pushSign_118 (i := 12) rfl) ?_
    refine zw_iconst (pc := 26) (v := Int32.ofInt 1) (by decide) (zdal_p dlA_Calc_pushSign_118 (i := 13) rfl) ?_
    refine zr_iadd (pc := 27) (zdal_p dlA_Calc_pushSign_118 (i := 14) rfl) ?_
    refine zk_putR (pc := 28) (o := 33) (by decide) f_Calc_24 rfl rfl ((hf_N1_.w hW).kr (o := 33) (by decide)) ⟨by omega, by omega⟩ rfl rfl (zdal_p dlA_Calc_pushSign_118 (i := 15) rfl) (fun N2_ hsN2_ hvN2_ => ?_)
    have hf_N2_ : zFc d_ [] [] [(33, 2)] [35] Mz N2_ := hf_N1_.tr hsN2_ (by decide) (by decide) (by decide) (by decide)
    have rD33_2_N2_ := ze_r N2_ (d_ + 33) 2
    have hg2_ := (hsN2_.r (by decide) _).trans hg_
    have ho2_ := fun (i : Nat) (hi : (i : Int) < ze Mz (d_ + 33) 2) => (hsN2_.r (by decide) i).trans (ho_ i hi)
    exact zk_vret (pc := 31) rfl hf_N2_ ⟨(show ze N2_ (d_ + 33) 2 = ze Mz (d_ + 33) 2 + 1 by first | assumption | omega), (show ze N2_ (d_ + 35) (ze Mz (d_ + 33) 2).toNat = a0_ by first | (exfalso; omega) | exact hg2_), (show (∀ i : Nat, (i : Int) < ze Mz (d_ + 33) 2 → ze N2_ (d_ + 35) i = ze Mz (d_ + 35) i) by first | (exfalso; omega) | exact ho2_)⟩ (zdal_p dlA_Calc_pushSign_118 (i := 16) rfl)
set_option maxHeartbeats 4000000 in
theorem u_Calc_topSign (l : Launch) (d_ : Nat) (Mz : zMem) (hW : zKW d_ Mz) (p0_ : 1 ≤ ze Mz (d_ + 33) 2) (p1_ : ze Mz (d_ + 33) 2 ≤ 24) : zC l m_Calc_topSign 0 0 [.ref (d_ + 33)] Mz (zqcI d_ [] [] [] [] Mz (fun v N => v = ze Mz (d_ + 35) (ze Mz (d_ + 33) 2 - 1).toNat)) := by
  refine zC_of (L0 := [some (.ref (d_ + 33))]) md_Calc_topSign (Nat.le_of_ble_eq_true rfl) rfl ?_ zQ0
  have hf : zFc d_ [] [] [] [] Mz Mz := zFc.rf
  have r_D33_2 := ze_r Mz (d_ + 33) 2
  refine zw_aload_n (pc := 0) (n := 0) (x := (d_ + 33)) rfl (zdal_p dlA_Calc_topSign_150 (i := 0) rfl) ?_
  refine zw_getF (pc := 1) f_Calc_14 rfl ((hf.w hW).kr (o := 33) (by decide)) ((hf.w hW).lr (o := 33) (s := 1) (r := 34) (by decide)) (zdal_p dlA_Calc_topSign_150 (i := 1) rfl) ?_
  refine zw_aload_n (pc := 4) (n := 0) (x := (d_ + 33)) rfl (zdal_p dlA_Calc_topSign_150 (i := 2) rfl) ?_
  refine zk_getI (pc := 5) f_Calc_24 rfl ((hf.w hW).kr (o := 33) (by decide)) (zdal_p dlA_Calc_topSign_150 (i := 3) rfl) ?_
  refine zw_iconst (pc := 8) (v := Int32.ofInt 1) (by decide) (zdal_p dlA_Calc_topSign_150 (i := 4) rfl) ?_
  refine zr_isub (pc := 9) (zdal_p dlA_Calc_topSign_150 (i := 5) rfl) ?_
  refine zk_at hf.x (pc := 10) l_Calc_51 ((hf.w hW).kr (o := 34) (by decide)) ((hf.w hW).lr (o := 34) (s := 0) (r := 35) (by decide)) ((hf.w hW).rr (o := 35) (t := 1) (n := 24) (by decide)) (by decide) (by omega) (by omega) (by decide) (Nat.le_of_ble_eq_true rfl) (zdal_p dlA_Calc_topSign_150 (i := 6) rfl) (fun v1_ hv1_ hv1_a hv1_b => ?_)
  exact zk_iret (pc := 13) (ty := .int) rfl rfl ⟨by omega, by omega⟩ hf (show v1_ = ze Mz (d_ + 35) (ze Mz (d_ + 33) 2 - 1).toNat by first | assumption | omega) (zdal_p dlA_Calc_topSign_150 (i := 7) rfl)
set_option maxHeartbeats 4000000 in
theorem u_Calc_open (l : Launch) (d_ : Nat) (Mz : zMem) (hW : zKW d_ Mz) (a0_ : Int) (ha0_a : -2147483648 ≤ a0_) (ha0_b : a0_ < 2147483648) (ha0_z : a0_ = 0 ∨ a0_ = 1) (F_ : Nat) (K_ : Nat → Nat → Int) (hA_ : zTA F_ K_) (p0_ : zCI F_ K_ d_ 0 Mz) (p1_ : zdp (zkS d_ Mz) ≤ 6) : zC l m_Calc_open 0 0 [.ref (d_ + 33), .int (Int32.ofInt a0_)] Mz (zqcV d_ [] [] [(33, 2), (33, 4), (33, 5)] [35] Mz (fun N => zCI F_ K_ d_ 0 N ∧ zkS d_ N = (if a0_ = 0 then 1 else 0) :: zkS d_ Mz ∧ zkW F_ d_ N = zkW F_ d_ Mz ∧ zkG d_ N = zkG d_ Mz)) := by
  refine zC_of (L0 := [some (.ref (d_ + 33)), some (.int (Int32.ofInt a0_))]) md_Calc_open (Nat.le_of_ble_eq_true rfl) rfl ?_ zQ0
  have hf : zFc d_ [] [] [(33, 2), (33, 4), (33, 5)] [35] Mz Mz := zFc.rf
  have r_D33_2 := ze_r Mz (d_ + 33) 2
  have r_D33_3 := ze_r Mz (d_ + 33) 3
  have r_D33_4 := ze_r Mz (d_ + 33) 4
  have r_D33_5 := ze_r Mz (d_ + 33) 5
  have r_D33_6 := ze_r Mz (d_ + 33) 6
  obtain ⟨⟨hF1_, hF27_⟩, hAr_⟩ := id hA_
  have hb_ := p0_.b
  have hz0_ := zop0_le (zkS d_ Mz)
  obtain ⟨q1_, q2_, q3_, q4_, q5_, q6_, q7_, q8_, q9_⟩ := id p0_
  refine zw_aload_n (pc := 0) (n := 0) (x := (d_ + 33)) rfl (zdal_p dlA_Calc_open_117 (i := 0) rfl) ?_
  refine zw_iload_n (pc := 1) (n := 1) (x := Int32.ofInt a0_) rfl (zdal_p dlA_Calc_open_117 (i := 1) rfl) ?_
  refine zr_if_eq (pc := 2) (tgt := 10) ⟨ha0_a, ha0_b⟩ (by decide) (zdal_p dlA_Calc_open_117 (i := 2) rfl) (fun hc_2 => ?_) (fun hc_2 => ?_)
  · skip
    refine zw_bipush (pc := 10) (v := Int32.ofInt 126) (by decide) (zdal_p dlA_Calc_open_117 (i := 5) rfl) ?_
    refine zk_callV hf.x (pc := 12) [.int (Int32.ofInt 126)] [] l_Calc_55 (u_Calc_pushSign l d_ Mz (hf.w hW) 126 (by decide) (by decide) (show 0 ≤ ze Mz (d_ + 33) 2 by first | assumption | omega) (show ze Mz (d_ + 33) 2 ≤ 23 by first | assumption | omega)) rfl rfl ((hf.w hW).kr (o := 33) (by decide)) (by decide) (by decide) (Nat.le_of_ble_eq_true rfl) (zdal_p dlA_Calc_open_117 (i := 6) rfl) ?_
    rintro _ N1_ ⟨rfl, hsN1_, ⟨hp0_N1_, hp1_N1_, hp2_N1_⟩⟩
    have hf_N1_ : zFc d_ [] [] [(33, 2), (33, 4), (33, 5)] [35] Mz N1_ := hf.tr hsN1_ (by decide) (by decide) (by decide) (by decide)
    have rD33_2_N1_ := ze_r N1_ (d_ + 33) 2
    have eD33_3_N1_ : ze N1_ (d_ + 33) 3 = ze Mz (d_ + 33) 3 := hsN1_.e (by decide)
    have eD33_4_N1_ : ze N1_ (d_ + 33) 4 = ze Mz (d_ + 33) 4 := hsN1_.e (by decide)
    have eD33_5_N1_ : ze N1_ (d_ + 33) 5 = ze Mz (d_ + 33) 5 := hsN1_.e (by decide)
    have eD33_6_N1_ : ze N1_ (d_ + 33) 6 = ze Mz (d_ + 33) 6 := hsN1_.e (by decide)
    show zW l m_Calc_open (zn Mz + 0, zw Mz + 0) N1_ 15 [some (.ref (d_ + 33)), some (.int (Int32.ofInt a0_))] [] _
    have hg_ := hp1_N1_
    have ho_ := hp2_N1_
    refine zw_aload_n (pc := 15) (n := 0) (x := (d_ + 33)) rfl (zdal_p dlA_Calc_open_117 (i := 7) rfl) ?_
    refine zw_dup (pc := 16) rfl (zdal_p dlA_Calc_open_117 (i := 8) rfl) ?_
    refine zk_getI (pc := 17) f_Calc_31 rfl ((hf_N1_.w hW).kr (o := 33) (by decide)) (zdal_p dlA_Calc_open_117 (i := 9) rfl) ?_
    refine zw_iconst (pc := 20) (v := Int32.ofInt 1) (by decide) (zdal_p dlA_Calc_open_117 (i := 10) rfl) ?_
    refine zr_iadd (pc := 21) (zdal_p dlA_Calc_open_117 (i := 11) rfl) ?_
    refine zk_putR (pc := 22) (o := 33) (by decide) f_Calc_31 rfl rfl ((hf_N1_.w hW).kr (o := 33) (by decide)) ⟨by omega, by omega⟩ rfl rfl (zdal_p dlA_Calc_open_117 (i := 12) rfl) (fun N3_ hsN3_ hvN3_ => ?_)
    have hf_N3_ : zFc d_ [] [] [(33, 2), (33, 4), (33, 5)] [35] Mz N3_ := hf_N1_.tr hsN3_ (by decide) (by decide) (by decide) (by decide)
    have eD33_2_N3_ : ze N3_ (d_ + 33) 2 = ze N1_ (d_ + 33) 2 := hsN3_.e (by decide)
    have eD33_3_N3_ : ze N3_ (d_ + 33) 3 = ze N1_ (d_ + 33) 3 := hsN3_.e (by decide)
    have rD33_4_N3_ := ze_r N3_ (d_ + 33) 4
    have eD33_5_N3_ : ze N3_ (d_ + 33) 5 = ze N1_ (d_ + 33) 5 := hsN3_.e (by decide)
    have eD33_6_N3_ : ze N3_ (d_ + 33) 6 = ze N1_ (d_ + 33) 6 := hsN3_.e (by decide)
    have hg2_ := (hsN3_.r (by decide) _).trans hg_
    have ho2_ := fun (i : Nat) (hi : (i : Int) < ze Mz (d_ + 33) 2) => (hsN3_.r (by decide) i).trans (ho_ i hi)
    refine zw_aload_n (pc := 25) (n := 0) (x := (d_ + 33)) rfl (zdal_p dlA_Calc_open_117 (i := 13) rfl) ?_
    refine zw_dup (pc := 26) rfl (zdal_p dlA_Calc_open_117 (i := 14) rfl) ?_
    refine zk_getI (pc := 27) f_Calc_34 rfl ((hf_N3_.w hW).kr (o := 33) (by decide)) (zdal_p dlA_Calc_open_117 (i := 15) rfl) ?_
    refine zw_iload_n (pc := 30) (n := 1) (x := Int32.ofInt a0_) rfl (zdal_p dlA_Calc_open_117 (i := 16) rfl) ?_
    refine zr_if_eq (pc := 31) (tgt := 38) ⟨ha0_a, ha0_b⟩ (by decide) (zdal_p dlA_Calc_open_117 (i := 17) rfl) (fun hc_31 => ?_) (fun hc_31 => ?_)
    · skip
      refine zw_iconst (pc := 38) (v := Int32.ofInt 0) (by decide) (zdal_p dlA_Calc_open_117 (i := 20) rfl) ?_
      refine zr_iadd (pc := 39) d_Calc_open_39 ?_
      refine zk_putR (pc := 40) (o := 33) (by decide) f_Calc_34 rfl rfl ((hf_N3_.w hW).kr (o := 33) (by decide)) ⟨by omega, by omega⟩ rfl rfl d_Calc_open_40 (fun N4_ hsN4_ hvN4_ => ?_)
      have hf_N4_ : zFc d_ [] [] [(33, 2), (33, 4), (33, 5)] [35] Mz N4_ := hf_N3_.tr hsN4_ (by decide) (by decide) (by decide) (by decide)
      have eD33_2_N4_ : ze N4_ (d_ + 33) 2 = ze N3_ (d_ + 33) 2 := hsN4_.e (by decide)
      have eD33_3_N4_ : ze N4_ (d_ + 33) 3 = ze N3_ (d_ + 33) 3 := hsN4_.e (by decide)
      have eD33_4_N4_ : ze N4_ (d_ + 33) 4 = ze N3_ (d_ + 33) 4 := hsN4_.e (by decide)
      have rD33_5_N4_ := ze_r N4_ (d_ + 33) 5
      have eD33_6_N4_ : ze N4_ (d_ + 33) 6 = ze N3_ (d_ + 33) 6 := hsN4_.e (by decide)
      have hg3_ := (hsN4_.r (by decide) _).trans hg2_
      have ho3_ := fun (i : Nat) (hi : (i : Int) < ze Mz (d_ + 33) 2) => (hsN4_.r (by decide) i).trans (ho2_ i hi)
      have hF_ : zCI F_ K_ d_ 0 N4_ ∧ zkS d_ N4_ = (if a0_ = 0 then 1 else 0) :: zkS d_ Mz ∧ zkW F_ d_ N4_ = zkW F_ d_ Mz ∧ zkG d_ N4_ = zkG d_ Mz := by first | (exfalso; omega) | (obtain ⟨g1_, g2_, g3_, g4_⟩ := zCI_op (F := F_) p0_ p1_ (by first | exact Or.inl rfl | exact Or.inr rfl) (by omega) hg3_ ho3_ (by omega) (by omega) (by first | (rw [if_pos rfl]; omega) | (rw [if_neg (by decide)]; omega)) (by omega) (fun t => zvc_f hf_N4_ (by decide) t); refine ⟨g1_, g2_.trans ?_, g3_, g4_⟩; congr 1; split <;> first | rfl | omega)
      have hFa_ := hF_.1
      exact zk_vret (pc := 43) rfl hf_N4_ ⟨hFa_, (show zkS d_ N4_ = (if a0_ = 0 then 1 else 0) :: zkS d_ Mz by exact hF_.2.1), (show zkW F_ d_ N4_ = zkW F_ d_ Mz by exact hF_.2.2.1), (show zkG d_ N4_ = zkG d_ Mz by exact hF_.2.2.2)⟩ d_Calc_open_43
    · skip
      refine zw_iconst (pc := 34) (v := Int32.ofInt 1) (by decide) (zdal_p dlA_Calc_open_117 (i := 18) rfl) ?_
      refine zw_goto (pc := 35) (tgt := 39) (by decide) (zdal_p dlA_Calc_open_117 (i := 19) rfl) ?_
      refine zr_iadd (pc := 39) d_Calc_open_39 ?_
      refine zk_putR (pc := 40) (o := 33) (by decide) f_Calc_34 rfl rfl ((hf_N3_.w hW).kr (o := 33) (by decide)) ⟨by omega, by omega⟩ rfl rfl d_Calc_open_40 (fun N5_ hsN5_ hvN5_ => ?_)
      have hf_N5_ : zFc d_ [] [] [(33, 2), (33, 4), (33, 5)] [35] Mz N5_ := hf_N3_.tr hsN5_ (by decide) (by decide) (by decide) (by decide)
      have eD33_2_N5_ : ze N5_ (d_ + 33) 2 = ze N3_ (d_ + 33) 2 := hsN5_.e (by decide)
      have eD33_3_N5_ : ze N5_ (d_ + 33) 3 = ze N3_ (d_ + 33) 3 := hsN5_.e (by decide)
      have eD33_4_N5_ : ze N5_ (d_ + 33) 4 = ze N3_ (d_ + 33) 4 := hsN5_.e (by decide)
      have rD33_5_N5_ := ze_r N5_ (d_ + 33) 5
      have eD33_6_N5_ : ze N5_ (d_ + 33) 6 = ze N3_ (d_ + 33) 6 := hsN5_.e (by decide)
      have hg3_ := (hsN5_.r (by decide) _).trans hg2_
      have ho3_ := fun (i : Nat) (hi : (i : Int) < ze Mz (d_ + 33) 2) => (hsN5_.r (by decide) i).trans (ho2_ i hi)
      have hF_ : zCI F_ K_ d_ 0 N5_ ∧ zkS d_ N5_ = (if a0_ = 0 then 1 else 0) :: zkS d_ Mz ∧ zkW F_ d_ N5_ = zkW F_ d_ Mz ∧ zkG d_ N5_ = zkG d_ Mz := by first | (exfalso; omega) | (obtain ⟨g1_, g2_, g3_, g4_⟩ := zCI_op (F := F_) p0_ p1_ (by first | exact Or.inl rfl | exact Or.inr rfl) (by omega) hg3_ ho3_ (by omega) (by omega) (by first | (rw [if_pos rfl]; omega) | (rw [if_neg (by decide)]; omega)) (by omega) (fun t => zvc_f hf_N5_ (by decide) t); refine ⟨g1_, g2_.trans ?_, g3_, g4_⟩; congr 1; split <;> first | rfl | omega)
      have hFa_ := hF_.1
      exact zk_vret (pc := 43) rfl hf_N5_ ⟨hFa_, (show zkS d_ N5_ = (if a0_ = 0 then 1 else 0) :: zkS d_ Mz by exact hF_.2.1), (show zkW F_ d_ N5_ = zkW F_ d_ Mz by exact hF_.2.2.1), (show zkG d_ N5_ = zkG d_ Mz by exact hF_.2.2.2)⟩ d_Calc_open_43
  · skip
    refine zw_bipush (pc := 5) (v := Int32.ofInt 40) (by decide) (zdal_p dlA_Calc_open_117 (i := 3) rfl) ?_
    refine zw_goto (pc := 7) (tgt := 12) (by decide) (zdal_p dlA_Calc_open_117 (i := 4) rfl) ?_
    refine zk_callV hf.x (pc := 12) [.int (Int32.ofInt 40)] [] l_Calc_55 (u_Calc_pushSign l d_ Mz (hf.w hW) 40 (by decide) (by decide) (show 0 ≤ ze Mz (d_ + 33) 2 by first | assumption | omega) (show ze Mz (d_ + 33) 2 ≤ 23 by first | assumption | omega)) rfl rfl ((hf.w hW).kr (o := 33) (by decide)) (by decide) (by decide) (Nat.le_of_ble_eq_true rfl) (zdal_p dlA_Calc_open_117 (i := 6) rfl) ?_
    rintro _ N6_ ⟨rfl, hsN6_, ⟨hp0_N6_, hp1_N6_, hp2_N6_⟩⟩
    have hf_N6_ : zFc d_ [] [] [(33, 2), (33, 4), (33, 5)] [35] Mz N6_ := hf.tr hsN6_ (by decide) (by decide) (by decide) (by decide)
    have rD33_2_N6_ := ze_r N6_ (d_ + 33) 2
    have eD33_3_N6_ : ze N6_ (d_ + 33) 3 = ze Mz (d_ + 33) 3 := hsN6_.e (by decide)
    have eD33_4_N6_ : ze N6_ (d_ + 33) 4 = ze Mz (d_ + 33) 4 := hsN6_.e (by decide)
    have eD33_5_N6_ : ze N6_ (d_ + 33) 5 = ze Mz (d_ + 33) 5 := hsN6_.e (by decide)
    have eD33_6_N6_ : ze N6_ (d_ + 33) 6 = ze Mz (d_ + 33) 6 := hsN6_.e (by decide)
    show zW l m_Calc_open (zn Mz + 0, zw Mz + 0) N6_ 15 [some (.ref (d_ + 33)), some (.int (Int32.ofInt a0_))] [] _
    have hg_ := hp1_N6_
    have ho_ := hp2_N6_
    refine zw_aload_n (pc := 15) (n := 0) (x := (d_ + 33)) rfl (zdal_p dlA_Calc_open_117 (i := 7) rfl) ?_
    refine zw_dup (pc := 16) rfl (zdal_p dlA_Calc_open_117 (i := 8) rfl) ?_
    refine zk_getI (pc := 17) f_Calc_31 rfl ((hf_N6_.w hW).kr (o := 33) (by decide)) (zdal_p dlA_Calc_open_117 (i := 9) rfl) ?_
    refine zw_iconst (pc := 20) (v := Int32.ofInt 1) (by decide) (zdal_p dlA_Calc_open_117 (i := 10) rfl) ?_
    refine zr_iadd (pc := 21) (zdal_p dlA_Calc_open_117 (i := 11) rfl) ?_
    refine zk_putR (pc := 22) (o := 33) (by decide) f_Calc_31 rfl rfl ((hf_N6_.w hW).kr (o := 33) (by decide)) ⟨by omega, by omega⟩ rfl rfl (zdal_p dlA_Calc_open_117 (i := 12) rfl) (fun N8_ hsN8_ hvN8_ => ?_)
    have hf_N8_ : zFc d_ [] [] [(33, 2), (33, 4), (33, 5)] [35] Mz N8_ := hf_N6_.tr hsN8_ (by decide) (by decide) (by decide) (by decide)
    have eD33_2_N8_ : ze N8_ (d_ + 33) 2 = ze N6_ (d_ + 33) 2 := hsN8_.e (by decide)
    have eD33_3_N8_ : ze N8_ (d_ + 33) 3 = ze N6_ (d_ + 33) 3 := hsN8_.e (by decide)
    have rD33_4_N8_ := ze_r N8_ (d_ + 33) 4
    have eD33_5_N8_ : ze N8_ (d_ + 33) 5 = ze N6_ (d_ + 33) 5 := hsN8_.e (by decide)
    have eD33_6_N8_ : ze N8_ (d_ + 33) 6 = ze N6_ (d_ + 33) 6 := hsN8_.e (by decide)
    have hg2_ := (hsN8_.r (by decide) _).trans hg_
    have ho2_ := fun (i : Nat) (hi : (i : Int) < ze Mz (d_ + 33) 2) => (hsN8_.r (by decide) i).trans (ho_ i hi)
    refine zw_aload_n (pc := 25) (n := 0) (x := (d_ + 33)) rfl (zdal_p dlA_Calc_open_117 (i := 13) rfl) ?_
    refine zw_dup (pc := 26) rfl (zdal_p dlA_Calc_open_117 (i := 14) rfl) ?_
    refine zk_getI (pc := 27) f_Calc_34 rfl ((hf_N8_.w hW).kr (o := 33) (by decide)) (zdal_p dlA_Calc_open_117 (i := 15) rfl) ?_
    refine zw_iload_n (pc := 30) (n := 1) (x := Int32.ofInt a0_) rfl (zdal_p dlA_Calc_open_117 (i := 16) rfl) ?_
    refine zr_if_eq (pc := 31) (tgt := 38) ⟨ha0_a, ha0_b⟩ (by decide) (zdal_p dlA_Calc_open_117 (i := 17) rfl) (fun hc_31 => ?_) (fun hc_31 => ?_)
    · skip
      refine zw_iconst (pc := 38) (v := Int32.ofInt 0) (by decide) (zdal_p dlA_Calc_open_117 (i := 20) rfl) ?_
      refine zr_iadd (pc := 39) d_Calc_open_39 ?_
      refine zk_putR (pc := 40) (o := 33) (by decide) f_Calc_34 rfl rfl ((hf_N8_.w hW).kr (o := 33) (by decide)) ⟨by omega, by omega⟩ rfl rfl d_Calc_open_40 (fun N9_ hsN9_ hvN9_ => ?_)
      have hf_N9_ : zFc d_ [] [] [(33, 2), (33, 4), (33, 5)] [35] Mz N9_ := hf_N8_.tr hsN9_ (by decide) (by decide) (by decide) (by decide)
      have eD33_2_N9_ : ze N9_ (d_ + 33) 2 = ze N8_ (d_ + 33) 2 := hsN9_.e (by decide)
      have eD33_3_N9_ : ze N9_ (d_ + 33) 3 = ze N8_ (d_ + 33) 3 := hsN9_.e (by decide)
      have eD33_4_N9_ : ze N9_ (d_ + 33) 4 = ze N8_ (d_ + 33) 4 := hsN9_.e (by decide)
      have rD33_5_N9_ := ze_r N9_ (d_ + 33) 5
      have eD33_6_N9_ : ze N9_ (d_ + 33) 6 = ze N8_ (d_ + 33) 6 := hsN9_.e (by decide)
      have hg3_ := (hsN9_.r (by decide) _).trans hg2_
      have ho3_ := fun (i : Nat) (hi : (i : Int) < ze Mz (d_ + 33) 2) => (hsN9_.r (by decide) i).trans (ho2_ i hi)
      have hF_ : zCI F_ K_ d_ 0 N9_ ∧ zkS d_ N9_ = (if a0_ = 0 then 1 else 0) :: zkS d_ Mz ∧ zkW F_ d_ N9_ = zkW F_ d_ Mz ∧ zkG d_ N9_ = zkG d_ Mz := by first | (exfalso; omega) | (obtain ⟨g1_, g2_, g3_, g4_⟩ := zCI_op (F := F_) p0_ p1_ (by first | exact Or.inl rfl | exact Or.inr rfl) (by omega) hg3_ ho3_ (by omega) (by omega) (by first | (rw [if_pos rfl]; omega) | (rw [if_neg (by decide)]; omega)) (by omega) (fun t => zvc_f hf_N9_ (by decide) t); refine ⟨g1_, g2_.trans ?_, g3_, g4_⟩; congr 1; split <;> first | rfl | omega)
      have hFa_ := hF_.1
      exact zk_vret (pc := 43) rfl hf_N9_ ⟨hFa_, (show zkS d_ N9_ = (if a0_ = 0 then 1 else 0) :: zkS d_ Mz by exact hF_.2.1), (show zkW F_ d_ N9_ = zkW F_ d_ Mz by exact hF_.2.2.1), (show zkG d_ N9_ = zkG d_ Mz by exact hF_.2.2.2)⟩ d_Calc_open_43
    · skip
      refine zw_iconst (pc := 34) (v := Int32.ofInt 1) (by decide) (zdal_p dlA_Calc_open_117 (i := 18) rfl) ?_
      refine zw_goto (pc := 35) (tgt := 39) (by decide) (zdal_p dlA_Calc_open_117 (i := 19) rfl) ?_
      refine zr_iadd (pc := 39) d_Calc_open_39 ?_
      refine zk_putR (pc := 40) (o := 33) (by decide) f_Calc_34 rfl rfl ((hf_N8_.w hW).kr (o := 33) (by decide)) ⟨by omega, by omega⟩ rfl rfl d_Calc_open_40 (fun N10_ hsN10_ hvN10_ => ?_)
      have hf_N10_ : zFc d_ [] [] [(33, 2), (33, 4), (33, 5)] [35] Mz N10_ := hf_N8_.tr hsN10_ (by decide) (by decide) (by decide) (by decide)
      have eD33_2_N10_ : ze N10_ (d_ + 33) 2 = ze N8_ (d_ + 33) 2 := hsN10_.e (by decide)
      have eD33_3_N10_ : ze N10_ (d_ + 33) 3 = ze N8_ (d_ + 33) 3 := hsN10_.e (by decide)
      have eD33_4_N10_ : ze N10_ (d_ + 33) 4 = ze N8_ (d_ + 33) 4 := hsN10_.e (by decide)
      have rD33_5_N10_ := ze_r N10_ (d_ + 33) 5
      have eD33_6_N10_ : ze N10_ (d_ + 33) 6 = ze N8_ (d_ + 33) 6 := hsN10_.e (by decide)
      have hg3_ := (hsN10_.r (by decide) _).trans hg2_
      have ho3_ := fun (i : Nat) (hi : (i : Int) < ze Mz (d_ + 33) 2) => (hsN10_.r (by decide) i).trans (ho2_ i hi)
      have hF_ : zCI F_ K_ d_ 0 N10_ ∧ zkS d_ N10_ = (if a0_ = 0 then 1 else 0) :: zkS d_ Mz ∧ zkW F_ d_ N10_ = zkW F_ d_ Mz ∧ zkG d_ N10_ = zkG d_ Mz := by first | (exfalso; omega) | (obtain ⟨g1_, g2_, g3_, g4_⟩ := zCI_op (F := F_) p0_ p1_ (by first | exact Or.inl rfl | exact Or.inr rfl) (by omega) hg3_ ho3_ (by omega) (by omega) (by first | (rw [if_pos rfl]; omega) | (rw [if_neg (by decide)]; omega)) (by omega) (fun t => zvc_f hf_N10_ (by decide) t); refine ⟨g1_, g2_.trans ?_, g3_, g4_⟩; congr 1; split <;> first | rfl | omega)
      have hFa_ := hF_.1
      exact zk_vret (pc := 43) rfl hf_N10_ ⟨hFa_, (show zkS d_ N10_ = (if a0_ = 0 then 1 else 0) :: zkS d_ Mz by exact hF_.2.1), (show zkW F_ d_ N10_ = zkW F_ d_ Mz by exact hF_.2.2.1), (show zkG d_ N10_ = zkG d_ Mz by exact hF_.2.2.2)⟩ d_Calc_open_43
set_option maxHeartbeats 4000000 in
theorem u_Calc_pushSingle (l : Launch) (d_ : Nat) (Mz : zMem) (hW : zKW d_ Mz) (a0_ : Int) (ha0_a : -2147483648 ≤ a0_) (ha0_b : a0_ < 2147483648) (a1_ : Int) (ha1_a : -2147483648 ≤ a1_) (ha1_b : a1_ < 2147483648) (F_ : Nat) (K_ : Nat → Nat → Int) (hA_ : zTA F_ K_) (p0_ : zKm F_ K_ d_ Mz) (p1_ : zCI F_ K_ d_ 0 Mz) (p2_ : 0 ≤ a0_) (p3_ : a0_ < F_) (p4_ : 0 ≤ a1_) (p5_ : a1_ ≤ 999) : zC l m_Calc_pushSingle 0 0 [.ref (d_ + 33), .int (Int32.ofInt a0_), .int (Int32.ofInt a1_)] Mz (zqcV d_ [] [] [(33, 3)] [25] Mz (fun N => zCI F_ K_ d_ 1 N ∧ zkS d_ N = zkS d_ Mz ∧ zkW F_ d_ N = zpu (zkG d_ Mz) (zone a0_ a1_) (zkW F_ d_ Mz) ∧ zkG d_ N = zkG d_ Mz ∧ zLow d_ Mz N)) := by
  refine zC_of (L0 := [some (.ref (d_ + 33)), some (.int (Int32.ofInt a0_)), some (.int (Int32.ofInt a1_))]) md_Calc_pushSingle (Nat.le_of_ble_eq_true rfl) rfl ?_ zQ0
  have hf : zFc d_ [] [] [(33, 3)] [25] Mz Mz := zFc.rf
  have r_D33_2 := ze_r Mz (d_ + 33) 2
  have r_D33_3 := ze_r Mz (d_ + 33) 3
  have r_D33_4 := ze_r Mz (d_ + 33) 4
  have r_D33_5 := ze_r Mz (d_ + 33) 5
  have r_D33_6 := ze_r Mz (d_ + 33) 6
  obtain ⟨⟨hF1_, hF27_⟩, hAr_⟩ := id hA_
  obtain ⟨hFc_, hKt_⟩ := id p0_
  have hb_ := p1_.b
  have hz0_ := zop0_le (zkS d_ Mz)
  obtain ⟨q1_, q2_, q3_, q4_, q5_, q6_, q7_, q8_, q9_⟩ := id p1_
  refine zw_aload_n (pc := 0) (n := 0) (x := (d_ + 33)) rfl (zdal_p dlA_Calc_pushSingle_130 (i := 0) rfl) ?_
  refine zw_getF (pc := 1) f_Calc_20 rfl ((hf.w hW).kr (o := 33) (by decide)) ((hf.w hW).lr (o := 33) (s := 0) (r := 23) (by decide)) (zdal_p dlA_Calc_pushSingle_130 (i := 1) rfl) ?_
  refine zw_aload_n (pc := 4) (n := 0) (x := (d_ + 33)) rfl (zdal_p dlA_Calc_pushSingle_130 (i := 2) rfl) ?_
  refine zk_callV hf.x (pc := 5) [] [.ref (d_ + 23)] l_Calc_58 (u_Calc_nextShelf l d_ Mz (hf.w hW) (show 0 ≤ ze Mz (d_ + 33) 3 by first | assumption | omega) (show ze Mz (d_ + 33) 3 ≤ 17 by first | assumption | omega)) rfl rfl ((hf.w hW).kr (o := 33) (by decide)) (by decide) (by decide) (Nat.le_of_ble_eq_true rfl) (zdal_p dlA_Calc_pushSingle_130 (i := 3) rfl) ?_
  rintro _ N1_ ⟨v2_, rfl, ⟨hv2_a, hv2_b⟩, hsN1_, ⟨hp0_N1_, hp1_N1_⟩⟩
  have hf_N1_ : zFc d_ [] [] [(33, 3)] [25] Mz N1_ := hf.tr hsN1_ (by decide) (by decide) (by decide) (by decide)
  have eD33_2_N1_ : ze N1_ (d_ + 33) 2 = ze Mz (d_ + 33) 2 := hsN1_.e (by decide)
  have rD33_3_N1_ := ze_r N1_ (d_ + 33) 3
  have eD33_4_N1_ : ze N1_ (d_ + 33) 4 = ze Mz (d_ + 33) 4 := hsN1_.e (by decide)
  have eD33_5_N1_ : ze N1_ (d_ + 33) 5 = ze Mz (d_ + 33) 5 := hsN1_.e (by decide)
  have eD33_6_N1_ : ze N1_ (d_ + 33) 6 = ze Mz (d_ + 33) 6 := hsN1_.e (by decide)
  have c3_ : zKm F_ K_ d_ N1_ := zKm.fr (hf.w hW) hsN1_ p0_ (by decide)
  show zW l m_Calc_pushSingle (zn Mz + 0, zw Mz + 0) N1_ 8 [some (.ref (d_ + 33)), some (.int (Int32.ofInt a0_)), some (.int (Int32.ofInt a1_))] [.int (Int32.ofInt v2_), .ref (d_ + 23)] _
  have hsv_ := hp0_N1_
  refine zw_iload_n (pc := 8) (n := 1) (x := Int32.ofInt a0_) rfl (zdal_p dlA_Calc_pushSingle_130 (i := 4) rfl) ?_
  refine zw_iload_n (pc := 9) (n := 2) (x := Int32.ofInt a1_) rfl (zdal_p dlA_Calc_pushSingle_130 (i := 5) rfl) ?_
  refine zr_i2l (pc := 10) ⟨ha1_a, ha1_b⟩ (zdal_p dlA_Calc_pushSingle_130 (i := 6) rfl) ?_
  refine zk_callV hf_N1_.x (pc := 11) [.int (Int32.ofInt v2_), .int (Int32.ofInt a0_), .long (Int64.ofInt a1_)] [] l_Calc_61 (u_Sums_putSingle l d_ N1_ (hf_N1_.w hW) v2_ hv2_a hv2_b a0_ ha0_a ha0_b a1_ (by omega) (by omega) F_ K_ hA_ c3_ (show 0 ≤ v2_ by first | assumption | omega) (show v2_ ≤ 39 by first | assumption | omega)) rfl rfl ((hf_N1_.w hW).kr (o := 23) (by decide)) (by decide) (by decide) (Nat.le_of_ble_eq_true rfl) (zdal_p dlA_Calc_pushSingle_130 (i := 7) rfl) ?_
  rintro _ N4_ ⟨rfl, hsN4_, hp0_N4_⟩
  replace hp0_N4_ : zSh F_ d_ N1_ N4_ v2_ (zone a0_ a1_) := hp0_N4_
  have hf_N4_ : zFc d_ [] [] [(33, 3)] [25] Mz N4_ := hf_N1_.tr hsN4_ (by decide) (by decide) (by decide) (by decide)
  have eD33_2_N4_ : ze N4_ (d_ + 33) 2 = ze N1_ (d_ + 33) 2 := hsN4_.e (by decide)
  have eD33_3_N4_ : ze N4_ (d_ + 33) 3 = ze N1_ (d_ + 33) 3 := hsN4_.e (by decide)
  have eD33_4_N4_ : ze N4_ (d_ + 33) 4 = ze N1_ (d_ + 33) 4 := hsN4_.e (by decide)
  have eD33_5_N4_ : ze N4_ (d_ + 33) 5 = ze N1_ (d_ + 33) 5 := hsN4_.e (by decide)
  have eD33_6_N4_ : ze N4_ (d_ + 33) 6 = ze N1_ (d_ + 33) 6 := hsN4_.e (by decide)
  have c6_ : zKm F_ K_ d_ N4_ := zKm.fr (hf_N1_.w hW) hsN4_ c3_ (by decide)
  show zW l m_Calc_pushSingle (zn Mz + 0, zw Mz + 0) N4_ 14 [some (.ref (d_ + 33)), some (.int (Int32.ofInt a0_)), some (.int (Int32.ofInt a1_))] [] _
  have hs_ := hp0_N4_
  rw [hsv_] at hs_
  have hp_ := zCI_pv (F := F_) (u := (zone a0_ a1_)) p1_ (by omega) (fun i => hf_N4_.r (by decide) i) (by omega) (by omega) (by omega) (by omega) ((zSh_n (by omega) hs_).trans (zone_n (by omega) (by omega))) (fun t t0 t1 => (zSh_o hF27_ (by omega) (by omega) (by omega) hs_).trans (zvc_f hsN1_ (by decide) t)) (zone_fit hA_ (by omega) (by omega) (by omega) (by omega))
  have hpa_ := hp_.1
  have hlw_ := (zLow.f hsN1_ (by decide)).tr (zLow.sh hs_ (by omega))
  exact zk_vret (pc := 14) rfl hf_N4_ ⟨hpa_, (show zkS d_ N4_ = zkS d_ Mz by exact hp_.2.1), (show zkW F_ d_ N4_ = zpu (zkG d_ Mz) (zone a0_ a1_) (zkW F_ d_ Mz) by exact hp_.2.2.1), (show zkG d_ N4_ = zkG d_ Mz by exact hp_.2.2.2), (show zLow d_ Mz N4_ by exact hlw_)⟩ (zdal_p dlA_Calc_pushSingle_130 (i := 8) rfl)
set_option maxHeartbeats 4000000 in
theorem u_Calc_pushNamed (l : Launch) (d_ : Nat) (Mz : zMem) (hW : zKW d_ Mz) (a0_ : Int) (ha0_a : -2147483648 ≤ a0_) (ha0_b : a0_ < 2147483648) (F_ : Nat) (K_ : Nat → Nat → Int) (hA_ : zTA F_ K_) (p0_ : zKm F_ K_ d_ Mz) (p1_ : zCI F_ K_ d_ 0 Mz) (p2_ : 0 ≤ a0_) (p3_ : a0_ ≤ 7) (p4_ : zfit F_ K_ (zvc F_ d_ Mz (1 + a0_))) : zC l m_Calc_pushNamed 0 0 [.ref (d_ + 33), .int (Int32.ofInt a0_)] Mz (zqcV d_ [] [] [(33, 3)] [25] Mz (fun N => zCI F_ K_ d_ 1 N ∧ zkS d_ N = zkS d_ Mz ∧ zkW F_ d_ N = zpu (zkG d_ Mz) (zvc F_ d_ Mz (1 + a0_)) (zkW F_ d_ Mz) ∧ zkG d_ N = zkG d_ Mz ∧ zLow d_ Mz N)) := by
  refine zC_of (L0 := [some (.ref (d_ + 33)), some (.int (Int32.ofInt a0_))]) md_Calc_pushNamed (Nat.le_of_ble_eq_true rfl) rfl ?_ zQ0
  have hf : zFc d_ [] [] [(33, 3)] [25] Mz Mz := zFc.rf
  have r_D33_2 := ze_r Mz (d_ + 33) 2
  have r_D33_3 := ze_r Mz (d_ + 33) 3
  have r_D33_4 := ze_r Mz (d_ + 33) 4
  have r_D33_5 := ze_r Mz (d_ + 33) 5
  have r_D33_6 := ze_r Mz (d_ + 33) 6
  obtain ⟨⟨hF1_, hF27_⟩, hAr_⟩ := id hA_
  obtain ⟨hFc_, hKt_⟩ := id p0_
  have hb_ := p1_.b
  have hz0_ := zop0_le (zkS d_ Mz)
  obtain ⟨q1_, q2_, q3_, q4_, q5_, q6_, q7_, q8_, q9_⟩ := id p1_
  refine zw_aload_n (pc := 0) (n := 0) (x := (d_ + 33)) rfl (zdal_p dlA_Calc_pushNamed_124 (i := 0) rfl) ?_
  refine zw_getF (pc := 1) f_Calc_20 rfl ((hf.w hW).kr (o := 33) (by decide)) ((hf.w hW).lr (o := 33) (s := 0) (r := 23) (by decide)) (zdal_p dlA_Calc_pushNamed_124 (i := 1) rfl) ?_
  refine zw_iconst (pc := 4) (v := Int32.ofInt 1) (by decide) (zdal_p dlA_Calc_pushNamed_124 (i := 2) rfl) ?_
  refine zw_iload_n (pc := 5) (n := 1) (x := Int32.ofInt a0_) rfl (zdal_p dlA_Calc_pushNamed_124 (i := 3) rfl) ?_
  refine zr_iadd (pc := 6) (zdal_p dlA_Calc_pushNamed_124 (i := 4) rfl) ?_
  refine zw_aload_n (pc := 7) (n := 0) (x := (d_ + 33)) rfl (zdal_p dlA_Calc_pushNamed_124 (i := 5) rfl) ?_
  refine zk_callV hf.x (pc := 8) [] [.int (Int32.ofInt (1 + a0_)), .ref (d_ + 23)] l_Calc_58 (u_Calc_nextShelf l d_ Mz (hf.w hW) (show 0 ≤ ze Mz (d_ + 33) 3 by first | assumption | omega) (show ze Mz (d_ + 33) 3 ≤ 17 by first | assumption | omega)) rfl rfl ((hf.w hW).kr (o := 33) (by decide)) (by decide) (by decide) (Nat.le_of_ble_eq_true rfl) (zdal_p dlA_Calc_pushNamed_124 (i := 6) rfl) ?_
  rintro _ N1_ ⟨v2_, rfl, ⟨hv2_a, hv2_b⟩, hsN1_, ⟨hp0_N1_, hp1_N1_⟩⟩
  have hf_N1_ : zFc d_ [] [] [(33, 3)] [25] Mz N1_ := hf.tr hsN1_ (by decide) (by decide) (by decide) (by decide)
  have eD33_2_N1_ : ze N1_ (d_ + 33) 2 = ze Mz (d_ + 33) 2 := hsN1_.e (by decide)
  have rD33_3_N1_ := ze_r N1_ (d_ + 33) 3
  have eD33_4_N1_ : ze N1_ (d_ + 33) 4 = ze Mz (d_ + 33) 4 := hsN1_.e (by decide)
  have eD33_5_N1_ : ze N1_ (d_ + 33) 5 = ze Mz (d_ + 33) 5 := hsN1_.e (by decide)
  have eD33_6_N1_ : ze N1_ (d_ + 33) 6 = ze Mz (d_ + 33) 6 := hsN1_.e (by decide)
  have c3_ : zKm F_ K_ d_ N1_ := zKm.fr (hf.w hW) hsN1_ p0_ (by decide)
  show zW l m_Calc_pushNamed (zn Mz + 0, zw Mz + 0) N1_ 11 [some (.ref (d_ + 33)), some (.int (Int32.ofInt a0_))] [.int (Int32.ofInt v2_), .int (Int32.ofInt (1 + a0_)), .ref (d_ + 23)] _
  have hsv_ := hp0_N1_
  refine zk_callV hf_N1_.x (pc := 11) [.int (Int32.ofInt (1 + a0_)), .int (Int32.ofInt v2_)] [] l_Calc_65 (u_Sums_copy l d_ N1_ (hf_N1_.w hW) (1 + a0_) (by omega) (by omega) v2_ hv2_a hv2_b F_ K_ hA_ c3_ (show 0 ≤ (1 + a0_) by first | assumption | omega) (show (1 + a0_) ≤ 39 by first | assumption | omega) (show 0 ≤ v2_ by first | assumption | omega) (show v2_ ≤ 39 by first | assumption | omega)) rfl rfl ((hf_N1_.w hW).kr (o := 23) (by decide)) (by decide) (by decide) (Nat.le_of_ble_eq_true rfl) (zdal_p dlA_Calc_pushNamed_124 (i := 7) rfl) ?_
  rintro _ N4_ ⟨rfl, hsN4_, hp0_N4_⟩
  replace hp0_N4_ : zSh F_ d_ N1_ N4_ v2_ (zvc F_ d_ N1_ (1 + a0_)) := hp0_N4_
  have hf_N4_ : zFc d_ [] [] [(33, 3)] [25] Mz N4_ := hf_N1_.tr hsN4_ (by decide) (by decide) (by decide) (by decide)
  have eD33_2_N4_ : ze N4_ (d_ + 33) 2 = ze N1_ (d_ + 33) 2 := hsN4_.e (by decide)
  have eD33_3_N4_ : ze N4_ (d_ + 33) 3 = ze N1_ (d_ + 33) 3 := hsN4_.e (by decide)
  have eD33_4_N4_ : ze N4_ (d_ + 33) 4 = ze N1_ (d_ + 33) 4 := hsN4_.e (by decide)
  have eD33_5_N4_ : ze N4_ (d_ + 33) 5 = ze N1_ (d_ + 33) 5 := hsN4_.e (by decide)
  have eD33_6_N4_ : ze N4_ (d_ + 33) 6 = ze N1_ (d_ + 33) 6 := hsN4_.e (by decide)
  have c6_ : zKm F_ K_ d_ N4_ := zKm.fr (hf_N1_.w hW) hsN4_ c3_ (by decide)
  show zW l m_Calc_pushNamed (zn Mz + 0, zw Mz + 0) N4_ 14 [some (.ref (d_ + 33)), some (.int (Int32.ofInt a0_))] [] _
  have hs_ := hp0_N4_
  rw [hsv_] at hs_
  have hp_ := zCI_pv (F := F_) (u := (zvc F_ d_ Mz (1 + a0_))) p1_ (by omega) (fun i => hf_N4_.r (by decide) i) (by omega) (by omega) (by omega) (by omega) (((zSh_n (by omega) hs_).trans (zvc_i _)).trans (zvc_f hsN1_ (by decide) _)) (fun t t0 t1 => (zSh_o hF27_ (by omega) (by omega) (by omega) hs_).trans (zvc_f hsN1_ (by decide) t)) (p4_)
  have hpa_ := hp_.1
  have hlw_ := (zLow.f hsN1_ (by decide)).tr (zLow.sh hs_ (by omega))
  exact zk_vret (pc := 14) rfl hf_N4_ ⟨hpa_, (show zkS d_ N4_ = zkS d_ Mz by exact hp_.2.1), (show zkW F_ d_ N4_ = zpu (zkG d_ Mz) (zvc F_ d_ Mz (1 + a0_)) (zkW F_ d_ Mz) by exact hp_.2.2.1), (show zkG d_ N4_ = zkG d_ Mz by exact hp_.2.2.2), (show zLow d_ Mz N4_ by exact hlw_)⟩ (zdal_p dlA_Calc_pushNamed_124 (i := 8) rfl)
set_option maxHeartbeats 4000000 in
theorem u_Calc_settle (l : Launch) (d_ : Nat) (Mz : zMem) (hW : zKW d_ Mz) (a0_ : Int) (ha0_a : -2147483648 ≤ a0_) (ha0_b : a0_ < 2147483648) (ha0_z : a0_ = 0 ∨ a0_ = 1) (F_ : Nat) (K_ : Nat → Nat → Int) (hA_ : zTA F_ K_) (p0_ : zKm F_ K_ d_ Mz) (p1_ : 1 ≤ ze Mz (d_ + 33) 3) (p2_ : ze Mz (d_ + 33) 3 ≤ 18) : zC l m_Calc_settle 0 0 [.ref (d_ + 33), .int (Int32.ofInt a0_)] Mz (zqcV d_ [] [] [(33, 6)] [25] Mz (fun N => (a0_ = 1 → (∀ x : Nat, zg N (d_ + 25) x = zg Mz (d_ + 25) x) ∧ ze N (d_ + 33) 6 = ze Mz (d_ + 33) 6) ∧ (a0_ = 0 → ze N (d_ + 33) 6 = 1 ∧ zSh F_ d_ Mz N (20 + ze Mz (d_ + 33) 3) (zone (-1) 0)))) := by
  refine zC_of (L0 := [some (.ref (d_ + 33)), some (.int (Int32.ofInt a0_))]) md_Calc_settle (Nat.le_of_ble_eq_true rfl) rfl ?_ zQ0
  have hf : zFc d_ [] [] [(33, 6)] [25] Mz Mz := zFc.rf
  have r_D33_2 := ze_r Mz (d_ + 33) 2
  have r_D33_3 := ze_r Mz (d_ + 33) 3
  have r_D33_4 := ze_r Mz (d_ + 33) 4
  have r_D33_5 := ze_r Mz (d_ + 33) 5
  have r_D33_6 := ze_r Mz (d_ + 33) 6
  obtain ⟨⟨hF1_, hF27_⟩, hAr_⟩ := id hA_
  obtain ⟨hFc_, hKt_⟩ := id p0_
  refine zw_iload_n (pc := 0) (n := 1) (x := Int32.ofInt a0_) rfl (zdal_p dlA_Calc_settle_147 (i := 0) rfl) ?_
  refine zr_if_ne (pc := 1) (tgt := 22) ⟨ha0_a, ha0_b⟩ (by decide) (zdal_p dlA_Calc_settle_147 (i := 1) rfl) (fun hc_1 => ?_) (fun hc_1 => ?_)
  · skip
    exact zk_vret (pc := 22) rfl hf ⟨(show (a0_ = 1 → (∀ x : Nat, zg Mz (d_ + 25) x = zg Mz (d_ + 25) x) ∧ ze Mz (d_ + 33) 6 = ze Mz (d_ + 33) 6) by first | exact fun _ => ⟨fun x => rfl, by omega⟩ | (intro h_; exfalso; omega)), (show (a0_ = 0 → ze Mz (d_ + 33) 6 = 1 ∧ zSh F_ d_ Mz Mz (20 + ze Mz (d_ + 33) 3) (zone (-1) 0)) by first | exact fun _ => ⟨by omega, hs2_⟩ | (intro h_; exfalso; omega))⟩ (zdal_p dlA_Calc_settle_147 (i := 12) rfl)
  · skip
    refine zw_aload_n (pc := 4) (n := 0) (x := (d_ + 33)) rfl (zdal_p dlA_Calc_settle_147 (i := 2) rfl) ?_
    refine zw_iconst (pc := 5) (v := Int32.ofInt 1) (by decide) (zdal_p dlA_Calc_settle_147 (i := 3) rfl) ?_
    refine zk_putR (pc := 6) (o := 33) (by decide) f_Calc_37 rfl rfl ((hf.w hW).kr (o := 33) (by decide)) ⟨by omega, by omega⟩ (z_narB (by omega)) (z_fitB (by omega)) (zdal_p dlA_Calc_settle_147 (i := 4) rfl) (fun N1_ hsN1_ hvN1_ => ?_)
    have hf_N1_ : zFc d_ [] [] [(33, 6)] [25] Mz N1_ := hf.tr hsN1_ (by decide) (by decide) (by decide) (by decide)
    have eD33_2_N1_ : ze N1_ (d_ + 33) 2 = ze Mz (d_ + 33) 2 := hsN1_.e (by decide)
    have eD33_3_N1_ : ze N1_ (d_ + 33) 3 = ze Mz (d_ + 33) 3 := hsN1_.e (by decide)
    have eD33_4_N1_ : ze N1_ (d_ + 33) 4 = ze Mz (d_ + 33) 4 := hsN1_.e (by decide)
    have eD33_5_N1_ : ze N1_ (d_ + 33) 5 = ze Mz (d_ + 33) 5 := hsN1_.e (by decide)
    have rD33_6_N1_ := ze_r N1_ (d_ + 33) 6
    have c2_ : zKm F_ K_ d_ N1_ := zKm.fr (hf.w hW) hsN1_ p0_ (by decide)
    refine zw_aload_n (pc := 9) (n := 0) (x := (d_ + 33)) rfl (zdal_p dlA_Calc_settle_147 (i := 5) rfl) ?_
    refine zw_getF (pc := 10) f_Calc_20 rfl ((hf_N1_.w hW).kr (o := 33) (by decide)) ((hf_N1_.w hW).lr (o := 33) (s := 0) (r := 23) (by decide)) (zdal_p dlA_Calc_settle_147 (i := 6) rfl) ?_
    refine zw_aload_n (pc := 13) (n := 0) (x := (d_ + 33)) rfl (zdal_p dlA_Calc_settle_147 (i := 7) rfl) ?_
    refine zk_callV hf_N1_.x (pc := 14) [] [.ref (d_ + 23)] l_Calc_43 (u_Calc_topShelf l d_ N1_ (hf_N1_.w hW) (show 0 ≤ ze N1_ (d_ + 33) 3 by first | assumption | omega) (show ze N1_ (d_ + 33) 3 ≤ 18 by first | assumption | omega)) rfl rfl ((hf_N1_.w hW).kr (o := 33) (by decide)) (by decide) (by decide) (Nat.le_of_ble_eq_true rfl) (zdal_p dlA_Calc_settle_147 (i := 8) rfl) ?_
    rintro _ N3_ ⟨v4_, rfl, ⟨hv4_a, hv4_b⟩, hsN3_, hp0_N3_⟩
    obtain rfl := hsN3_.eq.symm
    replace hp0_N3_ : v4_ = 20 + ze N1_ (d_ + 33) 3 := hp0_N3_
    show zW l m_Calc_settle (zn Mz + 0, zw Mz + 0) N1_ 17 [some (.ref (d_ + 33)), some (.int (Int32.ofInt a0_))] [.int (Int32.ofInt v4_), .ref (d_ + 23)] _
    have hsv_ := hp0_N3_
    refine zw_iconst (pc := 17) (v := Int32.ofInt (-1)) (by decide) (zdal_p dlA_Calc_settle_147 (i := 9) rfl) ?_
    refine zw_lconst (pc := 18) (v := Int64.ofInt 0) (by decide) (zdal_p dlA_Calc_settle_147 (i := 10) rfl) ?_
    refine zk_callV hf_N1_.x (pc := 19) [.int (Int32.ofInt v4_), .int (Int32.ofInt ((-1))), .long (Int64.ofInt 0)] [] l_Calc_61 (u_Sums_putSingle l d_ N1_ (hf_N1_.w hW) v4_ hv4_a hv4_b ((-1)) (by decide) (by decide) 0 (by decide) (by decide) F_ K_ hA_ c2_ (show 0 ≤ v4_ by first | assumption | omega) (show v4_ ≤ 39 by first | assumption | omega)) rfl rfl ((hf_N1_.w hW).kr (o := 23) (by decide)) (by decide) (by decide) (Nat.le_of_ble_eq_true rfl) (zdal_p dlA_Calc_settle_147 (i := 11) rfl) ?_
    rintro _ N5_ ⟨rfl, hsN5_, hp0_N5_⟩
    replace hp0_N5_ : zSh F_ d_ N1_ N5_ v4_ (zone ((-1)) 0) := hp0_N5_
    have hf_N5_ : zFc d_ [] [] [(33, 6)] [25] Mz N5_ := hf_N1_.tr hsN5_ (by decide) (by decide) (by decide) (by decide)
    have eD33_2_N5_ : ze N5_ (d_ + 33) 2 = ze N1_ (d_ + 33) 2 := hsN5_.e (by decide)
    have eD33_3_N5_ : ze N5_ (d_ + 33) 3 = ze N1_ (d_ + 33) 3 := hsN5_.e (by decide)
    have eD33_4_N5_ : ze N5_ (d_ + 33) 4 = ze N1_ (d_ + 33) 4 := hsN5_.e (by decide)
    have eD33_5_N5_ : ze N5_ (d_ + 33) 5 = ze N1_ (d_ + 33) 5 := hsN5_.e (by decide)
    have eD33_6_N5_ : ze N5_ (d_ + 33) 6 = ze N1_ (d_ + 33) 6 := hsN5_.e (by decide)
    have c7_ : zKm F_ K_ d_ N5_ := zKm.fr (hf_N1_.w hW) hsN5_ c2_ (by decide)
    show zW l m_Calc_settle (zn Mz + 0, zw Mz + 0) N5_ 22 [some (.ref (d_ + 33)), some (.int (Int32.ofInt a0_))] [] _
    have hs_ := hp0_N5_
    rw [hsv_, show ze N1_ (d_ + 33) 3 = ze Mz (d_ + 33) 3 by omega] at hs_
    have hs2_ : zSh F_ d_ Mz N5_ (20 + ze Mz (d_ + 33) 3) (zone (-1) 0) := zSh_p (fun x => hsN1_.rg (by decide) x) hs_
    exact zk_vret (pc := 22) rfl hf_N5_ ⟨(show (a0_ = 1 → (∀ x : Nat, zg N5_ (d_ + 25) x = zg Mz (d_ + 25) x) ∧ ze N5_ (d_ + 33) 6 = ze Mz (d_ + 33) 6) by first | exact fun _ => ⟨fun x => rfl, by omega⟩ | (intro h_; exfalso; omega)), (show (a0_ = 0 → ze N5_ (d_ + 33) 6 = 1 ∧ zSh F_ d_ Mz N5_ (20 + ze Mz (d_ + 33) 3) (zone (-1) 0)) by first | exact fun _ => ⟨by omega, hs2_⟩ | (intro h_; exfalso; omega))⟩ (zdal_p dlA_Calc_settle_147 (i := 12) rfl)
set_option maxHeartbeats 4000000 in
theorem u_Calc_raise (l : Launch) (d_ : Nat) (Mz : zMem) (hW : zKW d_ Mz) (a0_ : Int) (ha0_a : -2147483648 ≤ a0_) (ha0_b : a0_ < 2147483648) (F_ : Nat) (K_ : Nat → Nat → Int) (hA_ : zTA F_ K_) (p0_ : zKm F_ K_ d_ Mz) (p1_ : zCI F_ K_ d_ 1 Mz) (p2_ : 0 ≤ a0_) (p3_ : a0_ ≤ 9) : zC l m_Calc_raise 0 0 [.ref (d_ + 33), .int (Int32.ofInt a0_)] Mz (zqcV d_ [] [] [(33, 6)] [25, 27] Mz (fun N => zCI F_ K_ d_ 1 N ∧ zkS d_ N = zkS d_ Mz ∧ zkW F_ d_ N = (zpo F_ K_ (a0_).toNat (zkW F_ d_ Mz) (zkG d_ Mz)).1 ∧ zkG d_ N = (zpo F_ K_ (a0_).toNat (zkW F_ d_ Mz) (zkG d_ Mz)).2 ∧ zLow d_ Mz N)) := by
  refine zC_of (L0 := [some (.ref (d_ + 33)), some (.int (Int32.ofInt a0_)), none, none, none]) md_Calc_raise (Nat.le_of_ble_eq_true rfl) rfl ?_ zQ0
  have hf : zFc d_ [] [] [(33, 6)] [25, 27] Mz Mz := zFc.rf
  have r_D12_7 := ze_r Mz (d_ + 12) 7
  have r_D33_2 := ze_r Mz (d_ + 33) 2
  have r_D33_3 := ze_r Mz (d_ + 33) 3
  have r_D33_4 := ze_r Mz (d_ + 33) 4
  have r_D33_5 := ze_r Mz (d_ + 33) 5
  have r_D33_6 := ze_r Mz (d_ + 33) 6
  obtain ⟨⟨hF1_, hF27_⟩, hAr_⟩ := id hA_
  obtain ⟨hFc_, hKt_⟩ := id p0_
  have hb_ := p1_.b
  have hz0_ := zop0_le (zkS d_ Mz)
  obtain ⟨q1_, q2_, q3_, q4_, q5_, q6_, q7_, q8_, q9_⟩ := id p1_
  have hx9_ := q9_ (20 + ze Mz (d_ + 33) 3) (by omega) (by omega)
  refine zw_aload_n (pc := 0) (n := 0) (x := (d_ + 33)) rfl (zdal_p dlA_Calc_raise_134 (i := 0) rfl) ?_
  refine zk_callV hf.x (pc := 1) [] [] l_Calc_43 (u_Calc_topShelf l d_ Mz (hf.w hW) (show 0 ≤ ze Mz (d_ + 33) 3 by first | assumption | omega) (show ze Mz (d_ + 33) 3 ≤ 18 by first | assumption | omega)) rfl rfl ((hf.w hW).kr (o := 33) (by decide)) (by decide) (by decide) (Nat.le_of_ble_eq_true rfl) (zdal_p dlA_Calc_raise_134 (i := 1) rfl) ?_
  rintro _ N1_ ⟨v2_, rfl, ⟨hv2_a, hv2_b⟩, hsN1_, hp0_N1_⟩
  obtain rfl := hsN1_.eq.symm
  replace hp0_N1_ : v2_ = 20 + ze Mz (d_ + 33) 3 := hp0_N1_
  show zW l m_Calc_raise (zn Mz + 0, zw Mz + 0) Mz 4 [some (.ref (d_ + 33)), some (.int (Int32.ofInt a0_)), none, none, none] [.int (Int32.ofInt v2_)] _
  refine zr_toI (show v2_ = (20 + ze Mz (d_ + 33) 3) by omega) ?_
  refine zw_istore_n (pc := 4) (i := 2) (L2 := [some (.ref (d_ + 33)), some (.int (Int32.ofInt a0_)), some (.int (Int32.ofInt ((20 + ze Mz (d_ + 33) 3)))), none, none]) rfl (by decide) rfl (zdal_p dlA_Calc_raise_134 (i := 2) rfl) ?_
  refine zw_aload_n (pc := 5) (n := 0) (x := (d_ + 33)) rfl (zdal_p dlA_Calc_raise_134 (i := 3) rfl) ?_
  refine zw_getF (pc := 6) f_Calc_20 rfl ((hf.w hW).kr (o := 33) (by decide)) ((hf.w hW).lr (o := 33) (s := 0) (r := 23) (by decide)) (zdal_p dlA_Calc_raise_134 (i := 4) rfl) ?_
  refine zw_iload_n (pc := 9) (n := 2) (x := Int32.ofInt ((20 + ze Mz (d_ + 33) 3))) rfl (zdal_p dlA_Calc_raise_134 (i := 5) rfl) ?_
  refine zw_bipush (pc := 10) (v := Int32.ofInt 39) (by decide) (zdal_p dlA_Calc_raise_134 (i := 6) rfl) ?_
  refine zk_callV hf.x (pc := 12) [.int (Int32.ofInt ((20 + ze Mz (d_ + 33) 3))), .int (Int32.ofInt 39)] [] l_Calc_65 (u_Sums_copy l d_ Mz (hf.w hW) ((20 + ze Mz (d_ + 33) 3)) (by omega) (by omega) 39 (by decide) (by decide) F_ K_ hA_ p0_ (show 0 ≤ ((20 + ze Mz (d_ + 33) 3)) by first | assumption | omega) (show ((20 + ze Mz (d_ + 33) 3)) ≤ 39 by first | assumption | omega) (show 0 ≤ 39 by first | assumption | omega) (show 39 ≤ 39 by first | assumption | omega)) rfl rfl ((hf.w hW).kr (o := 23) (by decide)) (by decide) (by decide) (Nat.le_of_ble_eq_true rfl) (zdal_p dlA_Calc_raise_134 (i := 7) rfl) ?_
  rintro _ N3_ ⟨rfl, hsN3_, hp0_N3_⟩
  replace hp0_N3_ : zSh F_ d_ Mz N3_ 39 (zvc F_ d_ Mz ((20 + ze Mz (d_ + 33) 3))) := hp0_N3_
  have hf_N3_ : zFc d_ [] [] [(33, 6)] [25, 27] Mz N3_ := hf.tr hsN3_ (by decide) (by decide) (by decide) (by decide)
  have eD12_7_N3_ : ze N3_ (d_ + 12) 7 = ze Mz (d_ + 12) 7 := hsN3_.e (by decide)
  have eD33_2_N3_ : ze N3_ (d_ + 33) 2 = ze Mz (d_ + 33) 2 := hsN3_.e (by decide)
  have eD33_3_N3_ : ze N3_ (d_ + 33) 3 = ze Mz (d_ + 33) 3 := hsN3_.e (by decide)
  have eD33_4_N3_ : ze N3_ (d_ + 33) 4 = ze Mz (d_ + 33) 4 := hsN3_.e (by decide)
  have eD33_5_N3_ : ze N3_ (d_ + 33) 5 = ze Mz (d_ + 33) 5 := hsN3_.e (by decide)
  have eD33_6_N3_ : ze N3_ (d_ + 33) 6 = ze Mz (d_ + 33) 6 := hsN3_.e (by decide)
  have c5_ : zKm F_ K_ d_ N3_ := zKm.fr (hf.w hW) hsN3_ p0_ (by decide)
  show zW l m_Calc_raise (zn Mz + 0, zw Mz + 0) N3_ 15 [some (.ref (d_ + 33)), some (.int (Int32.ofInt a0_)), some (.int (Int32.ofInt ((20 + ze Mz (d_ + 33) 3)))), none, none] [] _
  have hc1_ := hp0_N3_
  refine zw_aload_n (pc := 15) (n := 0) (x := (d_ + 33)) rfl (zdal_p dlA_Calc_raise_134 (i := 8) rfl) ?_
  refine zw_getF (pc := 16) f_Calc_20 rfl ((hf_N3_.w hW).kr (o := 33) (by decide)) ((hf_N3_.w hW).lr (o := 33) (s := 0) (r := 23) (by decide)) (zdal_p dlA_Calc_raise_134 (i := 9) rfl) ?_
  refine zw_iload_n (pc := 19) (n := 2) (x := Int32.ofInt ((20 + ze Mz (d_ + 33) 3))) rfl (zdal_p dlA_Calc_raise_134 (i := 10) rfl) ?_
  refine zw_aload_n (pc := 20) (n := 0) (x := (d_ + 33)) rfl (zdal_p dlA_Calc_raise_134 (i := 11) rfl) ?_
  refine zw_getF (pc := 21) f_Calc_20 rfl ((hf_N3_.w hW).kr (o := 33) (by decide)) ((hf_N3_.w hW).lr (o := 33) (s := 0) (r := 23) (by decide)) (zdal_p dlA_Calc_raise_134 (i := 12) rfl) ?_
  refine zw_getF (pc := 24) f_Calc_68 rfl ((hf_N3_.w hW).kr (o := 23) (by decide)) ((hf_N3_.w hW).lr (o := 23) (s := 0) (r := 12) (by decide)) (zdal_p dlA_Calc_raise_134 (i := 13) rfl) ?_
  refine zk_getI (pc := 27) f_Calc_72 rfl ((hf_N3_.w hW).kr (o := 12) (by decide)) (zdal_p dlA_Calc_raise_134 (i := 14) rfl) ?_
  rw [hf_N3_.e (by decide)]
  refine zw_iconst (pc := 30) (v := Int32.ofInt 1) (by decide) (zdal_p dlA_Calc_raise_134 (i := 15) rfl) ?_
  refine zr_isub (pc := 31) (zdal_p dlA_Calc_raise_134 (i := 16) rfl) ?_
  refine zw_lconst (pc := 32) (v := Int64.ofInt 1) (by decide) (zdal_p dlA_Calc_raise_134 (i := 17) rfl) ?_
  refine zk_callV hf_N3_.x (pc := 33) [.int (Int32.ofInt ((20 + ze Mz (d_ + 33) 3))), .int (Int32.ofInt ((ze Mz (d_ + 12) 7) - 1)), .long (Int64.ofInt 1)] [] l_Calc_61 (u_Sums_putSingle l d_ N3_ (hf_N3_.w hW) ((20 + ze Mz (d_ + 33) 3)) (by omega) (by omega) ((ze Mz (d_ + 12) 7) - 1) (by omega) (by omega) 1 (by decide) (by decide) F_ K_ hA_ c5_ (show 0 ≤ ((20 + ze Mz (d_ + 33) 3)) by first | assumption | omega) (show ((20 + ze Mz (d_ + 33) 3)) ≤ 39 by first | assumption | omega)) rfl rfl ((hf_N3_.w hW).kr (o := 23) (by decide)) (by decide) (by decide) (Nat.le_of_ble_eq_true rfl) (zdal_p dlA_Calc_raise_134 (i := 18) rfl) ?_
  rintro _ N6_ ⟨rfl, hsN6_, hp0_N6_⟩
  replace hp0_N6_ : zSh F_ d_ N3_ N6_ ((20 + ze Mz (d_ + 33) 3)) (zone ((ze Mz (d_ + 12) 7) - 1) 1) := hp0_N6_
  have hf_N6_ : zFc d_ [] [] [(33, 6)] [25, 27] Mz N6_ := hf_N3_.tr hsN6_ (by decide) (by decide) (by decide) (by decide)
  have eD12_7_N6_ : ze N6_ (d_ + 12) 7 = ze N3_ (d_ + 12) 7 := hsN6_.e (by decide)
  have eD33_2_N6_ : ze N6_ (d_ + 33) 2 = ze N3_ (d_ + 33) 2 := hsN6_.e (by decide)
  have eD33_3_N6_ : ze N6_ (d_ + 33) 3 = ze N3_ (d_ + 33) 3 := hsN6_.e (by decide)
  have eD33_4_N6_ : ze N6_ (d_ + 33) 4 = ze N3_ (d_ + 33) 4 := hsN6_.e (by decide)
  have eD33_5_N6_ : ze N6_ (d_ + 33) 5 = ze N3_ (d_ + 33) 5 := hsN6_.e (by decide)
  have eD33_6_N6_ : ze N6_ (d_ + 33) 6 = ze N3_ (d_ + 33) 6 := hsN6_.e (by decide)
  have c8_ : zKm F_ K_ d_ N6_ := zKm.fr (hf_N3_.w hW) hsN6_ c5_ (by decide)
  show zW l m_Calc_raise (zn Mz + 0, zw Mz + 0) N6_ 36 [some (.ref (d_ + 33)), some (.int (Int32.ofInt a0_)), some (.int (Int32.ofInt ((20 + ze Mz (d_ + 33) 3)))), none, none] [] _
  have hp2_ := hp0_N6_
  rw [show ze Mz (d_ + 12) 7 - 1 = (F_ : Int) - 1 by omega] at hp2_
  have hra0_ := zRa_0 hA_ rfl (by omega) (by omega) hc1_ hp2_ (by omega)
  refine zw_iconst (pc := 36) (v := Int32.ofInt 0) (by decide) (zdal_p dlA_Calc_raise_134 (i := 19) rfl) ?_
  refine zw_istore_n (pc := 37) (i := 3) (L2 := [some (.ref (d_ + 33)), some (.int (Int32.ofInt a0_)), some (.int (Int32.ofInt ((20 + ze Mz (d_ + 33) 3)))), some (.int (Int32.ofInt 0)), none]) rfl (by decide) rfl (zdal_p dlA_Calc_raise_134 (i := 20) rfl) ?_
  have lp_38 : ∀ (n : Nat) (u9_ : Int) (hu9_a : -2147483648 ≤ u9_) (hu9_b : u9_ < 2147483648) (N10_ : zMem) (hs11_ : zFc d_ [] [] [(33, 6)] [25, 27] N6_ N10_) (i12_ : 0 ≤ u9_) (i13_ : u9_ ≤ a0_) (i14_ : zRa F_ K_ d_ Mz N10_ u9_), (a0_ - u9_).toNat < n → zW l m_Calc_raise (zn Mz + 0, zw Mz + 0) N10_ 38 [some (.ref (d_ + 33)), some (.int (Int32.ofInt a0_)), some (.int (Int32.ofInt ((20 + ze Mz (d_ + 33) 3)))), some (.int (Int32.ofInt u9_)), none] [] (zqcV d_ [] [] [(33, 6)] [25, 27] Mz (fun N => zCI F_ K_ d_ 1 N ∧ zkS d_ N = zkS d_ Mz ∧ zkW F_ d_ N = (zpo F_ K_ (a0_).toNat (zkW F_ d_ Mz) (zkG d_ Mz)).1 ∧ zkG d_ N = (zpo F_ K_ (a0_).toNat (zkW F_ d_ Mz) (zkG d_ Mz)).2 ∧ zLow d_ Mz N)) := by
    intro n
    induction n with
    | zero =>
      intro u9_ hu9_a hu9_b N10_ hs11_ i12_ i13_ i14_ h0
      exact absurd h0 (Nat.not_lt_zero _)
    | succ n ih_38 =>
      intro u9_ hu9_a hu9_b N10_ hs11_ i12_ i13_ i14_ hlt_38
      have hf_N10_ : zFc d_ [] [] [(33, 6)] [25, 27] Mz N10_ := hf_N6_.tr hs11_ (by decide) (by decide) (by decide) (by decide)
      have eD12_7_N10_ : ze N10_ (d_ + 12) 7 = ze N6_ (d_ + 12) 7 := hs11_.e (by decide)
      have eD33_2_N10_ : ze N10_ (d_ + 33) 2 = ze N6_ (d_ + 33) 2 := hs11_.e (by decide)
      have eD33_3_N10_ : ze N10_ (d_ + 33) 3 = ze N6_ (d_ + 33) 3 := hs11_.e (by decide)
      have eD33_4_N10_ : ze N10_ (d_ + 33) 4 = ze N6_ (d_ + 33) 4 := hs11_.e (by decide)
      have eD33_5_N10_ : ze N10_ (d_ + 33) 5 = ze N6_ (d_ + 33) 5 := hs11_.e (by decide)
      have rD33_6_N10_ := ze_r N10_ (d_ + 33) 6
      have c15_ : zKm F_ K_ d_ N10_ := zKm.fr (hf_N6_.w hW) hs11_ c8_ (by decide)
      have hra_ := (show zRa F_ K_ d_ Mz N10_ u9_ by assumption)
      have hm5_ : zfit F_ K_ (zvc F_ d_ N10_ (20 + ze Mz (d_ + 33) 3)) := hra_.2.2.2.1
      have hm6_ : zfit F_ K_ (zvc F_ d_ N10_ 39) := by rw [ hra_.1]; exact hx9_
      refine zw_iload_n (pc := 38) (n := 3) (x := Int32.ofInt u9_) rfl (zdal_p dlA_Calc_raise_134 (i := 21) rfl) ?_
      refine zw_iload_n (pc := 39) (n := 1) (x := Int32.ofInt a0_) rfl (zdal_p dlA_Calc_raise_134 (i := 22) rfl) ?_
      refine zr_icmp_ge (pc := 40) (tgt := 92) ⟨hu9_a, hu9_b⟩ ⟨ha0_a, ha0_b⟩ (by decide) (zdal_p dlA_Calc_raise_134 (i := 23) rfl) (fun hc_40 => ?_) (fun hc_40 => ?_)
      · skip
        obtain ⟨f1_, f2_, f3_, f4_, f5_⟩ := zRa_e p1_ (n := (a0_).toNat) (by omega) hra_ (by omega) (fun i => hf_N10_.r (by decide) i) (by omega) (by omega) (by omega)
        exact zk_vret (pc := 92) rfl hf_N10_ ⟨f1_, (show zkS d_ N10_ = zkS d_ Mz by exact f2_), (show zkW F_ d_ N10_ = (zpo F_ K_ (a0_).toNat (zkW F_ d_ Mz) (zkG d_ Mz)).1 by exact f3_), (show zkG d_ N10_ = (zpo F_ K_ (a0_).toNat (zkW F_ d_ Mz) (zkG d_ Mz)).2 by exact f4_), (show zLow d_ Mz N10_ by exact f5_)⟩ (zdal_p dlA_Calc_raise_135 (i := 23) rfl)
      · skip
        refine zw_iload_n (pc := 43) (n := 3) (x := Int32.ofInt u9_) rfl (zdal_p dlA_Calc_raise_135 (i := 0) rfl) ?_
        refine zw_bipush (pc := 44) (v := Int32.ofInt 9) (by decide) (zdal_p dlA_Calc_raise_135 (i := 1) rfl) ?_
        refine zr_icmp_ge (pc := 46) (tgt := 92) ⟨hu9_a, hu9_b⟩ ⟨(by decide), (by decide)⟩ (by decide) (zdal_p dlA_Calc_raise_135 (i := 2) rfl) (fun hc_46 => ?_) (fun hc_46 => ?_)
        · skip
          obtain ⟨f1_, f2_, f3_, f4_, f5_⟩ := zRa_e p1_ (n := (a0_).toNat) (by omega) hra_ (by omega) (fun i => hf_N10_.r (by decide) i) (by omega) (by omega) (by omega)
          exact zk_vret (pc := 92) rfl hf_N10_ ⟨f1_, (show zkS d_ N10_ = zkS d_ Mz by exact f2_), (show zkW F_ d_ N10_ = (zpo F_ K_ (a0_).toNat (zkW F_ d_ Mz) (zkG d_ Mz)).1 by exact f3_), (show zkG d_ N10_ = (zpo F_ K_ (a0_).toNat (zkW F_ d_ Mz) (zkG d_ Mz)).2 by exact f4_), (show zLow d_ Mz N10_ by exact f5_)⟩ (zdal_p dlA_Calc_raise_135 (i := 23) rfl)
        · skip
          refine zw_aload_n (pc := 49) (n := 0) (x := (d_ + 33)) rfl (zdal_p dlA_Calc_raise_135 (i := 3) rfl) ?_
          refine zw_getF (pc := 50) f_Calc_20 rfl ((hf_N10_.w hW).kr (o := 33) (by decide)) ((hf_N10_.w hW).lr (o := 33) (s := 0) (r := 23) (by decide)) (zdal_p dlA_Calc_raise_135 (i := 4) rfl) ?_
          refine zw_iload_n (pc := 53) (n := 2) (x := Int32.ofInt ((20 + ze Mz (d_ + 33) 3))) rfl (zdal_p dlA_Calc_raise_135 (i := 5) rfl) ?_
          refine zw_bipush (pc := 54) (v := Int32.ofInt 39) (by decide) (zdal_p dlA_Calc_raise_135 (i := 6) rfl) ?_
          refine zk_callV hf_N10_.x (pc := 56) [.int (Int32.ofInt ((20 + ze Mz (d_ + 33) 3))), .int (Int32.ofInt 39)] [] l_Calc_77 (u_Sums_multiply l d_ N10_ (hf_N10_.w hW) ((20 + ze Mz (d_ + 33) 3)) (by omega) (by omega) 39 (by decide) (by decide) F_ K_ hA_ c15_ (show 0 ≤ ((20 + ze Mz (d_ + 33) 3)) by first | assumption | omega) (show ((20 + ze Mz (d_ + 33) 3)) ≤ 39 by first | assumption | omega) (show 0 ≤ 39 by first | assumption | omega) (show 39 ≤ 39 by first | assumption | omega) (show zfit F_ K_ (zvc F_ d_ N10_ ((20 + ze Mz (d_ + 33) 3))) by exact hm5_) (show zfit F_ K_ (zvc F_ d_ N10_ 39) by exact hm6_)) rfl rfl ((hf_N10_.w hW).kr (o := 23) (by decide)) (by decide) (by decide) (Nat.le_of_ble_eq_true rfl) (zdal_p dlA_Calc_raise_135 (i := 7) rfl) ?_
          rintro _ N16_ ⟨v17_, rfl, ⟨hv17_a, hv17_b⟩, hsN16_, hp0_N16_⟩
          replace hp0_N16_ : ((v17_ = 1 ∧ zmok F_ K_ (zvc F_ d_ N10_ ((20 + ze Mz (d_ + 33) 3))) (zvc F_ d_ N10_ 39) ∧ zSh F_ d_ N10_ N16_ ((20 + ze Mz (d_ + 33) 3)) (zprd F_ K_ (zvc F_ d_ N10_ ((20 + ze Mz (d_ + 33) 3))) (zvc F_ d_ N10_ 39))) ∨ (v17_ = 0 ∧ ¬ zmok F_ K_ (zvc F_ d_ N10_ ((20 + ze Mz (d_ + 33) 3))) (zvc F_ d_ N10_ 39) ∧ (∀ x : Nat, zg N16_ (d_ + 25) x = zg N10_ (d_ + 25) x))) := hp0_N16_
          have hf_N16_ : zFc d_ [] [] [(33, 6)] [25, 27] Mz N16_ := hf_N10_.tr hsN16_ (by decide) (by decide) (by decide) (by decide)
          have hb0_N16_ : zFc d_ [] [] [(33, 6)] [25, 27] N6_ N16_ := hs11_.tr hsN16_ (by decide) (by decide) (by decide) (by decide)
          have eD12_7_N16_ : ze N16_ (d_ + 12) 7 = ze N10_ (d_ + 12) 7 := hsN16_.e (by decide)
          have eD33_2_N16_ : ze N16_ (d_ + 33) 2 = ze N10_ (d_ + 33) 2 := hsN16_.e (by decide)
          have eD33_3_N16_ : ze N16_ (d_ + 33) 3 = ze N10_ (d_ + 33) 3 := hsN16_.e (by decide)
          have eD33_4_N16_ : ze N16_ (d_ + 33) 4 = ze N10_ (d_ + 33) 4 := hsN16_.e (by decide)
          have eD33_5_N16_ : ze N16_ (d_ + 33) 5 = ze N10_ (d_ + 33) 5 := hsN16_.e (by decide)
          have eD33_6_N16_ : ze N16_ (d_ + 33) 6 = ze N10_ (d_ + 33) 6 := hsN16_.e (by decide)
          have c18_ : zKm F_ K_ d_ N16_ := zKm.fr (hf_N10_.w hW) hsN16_ c15_ (by decide)
          rcases hp0_N16_ with ⟨rfl, ha56_0_hp0_N16_, ha56_1_hp0_N16_⟩ | ⟨rfl, ha56_0_hp0_N16_, ha56_1_hp0_N16_⟩
          · skip
            have hm1_ := ha56_0_hp0_N16_
            have hsh_ := ha56_1_hp0_N16_
            have hz_ : zvc F_ d_ N16_ (20 + ze Mz (d_ + 33) 3) = (zprd F_ K_ (zvc F_ d_ N10_ (20 + ze Mz (d_ + 33) 3)) (zvc F_ d_ N10_ 39)) := (zSh_n (by omega) hsh_).trans (zprd_n hA_ _ _)
            show zW l m_Calc_raise (zn Mz + 0, zw Mz + 0) N16_ 59 [some (.ref (d_ + 33)), some (.int (Int32.ofInt a0_)), some (.int (Int32.ofInt ((20 + ze Mz (d_ + 33) 3)))), some (.int (Int32.ofInt u9_)), none] [.int (Int32.ofInt 1)] _
            refine zw_istore (pc := 59) (i := 4) (L2 := [some (.ref (d_ + 33)), some (.int (Int32.ofInt a0_)), some (.int (Int32.ofInt ((20 + ze Mz (d_ + 33) 3)))), some (.int (Int32.ofInt u9_)), some (.int (Int32.ofInt 1))]) (by decide) rfl (zdal_p dlA_Calc_raise_135 (i := 8) rfl) ?_
            refine zw_aload_n (pc := 61) (n := 0) (x := (d_ + 33)) rfl (zdal_p dlA_Calc_raise_135 (i := 9) rfl) ?_
            refine zw_iload (pc := 62) (i := 4) (x := Int32.ofInt 1) rfl (zdal_p dlA_Calc_raise_135 (i := 10) rfl) ?_
            refine zr_if_eq (pc := 64) (tgt := 82) ⟨(by decide), (by decide)⟩ (by decide) (zdal_p dlA_Calc_raise_135 (i := 11) rfl) (fun hc_64 => ?_) (fun hc_64 => ?_)
            · skip
              exact absurd hc_64 (by decide)
            · skip
              refine zw_aload_n (pc := 67) (n := 0) (x := (d_ + 33)) rfl (zdal_p dlA_Calc_raise_135 (i := 12) rfl) ?_
              refine zw_getF (pc := 68) f_Calc_20 rfl ((hf_N16_.w hW).kr (o := 33) (by decide)) ((hf_N16_.w hW).lr (o := 33) (s := 0) (r := 23) (by decide)) (zdal_p dlA_Calc_raise_135 (i := 13) rfl) ?_
              refine zw_iload_n (pc := 71) (n := 2) (x := Int32.ofInt ((20 + ze Mz (d_ + 33) 3))) rfl (zdal_p dlA_Calc_raise_135 (i := 14) rfl) ?_
              refine zk_callV hf_N16_.x (pc := 72) [.int (Int32.ofInt ((20 + ze Mz (d_ + 33) 3)))] [.ref (d_ + 33)] l_Calc_81 (u_Sums_isInBounds l d_ N16_ (hf_N16_.w hW) ((20 + ze Mz (d_ + 33) 3)) (by omega) (by omega) F_ K_ hA_ c18_ (show 0 ≤ ((20 + ze Mz (d_ + 33) 3)) by first | assumption | omega) (show ((20 + ze Mz (d_ + 33) 3)) ≤ 39 by first | assumption | omega) (show zbd F_ K_ (zvc F_ d_ N16_ ((20 + ze Mz (d_ + 33) 3))) by rw [hz_]; exact zprd_bd hA_ hm1_)) rfl rfl ((hf_N16_.w hW).kr (o := 23) (by decide)) (by decide) (by decide) (Nat.le_of_ble_eq_true rfl) (zdal_p dlA_Calc_raise_135 (i := 15) rfl) ?_
              rintro _ N19_ ⟨v20_, rfl, ⟨hv20_a, hv20_b⟩, hsN19_, hp0_N19_⟩
              obtain rfl := hsN19_.eq.symm
              replace hp0_N19_ : ((v20_ = 1 ∧ zfit F_ K_ (zvc F_ d_ N16_ ((20 + ze Mz (d_ + 33) 3)))) ∨ (v20_ = 0 ∧ ¬ zfit F_ K_ (zvc F_ d_ N16_ ((20 + ze Mz (d_ + 33) 3))))) := hp0_N19_
              rcases hp0_N19_ with ⟨rfl, ha72_0_hp0_N19_⟩ | ⟨rfl, ha72_0_hp0_N19_⟩
              · skip
                have hi_ := ha72_0_hp0_N19_
                rw [hz_] at hi_
                show zW l m_Calc_raise (zn Mz + 0, zw Mz + 0) N16_ 75 [some (.ref (d_ + 33)), some (.int (Int32.ofInt a0_)), some (.int (Int32.ofInt ((20 + ze Mz (d_ + 33) 3)))), some (.int (Int32.ofInt u9_)), some (.int (Int32.ofInt 1))] [.int (Int32.ofInt 1), .ref (d_ + 33)] _
                refine zr_if_eq (pc := 75) (tgt := 82) ⟨(by decide), (by decide)⟩ (by decide) (zdal_p dlA_Calc_raise_135 (i := 16) rfl) (fun hc_75 => ?_) (fun hc_75 => ?_)
                · skip
                  exact absurd hc_75 (by decide)
                · skip
                  refine zw_iconst (pc := 78) (v := Int32.ofInt 1) (by decide) (zdal_p dlA_Calc_raise_135 (i := 17) rfl) ?_
                  refine zw_goto (pc := 79) (tgt := 83) (by decide) (zdal_p dlA_Calc_raise_135 (i := 18) rfl) ?_
                  refine zk_callV hf_N16_.x (pc := 83) [.int (Int32.ofInt 1)] [] l_Calc_85 (u_Calc_settle l d_ N16_ (hf_N16_.w hW) 1 (by decide) (by decide) (by omega) F_ K_ hA_ c18_ (show 1 ≤ ze N16_ (d_ + 33) 3 by first | assumption | omega) (show ze N16_ (d_ + 33) 3 ≤ 18 by first | assumption | omega)) rfl rfl ((hf_N16_.w hW).kr (o := 33) (by decide)) (by decide) (by decide) (Nat.le_of_ble_eq_true rfl) d_Calc_raise_83 ?_
                  rintro _ N21_ ⟨rfl, hsN21_, ⟨hp0_N21_, hp1_N21_⟩⟩
                  have hf_N21_ : zFc d_ [] [] [(33, 6)] [25, 27] Mz N21_ := hf_N16_.tr hsN21_ (by decide) (by decide) (by decide) (by decide)
                  have hb0_N21_ : zFc d_ [] [] [(33, 6)] [25, 27] N6_ N21_ := hb0_N16_.tr hsN21_ (by decide) (by decide) (by decide) (by decide)
                  have eD12_7_N21_ : ze N21_ (d_ + 12) 7 = ze N16_ (d_ + 12) 7 := hsN21_.e (by decide)
                  have eD33_2_N21_ : ze N21_ (d_ + 33) 2 = ze N16_ (d_ + 33) 2 := hsN21_.e (by decide)
                  have eD33_3_N21_ : ze N21_ (d_ + 33) 3 = ze N16_ (d_ + 33) 3 := hsN21_.e (by decide)
                  have eD33_4_N21_ : ze N21_ (d_ + 33) 4 = ze N16_ (d_ + 33) 4 := hsN21_.e (by decide)
                  have eD33_5_N21_ : ze N21_ (d_ + 33) 5 = ze N16_ (d_ + 33) 5 := hsN21_.e (by decide)
                  have rD33_6_N21_ := ze_r N21_ (d_ + 33) 6
                  have c23_ : zKm F_ K_ d_ N21_ := zKm.fr (hf_N16_.w hW) hsN21_ c18_ (by decide)
                  show zW l m_Calc_raise (zn Mz + 0, zw Mz + 0) N21_ 86 [some (.ref (d_ + 33)), some (.int (Int32.ofInt a0_)), some (.int (Int32.ofInt ((20 + ze Mz (d_ + 33) 3)))), some (.int (Int32.ofInt u9_)), some (.int (Int32.ofInt 1))] [] _
                  have ho0_ := hp0_N21_
                  have ho1_ := hp1_N21_
                  rw [show ze N16_ (d_ + 33) 3 = ze Mz (d_ + 33) 3 by omega] at ho1_
                  have hok_ : zOk F_ d_ N10_ N21_ (20 + ze Mz (d_ + 33) 3) (zprd F_ K_ (zvc F_ d_ N10_ (20 + ze Mz (d_ + 33) 3)) (zvc F_ d_ N10_ 39)) (zmok F_ K_ (zvc F_ d_ N10_ (20 + ze Mz (d_ + 33) 3)) (zvc F_ d_ N10_ 39) ∧ zfit F_ K_ (zprd F_ K_ (zvc F_ d_ N10_ (20 + ze Mz (d_ + 33) 3)) (zvc F_ d_ N10_ 39))) := by first | exact zOk_1 hF27_ (by omega) hsh_ (zprd_n hA_ _ _) (by omega) ⟨hm1_, hi_⟩ (ho0_ rfl).1 (ho0_ rfl).2 | exact zOk_2 hF27_ (by omega) hsh_ (fun q_ => hi_ q_.2) (ho1_ rfl).2 (zone_z 0) (ho1_ rfl).1 | exact zOk_3 hF27_ (by omega) hrw_ (fun q_ => hm0_ q_.1) (ho1_ rfl).2 (zone_z 0) (ho1_ rfl).1
                  have hrs_ := zRa_s rfl (by omega) (by omega) (by omega) hra_ hok_
                  refine zr_iinc (pc := 86) (i := 3) (a := u9_) (n := 1) (L2 := [some (.ref (d_ + 33)), some (.int (Int32.ofInt a0_)), some (.int (Int32.ofInt ((20 + ze Mz (d_ + 33) 3)))), some (.int (Int32.ofInt (u9_ + 1))), some (.int (Int32.ofInt 1))]) rfl (by decide) rfl d_Calc_raise_86 ?_
                  refine zw_goto (pc := 89) (tgt := 38) (by decide) d_Calc_raise_89 ?_
                  refine zW_le [some (.ref (d_ + 33)), some (.int (Int32.ofInt a0_)), some (.int (Int32.ofInt ((20 + ze Mz (d_ + 33) 3)))), some (.int (Int32.ofInt (u9_ + 1))), none] (⟨rfl, rfl, rfl, rfl, trivial⟩) ?_
                  exact ih_38 (u9_ + 1) (by omega) (by omega) N21_ hb0_N21_ (show 0 ≤ (u9_ + 1) by first | assumption | omega) (show (u9_ + 1) ≤ a0_ by first | assumption | omega) (show zRa F_ K_ d_ Mz N21_ (u9_ + 1) by exact hrs_) (by omega)
              · skip
                have hi_ := ha72_0_hp0_N19_
                rw [hz_] at hi_
                show zW l m_Calc_raise (zn Mz + 0, zw Mz + 0) N16_ 75 [some (.ref (d_ + 33)), some (.int (Int32.ofInt a0_)), some (.int (Int32.ofInt ((20 + ze Mz (d_ + 33) 3)))), some (.int (Int32.ofInt u9_)), some (.int (Int32.ofInt 1))] [.int (Int32.ofInt 0), .ref (d_ + 33)] _
                refine zr_if_eq (pc := 75) (tgt := 82) ⟨(by decide), (by decide)⟩ (by decide) (zdal_p dlA_Calc_raise_135 (i := 16) rfl) (fun hc_75 => ?_) (fun hc_75 => ?_)
                · skip
                  refine zw_iconst (pc := 82) (v := Int32.ofInt 0) (by decide) (zdal_p dlA_Calc_raise_135 (i := 19) rfl) ?_
                  refine zk_callV hf_N16_.x (pc := 83) [.int (Int32.ofInt 0)] [] l_Calc_85 (u_Calc_settle l d_ N16_ (hf_N16_.w hW) 0 (by decide) (by decide) (by omega) F_ K_ hA_ c18_ (show 1 ≤ ze N16_ (d_ + 33) 3 by first | assumption | omega) (show ze N16_ (d_ + 33) 3 ≤ 18 by first | assumption | omega)) rfl rfl ((hf_N16_.w hW).kr (o := 33) (by decide)) (by decide) (by decide) (Nat.le_of_ble_eq_true rfl) d_Calc_raise_83 ?_
                  rintro _ N24_ ⟨rfl, hsN24_, ⟨hp0_N24_, hp1_N24_⟩⟩
                  have hf_N24_ : zFc d_ [] [] [(33, 6)] [25, 27] Mz N24_ := hf_N16_.tr hsN24_ (by decide) (by decide) (by decide) (by decide)
                  have hb0_N24_ : zFc d_ [] [] [(33, 6)] [25, 27] N6_ N24_ := hb0_N16_.tr hsN24_ (by decide) (by decide) (by decide) (by decide)
                  have eD12_7_N24_ : ze N24_ (d_ + 12) 7 = ze N16_ (d_ + 12) 7 := hsN24_.e (by decide)
                  have eD33_2_N24_ : ze N24_ (d_ + 33) 2 = ze N16_ (d_ + 33) 2 := hsN24_.e (by decide)
                  have eD33_3_N24_ : ze N24_ (d_ + 33) 3 = ze N16_ (d_ + 33) 3 := hsN24_.e (by decide)
                  have eD33_4_N24_ : ze N24_ (d_ + 33) 4 = ze N16_ (d_ + 33) 4 := hsN24_.e (by decide)
                  have eD33_5_N24_ : ze N24_ (d_ + 33) 5 = ze N16_ (d_ + 33) 5 := hsN24_.e (by decide)
                  have rD33_6_N24_ := ze_r N24_ (d_ + 33) 6
                  have c26_ : zKm F_ K_ d_ N24_ := zKm.fr (hf_N16_.w hW) hsN24_ c18_ (by decide)
                  show zW l m_Calc_raise (zn Mz + 0, zw Mz + 0) N24_ 86 [some (.ref (d_ + 33)), some (.int (Int32.ofInt a0_)), some (.int (Int32.ofInt ((20 + ze Mz (d_ + 33) 3)))), some (.int (Int32.ofInt u9_)), some (.int (Int32.ofInt 1))] [] _
                  have ho0_ := hp0_N24_
                  have ho1_ := hp1_N24_
                  rw [show ze N16_ (d_ + 33) 3 = ze Mz (d_ + 33) 3 by omega] at ho1_
                  have hok_ : zOk F_ d_ N10_ N24_ (20 + ze Mz (d_ + 33) 3) (zprd F_ K_ (zvc F_ d_ N10_ (20 + ze Mz (d_ + 33) 3)) (zvc F_ d_ N10_ 39)) (zmok F_ K_ (zvc F_ d_ N10_ (20 + ze Mz (d_ + 33) 3)) (zvc F_ d_ N10_ 39) ∧ zfit F_ K_ (zprd F_ K_ (zvc F_ d_ N10_ (20 + ze Mz (d_ + 33) 3)) (zvc F_ d_ N10_ 39))) := by first | exact zOk_1 hF27_ (by omega) hsh_ (zprd_n hA_ _ _) (by omega) ⟨hm1_, hi_⟩ (ho0_ rfl).1 (ho0_ rfl).2 | exact zOk_2 hF27_ (by omega) hsh_ (fun q_ => hi_ q_.2) (ho1_ rfl).2 (zone_z 0) (ho1_ rfl).1 | exact zOk_3 hF27_ (by omega) hrw_ (fun q_ => hm0_ q_.1) (ho1_ rfl).2 (zone_z 0) (ho1_ rfl).1
                  have hrs_ := zRa_s rfl (by omega) (by omega) (by omega) hra_ hok_
                  refine zr_iinc (pc := 86) (i := 3) (a := u9_) (n := 1) (L2 := [some (.ref (d_ + 33)), some (.int (Int32.ofInt a0_)), some (.int (Int32.ofInt ((20 + ze Mz (d_ + 33) 3)))), some (.int (Int32.ofInt (u9_ + 1))), some (.int (Int32.ofInt 1))]) rfl (by decide) rfl d_Calc_raise_86 ?_
                  refine zw_goto (pc := 89) (tgt := 38) (by decide) d_Calc_raise_89 ?_
                  refine zW_le [some (.ref (d_ + 33)), some (.int (Int32.ofInt a0_)), some (.int (Int32.ofInt ((20 + ze Mz (d_ + 33) 3)))), some (.int (Int32.ofInt (u9_ + 1))), none] (⟨rfl, rfl, rfl, rfl, trivial⟩) ?_
                  exact ih_38 (u9_ + 1) (by omega) (by omega) N24_ hb0_N24_ (show 0 ≤ (u9_ + 1) by first | assumption | omega) (show (u9_ + 1) ≤ a0_ by first | assumption | omega) (show zRa F_ K_ d_ Mz N24_ (u9_ + 1) by exact hrs_) (by omega)
                · skip
                  exact absurd hc_75 (by decide)
          · skip
            have hm0_ := ha56_0_hp0_N16_
            have hrw_ := ha56_1_hp0_N16_
            show zW l m_Calc_raise (zn Mz + 0, zw Mz + 0) N16_ 59 [some (.ref (d_ + 33)), some (.int (Int32.ofInt a0_)), some (.int (Int32.ofInt ((20 + ze Mz (d_ + 33) 3)))), some (.int (Int32.ofInt u9_)), none] [.int (Int32.ofInt 0)] _
            refine zw_istore (pc := 59) (i := 4) (L2 := [some (.ref (d_ + 33)), some (.int (Int32.ofInt a0_)), some (.int (Int32.ofInt ((20 + ze Mz (d_ + 33) 3)))), some (.int (Int32.ofInt u9_)), some (.int (Int32.ofInt 0))]) (by decide) rfl (zdal_p dlA_Calc_raise_135 (i := 8) rfl) ?_
            refine zw_aload_n (pc := 61) (n := 0) (x := (d_ + 33)) rfl (zdal_p dlA_Calc_raise_135 (i := 9) rfl) ?_
            refine zw_iload (pc := 62) (i := 4) (x := Int32.ofInt 0) rfl (zdal_p dlA_Calc_raise_135 (i := 10) rfl) ?_
            refine zr_if_eq (pc := 64) (tgt := 82) ⟨(by decide), (by decide)⟩ (by decide) (zdal_p dlA_Calc_raise_135 (i := 11) rfl) (fun hc_64 => ?_) (fun hc_64 => ?_)
            · skip
              refine zw_iconst (pc := 82) (v := Int32.ofInt 0) (by decide) (zdal_p dlA_Calc_raise_135 (i := 19) rfl) ?_
              refine zk_callV hf_N16_.x (pc := 83) [.int (Int32.ofInt 0)] [] l_Calc_85 (u_Calc_settle l d_ N16_ (hf_N16_.w hW) 0 (by decide) (by decide) (by omega) F_ K_ hA_ c18_ (show 1 ≤ ze N16_ (d_ + 33) 3 by first | assumption | omega) (show ze N16_ (d_ + 33) 3 ≤ 18 by first | assumption | omega)) rfl rfl ((hf_N16_.w hW).kr (o := 33) (by decide)) (by decide) (by decide) (Nat.le_of_ble_eq_true rfl) d_Calc_raise_83 ?_
              rintro _ N27_ ⟨rfl, hsN27_, ⟨hp0_N27_, hp1_N27_⟩⟩
              have hf_N27_ : zFc d_ [] [] [(33, 6)] [25, 27] Mz N27_ := hf_N16_.tr hsN27_ (by decide) (by decide) (by decide) (by decide)
              have hb0_N27_ : zFc d_ [] [] [(33, 6)] [25, 27] N6_ N27_ := hb0_N16_.tr hsN27_ (by decide) (by decide) (by decide) (by decide)
              have eD12_7_N27_ : ze N27_ (d_ + 12) 7 = ze N16_ (d_ + 12) 7 := hsN27_.e (by decide)
              have eD33_2_N27_ : ze N27_ (d_ + 33) 2 = ze N16_ (d_ + 33) 2 := hsN27_.e (by decide)
              have eD33_3_N27_ : ze N27_ (d_ + 33) 3 = ze N16_ (d_ + 33) 3 := hsN27_.e (by decide)
              have eD33_4_N27_ : ze N27_ (d_ + 33) 4 = ze N16_ (d_ + 33) 4 := hsN27_.e (by decide)
              have eD33_5_N27_ : ze N27_ (d_ + 33) 5 = ze N16_ (d_ + 33) 5 := hsN27_.e (by decide)
              have rD33_6_N27_ := ze_r N27_ (d_ + 33) 6
              have c29_ : zKm F_ K_ d_ N27_ := zKm.fr (hf_N16_.w hW) hsN27_ c18_ (by decide)
              show zW l m_Calc_raise (zn Mz + 0, zw Mz + 0) N27_ 86 [some (.ref (d_ + 33)), some (.int (Int32.ofInt a0_)), some (.int (Int32.ofInt ((20 + ze Mz (d_ + 33) 3)))), some (.int (Int32.ofInt u9_)), some (.int (Int32.ofInt 0))] [] _
              have ho0_ := hp0_N27_
              have ho1_ := hp1_N27_
              rw [show ze N16_ (d_ + 33) 3 = ze Mz (d_ + 33) 3 by omega] at ho1_
              have hok_ : zOk F_ d_ N10_ N27_ (20 + ze Mz (d_ + 33) 3) (zprd F_ K_ (zvc F_ d_ N10_ (20 + ze Mz (d_ + 33) 3)) (zvc F_ d_ N10_ 39)) (zmok F_ K_ (zvc F_ d_ N10_ (20 + ze Mz (d_ + 33) 3)) (zvc F_ d_ N10_ 39) ∧ zfit F_ K_ (zprd F_ K_ (zvc F_ d_ N10_ (20 + ze Mz (d_ + 33) 3)) (zvc F_ d_ N10_ 39))) := by first | exact zOk_1 hF27_ (by omega) hsh_ (zprd_n hA_ _ _) (by omega) ⟨hm1_, hi_⟩ (ho0_ rfl).1 (ho0_ rfl).2 | exact zOk_2 hF27_ (by omega) hsh_ (fun q_ => hi_ q_.2) (ho1_ rfl).2 (zone_z 0) (ho1_ rfl).1 | exact zOk_3 hF27_ (by omega) hrw_ (fun q_ => hm0_ q_.1) (ho1_ rfl).2 (zone_z 0) (ho1_ rfl).1
              have hrs_ := zRa_s rfl (by omega) (by omega) (by omega) hra_ hok_
              refine zr_iinc (pc := 86) (i := 3) (a := u9_) (n := 1) (L2 := [some (.ref (d_ + 33)), some (.int (Int32.ofInt a0_)), some (.int (Int32.ofInt ((20 + ze Mz (d_ + 33) 3)))), some (.int (Int32.ofInt (u9_ + 1))), some (.int (Int32.ofInt 0))]) rfl (by decide) rfl d_Calc_raise_86 ?_
              refine zw_goto (pc := 89) (tgt := 38) (by decide) d_Calc_raise_89 ?_
              refine zW_le [some (.ref (d_ + 33)), some (.int (Int32.ofInt a0_)), some (.int (Int32.ofInt ((20 + ze Mz (d_ + 33) 3)))), some (.int (Int32.ofInt (u9_ + 1))), none] (⟨rfl, rfl, rfl, rfl, trivial⟩) ?_
              exact ih_38 (u9_ + 1) (by omega) (by omega) N27_ hb0_N27_ (show 0 ≤ (u9_ + 1) by first | assumption | omega) (show (u9_ + 1) ≤ a0_ by first | assumption | omega) (show zRa F_ K_ d_ Mz N27_ (u9_ + 1) by exact hrs_) (by omega)
            · skip
              exact absurd hc_64 (by decide)
  exact lp_38 _ 0 (by decide) (by decide) N6_ zFc.rf (show 0 ≤ (0 : Int) by first | assumption | omega) (show (0 : Int) ≤ a0_ by first | assumption | omega) (show zRa F_ K_ d_ Mz N6_ (0 : Int) by exact hra0_) (Nat.lt_succ_self _)
