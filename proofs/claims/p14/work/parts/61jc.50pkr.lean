set_option maxHeartbeats 4000000 in
theorem u_Sorts_hasSortG (l : Launch) (d_ : Nat) (Mz : zMem) (hW : zKW d_ Mz) (a0_ : Int) (ha0_a : -2147483648 ≤ a0_) (ha0_b : a0_ < 2147483648) : zC l m_Sorts_hasSort 0 0 [.ref (d_ + 12), .int (Int32.ofInt a0_)] Mz (zqcI d_ [] [] [] [] Mz (fun v N => (((v = 1 ∧ 0 ≤ a0_ ∧ a0_ < ze Mz (d_ + 12) 7) ∨ (v = 0 ∧ (a0_ < 0 ∨ ze Mz (d_ + 12) 7 ≤ a0_)))))) := by
  refine zC_of (L0 := [some (.ref (d_ + 12)), some (.int (Int32.ofInt a0_))]) md_Sorts_hasSort (Nat.le_of_ble_eq_true rfl) rfl ?_ zQ0
  have hf : zFc d_ [] [] [] [] Mz Mz := zFc.rf
  have r_D12_7 := ze_r Mz (d_ + 12) 7
  refine zw_iload_n (pc := 0) (n := 1) (x := Int32.ofInt a0_) rfl d_Sorts_hasSort_0 ?_
  refine zr_if_lt (pc := 1) (tgt := 16) ⟨ha0_a, ha0_b⟩ (by decide) d_Sorts_hasSort_1 (fun hc_1 => ?_) (fun hc_1 => ?_)
  · skip
    refine zw_iconst (pc := 16) (v := Int32.ofInt 0) (by decide) d_Sorts_hasSort_16 ?_
    exact zk_iret (pc := 17) (ty := .boolean) rfl (z_narB (by omega)) ⟨by omega, by omega⟩ hf (show ((0 = 1 ∧ 0 ≤ a0_ ∧ a0_ < ze Mz (d_ + 12) 7) ∨ (0 = 0 ∧ (a0_ < 0 ∨ ze Mz (d_ + 12) 7 ≤ a0_))) from Or.inr (⟨(show 0 = 0 by first | assumption | omega), (show (a0_ < 0 ∨ ze Mz (d_ + 12) 7 ≤ a0_) by first | assumption | omega)⟩)) d_Sorts_hasSort_17
  · skip
    refine zw_iload_n (pc := 4) (n := 1) (x := Int32.ofInt a0_) rfl d_Sorts_hasSort_4 ?_
    refine zw_aload_n (pc := 5) (n := 0) (x := (d_ + 12)) rfl d_Sorts_hasSort_5 ?_
    refine zk_getI (pc := 6) f_Sorts_83 rfl ((hf.w hW).kr (o := 12) (by decide)) d_Sorts_hasSort_6 ?_
    refine zr_icmp_ge (pc := 9) (tgt := 16) ⟨ha0_a, ha0_b⟩ ⟨(ze_r Mz (d_ + 12) 7).1, (ze_r Mz (d_ + 12) 7).2⟩ (by decide) d_Sorts_hasSort_9 (fun hc_9 => ?_) (fun hc_9 => ?_)
    · skip
      refine zw_iconst (pc := 16) (v := Int32.ofInt 0) (by decide) d_Sorts_hasSort_16 ?_
      exact zk_iret (pc := 17) (ty := .boolean) rfl (z_narB (by omega)) ⟨by omega, by omega⟩ hf (show ((0 = 1 ∧ 0 ≤ a0_ ∧ a0_ < ze Mz (d_ + 12) 7) ∨ (0 = 0 ∧ (a0_ < 0 ∨ ze Mz (d_ + 12) 7 ≤ a0_))) from Or.inr (⟨(show 0 = 0 by first | assumption | omega), (show (a0_ < 0 ∨ ze Mz (d_ + 12) 7 ≤ a0_) by first | assumption | omega)⟩)) d_Sorts_hasSort_17
    · skip
      refine zw_iconst (pc := 12) (v := Int32.ofInt 1) (by decide) d_Sorts_hasSort_12 ?_
      refine zw_goto (pc := 13) (tgt := 17) (by decide) d_Sorts_hasSort_13 ?_
      exact zk_iret (pc := 17) (ty := .boolean) rfl (z_narB (by omega)) ⟨by omega, by omega⟩ hf (show ((1 = 1 ∧ 0 ≤ a0_ ∧ a0_ < ze Mz (d_ + 12) 7) ∨ (1 = 0 ∧ (a0_ < 0 ∨ ze Mz (d_ + 12) 7 ≤ a0_))) from Or.inl (⟨(show 1 = 1 by first | assumption | omega), (show 0 ≤ a0_ by first | assumption | omega), (show a0_ < ze Mz (d_ + 12) 7 by first | assumption | omega)⟩)) d_Sorts_hasSort_17
set_option maxHeartbeats 4000000 in
theorem u_T_markG (l : Launch) (d_ : Nat) (Mz : zMem) (hW : zKW d_ Mz) (hnow : zf Mz 0 2 = some (d_ + 0)) (a0_ : Int) (ha0_a : -2147483648 ≤ a0_) (ha0_b : a0_ < 2147483648) (a1_ : Int) (ha1_a : -2147483648 ≤ a1_) (ha1_b : a1_ < 2147483648) (T_ : zGT) (hT_ : T_ ∈ gTabs) (p0_ : zKm (gF T_).length (gmkI T_) d_ Mz) : zC l m_T_mark 0 0 [.ref 0, .int (Int32.ofInt a0_), .int (Int32.ofInt a1_)] Mz (zqcI d_ [] [] [] [] Mz (fun v N => (((0 ≤ a0_ ∧ a0_ < ((gF T_).length : Int) ∧ 0 ≤ a1_ ∧ a1_ < ((gF T_).length : Int) ∧ v = gmkI T_ (a0_).toNat (a1_).toNat) ∨ (¬ (0 ≤ a0_ ∧ a0_ < ((gF T_).length : Int) ∧ 0 ≤ a1_ ∧ a1_ < ((gF T_).length : Int)) ∧ v = (-1 : Int)))))) := by
  refine zC_of (L0 := [some (.ref 0), some (.int (Int32.ofInt a0_)), some (.int (Int32.ofInt a1_))]) md_T_mark (Nat.le_of_ble_eq_true rfl) rfl ?_ zQ0
  have hf : zFc d_ [] [] [] [] Mz Mz := zFc.rf
  have r_D12_7 := ze_r Mz (d_ + 12) 7
  obtain ⟨hz1_, hz2_⟩ := id p0_
  obtain ⟨⟨hF1_, hF27_⟩, hAr_⟩ := id (gT_zTA hT_)
  refine zw_aload_n (pc := 0) (n := 0) (x := 0) rfl d_T_mark_0 ?_
  refine zw_getF (pc := 1) f_T_28 rfl ((hf.w hW).ka (o := 0) (by decide)) (hf.now hnow) d_T_mark_1 ?_
  refine zw_getF (pc := 4) f_T_85 rfl ((hf.w hW).kr (o := 0) (by decide)) ((hf.w hW).lr (o := 0) (s := 1) (r := 12) (by decide)) d_T_mark_4 ?_
  refine zw_iload_n (pc := 7) (n := 1) (x := Int32.ofInt a0_) rfl d_T_mark_7 ?_
  refine zk_callV hf.x (pc := 8) [.int (Int32.ofInt a0_)] [] l_T_143 (u_Sorts_hasSortG l d_ Mz (hf.w hW) a0_ ha0_a ha0_b) rfl rfl ((hf.w hW).kr (o := 12) (by decide)) (by decide) (by decide) (Nat.le_of_ble_eq_true rfl) d_T_mark_8 ?_
  rintro _ N1_ ⟨v2_, rfl, ⟨hv2_a, hv2_b⟩, hsN1_, hp0_N1_⟩
  obtain rfl := hsN1_.eq.symm
  replace hp0_N1_ : ((v2_ = 1 ∧ 0 ≤ a0_ ∧ a0_ < ze Mz (d_ + 12) 7) ∨ (v2_ = 0 ∧ (a0_ < 0 ∨ ze Mz (d_ + 12) 7 ≤ a0_))) := hp0_N1_
  rcases hp0_N1_ with ⟨rfl, ha8_0_hp0_N1_, ha8_1_hp0_N1_⟩ | ⟨rfl, ha8_0_hp0_N1_⟩
  · skip
    show zW l m_T_mark (zn Mz + 0, zw Mz + 0) Mz 11 [some (.ref 0), some (.int (Int32.ofInt a0_)), some (.int (Int32.ofInt a1_))] [.int (Int32.ofInt 1)] (zqcI d_ [] [] [] [] Mz (fun v N => (((0 ≤ a0_ ∧ a0_ < ((gF T_).length : Int) ∧ 0 ≤ a1_ ∧ a1_ < ((gF T_).length : Int) ∧ v = gmkI T_ (a0_).toNat (a1_).toNat) ∨ (¬ (0 ≤ a0_ ∧ a0_ < ((gF T_).length : Int) ∧ 0 ≤ a1_ ∧ a1_ < ((gF T_).length : Int)) ∧ v = (-1 : Int))))))
    refine zr_if_eq (pc := 11) (tgt := 43) ⟨(by decide), (by decide)⟩ (by decide) d_T_mark_11 (fun hc_11 => ?_) (fun hc_11 => ?_)
    · skip
      exact absurd hc_11 (by decide)
    · skip
      refine zw_aload_n (pc := 14) (n := 0) (x := 0) rfl d_T_mark_14 ?_
      refine zw_getF (pc := 15) f_T_28 rfl ((hf.w hW).ka (o := 0) (by decide)) (hf.now hnow) d_T_mark_15 ?_
      refine zw_getF (pc := 18) f_T_85 rfl ((hf.w hW).kr (o := 0) (by decide)) ((hf.w hW).lr (o := 0) (s := 1) (r := 12) (by decide)) d_T_mark_18 ?_
      refine zw_iload_n (pc := 21) (n := 2) (x := Int32.ofInt a1_) rfl d_T_mark_21 ?_
      refine zk_callV hf.x (pc := 22) [.int (Int32.ofInt a1_)] [] l_T_143 (u_Sorts_hasSortG l d_ Mz (hf.w hW) a1_ ha1_a ha1_b) rfl rfl ((hf.w hW).kr (o := 12) (by decide)) (by decide) (by decide) (Nat.le_of_ble_eq_true rfl) d_T_mark_22 ?_
      rintro _ N3_ ⟨v4_, rfl, ⟨hv4_a, hv4_b⟩, hsN3_, hp0_N3_⟩
      obtain rfl := hsN3_.eq.symm
      replace hp0_N3_ : ((v4_ = 1 ∧ 0 ≤ a1_ ∧ a1_ < ze Mz (d_ + 12) 7) ∨ (v4_ = 0 ∧ (a1_ < 0 ∨ ze Mz (d_ + 12) 7 ≤ a1_))) := hp0_N3_
      rcases hp0_N3_ with ⟨rfl, ha22_0_hp0_N3_, ha22_1_hp0_N3_⟩ | ⟨rfl, ha22_0_hp0_N3_⟩
      · skip
        show zW l m_T_mark (zn Mz + 0, zw Mz + 0) Mz 25 [some (.ref 0), some (.int (Int32.ofInt a0_)), some (.int (Int32.ofInt a1_))] [.int (Int32.ofInt 1)] (zqcI d_ [] [] [] [] Mz (fun v N => (((0 ≤ a0_ ∧ a0_ < ((gF T_).length : Int) ∧ 0 ≤ a1_ ∧ a1_ < ((gF T_).length : Int) ∧ v = gmkI T_ (a0_).toNat (a1_).toNat) ∨ (¬ (0 ≤ a0_ ∧ a0_ < ((gF T_).length : Int) ∧ 0 ≤ a1_ ∧ a1_ < ((gF T_).length : Int)) ∧ v = (-1 : Int))))))
        refine zr_if_eq (pc := 25) (tgt := 43) ⟨(by decide), (by decide)⟩ (by decide) d_T_mark_25 (fun hc_25 => ?_) (fun hc_25 => ?_)
        · skip
          exact absurd hc_25 (by decide)
        · skip
          refine zw_aload_n (pc := 28) (n := 0) (x := 0) rfl d_T_mark_28 ?_
          refine zw_getF (pc := 29) f_T_28 rfl ((hf.w hW).ka (o := 0) (by decide)) (hf.now hnow) d_T_mark_29 ?_
          refine zw_getF (pc := 32) f_T_85 rfl ((hf.w hW).kr (o := 0) (by decide)) ((hf.w hW).lr (o := 0) (s := 1) (r := 12) (by decide)) d_T_mark_32 ?_
          refine zw_iload_n (pc := 35) (n := 1) (x := Int32.ofInt a0_) rfl d_T_mark_35 ?_
          refine zw_iload_n (pc := 36) (n := 2) (x := Int32.ofInt a1_) rfl d_T_mark_36 ?_
          refine zk_callV hf.x (pc := 37) [.int (Int32.ofInt a0_), .int (Int32.ofInt a1_)] [] l_T_166 (u_Sorts_markAt l d_ Mz (hf.w hW) a0_ ha0_a ha0_b a1_ ha1_a ha1_b (show 0 ≤ a0_ by first | assumption | omega) (show a0_ ≤ 26 by first | assumption | omega) (show 0 ≤ a1_ by first | assumption | omega) (show a1_ ≤ 26 by first | assumption | omega)) rfl rfl ((hf.w hW).kr (o := 12) (by decide)) (by decide) (by decide) (Nat.le_of_ble_eq_true rfl) d_T_mark_37 ?_
          rintro _ N5_ ⟨v6_, rfl, ⟨hv6_a, hv6_b⟩, hsN5_, hp0_N5_⟩
          obtain rfl := hsN5_.eq.symm
          replace hp0_N5_ : v6_ = ze Mz (d_ + 22) (a0_ * 27 + a1_).toNat := hp0_N5_
          show zW l m_T_mark (zn Mz + 0, zw Mz + 0) Mz 40 [some (.ref 0), some (.int (Int32.ofInt a0_)), some (.int (Int32.ofInt a1_))] [.int (Int32.ofInt v6_)] (zqcI d_ [] [] [] [] Mz (fun v N => (((0 ≤ a0_ ∧ a0_ < ((gF T_).length : Int) ∧ 0 ≤ a1_ ∧ a1_ < ((gF T_).length : Int) ∧ v = gmkI T_ (a0_).toNat (a1_).toNat) ∨ (¬ (0 ≤ a0_ ∧ a0_ < ((gF T_).length : Int) ∧ 0 ≤ a1_ ∧ a1_ < ((gF T_).length : Int)) ∧ v = (-1 : Int))))))
          refine zw_goto (pc := 40) (tgt := 44) (by decide) d_T_mark_40 ?_
          exact zk_iret (pc := 44) (ty := .int) rfl rfl ⟨by omega, by omega⟩ hf (show ((0 ≤ a0_ ∧ a0_ < ((gF T_).length : Int) ∧ 0 ≤ a1_ ∧ a1_ < ((gF T_).length : Int) ∧ v6_ = gmkI T_ (a0_).toNat (a1_).toNat) ∨ (¬ (0 ≤ a0_ ∧ a0_ < ((gF T_).length : Int) ∧ 0 ≤ a1_ ∧ a1_ < ((gF T_).length : Int)) ∧ v6_ = (-1 : Int))) by first | exact Or.inr ⟨by omega, rfl⟩ | (refine Or.inl ⟨by omega, by omega, by omega, by omega, ?_⟩; rw [← hz2_ (a0_).toNat (a1_).toNat (by omega) (by omega), show 27 * (a0_).toNat + (a1_).toNat = (a0_ * 27 + a1_).toNat by omega]; assumption)) d_T_mark_44
      · skip
        show zW l m_T_mark (zn Mz + 0, zw Mz + 0) Mz 25 [some (.ref 0), some (.int (Int32.ofInt a0_)), some (.int (Int32.ofInt a1_))] [.int (Int32.ofInt 0)] (zqcI d_ [] [] [] [] Mz (fun v N => (((0 ≤ a0_ ∧ a0_ < ((gF T_).length : Int) ∧ 0 ≤ a1_ ∧ a1_ < ((gF T_).length : Int) ∧ v = gmkI T_ (a0_).toNat (a1_).toNat) ∨ (¬ (0 ≤ a0_ ∧ a0_ < ((gF T_).length : Int) ∧ 0 ≤ a1_ ∧ a1_ < ((gF T_).length : Int)) ∧ v = (-1 : Int))))))
        refine zr_if_eq (pc := 25) (tgt := 43) ⟨(by decide), (by decide)⟩ (by decide) d_T_mark_25 (fun hc_25 => ?_) (fun hc_25 => ?_)
        · skip
          refine zw_iconst (pc := 43) (v := Int32.ofInt (-1)) (by decide) d_T_mark_43 ?_
          exact zk_iret (pc := 44) (ty := .int) rfl rfl ⟨by omega, by omega⟩ hf (show ((0 ≤ a0_ ∧ a0_ < ((gF T_).length : Int) ∧ 0 ≤ a1_ ∧ a1_ < ((gF T_).length : Int) ∧ ((-1)) = gmkI T_ (a0_).toNat (a1_).toNat) ∨ (¬ (0 ≤ a0_ ∧ a0_ < ((gF T_).length : Int) ∧ 0 ≤ a1_ ∧ a1_ < ((gF T_).length : Int)) ∧ ((-1)) = (-1 : Int))) by first | exact Or.inr ⟨by omega, rfl⟩ | (refine Or.inl ⟨by omega, by omega, by omega, by omega, ?_⟩; rw [← hz2_ (a0_).toNat (a1_).toNat (by omega) (by omega), show 27 * (a0_).toNat + (a1_).toNat = (a0_ * 27 + a1_).toNat by omega]; assumption)) d_T_mark_44
        · skip
          exact absurd hc_25 (by decide)
  · skip
    show zW l m_T_mark (zn Mz + 0, zw Mz + 0) Mz 11 [some (.ref 0), some (.int (Int32.ofInt a0_)), some (.int (Int32.ofInt a1_))] [.int (Int32.ofInt 0)] (zqcI d_ [] [] [] [] Mz (fun v N => (((0 ≤ a0_ ∧ a0_ < ((gF T_).length : Int) ∧ 0 ≤ a1_ ∧ a1_ < ((gF T_).length : Int) ∧ v = gmkI T_ (a0_).toNat (a1_).toNat) ∨ (¬ (0 ≤ a0_ ∧ a0_ < ((gF T_).length : Int) ∧ 0 ≤ a1_ ∧ a1_ < ((gF T_).length : Int)) ∧ v = (-1 : Int))))))
    refine zr_if_eq (pc := 11) (tgt := 43) ⟨(by decide), (by decide)⟩ (by decide) d_T_mark_11 (fun hc_11 => ?_) (fun hc_11 => ?_)
    · skip
      refine zw_iconst (pc := 43) (v := Int32.ofInt (-1)) (by decide) d_T_mark_43 ?_
      exact zk_iret (pc := 44) (ty := .int) rfl rfl ⟨by omega, by omega⟩ hf (show ((0 ≤ a0_ ∧ a0_ < ((gF T_).length : Int) ∧ 0 ≤ a1_ ∧ a1_ < ((gF T_).length : Int) ∧ ((-1)) = gmkI T_ (a0_).toNat (a1_).toNat) ∨ (¬ (0 ≤ a0_ ∧ a0_ < ((gF T_).length : Int) ∧ 0 ≤ a1_ ∧ a1_ < ((gF T_).length : Int)) ∧ ((-1)) = (-1 : Int))) by first | exact Or.inr ⟨by omega, rfl⟩ | (refine Or.inl ⟨by omega, by omega, by omega, by omega, ?_⟩; rw [← hz2_ (a0_).toNat (a1_).toNat (by omega) (by omega), show 27 * (a0_).toNat + (a1_).toNat = (a0_ * 27 + a1_).toNat by omega]; assumption)) d_T_mark_44
    · skip
      exact absurd hc_11 (by decide)
