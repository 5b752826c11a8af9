set_option maxHeartbeats 4000000 in
theorem c_M_isSortG (l : Launch) (Mz : zMem) (hW : zMt Mz) (a0_ : Int) (ha0_a : -2147483648 ≤ a0_) (ha0_b : a0_ < 2147483648) (T : zGT) (hO : gOK T) (p0_ : zGB T Mz) : zC l m_M_isSort 0 0 [.ref 81, .int (Int32.ofInt a0_)] Mz (zpI [] [] Mz (fun v N => (((v = 1 ∧ 0 ≤ a0_ ∧ a0_ < ze Mz 81 26) ∨ (v = 0 ∧ (a0_ < 0 ∨ ze Mz 81 26 ≤ a0_)))))) := by
  refine zC_of (L0 := [some (.ref 81), some (.int (Int32.ofInt a0_))]) md_M_isSort (Nat.le_of_ble_eq_true rfl) rfl ?_ zQ0
  have hf : zFr [] [] Mz Mz := zFr.rf
  have r_26 := ze_r Mz 81 26
  have hG := hO.1
  have g24 := hG.2.1
  have g1 := hG.1
  have dv0 : zTab T Mz := p0_.1
  have dv1 : zB 85 144 0 5 Mz := p0_.2.1
  have dv2 : zJX T Mz := p0_.2.2.1
  have dv3 : zFirs T Mz := p0_.2.2.2.1
  have dv4 : zSSm T Mz := p0_.2.2.2.2.1
  have dv5 : zGD Mz := zGB.d hO p0_
  have gb := dv5.1
  have gn := dv0.1
  refine zw_iload_n (pc := 0) (n := 1) (x := Int32.ofInt a0_) rfl d_M_isSort_0 ?_
  refine zr_i2l (pc := 1) ⟨ha0_a, ha0_b⟩ d_M_isSort_1 ?_
  refine zw_lconst (pc := 2) (v := Int64.ofInt 0) (by decide) d_M_isSort_2 ?_
  refine zw_aload_n (pc := 3) (n := 0) (x := 81) rfl d_M_isSort_3 ?_
  refine zr_getI0 hf hW (pc := 4) (by decide) f_M_235 rfl d_M_isSort_4 ?_
  refine zw_iconst (pc := 7) (v := Int32.ofInt 1) (by decide) d_M_isSort_7 ?_
  refine zr_isub (pc := 8) d_M_isSort_8 ?_
  refine zr_i2l (pc := 9) ⟨(by omega), (by omega)⟩ d_M_isSort_9 ?_
  refine zr_callS hf.x (pc := 10) [.long (Int64.ofInt a0_), .long (Int64.ofInt 0), .long (Int64.ofInt ((ze Mz 81 26) - 1))] [] l_M_131 (c_M_isIn l Mz (hf.w hW) a0_ (by omega) (by omega) 0 (by decide) (by decide) ((ze Mz 81 26) - 1) (by omega) (by omega)) rfl rfl (by decide) (Nat.le_of_ble_eq_true rfl) d_M_isSort_10 ?_
  rintro _ N1_ ⟨v2_, rfl, ⟨hv2_a, hv2_b⟩, hsN1_, hp0_N1_⟩
  obtain rfl := hsN1_.eq.symm
  replace hp0_N1_ : ((v2_ = 1 ∧ 0 ≤ a0_ ∧ a0_ ≤ ((ze Mz 81 26) - 1)) ∨ (v2_ = 0 ∧ (a0_ < 0 ∨ ((ze Mz 81 26) - 1) < a0_))) := hp0_N1_
  rcases hp0_N1_ with ⟨rfl, ha10_0_hp0_N1_, ha10_1_hp0_N1_⟩ | ⟨rfl, ha10_0_hp0_N1_⟩
  · skip
    show zW l m_M_isSort (zn Mz + 0, zw Mz + 0) Mz 13 [some (.ref 81), some (.int (Int32.ofInt a0_))] [.int (Int32.ofInt 1)] (zpI [] [] Mz (fun v N => (((v = 1 ∧ 0 ≤ a0_ ∧ a0_ < ze Mz 81 26) ∨ (v = 0 ∧ (a0_ < 0 ∨ ze Mz 81 26 ≤ a0_))))))
    exact zr_iret (pc := 13) (ty := .boolean) rfl (z_narB (by omega)) ⟨by omega, by omega⟩ hf (show ((1 = 1 ∧ 0 ≤ a0_ ∧ a0_ < ze Mz 81 26) ∨ (1 = 0 ∧ (a0_ < 0 ∨ ze Mz 81 26 ≤ a0_))) from Or.inl (⟨(show 1 = 1 by first | assumption | omega), (show 0 ≤ a0_ by first | assumption | omega), (show a0_ < ze Mz 81 26 by first | assumption | omega)⟩)) d_M_isSort_13
  · skip
    show zW l m_M_isSort (zn Mz + 0, zw Mz + 0) Mz 13 [some (.ref 81), some (.int (Int32.ofInt a0_))] [.int (Int32.ofInt 0)] (zpI [] [] Mz (fun v N => (((v = 1 ∧ 0 ≤ a0_ ∧ a0_ < ze Mz 81 26) ∨ (v = 0 ∧ (a0_ < 0 ∨ ze Mz 81 26 ≤ a0_))))))
    exact zr_iret (pc := 13) (ty := .boolean) rfl (z_narB (by omega)) ⟨by omega, by omega⟩ hf (show ((0 = 1 ∧ 0 ≤ a0_ ∧ a0_ < ze Mz 81 26) ∨ (0 = 0 ∧ (a0_ < 0 ∨ ze Mz 81 26 ≤ a0_))) from Or.inr (⟨(show 0 = 0 by first | assumption | omega), (show (a0_ < 0 ∨ ze Mz 81 26 ≤ a0_) by first | assumption | omega)⟩)) d_M_isSort_13
set_option maxHeartbeats 4000000 in
theorem c_M_markG (l : Launch) (Mz : zMem) (hW : zMt Mz) (a0_ : Int) (ha0_a : -2147483648 ≤ a0_) (ha0_b : a0_ < 2147483648) (a1_ : Int) (ha1_a : -2147483648 ≤ a1_) (ha1_b : a1_ < 2147483648) (T : zGT) (hO : gOK T) (p0_ : zGB T Mz) : zC l m_M_mark 0 0 [.ref 81, .int (Int32.ofInt a0_), .int (Int32.ofInt a1_)] Mz (zpI [] [] Mz (fun v N => (((0 ≤ a0_ ∧ a0_ < ((gF T).length : Int) ∧ 0 ≤ a1_ ∧ a1_ < ((gF T).length : Int) ∧ v = gmkI T (a0_).toNat (a1_).toNat) ∨ (¬ (0 ≤ a0_ ∧ a0_ < ((gF T).length : Int) ∧ 0 ≤ a1_ ∧ a1_ < ((gF T).length : Int)) ∧ v = (-1 : Int)))))) := by
  refine zC_of (L0 := [some (.ref 81), some (.int (Int32.ofInt a0_)), some (.int (Int32.ofInt a1_))]) md_M_mark (Nat.le_of_ble_eq_true rfl) rfl ?_ zQ0
  have hf : zFr [] [] Mz Mz := zFr.rf
  have r_26 := ze_r Mz 81 26
  have hG := hO.1
  have g24 := hG.2.1
  have g1 := hG.1
  have dv0 : zTab T Mz := p0_.1
  have dv1 : zB 85 144 0 5 Mz := p0_.2.1
  have dv2 : zJX T Mz := p0_.2.2.1
  have dv3 : zFirs T Mz := p0_.2.2.2.1
  have dv4 : zSSm T Mz := p0_.2.2.2.2.1
  have dv5 : zGD Mz := zGB.d hO p0_
  have gb := dv5.1
  have gn := dv0.1
  have hso_ := dv3.1
  refine zw_aload_n (pc := 0) (n := 0) (x := 81) rfl d_M_mark_0 ?_
  refine zw_iload_n (pc := 1) (n := 1) (x := Int32.ofInt a0_) rfl d_M_mark_1 ?_
  refine zr_callV (hf.w hW) hf.x (pc := 2) [.int (Int32.ofInt a0_)] [] l_M_414 (c_M_isSortG l Mz (hf.w hW) a0_ ha0_a ha0_b T hO p0_) rfl rfl rfl (by decide) (Nat.le_of_ble_eq_true rfl) d_M_mark_2 ?_
  rintro _ N1_ ⟨v2_, rfl, ⟨hv2_a, hv2_b⟩, hsN1_, hp0_N1_⟩
  obtain rfl := hsN1_.eq.symm
  replace hp0_N1_ : ((v2_ = 1 ∧ 0 ≤ a0_ ∧ a0_ < ze Mz 81 26) ∨ (v2_ = 0 ∧ (a0_ < 0 ∨ ze Mz 81 26 ≤ a0_))) := hp0_N1_
  rcases hp0_N1_ with ⟨rfl, ha2_0_hp0_N1_, ha2_1_hp0_N1_⟩ | ⟨rfl, ha2_0_hp0_N1_⟩
  · skip
    show zW l m_M_mark (zn Mz + 0, zw Mz + 0) Mz 5 [some (.ref 81), some (.int (Int32.ofInt a0_)), some (.int (Int32.ofInt a1_))] [.int (Int32.ofInt 1)] (zpI [] [] Mz (fun v N => (((0 ≤ a0_ ∧ a0_ < ((gF T).length : Int) ∧ 0 ≤ a1_ ∧ a1_ < ((gF T).length : Int) ∧ v = gmkI T (a0_).toNat (a1_).toNat) ∨ (¬ (0 ≤ a0_ ∧ a0_ < ((gF T).length : Int) ∧ 0 ≤ a1_ ∧ a1_ < ((gF T).length : Int)) ∧ v = (-1 : Int))))))
    refine zr_if_eq (pc := 5) (tgt := 30) ⟨(by decide), (by decide)⟩ (by decide) d_M_mark_5 (fun hc_5 => ?_) (fun hc_5 => ?_)
    · skip
      exact absurd hc_5 (by decide)
    · skip
      refine zw_aload_n (pc := 8) (n := 0) (x := 81) rfl d_M_mark_8 ?_
      refine zw_iload_n (pc := 9) (n := 2) (x := Int32.ofInt a1_) rfl d_M_mark_9 ?_
      refine zr_callV (hf.w hW) hf.x (pc := 10) [.int (Int32.ofInt a1_)] [] l_M_414 (c_M_isSortG l Mz (hf.w hW) a1_ ha1_a ha1_b T hO p0_) rfl rfl rfl (by decide) (Nat.le_of_ble_eq_true rfl) d_M_mark_10 ?_
      rintro _ N3_ ⟨v4_, rfl, ⟨hv4_a, hv4_b⟩, hsN3_, hp0_N3_⟩
      obtain rfl := hsN3_.eq.symm
      replace hp0_N3_ : ((v4_ = 1 ∧ 0 ≤ a1_ ∧ a1_ < ze Mz 81 26) ∨ (v4_ = 0 ∧ (a1_ < 0 ∨ ze Mz 81 26 ≤ a1_))) := hp0_N3_
      rcases hp0_N3_ with ⟨rfl, ha10_0_hp0_N3_, ha10_1_hp0_N3_⟩ | ⟨rfl, ha10_0_hp0_N3_⟩
      · skip
        show zW l m_M_mark (zn Mz + 0, zw Mz + 0) Mz 13 [some (.ref 81), some (.int (Int32.ofInt a0_)), some (.int (Int32.ofInt a1_))] [.int (Int32.ofInt 1)] (zpI [] [] Mz (fun v N => (((0 ≤ a0_ ∧ a0_ < ((gF T).length : Int) ∧ 0 ≤ a1_ ∧ a1_ < ((gF T).length : Int) ∧ v = gmkI T (a0_).toNat (a1_).toNat) ∨ (¬ (0 ≤ a0_ ∧ a0_ < ((gF T).length : Int) ∧ 0 ≤ a1_ ∧ a1_ < ((gF T).length : Int)) ∧ v = (-1 : Int))))))
        refine zr_if_eq (pc := 13) (tgt := 30) ⟨(by decide), (by decide)⟩ (by decide) d_M_mark_13 (fun hc_13 => ?_) (fun hc_13 => ?_)
        · skip
          exact absurd hc_13 (by decide)
        · skip
          refine zw_aload_n (pc := 16) (n := 0) (x := 81) rfl d_M_mark_16 ?_
          refine zr_getF (r := 93) (hf.w hW) (pc := 17) f_M_50 rfl (zh_93 (hf.w hW)).1 d_M_mark_17 ?_
          refine zw_bipush (pc := 20) (v := Int32.ofInt 64) (by decide) d_M_mark_20 ?_
          refine zw_iload_n (pc := 22) (n := 1) (x := Int32.ofInt a0_) rfl d_M_mark_22 ?_
          refine zr_imul (pc := 23) d_M_mark_23 ?_
          refine zw_iload_n (pc := 24) (n := 2) (x := Int32.ofInt a1_) rfl d_M_mark_24 ?_
          refine zr_iadd (pc := 25) d_M_mark_25 ?_
          refine zr_ialdn (pc := 26) (zh_93 (hf.w hW)).2 (by decide) (by omega) (by omega) d_M_mark_26 (fun v5_ hv5_ hv5_a hv5_b => ?_)
          refine zw_goto (pc := 27) (tgt := 31) (by decide) d_M_mark_27 ?_
          exact zr_iret (pc := 31) (ty := .int) rfl rfl ⟨by omega, by omega⟩ hf (show ((0 ≤ a0_ ∧ a0_ < ((gF T).length : Int) ∧ 0 ≤ a1_ ∧ a1_ < ((gF T).length : Int) ∧ v5_ = gmkI T (a0_).toNat (a1_).toNat) ∨ (¬ (0 ≤ a0_ ∧ a0_ < ((gF T).length : Int) ∧ 0 ≤ a1_ ∧ a1_ < ((gF T).length : Int)) ∧ v5_ = (-1 : Int))) by first | exact Or.inr ⟨by omega, rfl⟩ | (refine Or.inl ⟨by omega, by omega, by omega, by omega, ?_⟩; rw [← zGB_mk p0_ (by omega) (by omega) (by omega) (by omega)]; assumption)) d_M_mark_31
      · skip
        show zW l m_M_mark (zn Mz + 0, zw Mz + 0) Mz 13 [some (.ref 81), some (.int (Int32.ofInt a0_)), some (.int (Int32.ofInt a1_))] [.int (Int32.ofInt 0)] (zpI [] [] Mz (fun v N => (((0 ≤ a0_ ∧ a0_ < ((gF T).length : Int) ∧ 0 ≤ a1_ ∧ a1_ < ((gF T).length : Int) ∧ v = gmkI T (a0_).toNat (a1_).toNat) ∨ (¬ (0 ≤ a0_ ∧ a0_ < ((gF T).length : Int) ∧ 0 ≤ a1_ ∧ a1_ < ((gF T).length : Int)) ∧ v = (-1 : Int))))))
        refine zr_if_eq (pc := 13) (tgt := 30) ⟨(by decide), (by decide)⟩ (by decide) d_M_mark_13 (fun hc_13 => ?_) (fun hc_13 => ?_)
        · skip
          refine zw_iconst (pc := 30) (v := Int32.ofInt (-1)) (by decide) d_M_mark_30 ?_
          exact zr_iret (pc := 31) (ty := .int) rfl rfl ⟨by omega, by omega⟩ hf (show ((0 ≤ a0_ ∧ a0_ < ((gF T).length : Int) ∧ 0 ≤ a1_ ∧ a1_ < ((gF T).length : Int) ∧ ((-1)) = gmkI T (a0_).toNat (a1_).toNat) ∨ (¬ (0 ≤ a0_ ∧ a0_ < ((gF T).length : Int) ∧ 0 ≤ a1_ ∧ a1_ < ((gF T).length : Int)) ∧ ((-1)) = (-1 : Int))) by first | exact Or.inr ⟨by omega, rfl⟩ | (refine Or.inl ⟨by omega, by omega, by omega, by omega, ?_⟩; rw [← zGB_mk p0_ (by omega) (by omega) (by omega) (by omega)]; assumption)) d_M_mark_31
        · skip
          exact absurd hc_13 (by decide)
  · skip
    show zW l m_M_mark (zn Mz + 0, zw Mz + 0) Mz 5 [some (.ref 81), some (.int (Int32.ofInt a0_)), some (.int (Int32.ofInt a1_))] [.int (Int32.ofInt 0)] (zpI [] [] Mz (fun v N => (((0 ≤ a0_ ∧ a0_ < ((gF T).length : Int) ∧ 0 ≤ a1_ ∧ a1_ < ((gF T).length : Int) ∧ v = gmkI T (a0_).toNat (a1_).toNat) ∨ (¬ (0 ≤ a0_ ∧ a0_ < ((gF T).length : Int) ∧ 0 ≤ a1_ ∧ a1_ < ((gF T).length : Int)) ∧ v = (-1 : Int))))))
    refine zr_if_eq (pc := 5) (tgt := 30) ⟨(by decide), (by decide)⟩ (by decide) d_M_mark_5 (fun hc_5 => ?_) (fun hc_5 => ?_)
    · skip
      refine zw_iconst (pc := 30) (v := Int32.ofInt (-1)) (by decide) d_M_mark_30 ?_
      exact zr_iret (pc := 31) (ty := .int) rfl rfl ⟨by omega, by omega⟩ hf (show ((0 ≤ a0_ ∧ a0_ < ((gF T).length : Int) ∧ 0 ≤ a1_ ∧ a1_ < ((gF T).length : Int) ∧ ((-1)) = gmkI T (a0_).toNat (a1_).toNat) ∨ (¬ (0 ≤ a0_ ∧ a0_ < ((gF T).length : Int) ∧ 0 ≤ a1_ ∧ a1_ < ((gF T).length : Int)) ∧ ((-1)) = (-1 : Int))) by first | exact Or.inr ⟨by omega, rfl⟩ | (refine Or.inl ⟨by omega, by omega, by omega, by omega, ?_⟩; rw [← zGB_mk p0_ (by omega) (by omega) (by omega) (by omega)]; assumption)) d_M_mark_31
    · skip
      exact absurd hc_5 (by decide)
