set_option maxHeartbeats 4000000 in
theorem c_M_isMemberG (l : Launch) (Mz : zMem) (hW : zMt Mz) (a0_ : Int) (ha0_a : -2147483648 ≤ a0_) (ha0_b : a0_ < 2147483648) (T : zGT) (hO : gOK T) (p0_ : zGB T Mz) : zC l m_M_isMember 0 0 [.ref 81, .int (Int32.ofInt a0_)] Mz (zpI [] [] Mz (fun v N => (((v = 1 ∧ 0 ≤ a0_ ∧ a0_ < ze Mz 81 20) ∨ (v = 0 ∧ (a0_ < 0 ∨ ze Mz 81 20 ≤ a0_)))))) := by
  refine zC_of (L0 := [some (.ref 81), some (.int (Int32.ofInt a0_))]) md_M_isMember (Nat.le_of_ble_eq_true rfl) rfl ?_ zQ0
  have hf : zFr [] [] Mz Mz := zFr.rf
  have r_20 := ze_r Mz 81 20
  have hG := hO.1
  have g24 := hG.2.1
  have g1 := hG.1
  have dv0 : zTab T Mz := p0_.1
  have dv1 : zB 85 144 0 5 Mz := p0_.2.1
  have dv2 : zJX T Mz := p0_.2.2.1
  have dv3 : zFirs T Mz := p0_.2.2.2.1
  have dv4 : zSSm T Mz := p0_.2.2.2.2.1
  have dv5 : zGD Mz := zGB.d hO p0_
  have gb := dv5.1
  have gn := dv0.1
  refine zw_iload_n (pc := 0) (n := 1) (x := Int32.ofInt a0_) rfl d_M_isMember_0 ?_
  refine zr_i2l (pc := 1) ⟨ha0_a, ha0_b⟩ d_M_isMember_1 ?_
  refine zw_lconst (pc := 2) (v := Int64.ofInt 0) (by decide) d_M_isMember_2 ?_
  refine zw_aload_n (pc := 3) (n := 0) (x := 81) rfl d_M_isMember_3 ?_
  refine zr_getI0 hf hW (pc := 4) (by decide) f_M_196 rfl d_M_isMember_4 ?_
  refine zw_iconst (pc := 7) (v := Int32.ofInt 1) (by decide) d_M_isMember_7 ?_
  refine zr_isub (pc := 8) d_M_isMember_8 ?_
  refine zr_i2l (pc := 9) ⟨(by omega), (by omega)⟩ d_M_isMember_9 ?_
  refine zr_callS hf.x (pc := 10) [.long (Int64.ofInt a0_), .long (Int64.ofInt 0), .long (Int64.ofInt ((ze Mz 81 20) - 1))] [] l_M_131 (c_M_isIn l Mz (hf.w hW) a0_ (by omega) (by omega) 0 (by decide) (by decide) ((ze Mz 81 20) - 1) (by omega) (by omega)) rfl rfl (by decide) (Nat.le_of_ble_eq_true rfl) d_M_isMember_10 ?_
  rintro _ N1_ ⟨v2_, rfl, ⟨hv2_a, hv2_b⟩, hsN1_, hp0_N1_⟩
  obtain rfl := hsN1_.eq.symm
  replace hp0_N1_ : ((v2_ = 1 ∧ 0 ≤ a0_ ∧ a0_ ≤ ((ze Mz 81 20) - 1)) ∨ (v2_ = 0 ∧ (a0_ < 0 ∨ ((ze Mz 81 20) - 1) < a0_))) := hp0_N1_
  rcases hp0_N1_ with ⟨rfl, ha10_0_hp0_N1_, ha10_1_hp0_N1_⟩ | ⟨rfl, ha10_0_hp0_N1_⟩
  · skip
    show zW l m_M_isMember (zn Mz + 0, zw Mz + 0) Mz 13 [some (.ref 81), some (.int (Int32.ofInt a0_))] [.int (Int32.ofInt 1)] (zpI [] [] Mz (fun v N => (((v = 1 ∧ 0 ≤ a0_ ∧ a0_ < ze Mz 81 20) ∨ (v = 0 ∧ (a0_ < 0 ∨ ze Mz 81 20 ≤ a0_))))))
    exact zr_iret (pc := 13) (ty := .boolean) rfl (z_narB (by omega)) ⟨by omega, by omega⟩ hf (show ((1 = 1 ∧ 0 ≤ a0_ ∧ a0_ < ze Mz 81 20) ∨ (1 = 0 ∧ (a0_ < 0 ∨ ze Mz 81 20 ≤ a0_))) from Or.inl (⟨(show 1 = 1 by first | assumption | omega), (show 0 ≤ a0_ by first | assumption | omega), (show a0_ < ze Mz 81 20 by first | assumption | omega)⟩)) d_M_isMember_13
  · skip
    show zW l m_M_isMember (zn Mz + 0, zw Mz + 0) Mz 13 [some (.ref 81), some (.int (Int32.ofInt a0_))] [.int (Int32.ofInt 0)] (zpI [] [] Mz (fun v N => (((v = 1 ∧ 0 ≤ a0_ ∧ a0_ < ze Mz 81 20) ∨ (v = 0 ∧ (a0_ < 0 ∨ ze Mz 81 20 ≤ a0_))))))
    exact zr_iret (pc := 13) (ty := .boolean) rfl (z_narB (by omega)) ⟨by omega, by omega⟩ hf (show ((0 = 1 ∧ 0 ≤ a0_ ∧ a0_ < ze Mz 81 20) ∨ (0 = 0 ∧ (a0_ < 0 ∨ ze Mz 81 20 ≤ a0_))) from Or.inr (⟨(show 0 = 0 by first | assumption | omega), (show (a0_ < 0 ∨ ze Mz 81 20 ≤ a0_) by first | assumption | omega)⟩)) d_M_isMember_13
set_option maxHeartbeats 4000000 in
theorem c_M_timesG (l : Launch) (Mz : zMem) (hW : zMt Mz) (a0_ : Int) (ha0_a : -2147483648 ≤ a0_) (ha0_b : a0_ < 2147483648) (a1_ : Int) (ha1_a : -2147483648 ≤ a1_) (ha1_b : a1_ < 2147483648) (T : zGT) (hO : gOK T) (p0_ : zGB T Mz) : zC l m_M_times 0 0 [.ref 81, .int (Int32.ofInt a0_), .int (Int32.ofInt a1_)] Mz (zpI [] [] Mz (fun v N => (((0 ≤ a0_ ∧ a0_ < (gN T : Int) ∧ 0 ≤ a1_ ∧ a1_ < (gN T : Int) ∧ v = ((gm T (a0_).toNat (a1_).toNat : Nat) : Int)) ∨ (¬ (0 ≤ a0_ ∧ a0_ < (gN T : Int) ∧ 0 ≤ a1_ ∧ a1_ < (gN T : Int)) ∧ v = (-1 : Int)))))) := by
  refine zC_of (L0 := [some (.ref 81), some (.int (Int32.ofInt a0_)), some (.int (Int32.ofInt a1_))]) md_M_times (Nat.le_of_ble_eq_true rfl) rfl ?_ zQ0
  have hf : zFr [] [] Mz Mz := zFr.rf
  have r_20 := ze_r Mz 81 20
  have hG := hO.1
  have g24 := hG.2.1
  have g1 := hG.1
  have dv0 : zTab T Mz := p0_.1
  have dv1 : zB 85 144 0 5 Mz := p0_.2.1
  have dv2 : zJX T Mz := p0_.2.2.1
  have dv3 : zFirs T Mz := p0_.2.2.2.1
  have dv4 : zSSm T Mz := p0_.2.2.2.2.1
  have dv5 : zGD Mz := zGB.d hO p0_
  have gb := dv5.1
  have gn := dv0.1
  have hsz_ := dv0.1
  refine zw_aload_n (pc := 0) (n := 0) (x := 81) rfl d_M_times_0 ?_
  refine zw_iload_n (pc := 1) (n := 1) (x := Int32.ofInt a0_) rfl d_M_times_1 ?_
  refine zr_callV (hf.w hW) hf.x (pc := 2) [.int (Int32.ofInt a0_)] [] l_M_400 (c_M_isMemberG l Mz (hf.w hW) a0_ ha0_a ha0_b T hO p0_) rfl rfl rfl (by decide) (Nat.le_of_ble_eq_true rfl) d_M_times_2 ?_
  rintro _ N1_ ⟨v2_, rfl, ⟨hv2_a, hv2_b⟩, hsN1_, hp0_N1_⟩
  obtain rfl := hsN1_.eq.symm
  replace hp0_N1_ : ((v2_ = 1 ∧ 0 ≤ a0_ ∧ a0_ < ze Mz 81 20) ∨ (v2_ = 0 ∧ (a0_ < 0 ∨ ze Mz 81 20 ≤ a0_))) := hp0_N1_
  rcases hp0_N1_ with ⟨rfl, ha2_0_hp0_N1_, ha2_1_hp0_N1_⟩ | ⟨rfl, ha2_0_hp0_N1_⟩
  · skip
    show zW l m_M_times (zn Mz + 0, zw Mz + 0) Mz 5 [some (.ref 81), some (.int (Int32.ofInt a0_)), some (.int (Int32.ofInt a1_))] [.int (Int32.ofInt 1)] (zpI [] [] Mz (fun v N => (((0 ≤ a0_ ∧ a0_ < (gN T : Int) ∧ 0 ≤ a1_ ∧ a1_ < (gN T : Int) ∧ v = ((gm T (a0_).toNat (a1_).toNat : Nat) : Int)) ∨ (¬ (0 ≤ a0_ ∧ a0_ < (gN T : Int) ∧ 0 ≤ a1_ ∧ a1_ < (gN T : Int)) ∧ v = (-1 : Int))))))
    refine zr_if_eq (pc := 5) (tgt := 25) ⟨(by decide), (by decide)⟩ (by decide) d_M_times_5 (fun hc_5 => ?_) (fun hc_5 => ?_)
    · skip
      exact absurd hc_5 (by decide)
    · skip
      refine zw_aload_n (pc := 8) (n := 0) (x := 81) rfl d_M_times_8 ?_
      refine zw_iload_n (pc := 9) (n := 2) (x := Int32.ofInt a1_) rfl d_M_times_9 ?_
      refine zr_callV (hf.w hW) hf.x (pc := 10) [.int (Int32.ofInt a1_)] [] l_M_400 (c_M_isMemberG l Mz (hf.w hW) a1_ ha1_a ha1_b T hO p0_) rfl rfl rfl (by decide) (Nat.le_of_ble_eq_true rfl) d_M_times_10 ?_
      rintro _ N3_ ⟨v4_, rfl, ⟨hv4_a, hv4_b⟩, hsN3_, hp0_N3_⟩
      obtain rfl := hsN3_.eq.symm
      replace hp0_N3_ : ((v4_ = 1 ∧ 0 ≤ a1_ ∧ a1_ < ze Mz 81 20) ∨ (v4_ = 0 ∧ (a1_ < 0 ∨ ze Mz 81 20 ≤ a1_))) := hp0_N3_
      rcases hp0_N3_ with ⟨rfl, ha10_0_hp0_N3_, ha10_1_hp0_N3_⟩ | ⟨rfl, ha10_0_hp0_N3_⟩
      · skip
        show zW l m_M_times (zn Mz + 0, zw Mz + 0) Mz 13 [some (.ref 81), some (.int (Int32.ofInt a0_)), some (.int (Int32.ofInt a1_))] [.int (Int32.ofInt 1)] (zpI [] [] Mz (fun v N => (((0 ≤ a0_ ∧ a0_ < (gN T : Int) ∧ 0 ≤ a1_ ∧ a1_ < (gN T : Int) ∧ v = ((gm T (a0_).toNat (a1_).toNat : Nat) : Int)) ∨ (¬ (0 ≤ a0_ ∧ a0_ < (gN T : Int) ∧ 0 ≤ a1_ ∧ a1_ < (gN T : Int)) ∧ v = (-1 : Int))))))
        refine zr_if_eq (pc := 13) (tgt := 25) ⟨(by decide), (by decide)⟩ (by decide) d_M_times_13 (fun hc_13 => ?_) (fun hc_13 => ?_)
        · skip
          exact absurd hc_13 (by decide)
        · skip
          refine zw_aload_n (pc := 16) (n := 0) (x := 81) rfl d_M_times_16 ?_
          refine zw_iload_n (pc := 17) (n := 1) (x := Int32.ofInt a0_) rfl d_M_times_17 ?_
          refine zw_iload_n (pc := 18) (n := 2) (x := Int32.ofInt a1_) rfl d_M_times_18 ?_
          refine zr_callV (hf.w hW) hf.x (pc := 19) [.int (Int32.ofInt a0_), .int (Int32.ofInt a1_)] [] l_M_216 (c_M_by l Mz (hf.w hW) a0_ ha0_a ha0_b a1_ ha1_a ha1_b T hG dv0 (show 0 ≤ a0_ by first | assumption | omega) (show a0_ < ze Mz 81 20 by first | assumption | omega) (show 0 ≤ a1_ by first | assumption | omega) (show a1_ < ze Mz 81 20 by first | assumption | omega)) rfl rfl rfl (by decide) (Nat.le_of_ble_eq_true rfl) d_M_times_19 ?_
          rintro _ N5_ ⟨v6_, rfl, ⟨hv6_a, hv6_b⟩, hsN5_, ⟨hp0_N5_, hp1_N5_, hp2_N5_⟩⟩
          obtain rfl := hsN5_.eq.symm
          show zW l m_M_times (zn Mz + 0, zw Mz + 0) Mz 22 [some (.ref 81), some (.int (Int32.ofInt a0_)), some (.int (Int32.ofInt a1_))] [.int (Int32.ofInt v6_)] (zpI [] [] Mz (fun v N => (((0 ≤ a0_ ∧ a0_ < (gN T : Int) ∧ 0 ≤ a1_ ∧ a1_ < (gN T : Int) ∧ v = ((gm T (a0_).toNat (a1_).toNat : Nat) : Int)) ∨ (¬ (0 ≤ a0_ ∧ a0_ < (gN T : Int) ∧ 0 ≤ a1_ ∧ a1_ < (gN T : Int)) ∧ v = (-1 : Int))))))
          refine zw_goto (pc := 22) (tgt := 26) (by decide) d_M_times_22 ?_
          exact zr_iret (pc := 26) (ty := .int) rfl rfl ⟨by omega, by omega⟩ hf (show ((0 ≤ a0_ ∧ a0_ < (gN T : Int) ∧ 0 ≤ a1_ ∧ a1_ < (gN T : Int) ∧ v6_ = ((gm T (a0_).toNat (a1_).toNat : Nat) : Int)) ∨ (¬ (0 ≤ a0_ ∧ a0_ < (gN T : Int) ∧ 0 ≤ a1_ ∧ a1_ < (gN T : Int)) ∧ v6_ = (-1 : Int))) by first | exact Or.inr ⟨by omega, rfl⟩ | exact Or.inl ⟨by omega, by omega, by omega, by omega, by omega⟩) d_M_times_26
      · skip
        show zW l m_M_times (zn Mz + 0, zw Mz + 0) Mz 13 [some (.ref 81), some (.int (Int32.ofInt a0_)), some (.int (Int32.ofInt a1_))] [.int (Int32.ofInt 0)] (zpI [] [] Mz (fun v N => (((0 ≤ a0_ ∧ a0_ < (gN T : Int) ∧ 0 ≤ a1_ ∧ a1_ < (gN T : Int) ∧ v = ((gm T (a0_).toNat (a1_).toNat : Nat) : Int)) ∨ (¬ (0 ≤ a0_ ∧ a0_ < (gN T : Int) ∧ 0 ≤ a1_ ∧ a1_ < (gN T : Int)) ∧ v = (-1 : Int))))))
        refine zr_if_eq (pc := 13) (tgt := 25) ⟨(by decide), (by decide)⟩ (by decide) d_M_times_13 (fun hc_13 => ?_) (fun hc_13 => ?_)
        · skip
          refine zw_iconst (pc := 25) (v := Int32.ofInt (-1)) (by decide) d_M_times_25 ?_
          exact zr_iret (pc := 26) (ty := .int) rfl rfl ⟨by omega, by omega⟩ hf (show ((0 ≤ a0_ ∧ a0_ < (gN T : Int) ∧ 0 ≤ a1_ ∧ a1_ < (gN T : Int) ∧ ((-1)) = ((gm T (a0_).toNat (a1_).toNat : Nat) : Int)) ∨ (¬ (0 ≤ a0_ ∧ a0_ < (gN T : Int) ∧ 0 ≤ a1_ ∧ a1_ < (gN T : Int)) ∧ ((-1)) = (-1 : Int))) by first | exact Or.inr ⟨by omega, rfl⟩ | exact Or.inl ⟨by omega, by omega, by omega, by omega, by omega⟩) d_M_times_26
        · skip
          exact absurd hc_13 (by decide)
  · skip
    show zW l m_M_times (zn Mz + 0, zw Mz + 0) Mz 5 [some (.ref 81), some (.int (Int32.ofInt a0_)), some (.int (Int32.ofInt a1_))] [.int (Int32.ofInt 0)] (zpI [] [] Mz (fun v N => (((0 ≤ a0_ ∧ a0_ < (gN T : Int) ∧ 0 ≤ a1_ ∧ a1_ < (gN T : Int) ∧ v = ((gm T (a0_).toNat (a1_).toNat : Nat) : Int)) ∨ (¬ (0 ≤ a0_ ∧ a0_ < (gN T : Int) ∧ 0 ≤ a1_ ∧ a1_ < (gN T : Int)) ∧ v = (-1 : Int))))))
    refine zr_if_eq (pc := 5) (tgt := 25) ⟨(by decide), (by decide)⟩ (by decide) d_M_times_5 (fun hc_5 => ?_) (fun hc_5 => ?_)
    · skip
      refine zw_iconst (pc := 25) (v := Int32.ofInt (-1)) (by decide) d_M_times_25 ?_
      exact zr_iret (pc := 26) (ty := .int) rfl rfl ⟨by omega, by omega⟩ hf (show ((0 ≤ a0_ ∧ a0_ < (gN T : Int) ∧ 0 ≤ a1_ ∧ a1_ < (gN T : Int) ∧ ((-1)) = ((gm T (a0_).toNat (a1_).toNat : Nat) : Int)) ∨ (¬ (0 ≤ a0_ ∧ a0_ < (gN T : Int) ∧ 0 ≤ a1_ ∧ a1_ < (gN T : Int)) ∧ ((-1)) = (-1 : Int))) by first | exact Or.inr ⟨by omega, rfl⟩ | exact Or.inl ⟨by omega, by omega, by omega, by omega, by omega⟩) d_M_times_26
    · skip
      exact absurd hc_5 (by decide)
