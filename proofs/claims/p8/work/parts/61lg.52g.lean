/-! 52g -/
set_option maxHeartbeats 4000000 in
theorem c_M_cosetG (l : Launch) (Mz : zMem) (hW : zMt Mz) (a0_ : Int) (ha0_a : -2147483648 ≤ a0_) (ha0_b : a0_ < 2147483648) (a1_ : Int) (ha1_a : -2147483648 ≤ a1_) (ha1_b : a1_ < 2147483648) (T : zGT) (hO : gOK T) (p0_ : zGB T Mz) : zC l m_M_coset 0 0 [.ref 81, .int (Int32.ofInt a0_), .int (Int32.ofInt a1_)] Mz (zpI [] [] Mz (fun v N => (((0 ≤ a0_ ∧ a0_ < ((gF T).length : Int) ∧ 0 ≤ a1_ ∧ a1_ < (gN T : Int) ∧ v = ((gcos T (gFn T (a0_).toNat) (a1_).toNat : Nat) : Int)) ∨ (¬ (0 ≤ a0_ ∧ a0_ < ((gF T).length : Int) ∧ 0 ≤ a1_ ∧ a1_ < (gN T : Int)) ∧ v = (-1 : Int)))))) := by
  refine zC_of (L0 := [some (.ref 81), some (.int (Int32.ofInt a0_)), some (.int (Int32.ofInt a1_))]) md_M_coset (Nat.le_of_ble_eq_true rfl) rfl ?_ zQ0
  have hf : zFr [] [] Mz Mz := zFr.rf
  have r_20 := ze_r Mz 81 20
  have r_26 := ze_r Mz 81 26
  have hG := hO.1
  have g24 := hG.2.1
  have g1 := hG.1
  have dv0 : zTab T Mz := p0_.1
  have dv1 : zB 85 144 0 5 Mz := p0_.2.1
  have dv2 : zJX T Mz := p0_.2.2.1
  have dv3 : zFirs T Mz := p0_.2.2.2.1
  have dv4 : zSSm T Mz := p0_.2.2.2.2.1
  have dv5 : zGD Mz := zGB.d hO p0_
  have gb := dv5.1
  have gn := dv0.1
  have hsz_ := dv0.1
  have hfl_ := dv3.1
  have hcs_ := p0_.2.2.2.2.2.1
  refine zw_aload_n (pc := 0) (n := 0) (x := 81) rfl d_M_coset_0 ?_
  refine zw_iload_n (pc := 1) (n := 1) (x := Int32.ofInt a0_) rfl d_M_coset_1 ?_
  refine zr_callV (hf.w hW) hf.x (pc := 2) [.int (Int32.ofInt a0_)] [] l_M_414 (c_M_isSortG l Mz (hf.w hW) a0_ ha0_a ha0_b T hO p0_) rfl rfl rfl (by decide) (Nat.le_of_ble_eq_true rfl) d_M_coset_2 ?_
  rintro _ N1_ ⟨v2_, rfl, ⟨hv2_a, hv2_b⟩, hsN1_, hp0_N1_⟩
  obtain rfl := hsN1_.eq.symm
  replace hp0_N1_ : ((v2_ = 1 ∧ 0 ≤ a0_ ∧ a0_ < ze Mz 81 26) ∨ (v2_ = 0 ∧ (a0_ < 0 ∨ ze Mz 81 26 ≤ a0_))) := hp0_N1_
  rcases hp0_N1_ with ⟨rfl, ha2_0_hp0_N1_, ha2_1_hp0_N1_⟩ | ⟨rfl, ha2_0_hp0_N1_⟩
  · skip
    show zW l m_M_coset (zn Mz + 0, zw Mz + 0) Mz 5 [some (.ref 81), some (.int (Int32.ofInt a0_)), some (.int (Int32.ofInt a1_))] [.int (Int32.ofInt 1)] (zpI [] [] Mz (fun v N => (((0 ≤ a0_ ∧ a0_ < ((gF T).length : Int) ∧ 0 ≤ a1_ ∧ a1_ < (gN T : Int) ∧ v = ((gcos T (gFn T (a0_).toNat) (a1_).toNat : Nat) : Int)) ∨ (¬ (0 ≤ a0_ ∧ a0_ < ((gF T).length : Int) ∧ 0 ≤ a1_ ∧ a1_ < (gN T : Int)) ∧ v = (-1 : Int))))))
    refine zr_if_eq (pc := 5) (tgt := 30) ⟨(by decide), (by decide)⟩ (by decide) d_M_coset_5 (fun hc_5 => ?_) (fun hc_5 => ?_)
    · skip
      exact absurd hc_5 (by decide)
    · skip
      refine zw_aload_n (pc := 8) (n := 0) (x := 81) rfl d_M_coset_8 ?_
      refine zw_iload_n (pc := 9) (n := 2) (x := Int32.ofInt a1_) rfl d_M_coset_9 ?_
      refine zr_callV (hf.w hW) hf.x (pc := 10) [.int (Int32.ofInt a1_)] [] l_M_400 (c_M_isMemberG l Mz (hf.w hW) a1_ ha1_a ha1_b T hO p0_) rfl rfl rfl (by decide) (Nat.le_of_ble_eq_true rfl) d_M_coset_10 ?_
      rintro _ N3_ ⟨v4_, rfl, ⟨hv4_a, hv4_b⟩, hsN3_, hp0_N3_⟩
      obtain rfl := hsN3_.eq.symm
      replace hp0_N3_ : ((v4_ = 1 ∧ 0 ≤ a1_ ∧ a1_ < ze Mz 81 20) ∨ (v4_ = 0 ∧ (a1_ < 0 ∨ ze Mz 81 20 ≤ a1_))) := hp0_N3_
      rcases hp0_N3_ with ⟨rfl, ha10_0_hp0_N3_, ha10_1_hp0_N3_⟩ | ⟨rfl, ha10_0_hp0_N3_⟩
      · skip
        show zW l m_M_coset (zn Mz + 0, zw Mz + 0) Mz 13 [some (.ref 81), some (.int (Int32.ofInt a0_)), some (.int (Int32.ofInt a1_))] [.int (Int32.ofInt 1)] (zpI [] [] Mz (fun v N => (((0 ≤ a0_ ∧ a0_ < ((gF T).length : Int) ∧ 0 ≤ a1_ ∧ a1_ < (gN T : Int) ∧ v = ((gcos T (gFn T (a0_).toNat) (a1_).toNat : Nat) : Int)) ∨ (¬ (0 ≤ a0_ ∧ a0_ < ((gF T).length : Int) ∧ 0 ≤ a1_ ∧ a1_ < (gN T : Int)) ∧ v = (-1 : Int))))))
        refine zr_if_eq (pc := 13) (tgt := 30) ⟨(by decide), (by decide)⟩ (by decide) d_M_coset_13 (fun hc_13 => ?_) (fun hc_13 => ?_)
        · skip
          exact absurd hc_13 (by decide)
        · skip
          refine zw_aload_n (pc := 16) (n := 0) (x := 81) rfl d_M_coset_16 ?_
          refine zr_getF (r := 94) (hf.w hW) (pc := 17) f_M_53 rfl (zh_94 (hf.w hW)).1 d_M_coset_17 ?_
          refine zw_bipush (pc := 20) (v := Int32.ofInt 24) (by decide) d_M_coset_20 ?_
          refine zw_iload_n (pc := 22) (n := 1) (x := Int32.ofInt a0_) rfl d_M_coset_22 ?_
          refine zr_imul (pc := 23) d_M_coset_23 ?_
          refine zw_iload_n (pc := 24) (n := 2) (x := Int32.ofInt a1_) rfl d_M_coset_24 ?_
          refine zr_iadd (pc := 25) d_M_coset_25 ?_
          refine zr_ialdn (pc := 26) (zh_94 (hf.w hW)).2 (by decide) (by omega) (by omega) d_M_coset_26 (fun v5_ hv5_ hv5_a hv5_b => ?_)
          have hco_ := hcs_ (a0_).toNat (by omega) (a1_).toNat (by omega)
          rw [show 24 * (a0_).toNat + (a1_).toNat = (24 * a0_ + a1_).toNat by omega] at hco_
          refine zw_goto (pc := 27) (tgt := 31) (by decide) d_M_coset_27 ?_
          exact zr_iret (pc := 31) (ty := .int) rfl rfl ⟨by omega, by omega⟩ hf (show ((0 ≤ a0_ ∧ a0_ < ((gF T).length : Int) ∧ 0 ≤ a1_ ∧ a1_ < (gN T : Int) ∧ v5_ = ((gcos T (gFn T (a0_).toNat) (a1_).toNat : Nat) : Int)) ∨ (¬ (0 ≤ a0_ ∧ a0_ < ((gF T).length : Int) ∧ 0 ≤ a1_ ∧ a1_ < (gN T : Int)) ∧ v5_ = (-1 : Int))) by first | exact Or.inr ⟨by omega, rfl⟩ | exact Or.inl ⟨by omega, by omega, by omega, by omega, (show v5_ = _ by assumption).trans hco_⟩) d_M_coset_31
      · skip
        show zW l m_M_coset (zn Mz + 0, zw Mz + 0) Mz 13 [some (.ref 81), some (.int (Int32.ofInt a0_)), some (.int (Int32.ofInt a1_))] [.int (Int32.ofInt 0)] (zpI [] [] Mz (fun v N => (((0 ≤ a0_ ∧ a0_ < ((gF T).length : Int) ∧ 0 ≤ a1_ ∧ a1_ < (gN T : Int) ∧ v = ((gcos T (gFn T (a0_).toNat) (a1_).toNat : Nat) : Int)) ∨ (¬ (0 ≤ a0_ ∧ a0_ < ((gF T).length : Int) ∧ 0 ≤ a1_ ∧ a1_ < (gN T : Int)) ∧ v = (-1 : Int))))))
        refine zr_if_eq (pc := 13) (tgt := 30) ⟨(by decide), (by decide)⟩ (by decide) d_M_coset_13 (fun hc_13 => ?_) (fun hc_13 => ?_)
        · skip
          refine zw_iconst (pc := 30) (v := Int32.ofInt (-1)) (by decide) d_M_coset_30 ?_
          exact zr_iret (pc := 31) (ty := .int) rfl rfl ⟨by omega, by omega⟩ hf (show ((0 ≤ a0_ ∧ a0_ < ((gF T).length : Int) ∧ 0 ≤ a1_ ∧ a1_ < (gN T : Int) ∧ ((-1)) = ((gcos T (gFn T (a0_).toNat) (a1_).toNat : Nat) : Int)) ∨ (¬ (0 ≤ a0_ ∧ a0_ < ((gF T).length : Int) ∧ 0 ≤ a1_ ∧ a1_ < (gN T : Int)) ∧ ((-1)) = (-1 : Int))) by first | exact Or.inr ⟨by omega, rfl⟩ | exact Or.inl ⟨by omega, by omega, by omega, by omega, (show ((-1)) = _ by assumption).trans hco_⟩) d_M_coset_31
        · skip
          exact absurd hc_13 (by decide)
  · skip
    show zW l m_M_coset (zn Mz + 0, zw Mz + 0) Mz 5 [some (.ref 81), some (.int (Int32.ofInt a0_)), some (.int (Int32.ofInt a1_))] [.int (Int32.ofInt 0)] (zpI [] [] Mz (fun v N => (((0 ≤ a0_ ∧ a0_ < ((gF T).length : Int) ∧ 0 ≤ a1_ ∧ a1_ < (gN T : Int) ∧ v = ((gcos T (gFn T (a0_).toNat) (a1_).toNat : Nat) : Int)) ∨ (¬ (0 ≤ a0_ ∧ a0_ < ((gF T).length : Int) ∧ 0 ≤ a1_ ∧ a1_ < (gN T : Int)) ∧ v = (-1 : Int))))))
    refine zr_if_eq (pc := 5) (tgt := 30) ⟨(by decide), (by decide)⟩ (by decide) d_M_coset_5 (fun hc_5 => ?_) (fun hc_5 => ?_)
    · skip
      refine zw_iconst (pc := 30) (v := Int32.ofInt (-1)) (by decide) d_M_coset_30 ?_
      exact zr_iret (pc := 31) (ty := .int) rfl rfl ⟨by omega, by omega⟩ hf (show ((0 ≤ a0_ ∧ a0_ < ((gF T).length : Int) ∧ 0 ≤ a1_ ∧ a1_ < (gN T : Int) ∧ ((-1)) = ((gcos T (gFn T (a0_).toNat) (a1_).toNat : Nat) : Int)) ∨ (¬ (0 ≤ a0_ ∧ a0_ < ((gF T).length : Int) ∧ 0 ≤ a1_ ∧ a1_ < (gN T : Int)) ∧ ((-1)) = (-1 : Int))) by first | exact Or.inr ⟨by omega, rfl⟩ | exact Or.inl ⟨by omega, by omega, by omega, by omega, (show ((-1)) = _ by assumption).trans hco_⟩) d_M_coset_31
    · skip
      exact absurd hc_5 (by decide)
set_option maxHeartbeats 4000000 in
theorem c_M_takesG (l : Launch) (Mz : zMem) (hW : zMt Mz) (a0_ : Int) (ha0_a : -2147483648 ≤ a0_) (ha0_b : a0_ < 2147483648) (a1_ : Int) (ha1_a : -2147483648 ≤ a1_) (ha1_b : a1_ < 2147483648) (a2_ : Int) (ha2_a : -2147483648 ≤ a2_) (ha2_b : a2_ < 2147483648) (T : zGT) (hO : gOK T) (p0_ : zGB T Mz) : zC l m_M_takes 0 0 [.ref 81, .int (Int32.ofInt a0_), .int (Int32.ofInt a1_), .int (Int32.ofInt a2_)] Mz (zpI [] [] Mz (fun v N => (((0 ≤ a0_ ∧ a0_ < ((gF T).length : Int) ∧ 0 ≤ a1_ ∧ a1_ < (gN T : Int) ∧ 0 ≤ a2_ ∧ a2_ < (gN T : Int) ∧ v = ((gcos T (gFn T (a0_).toNat) (gm T (a1_).toNat (a2_).toNat) : Nat) : Int)) ∨ (¬ (0 ≤ a0_ ∧ a0_ < ((gF T).length : Int) ∧ 0 ≤ a1_ ∧ a1_ < (gN T : Int) ∧ 0 ≤ a2_ ∧ a2_ < (gN T : Int)) ∧ v = (-1 : Int)))))) := by
  refine zC_of (L0 := [some (.ref 81), some (.int (Int32.ofInt a0_)), some (.int (Int32.ofInt a1_)), some (.int (Int32.ofInt a2_))]) md_M_takes (Nat.le_of_ble_eq_true rfl) rfl ?_ zQ0
  have hf : zFr [] [] Mz Mz := zFr.rf
  have r_20 := ze_r Mz 81 20
  have r_26 := ze_r Mz 81 26
  have hG := hO.1
  have g24 := hG.2.1
  have g1 := hG.1
  have dv0 : zTab T Mz := p0_.1
  have dv1 : zB 85 144 0 5 Mz := p0_.2.1
  have dv2 : zJX T Mz := p0_.2.2.1
  have dv3 : zFirs T Mz := p0_.2.2.2.1
  have dv4 : zSSm T Mz := p0_.2.2.2.2.1
  have dv5 : zGD Mz := zGB.d hO p0_
  have gb := dv5.1
  have gn := dv0.1
  have hsz_ := dv0.1
  have hfl_ := dv3.1
  have hcs_ := p0_.2.2.2.2.2.1
  refine zw_aload_n (pc := 0) (n := 0) (x := 81) rfl d_M_takes_0 ?_
  refine zw_iload_n (pc := 1) (n := 1) (x := Int32.ofInt a0_) rfl d_M_takes_1 ?_
  refine zr_callV (hf.w hW) hf.x (pc := 2) [.int (Int32.ofInt a0_)] [] l_M_414 (c_M_isSortG l Mz (hf.w hW) a0_ ha0_a ha0_b T hO p0_) rfl rfl rfl (by decide) (Nat.le_of_ble_eq_true rfl) d_M_takes_2 ?_
  rintro _ N1_ ⟨v2_, rfl, ⟨hv2_a, hv2_b⟩, hsN1_, hp0_N1_⟩
  obtain rfl := hsN1_.eq.symm
  replace hp0_N1_ : ((v2_ = 1 ∧ 0 ≤ a0_ ∧ a0_ < ze Mz 81 26) ∨ (v2_ = 0 ∧ (a0_ < 0 ∨ ze Mz 81 26 ≤ a0_))) := hp0_N1_
  rcases hp0_N1_ with ⟨rfl, ha2_0_hp0_N1_, ha2_1_hp0_N1_⟩ | ⟨rfl, ha2_0_hp0_N1_⟩
  · skip
    show zW l m_M_takes (zn Mz + 0, zw Mz + 0) Mz 5 [some (.ref 81), some (.int (Int32.ofInt a0_)), some (.int (Int32.ofInt a1_)), some (.int (Int32.ofInt a2_))] [.int (Int32.ofInt 1)] (zpI [] [] Mz (fun v N => (((0 ≤ a0_ ∧ a0_ < ((gF T).length : Int) ∧ 0 ≤ a1_ ∧ a1_ < (gN T : Int) ∧ 0 ≤ a2_ ∧ a2_ < (gN T : Int) ∧ v = ((gcos T (gFn T (a0_).toNat) (gm T (a1_).toNat (a2_).toNat) : Nat) : Int)) ∨ (¬ (0 ≤ a0_ ∧ a0_ < ((gF T).length : Int) ∧ 0 ≤ a1_ ∧ a1_ < (gN T : Int) ∧ 0 ≤ a2_ ∧ a2_ < (gN T : Int)) ∧ v = (-1 : Int))))))
    refine zr_if_eq (pc := 5) (tgt := 43) ⟨(by decide), (by decide)⟩ (by decide) d_M_takes_5 (fun hc_5 => ?_) (fun hc_5 => ?_)
    · skip
      exact absurd hc_5 (by decide)
    · skip
      refine zw_aload_n (pc := 8) (n := 0) (x := 81) rfl d_M_takes_8 ?_
      refine zw_iload_n (pc := 9) (n := 2) (x := Int32.ofInt a1_) rfl d_M_takes_9 ?_
      refine zr_callV (hf.w hW) hf.x (pc := 10) [.int (Int32.ofInt a1_)] [] l_M_400 (c_M_isMemberG l Mz (hf.w hW) a1_ ha1_a ha1_b T hO p0_) rfl rfl rfl (by decide) (Nat.le_of_ble_eq_true rfl) d_M_takes_10 ?_
      rintro _ N3_ ⟨v4_, rfl, ⟨hv4_a, hv4_b⟩, hsN3_, hp0_N3_⟩
      obtain rfl := hsN3_.eq.symm
      replace hp0_N3_ : ((v4_ = 1 ∧ 0 ≤ a1_ ∧ a1_ < ze Mz 81 20) ∨ (v4_ = 0 ∧ (a1_ < 0 ∨ ze Mz 81 20 ≤ a1_))) := hp0_N3_
      rcases hp0_N3_ with ⟨rfl, ha10_0_hp0_N3_, ha10_1_hp0_N3_⟩ | ⟨rfl, ha10_0_hp0_N3_⟩
      · skip
        show zW l m_M_takes (zn Mz + 0, zw Mz + 0) Mz 13 [some (.ref 81), some (.int (Int32.ofInt a0_)), some (.int (Int32.ofInt a1_)), some (.int (Int32.ofInt a2_))] [.int (Int32.ofInt 1)] (zpI [] [] Mz (fun v N => (((0 ≤ a0_ ∧ a0_ < ((gF T).length : Int) ∧ 0 ≤ a1_ ∧ a1_ < (gN T : Int) ∧ 0 ≤ a2_ ∧ a2_ < (gN T : Int) ∧ v = ((gcos T (gFn T (a0_).toNat) (gm T (a1_).toNat (a2_).toNat) : Nat) : Int)) ∨ (¬ (0 ≤ a0_ ∧ a0_ < ((gF T).length : Int) ∧ 0 ≤ a1_ ∧ a1_ < (gN T : Int) ∧ 0 ≤ a2_ ∧ a2_ < (gN T : Int)) ∧ v = (-1 : Int))))))
        refine zr_if_eq (pc := 13) (tgt := 43) ⟨(by decide), (by decide)⟩ (by decide) d_M_takes_13 (fun hc_13 => ?_) (fun hc_13 => ?_)
        · skip
          exact absurd hc_13 (by decide)
        · skip
          refine zw_aload_n (pc := 16) (n := 0) (x := 81) rfl d_M_takes_16 ?_
          refine zw_iload_n (pc := 17) (n := 3) (x := Int32.ofInt a2_) rfl d_M_takes_17 ?_
          refine zr_callV (hf.w hW) hf.x (pc := 18) [.int (Int32.ofInt a2_)] [] l_M_400 (c_M_isMemberG l Mz (hf.w hW) a2_ ha2_a ha2_b T hO p0_) rfl rfl rfl (by decide) (Nat.le_of_ble_eq_true rfl) d_M_takes_18 ?_
          rintro _ N5_ ⟨v6_, rfl, ⟨hv6_a, hv6_b⟩, hsN5_, hp0_N5_⟩
          obtain rfl := hsN5_.eq.symm
          replace hp0_N5_ : ((v6_ = 1 ∧ 0 ≤ a2_ ∧ a2_ < ze Mz 81 20) ∨ (v6_ = 0 ∧ (a2_ < 0 ∨ ze Mz 81 20 ≤ a2_))) := hp0_N5_
          rcases hp0_N5_ with ⟨rfl, ha18_0_hp0_N5_, ha18_1_hp0_N5_⟩ | ⟨rfl, ha18_0_hp0_N5_⟩
          · skip
            show zW l m_M_takes (zn Mz + 0, zw Mz + 0) Mz 21 [some (.ref 81), some (.int (Int32.ofInt a0_)), some (.int (Int32.ofInt a1_)), some (.int (Int32.ofInt a2_))] [.int (Int32.ofInt 1)] (zpI [] [] Mz (fun v N => (((0 ≤ a0_ ∧ a0_ < ((gF T).length : Int) ∧ 0 ≤ a1_ ∧ a1_ < (gN T : Int) ∧ 0 ≤ a2_ ∧ a2_ < (gN T : Int) ∧ v = ((gcos T (gFn T (a0_).toNat) (gm T (a1_).toNat (a2_).toNat) : Nat) : Int)) ∨ (¬ (0 ≤ a0_ ∧ a0_ < ((gF T).length : Int) ∧ 0 ≤ a1_ ∧ a1_ < (gN T : Int) ∧ 0 ≤ a2_ ∧ a2_ < (gN T : Int)) ∧ v = (-1 : Int))))))
            refine zr_if_eq (pc := 21) (tgt := 43) ⟨(by decide), (by decide)⟩ (by decide) d_M_takes_21 (fun hc_21 => ?_) (fun hc_21 => ?_)
            · skip
              exact absurd hc_21 (by decide)
            · skip
              refine zw_aload_n (pc := 24) (n := 0) (x := 81) rfl d_M_takes_24 ?_
              refine zr_getF (r := 94) (hf.w hW) (pc := 25) f_M_53 rfl (zh_94 (hf.w hW)).1 d_M_takes_25 ?_
              refine zw_bipush (pc := 28) (v := Int32.ofInt 24) (by decide) d_M_takes_28 ?_
              refine zw_iload_n (pc := 30) (n := 1) (x := Int32.ofInt a0_) rfl d_M_takes_30 ?_
              refine zr_imul (pc := 31) d_M_takes_31 ?_
              refine zw_aload_n (pc := 32) (n := 0) (x := 81) rfl d_M_takes_32 ?_
              refine zw_iload_n (pc := 33) (n := 2) (x := Int32.ofInt a1_) rfl d_M_takes_33 ?_
              refine zw_iload_n (pc := 34) (n := 3) (x := Int32.ofInt a2_) rfl d_M_takes_34 ?_
              refine zr_callV (hf.w hW) hf.x (pc := 35) [.int (Int32.ofInt a1_), .int (Int32.ofInt a2_)] [.int (Int32.ofInt (24 * a0_)), .ref 94] l_M_216 (c_M_by l Mz (hf.w hW) a1_ ha1_a ha1_b a2_ ha2_a ha2_b T hG dv0 (show 0 ≤ a1_ by first | assumption | omega) (show a1_ < ze Mz 81 20 by first | assumption | omega) (show 0 ≤ a2_ by first | assumption | omega) (show a2_ < ze Mz 81 20 by first | assumption | omega)) rfl rfl rfl (by decide) (Nat.le_of_ble_eq_true rfl) d_M_takes_35 ?_
              rintro _ N7_ ⟨v8_, rfl, ⟨hv8_a, hv8_b⟩, hsN7_, ⟨hp0_N7_, hp1_N7_, hp2_N7_⟩⟩
              obtain rfl := hsN7_.eq.symm
              show zW l m_M_takes (zn Mz + 0, zw Mz + 0) Mz 38 [some (.ref 81), some (.int (Int32.ofInt a0_)), some (.int (Int32.ofInt a1_)), some (.int (Int32.ofInt a2_))] [.int (Int32.ofInt v8_), .int (Int32.ofInt (24 * a0_)), .ref 94] (zpI [] [] Mz (fun v N => (((0 ≤ a0_ ∧ a0_ < ((gF T).length : Int) ∧ 0 ≤ a1_ ∧ a1_ < (gN T : Int) ∧ 0 ≤ a2_ ∧ a2_ < (gN T : Int) ∧ v = ((gcos T (gFn T (a0_).toNat) (gm T (a1_).toNat (a2_).toNat) : Nat) : Int)) ∨ (¬ (0 ≤ a0_ ∧ a0_ < ((gF T).length : Int) ∧ 0 ≤ a1_ ∧ a1_ < (gN T : Int) ∧ 0 ≤ a2_ ∧ a2_ < (gN T : Int)) ∧ v = (-1 : Int))))))
              have hgm_ := hp0_N7_
              have hgl_ := hG.2.2.2 (a1_).toNat (a2_).toNat (by omega) (by omega)
              have hco_ := hcs_ (a0_).toNat (by omega) _ hgl_
              rw [← Int.toNat_natCast (gm T (a1_).toNat (a2_).toNat), ← hgm_, show 24 * (a0_).toNat + (v8_).toNat = (24 * a0_ + v8_).toNat by omega] at hco_
              rw [hgm_, Int.toNat_natCast, ← hgm_] at hco_
              refine zr_iadd (pc := 38) d_M_takes_38 ?_
              refine zr_ialdn (pc := 39) (zh_94 (hf.w hW)).2 (by decide) (by omega) (by omega) d_M_takes_39 (fun v9_ hv9_ hv9_a hv9_b => ?_)
              refine zw_goto (pc := 40) (tgt := 44) (by decide) d_M_takes_40 ?_
              exact zr_iret (pc := 44) (ty := .int) rfl rfl ⟨by omega, by omega⟩ hf (show ((0 ≤ a0_ ∧ a0_ < ((gF T).length : Int) ∧ 0 ≤ a1_ ∧ a1_ < (gN T : Int) ∧ 0 ≤ a2_ ∧ a2_ < (gN T : Int) ∧ v9_ = ((gcos T (gFn T (a0_).toNat) (gm T (a1_).toNat (a2_).toNat) : Nat) : Int)) ∨ (¬ (0 ≤ a0_ ∧ a0_ < ((gF T).length : Int) ∧ 0 ≤ a1_ ∧ a1_ < (gN T : Int) ∧ 0 ≤ a2_ ∧ a2_ < (gN T : Int)) ∧ v9_ = (-1 : Int))) by first | exact Or.inr ⟨by omega, rfl⟩ | exact Or.inl ⟨by omega, by omega, by omega, by omega, by omega, by omega, (show v9_ = _ by assumption).trans hco_⟩) d_M_takes_44
          · skip
            show zW l m_M_takes (zn Mz + 0, zw Mz + 0) Mz 21 [some (.ref 81), some (.int (Int32.ofInt a0_)), some (.int (Int32.ofInt a1_)), some (.int (Int32.ofInt a2_))] [.int (Int32.ofInt 0)] (zpI [] [] Mz (fun v N => (((0 ≤ a0_ ∧ a0_ < ((gF T).length : Int) ∧ 0 ≤ a1_ ∧ a1_ < (gN T : Int) ∧ 0 ≤ a2_ ∧ a2_ < (gN T : Int) ∧ v = ((gcos T (gFn T (a0_).toNat) (gm T (a1_).toNat (a2_).toNat) : Nat) : Int)) ∨ (¬ (0 ≤ a0_ ∧ a0_ < ((gF T).length : Int) ∧ 0 ≤ a1_ ∧ a1_ < (gN T : Int) ∧ 0 ≤ a2_ ∧ a2_ < (gN T : Int)) ∧ v = (-1 : Int))))))
            refine zr_if_eq (pc := 21) (tgt := 43) ⟨(by decide), (by decide)⟩ (by decide) d_M_takes_21 (fun hc_21 => ?_) (fun hc_21 => ?_)
            · skip
              refine zw_iconst (pc := 43) (v := Int32.ofInt (-1)) (by decide) d_M_takes_43 ?_
              exact zr_iret (pc := 44) (ty := .int) rfl rfl ⟨by omega, by omega⟩ hf (show ((0 ≤ a0_ ∧ a0_ < ((gF T).length : Int) ∧ 0 ≤ a1_ ∧ a1_ < (gN T : Int) ∧ 0 ≤ a2_ ∧ a2_ < (gN T : Int) ∧ ((-1)) = ((gcos T (gFn T (a0_).toNat) (gm T (a1_).toNat (a2_).toNat) : Nat) : Int)) ∨ (¬ (0 ≤ a0_ ∧ a0_ < ((gF T).length : Int) ∧ 0 ≤ a1_ ∧ a1_ < (gN T : Int) ∧ 0 ≤ a2_ ∧ a2_ < (gN T : Int)) ∧ ((-1)) = (-1 : Int))) by first | exact Or.inr ⟨by omega, rfl⟩ | exact Or.inl ⟨by omega, by omega, by omega, by omega, by omega, by omega, (show ((-1)) = _ by assumption).trans hco_⟩) d_M_takes_44
            · skip
              exact absurd hc_21 (by decide)
      · skip
        show zW l m_M_takes (zn Mz + 0, zw Mz + 0) Mz 13 [some (.ref 81), some (.int (Int32.ofInt a0_)), some (.int (Int32.ofInt a1_)), some (.int (Int32.ofInt a2_))] [.int (Int32.ofInt 0)] (zpI [] [] Mz (fun v N => (((0 ≤ a0_ ∧ a0_ < ((gF T).length : Int) ∧ 0 ≤ a1_ ∧ a1_ < (gN T : Int) ∧ 0 ≤ a2_ ∧ a2_ < (gN T : Int) ∧ v = ((gcos T (gFn T (a0_).toNat) (gm T (a1_).toNat (a2_).toNat) : Nat) : Int)) ∨ (¬ (0 ≤ a0_ ∧ a0_ < ((gF T).length : Int) ∧ 0 ≤ a1_ ∧ a1_ < (gN T : Int) ∧ 0 ≤ a2_ ∧ a2_ < (gN T : Int)) ∧ v = (-1 : Int))))))
        refine zr_if_eq (pc := 13) (tgt := 43) ⟨(by decide), (by decide)⟩ (by decide) d_M_takes_13 (fun hc_13 => ?_) (fun hc_13 => ?_)
        · skip
          refine zw_iconst (pc := 43) (v := Int32.ofInt (-1)) (by decide) d_M_takes_43 ?_
          exact zr_iret (pc := 44) (ty := .int) rfl rfl ⟨by omega, by omega⟩ hf (show ((0 ≤ a0_ ∧ a0_ < ((gF T).length : Int) ∧ 0 ≤ a1_ ∧ a1_ < (gN T : Int) ∧ 0 ≤ a2_ ∧ a2_ < (gN T : Int) ∧ ((-1)) = ((gcos T (gFn T (a0_).toNat) (gm T (a1_).toNat (a2_).toNat) : Nat) : Int)) ∨ (¬ (0 ≤ a0_ ∧ a0_ < ((gF T).length : Int) ∧ 0 ≤ a1_ ∧ a1_ < (gN T : Int) ∧ 0 ≤ a2_ ∧ a2_ < (gN T : Int)) ∧ ((-1)) = (-1 : Int))) by first | exact Or.inr ⟨by omega, rfl⟩ | exact Or.inl ⟨by omega, by omega, by omega, by omega, by omega, by omega, (show ((-1)) = _ by assumption).trans hco_⟩) d_M_takes_44
        · skip
          exact absurd hc_13 (by decide)
  · skip
    show zW l m_M_takes (zn Mz + 0, zw Mz + 0) Mz 5 [some (.ref 81), some (.int (Int32.ofInt a0_)), some (.int (Int32.ofInt a1_)), some (.int (Int32.ofInt a2_))] [.int (Int32.ofInt 0)] (zpI [] [] Mz (fun v N => (((0 ≤ a0_ ∧ a0_ < ((gF T).length : Int) ∧ 0 ≤ a1_ ∧ a1_ < (gN T : Int) ∧ 0 ≤ a2_ ∧ a2_ < (gN T : Int) ∧ v = ((gcos T (gFn T (a0_).toNat) (gm T (a1_).toNat (a2_).toNat) : Nat) : Int)) ∨ (¬ (0 ≤ a0_ ∧ a0_ < ((gF T).length : Int) ∧ 0 ≤ a1_ ∧ a1_ < (gN T : Int) ∧ 0 ≤ a2_ ∧ a2_ < (gN T : Int)) ∧ v = (-1 : Int))))))
    refine zr_if_eq (pc := 5) (tgt := 43) ⟨(by decide), (by decide)⟩ (by decide) d_M_takes_5 (fun hc_5 => ?_) (fun hc_5 => ?_)
    · skip
      refine zw_iconst (pc := 43) (v := Int32.ofInt (-1)) (by decide) d_M_takes_43 ?_
      exact zr_iret (pc := 44) (ty := .int) rfl rfl ⟨by omega, by omega⟩ hf (show ((0 ≤ a0_ ∧ a0_ < ((gF T).length : Int) ∧ 0 ≤ a1_ ∧ a1_ < (gN T : Int) ∧ 0 ≤ a2_ ∧ a2_ < (gN T : Int) ∧ ((-1)) = ((gcos T (gFn T (a0_).toNat) (gm T (a1_).toNat (a2_).toNat) : Nat) : Int)) ∨ (¬ (0 ≤ a0_ ∧ a0_ < ((gF T).length : Int) ∧ 0 ≤ a1_ ∧ a1_ < (gN T : Int) ∧ 0 ≤ a2_ ∧ a2_ < (gN T : Int)) ∧ ((-1)) = (-1 : Int))) by first | exact Or.inr ⟨by omega, rfl⟩ | exact Or.inl ⟨by omega, by omega, by omega, by omega, by omega, by omega, (show ((-1)) = _ by assumption).trans hco_⟩) d_M_takes_44
    · skip
      exact absurd hc_5 (by decide)
set_option maxHeartbeats 4000000 in
theorem c_M_likesG (l : Launch) (Mz : zMem) (hW : zMt Mz) (a0_ : Int) (ha0_a : -2147483648 ≤ a0_) (ha0_b : a0_ < 2147483648) (T : zGT) (hO : gOK T) (p0_ : zGB T Mz) : zC l m_M_likes 0 0 [.ref 81, .int (Int32.ofInt a0_)] Mz (zpI [] [] Mz (fun v N => (((0 ≤ a0_ ∧ a0_ < (gN T : Int) ∧ v = ((gcb (gup (glkF T (a0_).toNat) 0 (gN T)) : Nat) : Int)) ∨ (¬ (0 ≤ a0_ ∧ a0_ < (gN T : Int)) ∧ v = (-1 : Int)))))) := by
  refine zC_of (L0 := [some (.ref 81), some (.int (Int32.ofInt a0_)), none, none]) md_M_likes (Nat.le_of_ble_eq_true rfl) rfl ?_ zQ0
  have hf : zFr [] [] Mz Mz := zFr.rf
  have r_20 := ze_r Mz 81 20
  have hG := hO.1
  have g24 := hG.2.1
  have g1 := hG.1
  have dv0 : zTab T Mz := p0_.1
  have dv1 : zB 85 144 0 5 Mz := p0_.2.1
  have dv2 : zJX T Mz := p0_.2.2.1
  have dv3 : zFirs T Mz := p0_.2.2.2.1
  have dv4 : zSSm T Mz := p0_.2.2.2.2.1
  have dv5 : zGD Mz := zGB.d hO p0_
  have gb := dv5.1
  have gn := dv0.1
  have hsz_ := dv0.1
  refine zw_aload_n (pc := 0) (n := 0) (x := 81) rfl d_M_likes_0 ?_
  refine zw_iload_n (pc := 1) (n := 1) (x := Int32.ofInt a0_) rfl d_M_likes_1 ?_
  refine zr_callV (hf.w hW) hf.x (pc := 2) [.int (Int32.ofInt a0_)] [] l_M_400 (c_M_isMemberG l Mz (hf.w hW) a0_ ha0_a ha0_b T hO p0_) rfl rfl rfl (by decide) (Nat.le_of_ble_eq_true rfl) d_M_likes_2 ?_
  rintro _ N1_ ⟨v2_, rfl, ⟨hv2_a, hv2_b⟩, hsN1_, hp0_N1_⟩
  obtain rfl := hsN1_.eq.symm
  replace hp0_N1_ : ((v2_ = 1 ∧ 0 ≤ a0_ ∧ a0_ < ze Mz 81 20) ∨ (v2_ = 0 ∧ (a0_ < 0 ∨ ze Mz 81 20 ≤ a0_))) := hp0_N1_
  rcases hp0_N1_ with ⟨rfl, ha2_0_hp0_N1_, ha2_1_hp0_N1_⟩ | ⟨rfl, ha2_0_hp0_N1_⟩
  · skip
    show zW l m_M_likes (zn Mz + 0, zw Mz + 0) Mz 5 [some (.ref 81), some (.int (Int32.ofInt a0_)), none, none] [.int (Int32.ofInt 1)] (zpI [] [] Mz (fun v N => (((0 ≤ a0_ ∧ a0_ < (gN T : Int) ∧ v = ((gcb (gup (glkF T (a0_).toNat) 0 (gN T)) : Nat) : Int)) ∨ (¬ (0 ≤ a0_ ∧ a0_ < (gN T : Int)) ∧ v = (-1 : Int))))))
    refine zr_if_ne (pc := 5) (tgt := 10) ⟨(by decide), (by decide)⟩ (by decide) d_M_likes_5 (fun hc_5 => ?_) (fun hc_5 => ?_)
    · skip
      refine zw_iconst (pc := 10) (v := Int32.ofInt 0) (by decide) d_M_likes_10 ?_
      refine zw_istore_n (pc := 11) (i := 2) (L2 := [some (.ref 81), some (.int (Int32.ofInt a0_)), some (.int (Int32.ofInt 0)), none]) rfl (by decide) rfl d_M_likes_11 ?_
      refine zw_iconst (pc := 12) (v := Int32.ofInt 0) (by decide) d_M_likes_12 ?_
      refine zw_istore_n (pc := 13) (i := 3) (L2 := [some (.ref 81), some (.int (Int32.ofInt a0_)), some (.int (Int32.ofInt 0)), some (.int (Int32.ofInt 0))]) rfl (by decide) rfl d_M_likes_13 ?_
      have lp_14 : ∀ (n : Nat) (u3_ : Int) (hu3_a : -2147483648 ≤ u3_) (hu3_b : u3_ < 2147483648) (u4_ : Int) (hu4_a : -2147483648 ≤ u4_) (hu4_b : u4_ < 2147483648) (i5_ : 0 ≤ u4_) (i6_ : u4_ ≤ gN T) (i7_ : u3_ = ((gup (glkF T (a0_).toNat) 0 (u4_).toNat : Nat) : Int)), (gN T - u4_).toNat < n → zW l m_M_likes (zn Mz + 0, zw Mz + 0) Mz 14 [some (.ref 81), some (.int (Int32.ofInt a0_)), some (.int (Int32.ofInt u3_)), some (.int (Int32.ofInt u4_))] [] (zpI [] [] Mz (fun v N => (((0 ≤ a0_ ∧ a0_ < (gN T : Int) ∧ v = ((gcb (gup (glkF T (a0_).toNat) 0 (gN T)) : Nat) : Int)) ∨ (¬ (0 ≤ a0_ ∧ a0_ < (gN T : Int)) ∧ v = (-1 : Int)))))) := by
        intro n
        induction n with
        | zero =>
          intro u3_ hu3_a hu3_b u4_ hu4_a hu4_b i5_ i6_ i7_ h0
          exact absurd h0 (Nat.not_lt_zero _)
        | succ n ih_14 =>
          intro u3_ hu3_a hu3_b u4_ hu4_a hu4_b i5_ i6_ i7_ hlt_14
          have hlk_ := (show u3_ = ((gup (glkF T (a0_).toNat) 0 (u4_).toNat : Nat) : Int) by assumption)
          have hlr_ := glk_r hG (m := (a0_).toNat) (by omega) (by omega) hlk_
          refine zw_iload_n (pc := 14) (n := 3) (x := Int32.ofInt u4_) rfl d_M_likes_14 ?_
          refine zw_aload_n (pc := 15) (n := 0) (x := 81) rfl d_M_likes_15 ?_
          refine zr_getI0 hf hW (pc := 16) (by decide) f_M_196 rfl d_M_likes_16 ?_
          refine zr_icmp_ge (pc := 19) (tgt := 49) ⟨hu4_a, hu4_b⟩ ⟨(ze_r Mz 81 20).1, (ze_r Mz 81 20).2⟩ (by decide) d_M_likes_19 (fun hc_19 => ?_) (fun hc_19 => ?_)
          · skip
            refine zw_iload_n (pc := 49) (n := 2) (x := Int32.ofInt u3_) rfl d_M_likes_49 ?_
            refine zr_callS hf.x (pc := 50) [.int (Int32.ofInt u3_)] [] l_M_253 (c_M_ones l Mz (hf.w hW) u3_ hu3_a hu3_b (show 0 ≤ u3_ by first | assumption | omega)) rfl rfl (by decide) (Nat.le_of_ble_eq_true rfl) d_M_likes_50 ?_
            rintro _ N8_ ⟨v9_, rfl, ⟨hv9_a, hv9_b⟩, hsN8_, ⟨hp0_N8_, hp1_N8_, hp2_N8_⟩⟩
            obtain rfl := hsN8_.eq.symm
            show zW l m_M_likes (zn Mz + 0, zw Mz + 0) Mz 53 [some (.ref 81), some (.int (Int32.ofInt a0_)), some (.int (Int32.ofInt u3_)), some (.int (Int32.ofInt u4_))] [.int (Int32.ofInt v9_)] (zpI [] [] Mz (fun v N => (((0 ≤ a0_ ∧ a0_ < (gN T : Int) ∧ v = ((gcb (gup (glkF T (a0_).toNat) 0 (gN T)) : Nat) : Int)) ∨ (¬ (0 ≤ a0_ ∧ a0_ < (gN T : Int)) ∧ v = (-1 : Int))))))
            have hon_ := hp0_N8_
            have hol_ := glk_lt hG (m := (a0_).toNat) (by omega) (gN T) (Nat.le_refl _)
            have hop_ : 2 ^ gN T ≤ 2 ^ 24 := Nat.pow_le_pow_right (by omega) g24
            rw [hlk_, zcb_n (by rw [show (u4_).toNat = gN T by omega]; omega) 31 (Nat.le_refl _), show (u4_).toNat = gN T by omega] at hon_
            exact zr_iret (pc := 53) (ty := .int) rfl rfl ⟨by omega, by omega⟩ hf (show ((0 ≤ a0_ ∧ a0_ < (gN T : Int) ∧ v9_ = ((gcb (gup (glkF T (a0_).toNat) 0 (gN T)) : Nat) : Int)) ∨ (¬ (0 ≤ a0_ ∧ a0_ < (gN T : Int)) ∧ v9_ = (-1 : Int))) by first | exact Or.inr ⟨by omega, rfl⟩ | exact Or.inl ⟨by omega, by omega, hon_⟩) d_M_likes_53
          · skip
            refine zw_iload_n (pc := 22) (n := 2) (x := Int32.ofInt u3_) rfl d_M_likes_22 ?_
            refine zw_iconst (pc := 23) (v := Int32.ofInt 1) (by decide) d_M_likes_23 ?_
            refine zw_aload_n (pc := 24) (n := 0) (x := 81) rfl d_M_likes_24 ?_
            refine zw_aload_n (pc := 25) (n := 0) (x := 81) rfl d_M_likes_25 ?_
            refine zw_aload_n (pc := 26) (n := 0) (x := 81) rfl d_M_likes_26 ?_
            refine zr_getF (r := 88) (hf.w hW) (pc := 27) f_M_35 rfl (zh_88 (hf.w hW)).1 d_M_likes_27 ?_
            refine zw_iload_n (pc := 30) (n := 3) (x := Int32.ofInt u4_) rfl d_M_likes_30 ?_
            refine zr_ialdn (pc := 31) (zh_88 (hf.w hW)).2 (by decide) (by omega) (by omega) d_M_likes_31 (fun v10_ hv10_ hv10_a hv10_b => ?_)
            have hu_x := dv0.u (a := u4_) (by omega) (by omega)
            have hu_y := hG.2.2.1 (u4_).toNat (by omega)
            have huv_ : v10_ = ((gi T (u4_).toNat : Nat) : Int) := (show v10_ = _ by assumption).trans (dv0.2.2 _ (by omega))
            refine zw_iload_n (pc := 32) (n := 1) (x := Int32.ofInt a0_) rfl d_M_likes_32 ?_
            refine zr_callV (hf.w hW) hf.x (pc := 33) [.int (Int32.ofInt v10_), .int (Int32.ofInt a0_)] [.ref 81, .int (Int32.ofInt 1), .int (Int32.ofInt u3_)] l_M_216 (c_M_by l Mz (hf.w hW) v10_ hv10_a hv10_b a0_ ha0_a ha0_b T hG dv0 (show 0 ≤ v10_ by first | assumption | omega) (show v10_ < ze Mz 81 20 by first | assumption | omega) (show 0 ≤ a0_ by first | assumption | omega) (show a0_ < ze Mz 81 20 by first | assumption | omega)) rfl rfl rfl (by decide) (Nat.le_of_ble_eq_true rfl) d_M_likes_33 ?_
            rintro _ N11_ ⟨v12_, rfl, ⟨hv12_a, hv12_b⟩, hsN11_, ⟨hp0_N11_, hp1_N11_, hp2_N11_⟩⟩
            obtain rfl := hsN11_.eq.symm
            show zW l m_M_likes (zn Mz + 0, zw Mz + 0) Mz 36 [some (.ref 81), some (.int (Int32.ofInt a0_)), some (.int (Int32.ofInt u3_)), some (.int (Int32.ofInt u4_))] [.int (Int32.ofInt v12_), .ref 81, .int (Int32.ofInt 1), .int (Int32.ofInt u3_)] (zpI [] [] Mz (fun v N => (((0 ≤ a0_ ∧ a0_ < (gN T : Int) ∧ v = ((gcb (gup (glkF T (a0_).toNat) 0 (gN T)) : Nat) : Int)) ∨ (¬ (0 ≤ a0_ ∧ a0_ < (gN T : Int)) ∧ v = (-1 : Int))))))
            have hb1_ := hp0_N11_
            refine zw_iload_n (pc := 36) (n := 3) (x := Int32.ofInt u4_) rfl d_M_likes_36 ?_
            refine zr_callV (hf.w hW) hf.x (pc := 37) [.int (Int32.ofInt v12_), .int (Int32.ofInt u4_)] [.int (Int32.ofInt 1), .int (Int32.ofInt u3_)] l_M_216 (c_M_by l Mz (hf.w hW) v12_ hv12_a hv12_b u4_ hu4_a hu4_b T hG dv0 (show 0 ≤ v12_ by first | assumption | omega) (show v12_ < ze Mz 81 20 by first | assumption | omega) (show 0 ≤ u4_ by first | assumption | omega) (show u4_ < ze Mz 81 20 by first | assumption | omega)) rfl rfl rfl (by decide) (Nat.le_of_ble_eq_true rfl) d_M_likes_37 ?_
            rintro _ N13_ ⟨v14_, rfl, ⟨hv14_a, hv14_b⟩, hsN13_, ⟨hp0_N13_, hp1_N13_, hp2_N13_⟩⟩
            obtain rfl := hsN13_.eq.symm
            show zW l m_M_likes (zn Mz + 0, zw Mz + 0) Mz 40 [some (.ref 81), some (.int (Int32.ofInt a0_)), some (.int (Int32.ofInt u3_)), some (.int (Int32.ofInt u4_))] [.int (Int32.ofInt v14_), .int (Int32.ofInt 1), .int (Int32.ofInt u3_)] (zpI [] [] Mz (fun v N => (((0 ≤ a0_ ∧ a0_ < (gN T : Int) ∧ v = ((gcb (gup (glkF T (a0_).toNat) 0 (gN T)) : Nat) : Int)) ∨ (¬ (0 ≤ a0_ ∧ a0_ < (gN T : Int)) ∧ v = (-1 : Int))))))
            have hb2_ := hp0_N13_
            rw [hb1_, Int.toNat_natCast, huv_, Int.toNat_natCast] at hb2_
            have hln_ := glk_s hG (m := (a0_).toNat) (by omega) (by omega) (by omega) hlk_ hb2_
            refine zr_ishl (pc := 40) d_M_likes_40 ?_
            have hr15_ := zshl_r 1 v14_
            refine zr_ior (pc := 41) d_M_likes_41 ?_
            have hr16_ := zor_r u3_ (zshl 1 v14_)
            refine zw_istore_n (pc := 42) (i := 2) (L2 := [some (.ref 81), some (.int (Int32.ofInt a0_)), some (.int (Int32.ofInt (zor u3_ (zshl 1 v14_)))), some (.int (Int32.ofInt u4_))]) rfl (by decide) rfl d_M_likes_42 ?_
            refine zr_iinc (pc := 43) (i := 3) (a := u4_) (n := 1) (L2 := [some (.ref 81), some (.int (Int32.ofInt a0_)), some (.int (Int32.ofInt (zor u3_ (zshl 1 v14_)))), some (.int (Int32.ofInt (u4_ + 1)))]) rfl (by decide) rfl d_M_likes_43 ?_
            refine zw_goto (pc := 46) (tgt := 14) (by decide) d_M_likes_46 ?_
            exact ih_14 (zor u3_ (zshl 1 v14_)) (by omega) (by omega) (u4_ + 1) (by omega) (by omega) (show 0 ≤ (u4_ + 1) by first | assumption | omega) (show (u4_ + 1) ≤ gN T by first | assumption | omega) (show (zor u3_ (zshl 1 v14_)) = ((gup (glkF T (a0_).toNat) 0 ((u4_ + 1)).toNat : Nat) : Int) by exact hln_) (by omega)
      exact lp_14 _ 0 (by decide) (by decide) 0 (by decide) (by decide) (show 0 ≤ (0 : Int) by first | assumption | omega) (show (0 : Int) ≤ gN T by first | assumption | omega) (show (0 : Int) = ((gup (glkF T (a0_).toNat) 0 ((0 : Int)).toNat : Nat) : Int) by rfl) (Nat.lt_succ_self _)
    · skip
      exact absurd hc_5 (by decide)
  · skip
    show zW l m_M_likes (zn Mz + 0, zw Mz + 0) Mz 5 [some (.ref 81), some (.int (Int32.ofInt a0_)), none, none] [.int (Int32.ofInt 0)] (zpI [] [] Mz (fun v N => (((0 ≤ a0_ ∧ a0_ < (gN T : Int) ∧ v = ((gcb (gup (glkF T (a0_).toNat) 0 (gN T)) : Nat) : Int)) ∨ (¬ (0 ≤ a0_ ∧ a0_ < (gN T : Int)) ∧ v = (-1 : Int))))))
    refine zr_if_ne (pc := 5) (tgt := 10) ⟨(by decide), (by decide)⟩ (by decide) d_M_likes_5 (fun hc_5 => ?_) (fun hc_5 => ?_)
    · skip
      exact absurd hc_5 (by decide)
    · skip
      refine zw_iconst (pc := 8) (v := Int32.ofInt (-1)) (by decide) d_M_likes_8 ?_
      exact zr_iret (pc := 9) (ty := .int) rfl rfl ⟨by omega, by omega⟩ hf (show ((0 ≤ a0_ ∧ a0_ < (gN T : Int) ∧ ((-1)) = ((gcb (gup (glkF T (a0_).toNat) 0 (gN T)) : Nat) : Int)) ∨ (¬ (0 ≤ a0_ ∧ a0_ < (gN T : Int)) ∧ ((-1)) = (-1 : Int))) by first | exact Or.inr ⟨by omega, rfl⟩ | exact Or.inl ⟨by omega, by omega, hon_⟩) d_M_likes_9
