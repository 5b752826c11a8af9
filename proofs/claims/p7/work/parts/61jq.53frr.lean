set_option maxHeartbeats 4000000 in
theorem c_M_movesG (l : Launch) (Mz : zMem) (hW : zMt Mz) (a0_ : Int) (ha0_a : -2147483648 ≤ a0_) (ha0_b : a0_ < 2147483648) (a1_ : Int) (ha1_a : -2147483648 ≤ a1_) (ha1_b : a1_ < 2147483648) (T : zGT) (hO : gOK T) (P_ : Nat) (mv_ : List Nat) (p0_ : zGB T Mz) (p1_ : zCdR (P_ : Int) mv_ T Mz) (p2_ : ze Mz 81 16 = (P_ : Int)) (p3_ : 1 ≤ P_) (p4_ : P_ ≤ 6) : zC l m_M_moves 0 0 [.ref 81, .int (Int32.ofInt a0_), .int (Int32.ofInt a1_)] Mz (zpI [] [] Mz (fun v N => (((0 ≤ a0_ ∧ a0_ < (gN T : Int) ∧ 0 ≤ a1_ ∧ a1_ < (P_ : Int) ∧ ∃ c_ : Nat → Nat, gTb mv_ c_ T ∧ v = ((gdg (c_ (a0_).toNat) (a1_).toNat : Nat) : Int)) ∨ (¬ (0 ≤ a0_ ∧ a0_ < (gN T : Int) ∧ 0 ≤ a1_ ∧ a1_ < (P_ : Int)) ∧ v = (-1 : Int)))))) := by
  refine zC_of (L0 := [some (.ref 81), some (.int (Int32.ofInt a0_)), some (.int (Int32.ofInt a1_))]) md_M_moves (Nat.le_of_ble_eq_true rfl) rfl ?_ zQ0
  have hf : zFr [] [] Mz Mz := zFr.rf
  have r_16 := ze_r Mz 81 16
  have r_20 := ze_r Mz 81 20
  have hG := hO.1
  have g24 := hG.2.1
  have g1 := hG.1
  have dv0 : zTab T Mz := p0_.1
  have dv1 : zB 85 144 0 5 Mz := p0_.2.1
  have dv2 : zJX T Mz := p0_.2.2.1
  have dv3 : zFirs T Mz := p0_.2.2.2.1
  have dv4 : zSSm T Mz := p0_.2.2.2.2.1
  have dv5 : zGD Mz := zGB.d hO p0_
  have gb := dv5.1
  have gn := dv0.1
  have hsz_ := dv0.1
  refine zw_aload_n (pc := 0) (n := 0) (x := 81) rfl (zdal_p dlD_M_moves_0 (i := 0) rfl) ?_
  refine zw_iload_n (pc := 1) (n := 1) (x := Int32.ofInt a0_) rfl (zdal_p dlD_M_moves_0 (i := 1) rfl) ?_
  refine zr_callV (hf.w hW) hf.x (pc := 2) [.int (Int32.ofInt a0_)] [] l_M_400 (c_M_isMemberG l Mz (hf.w hW) a0_ ha0_a ha0_b T hO p0_) rfl rfl rfl (by decide) (Nat.le_of_ble_eq_true rfl) (zdal_p dlD_M_moves_0 (i := 2) rfl) ?_
  rintro _ N1_ ⟨v2_, rfl, ⟨hv2_a, hv2_b⟩, hsN1_, hp0_N1_⟩
  obtain rfl := hsN1_.eq.symm
  replace hp0_N1_ : ((v2_ = 1 ∧ 0 ≤ a0_ ∧ a0_ < ze Mz 81 20) ∨ (v2_ = 0 ∧ (a0_ < 0 ∨ ze Mz 81 20 ≤ a0_))) := hp0_N1_
  rcases hp0_N1_ with ⟨rfl, ha2_0_hp0_N1_, ha2_1_hp0_N1_⟩ | ⟨rfl, ha2_0_hp0_N1_⟩
  · skip
    show zW l m_M_moves (zn Mz + 0, zw Mz + 0) Mz 5 [some (.ref 81), some (.int (Int32.ofInt a0_)), some (.int (Int32.ofInt a1_))] [.int (Int32.ofInt 1)] _
    refine zr_if_eq (pc := 5) (tgt := 38) ⟨(by decide), (by decide)⟩ (by decide) (zdal_p dlD_M_moves_0 (i := 3) rfl) (fun hc_5 => ?_) (fun hc_5 => ?_)
    · skip
      exact absurd hc_5 (by decide)
    · skip
      refine zw_iload_n (pc := 8) (n := 2) (x := Int32.ofInt a1_) rfl (zdal_p dlD_M_moves_0 (i := 4) rfl) ?_
      refine zr_i2l (pc := 9) ⟨ha1_a, ha1_b⟩ (zdal_p dlD_M_moves_0 (i := 5) rfl) ?_
      refine zw_lconst (pc := 10) (v := Int64.ofInt 0) (by decide) (zdal_p dlD_M_moves_0 (i := 6) rfl) ?_
      refine zw_aload_n (pc := 11) (n := 0) (x := 81) rfl (zdal_p dlD_M_moves_0 (i := 7) rfl) ?_
      refine zr_getI0 hf hW (pc := 12) (by decide) f_M_382 rfl (zdal_p dlD_M_moves_0 (i := 8) rfl) ?_
      refine zw_iconst (pc := 15) (v := Int32.ofInt 1) (by decide) (zdal_p dlD_M_moves_0 (i := 9) rfl) ?_
      refine zr_isub (pc := 16) (zdal_p dlD_M_moves_0 (i := 10) rfl) ?_
      refine zr_i2l (pc := 17) ⟨(by omega), (by omega)⟩ (zdal_p dlD_M_moves_0 (i := 11) rfl) ?_
      refine zr_callS hf.x (pc := 18) [.long (Int64.ofInt a1_), .long (Int64.ofInt 0), .long (Int64.ofInt ((ze Mz 81 16) - 1))] [] l_M_131 (c_M_isIn l Mz (hf.w hW) a1_ (by omega) (by omega) 0 (by decide) (by decide) ((ze Mz 81 16) - 1) (by omega) (by omega)) rfl rfl (by decide) (Nat.le_of_ble_eq_true rfl) (zdal_p dlD_M_moves_0 (i := 12) rfl) ?_
      rintro _ N3_ ⟨v4_, rfl, ⟨hv4_a, hv4_b⟩, hsN3_, hp0_N3_⟩
      obtain rfl := hsN3_.eq.symm
      replace hp0_N3_ : ((v4_ = 1 ∧ 0 ≤ a1_ ∧ a1_ ≤ ((ze Mz 81 16) - 1)) ∨ (v4_ = 0 ∧ (a1_ < 0 ∨ ((ze Mz 81 16) - 1) < a1_))) := hp0_N3_
      rcases hp0_N3_ with ⟨rfl, ha18_0_hp0_N3_, ha18_1_hp0_N3_⟩ | ⟨rfl, ha18_0_hp0_N3_⟩
      · skip
        show zW l m_M_moves (zn Mz + 0, zw Mz + 0) Mz 21 [some (.ref 81), some (.int (Int32.ofInt a0_)), some (.int (Int32.ofInt a1_))] [.int (Int32.ofInt 1)] _
        refine zr_if_eq (pc := 21) (tgt := 38) ⟨(by decide), (by decide)⟩ (by decide) (zdal_p dlD_M_moves_0 (i := 13) rfl) (fun hc_21 => ?_) (fun hc_21 => ?_)
        · skip
          exact absurd hc_21 (by decide)
        · skip
          refine zw_aload_n (pc := 24) (n := 0) (x := 81) rfl (zdal_p dlD_M_moves_0 (i := 14) rfl) ?_
          refine zr_getF (r := 85) (hf.w hW) (pc := 25) f_M_26 rfl (zh_85 (hf.w hW)).1 (zdal_p dlD_M_moves_0 (i := 15) rfl) ?_
          refine zw_bipush (pc := 28) (v := Int32.ofInt 6) (by decide) (zdal_p dlD_M_moves_0 (i := 16) rfl) ?_
          refine zw_iload_n (pc := 30) (n := 1) (x := Int32.ofInt a0_) rfl (zdal_p dlD_M_moves_0 (i := 17) rfl) ?_
          refine zr_imul (pc := 31) (zdal_p dlD_M_moves_0 (i := 18) rfl) ?_
          refine zw_iload_n (pc := 32) (n := 2) (x := Int32.ofInt a1_) rfl (zdal_p dlD_M_moves_0 (i := 19) rfl) ?_
          refine zr_iadd (pc := 33) (zdal_p dlD_M_moves_0 (i := 20) rfl) ?_
          refine zr_ialdn (pc := 34) (zh_85 (hf.w hW)).2 (by decide) (by omega) (by omega) (zdal_p dlD_M_moves_0 (i := 21) rfl) (fun v5_ hv5_ hv5_a hv5_b => ?_)
          have hr6_ := dv1.g (e := (6 * a0_) + a1_) (by omega) (by omega)
          rw [← hv5_] at hr6_
          have hd_ := zCdR.dg (P := P_) dv1 (i := (a0_).toNat) (p := (a1_).toNat) (by omega) (by omega) (by omega)
          rw [show 6 * (a0_).toNat + (a1_).toNat = (6 * a0_ + a1_).toNat by omega] at hd_
          refine zw_goto (pc := 35) (tgt := 39) (by decide) (zdal_p dlD_M_moves_0 (i := 22) rfl) ?_
          exact zr_iret (pc := 39) (ty := .int) rfl rfl ⟨by omega, by omega⟩ hf (show ((0 ≤ a0_ ∧ a0_ < (gN T : Int) ∧ 0 ≤ a1_ ∧ a1_ < (P_ : Int) ∧ ∃ c_ : Nat → Nat, gTb mv_ c_ T ∧ v5_ = ((gdg (c_ (a0_).toNat) (a1_).toNat : Nat) : Int)) ∨ (¬ (0 ≤ a0_ ∧ a0_ < (gN T : Int) ∧ 0 ≤ a1_ ∧ a1_ < (P_ : Int)) ∧ v5_ = (-1 : Int))) by first | exact Or.inr ⟨by omega, rfl⟩ | exact Or.inl ⟨by omega, by omega, by omega, by omega, _, p1_, (show v5_ = _ by first | with_reducible assumption | assumption).trans hd_⟩) (zdal_p dlD_M_moves_1 (i := 0) rfl)
      · skip
        show zW l m_M_moves (zn Mz + 0, zw Mz + 0) Mz 21 [some (.ref 81), some (.int (Int32.ofInt a0_)), some (.int (Int32.ofInt a1_))] [.int (Int32.ofInt 0)] _
        refine zr_if_eq (pc := 21) (tgt := 38) ⟨(by decide), (by decide)⟩ (by decide) (zdal_p dlD_M_moves_0 (i := 13) rfl) (fun hc_21 => ?_) (fun hc_21 => ?_)
        · skip
          refine zw_iconst (pc := 38) (v := Int32.ofInt (-1)) (by decide) (zdal_p dlD_M_moves_0 (i := 23) rfl) ?_
          exact zr_iret (pc := 39) (ty := .int) rfl rfl ⟨by omega, by omega⟩ hf (show ((0 ≤ a0_ ∧ a0_ < (gN T : Int) ∧ 0 ≤ a1_ ∧ a1_ < (P_ : Int) ∧ ∃ c_ : Nat → Nat, gTb mv_ c_ T ∧ ((-1)) = ((gdg (c_ (a0_).toNat) (a1_).toNat : Nat) : Int)) ∨ (¬ (0 ≤ a0_ ∧ a0_ < (gN T : Int) ∧ 0 ≤ a1_ ∧ a1_ < (P_ : Int)) ∧ ((-1)) = (-1 : Int))) by first | exact Or.inr ⟨by omega, rfl⟩ | exact Or.inl ⟨by omega, by omega, by omega, by omega, _, p1_, (show ((-1)) = _ by first | with_reducible assumption | assumption).trans hd_⟩) (zdal_p dlD_M_moves_1 (i := 0) rfl)
        · skip
          exact absurd hc_21 (by decide)
  · skip
    show zW l m_M_moves (zn Mz + 0, zw Mz + 0) Mz 5 [some (.ref 81), some (.int (Int32.ofInt a0_)), some (.int (Int32.ofInt a1_))] [.int (Int32.ofInt 0)] _
    refine zr_if_eq (pc := 5) (tgt := 38) ⟨(by decide), (by decide)⟩ (by decide) (zdal_p dlD_M_moves_0 (i := 3) rfl) (fun hc_5 => ?_) (fun hc_5 => ?_)
    · skip
      refine zw_iconst (pc := 38) (v := Int32.ofInt (-1)) (by decide) (zdal_p dlD_M_moves_0 (i := 23) rfl) ?_
      exact zr_iret (pc := 39) (ty := .int) rfl rfl ⟨by omega, by omega⟩ hf (show ((0 ≤ a0_ ∧ a0_ < (gN T : Int) ∧ 0 ≤ a1_ ∧ a1_ < (P_ : Int) ∧ ∃ c_ : Nat → Nat, gTb mv_ c_ T ∧ ((-1)) = ((gdg (c_ (a0_).toNat) (a1_).toNat : Nat) : Int)) ∨ (¬ (0 ≤ a0_ ∧ a0_ < (gN T : Int) ∧ 0 ≤ a1_ ∧ a1_ < (P_ : Int)) ∧ ((-1)) = (-1 : Int))) by first | exact Or.inr ⟨by omega, rfl⟩ | exact Or.inl ⟨by omega, by omega, by omega, by omega, _, p1_, (show ((-1)) = _ by first | with_reducible assumption | assumption).trans hd_⟩) (zdal_p dlD_M_moves_1 (i := 0) rfl)
    · skip
      exact absurd hc_5 (by decide)
