set_option maxHeartbeats 4000000 in
theorem c_M_normOfG (l : Launch) (Mz : zMem) (hW : zMt Mz) (a0_ : Int) (ha0_a : -2147483648 ≤ a0_) (ha0_b : a0_ < 2147483648) (T : zGT) (hO : gOK T) (p0_ : zGB T Mz) (p1_ : 0 ≤ a0_) (p2_ : a0_ < 16777216) : zC l m_M_normOf 0 0 [.ref 81, .int (Int32.ofInt a0_)] Mz (zpI [] [] Mz (fun v N => v = ((zbq (gNb T (a0_).toNat) (gN T) : Nat) : Int) ∧ 0 ≤ v ∧ v < 16777216)) := by
  refine zC_of (L0 := [some (.ref 81), some (.int (Int32.ofInt a0_)), none, none]) md_M_normOf (Nat.le_of_ble_eq_true rfl) rfl ?_ zQ0
  have hf : zFr [] [] Mz Mz := zFr.rf
  have r_20 := ze_r Mz 81 20
  have hG := hO.1
  have g24 := hG.2.1
  have g1 := hG.1
  have dv0 : zTab T Mz := p0_.1
  have dv1 : zB 85 144 0 5 Mz := p0_.2.1
  have dv2 : zJX T Mz := p0_.2.2.1
  have dv3 : zFirs T Mz := p0_.2.2.2.1
  have dv4 : zSSm T Mz := p0_.2.2.2.2.1
  have dv5 : zGD Mz := zGB.d hO p0_
  have gb := dv5.1
  have gn := dv0.1
  have hsz_ := dv0.1
  refine zw_iconst (pc := 0) (v := Int32.ofInt 0) (by decide) (zdal_p dlD_M_normOf_18 (i := 0) rfl) ?_
  refine zw_istore_n (pc := 1) (i := 2) (L2 := [some (.ref 81), some (.int (Int32.ofInt a0_)), some (.int (Int32.ofInt 0)), none]) rfl (by decide) rfl (zdal_p dlD_M_normOf_18 (i := 1) rfl) ?_
  refine zw_iconst (pc := 2) (v := Int32.ofInt 0) (by decide) (zdal_p dlD_M_normOf_18 (i := 2) rfl) ?_
  refine zw_istore_n (pc := 3) (i := 3) (L2 := [some (.ref 81), some (.int (Int32.ofInt a0_)), some (.int (Int32.ofInt 0)), some (.int (Int32.ofInt 0))]) rfl (by decide) rfl (zdal_p dlD_M_normOf_18 (i := 3) rfl) ?_
  have lp_4 : ∀ (n : Nat) (u1_ : Int) (hu1_a : -2147483648 ≤ u1_) (hu1_b : u1_ < 2147483648) (u2_ : Int) (hu2_a : -2147483648 ≤ u2_) (hu2_b : u2_ < 2147483648) (i3_ : 0 ≤ u2_) (i4_ : u2_ ≤ gN T) (i5_ : u1_ = ((zbq (gNb T (a0_).toNat) (u2_).toNat : Nat) : Int)), (gN T - u2_).toNat < n → zW l m_M_normOf (zn Mz + 0, zw Mz + 0) Mz 4 [some (.ref 81), some (.int (Int32.ofInt a0_)), some (.int (Int32.ofInt u1_)), some (.int (Int32.ofInt u2_))] [] (zpI [] [] Mz (fun v N => v = ((zbq (gNb T (a0_).toNat) (gN T) : Nat) : Int) ∧ 0 ≤ v ∧ v < 16777216)) := by
    intro n
    induction n with
    | zero =>
      intro u1_ hu1_a hu1_b u2_ hu2_a hu2_b i3_ i4_ i5_ h0
      exact absurd h0 (Nat.not_lt_zero _)
    | succ n ih_4 =>
      intro u1_ hu1_a hu1_b u2_ hu2_a hu2_b i3_ i4_ i5_ hlt_4
      have hnb_ := (show u1_ = ((zbq (gNb T (a0_).toNat) (u2_).toNat : Nat) : Int) by first | with_reducible assumption | assumption)
      have hnr_ := zbq_r g24 (by omega) hnb_
      refine zw_iload_n (pc := 4) (n := 3) (x := Int32.ofInt u2_) rfl (zdal_p dlD_M_normOf_18 (i := 4) rfl) ?_
      refine zw_aload_n (pc := 5) (n := 0) (x := 81) rfl (zdal_p dlD_M_normOf_18 (i := 5) rfl) ?_
      refine zr_getI0 hf hW (pc := 6) (by decide) f_M_196 rfl (zdal_p dlD_M_normOf_18 (i := 6) rfl) ?_
      refine zr_icmp_ge (pc := 9) (tgt := 41) ⟨hu2_a, hu2_b⟩ ⟨(ze_r Mz 81 20).1, (ze_r Mz 81 20).2⟩ (by decide) (zdal_p dlD_M_normOf_18 (i := 7) rfl) (fun hc_9 => ?_) (fun hc_9 => ?_)
      · skip
        refine zw_iload_n (pc := 41) (n := 2) (x := Int32.ofInt u1_) rfl (zdal_p dlD_M_normOf_19 (i := 1) rfl) ?_
        exact zr_iret (pc := 42) (ty := .int) rfl rfl ⟨by omega, by omega⟩ hf ⟨(show u1_ = ((zbq (gNb T (a0_).toNat) (gN T) : Nat) : Int) by rw [show gN T = (u2_).toNat by omega]; exact hnb_), (show 0 ≤ u1_ by first | with_reducible assumption | assumption | omega), (show u1_ < 16777216 by first | with_reducible assumption | assumption | omega)⟩ (zdal_p dlD_M_normOf_19 (i := 2) rfl)
      · skip
        refine zw_iload_n (pc := 12) (n := 2) (x := Int32.ofInt u1_) rfl (zdal_p dlD_M_normOf_18 (i := 8) rfl) ?_
        refine zw_aload_n (pc := 13) (n := 0) (x := 81) rfl (zdal_p dlD_M_normOf_18 (i := 9) rfl) ?_
        refine zw_iload_n (pc := 14) (n := 1) (x := Int32.ofInt a0_) rfl (zdal_p dlD_M_normOf_18 (i := 10) rfl) ?_
        refine zw_iload_n (pc := 15) (n := 3) (x := Int32.ofInt u2_) rfl (zdal_p dlD_M_normOf_18 (i := 11) rfl) ?_
        refine zr_callV (hf.w hW) hf.x (pc := 16) [.int (Int32.ofInt a0_), .int (Int32.ofInt u2_)] [.int (Int32.ofInt u1_)] l_M_223 (c_M_turned l Mz (hf.w hW) a0_ ha0_a ha0_b u2_ hu2_a hu2_b T hG dv0 (show 0 ≤ a0_ by first | with_reducible assumption | assumption | omega) (show 0 ≤ u2_ by first | with_reducible assumption | assumption | omega) (show u2_ < ze Mz 81 20 by first | with_reducible assumption | assumption | omega)) rfl rfl rfl (by decide) (Nat.le_of_ble_eq_true rfl) (zdal_p dlD_M_normOf_18 (i := 12) rfl) ?_
        rintro _ N6_ ⟨v7_, rfl, ⟨hv7_a, hv7_b⟩, hsN6_, ⟨hp0_N6_, hp1_N6_, hp2_N6_⟩⟩
        obtain rfl := hsN6_.eq.symm
        show zW l m_M_normOf (zn Mz + 0, zw Mz + 0) Mz 19 [some (.ref 81), some (.int (Int32.ofInt a0_)), some (.int (Int32.ofInt u1_)), some (.int (Int32.ofInt u2_))] [.int (Int32.ofInt v7_), .int (Int32.ofInt u1_)] _
        have htr_ := hp0_N6_
        refine zw_iload_n (pc := 19) (n := 1) (x := Int32.ofInt a0_) rfl (zdal_p dlD_M_normOf_18 (i := 13) rfl) ?_
        refine zr_icmp_ne (pc := 20) (tgt := 27) ⟨hv7_a, hv7_b⟩ ⟨ha0_a, ha0_b⟩ (by decide) (zdal_p dlD_M_normOf_18 (i := 14) rfl) (fun hc_20 => ?_) (fun hc_20 => ?_)
        · skip
          refine zw_iconst (pc := 27) (v := Int32.ofInt 0) (by decide) (zdal_p dlD_M_normOf_18 (i := 17) rfl) ?_
          refine zr_callS hf.x (pc := 28) [.int (Int32.ofInt 0)] [.int (Int32.ofInt u1_)] l_M_256 (c_M_truth l Mz (hf.w hW) 0 (by decide) (by decide) (by omega)) rfl rfl (by decide) (Nat.le_of_ble_eq_true rfl) (zdal_p dlD_M_normOf_18 (i := 18) rfl) ?_
          rintro _ N8_ ⟨v9_, rfl, ⟨hv9_a, hv9_b⟩, hsN8_, hp0_N8_⟩
          obtain rfl := hsN8_.eq.symm
          replace hp0_N8_ : v9_ = 0 := hp0_N8_
          show zW l m_M_normOf (zn Mz + 0, zw Mz + 0) Mz 31 [some (.ref 81), some (.int (Int32.ofInt a0_)), some (.int (Int32.ofInt u1_)), some (.int (Int32.ofInt u2_))] [.int (Int32.ofInt v9_), .int (Int32.ofInt u1_)] _
          refine zw_iload_n (pc := 31) (n := 3) (x := Int32.ofInt u2_) rfl (zdal_p dlD_M_normOf_18 (i := 19) rfl) ?_
          have hct_ := zbq_T (p := (gNb T (a0_).toNat)) (t := v9_) g24 (by omega) (by omega) hnb_ (by first | exact Or.inl ⟨by omega, by unfold gNb; omega⟩ | exact Or.inr ⟨by omega, by unfold gNb; omega⟩)
          refine zr_ishl (pc := 32) (zdal_p dlD_M_normOf_18 (i := 20) rfl) ?_
          have hr10_ := zshl_r v9_ u2_
          refine zr_ior (pc := 33) (zdal_p dlD_M_normOf_18 (i := 21) rfl) ?_
          have hr11_ := zor_r u1_ (zshl v9_ u2_)
          refine zw_istore_n (pc := 34) (i := 2) (L2 := [some (.ref 81), some (.int (Int32.ofInt a0_)), some (.int (Int32.ofInt (zor u1_ (zshl v9_ u2_)))), some (.int (Int32.ofInt u2_))]) rfl (by decide) rfl (zdal_p dlD_M_normOf_18 (i := 22) rfl) ?_
          refine zr_iinc (pc := 35) (i := 3) (a := u2_) (n := 1) (L2 := [some (.ref 81), some (.int (Int32.ofInt a0_)), some (.int (Int32.ofInt (zor u1_ (zshl v9_ u2_)))), some (.int (Int32.ofInt (u2_ + 1)))]) rfl (by decide) rfl (zdal_p dlD_M_normOf_18 (i := 23) rfl) ?_
          refine zw_goto (pc := 38) (tgt := 4) (by decide) (zdal_p dlD_M_normOf_19 (i := 0) rfl) ?_
          exact ih_4 (zor u1_ (zshl v9_ u2_)) (by omega) (by omega) (u2_ + 1) (by omega) (by omega) (show 0 ≤ (u2_ + 1) by first | with_reducible assumption | assumption | omega) (show (u2_ + 1) ≤ gN T by first | with_reducible assumption | assumption | omega) (show (zor u1_ (zshl v9_ u2_)) = ((zbq (gNb T (a0_).toNat) ((u2_ + 1)).toNat : Nat) : Int) by exact hct_) (by omega)
        · skip
          refine zw_iconst (pc := 23) (v := Int32.ofInt 1) (by decide) (zdal_p dlD_M_normOf_18 (i := 15) rfl) ?_
          refine zw_goto (pc := 24) (tgt := 28) (by decide) (zdal_p dlD_M_normOf_18 (i := 16) rfl) ?_
          refine zr_callS hf.x (pc := 28) [.int (Int32.ofInt 1)] [.int (Int32.ofInt u1_)] l_M_256 (c_M_truth l Mz (hf.w hW) 1 (by decide) (by decide) (by omega)) rfl rfl (by decide) (Nat.le_of_ble_eq_true rfl) (zdal_p dlD_M_normOf_18 (i := 18) rfl) ?_
          rintro _ N12_ ⟨v13_, rfl, ⟨hv13_a, hv13_b⟩, hsN12_, hp0_N12_⟩
          obtain rfl := hsN12_.eq.symm
          replace hp0_N12_ : v13_ = 1 := hp0_N12_
          show zW l m_M_normOf (zn Mz + 0, zw Mz + 0) Mz 31 [some (.ref 81), some (.int (Int32.ofInt a0_)), some (.int (Int32.ofInt u1_)), some (.int (Int32.ofInt u2_))] [.int (Int32.ofInt v13_), .int (Int32.ofInt u1_)] _
          refine zw_iload_n (pc := 31) (n := 3) (x := Int32.ofInt u2_) rfl (zdal_p dlD_M_normOf_18 (i := 19) rfl) ?_
          have hct_ := zbq_T (p := (gNb T (a0_).toNat)) (t := v13_) g24 (by omega) (by omega) hnb_ (by first | exact Or.inl ⟨by omega, by unfold gNb; omega⟩ | exact Or.inr ⟨by omega, by unfold gNb; omega⟩)
          refine zr_ishl (pc := 32) (zdal_p dlD_M_normOf_18 (i := 20) rfl) ?_
          have hr14_ := zshl_r v13_ u2_
          refine zr_ior (pc := 33) (zdal_p dlD_M_normOf_18 (i := 21) rfl) ?_
          have hr15_ := zor_r u1_ (zshl v13_ u2_)
          refine zw_istore_n (pc := 34) (i := 2) (L2 := [some (.ref 81), some (.int (Int32.ofInt a0_)), some (.int (Int32.ofInt (zor u1_ (zshl v13_ u2_)))), some (.int (Int32.ofInt u2_))]) rfl (by decide) rfl (zdal_p dlD_M_normOf_18 (i := 22) rfl) ?_
          refine zr_iinc (pc := 35) (i := 3) (a := u2_) (n := 1) (L2 := [some (.ref 81), some (.int (Int32.ofInt a0_)), some (.int (Int32.ofInt (zor u1_ (zshl v13_ u2_)))), some (.int (Int32.ofInt (u2_ + 1)))]) rfl (by decide) rfl (zdal_p dlD_M_normOf_18 (i := 23) rfl) ?_
          refine zw_goto (pc := 38) (tgt := 4) (by decide) (zdal_p dlD_M_normOf_19 (i := 0) rfl) ?_
          exact ih_4 (zor u1_ (zshl v13_ u2_)) (by omega) (by omega) (u2_ + 1) (by omega) (by omega) (show 0 ≤ (u2_ + 1) by first | with_reducible assumption | assumption | omega) (show (u2_ + 1) ≤ gN T by first | with_reducible assumption | assumption | omega) (show (zor u1_ (zshl v13_ u2_)) = ((zbq (gNb T (a0_).toNat) ((u2_ + 1)).toNat : Nat) : Int) by exact hct_) (by omega)
  exact lp_4 _ 0 (by decide) (by decide) 0 (by decide) (by decide) (show 0 ≤ (0 : Int) by first | with_reducible assumption | assumption | omega) (show (0 : Int) ≤ gN T by first | with_reducible assumption | assumption | omega) (show (0 : Int) = ((zbq (gNb T (a0_).toNat) ((0 : Int)).toNat : Nat) : Int) by rfl) (Nat.lt_succ_self _)
set_option maxHeartbeats 4000000 in
theorem c_M_isOfOneG (l : Launch) (Mz : zMem) (hW : zMt Mz) (a0_ : Int) (ha0_a : -2147483648 ≤ a0_) (ha0_b : a0_ < 2147483648) (T : zGT) (hO : gOK T) (p0_ : zGB T Mz) (p1_ : 0 ≤ a0_) (p2_ : a0_ < 16777216) : zC l m_M_isOfOne 0 0 [.ref 81, .int (Int32.ofInt a0_)] Mz (zpI [] [] Mz (fun v N => (((v = 1 ∧ gL1 T (a0_).toNat) ∨ (v = 0 ∧ ¬ gL1 T (a0_).toNat))))) := by
  refine zC_of (L0 := [some (.ref 81), some (.int (Int32.ofInt a0_)), none]) md_M_isOfOne (Nat.le_of_ble_eq_true rfl) rfl ?_ zQ0
  have hf : zFr [] [] Mz Mz := zFr.rf
  have r_20 := ze_r Mz 81 20
  have hG := hO.1
  have g24 := hG.2.1
  have g1 := hG.1
  have dv0 : zTab T Mz := p0_.1
  have dv1 : zB 85 144 0 5 Mz := p0_.2.1
  have dv2 : zJX T Mz := p0_.2.2.1
  have dv3 : zFirs T Mz := p0_.2.2.2.1
  have dv4 : zSSm T Mz := p0_.2.2.2.2.1
  have dv5 : zGD Mz := zGB.d hO p0_
  have gb := dv5.1
  have gn := dv0.1
  have hsz_ := dv0.1
  refine zw_iconst (pc := 0) (v := Int32.ofInt 0) (by decide) (zdal_p dlD_M_isOfOne_20 (i := 0) rfl) ?_
  refine zw_istore_n (pc := 1) (i := 2) (L2 := [some (.ref 81), some (.int (Int32.ofInt a0_)), some (.int (Int32.ofInt 0))]) rfl (by decide) rfl (zdal_p dlD_M_isOfOne_20 (i := 1) rfl) ?_
  have lp_2 : ∀ (n : Nat) (u1_ : Int) (hu1_a : -2147483648 ≤ u1_) (hu1_b : u1_ < 2147483648) (i2_ : 0 ≤ u1_) (i3_ : u1_ ≤ gN T) (i4_ : (∀ y_ : Nat, (y_ : Int) < u1_ → (a0_).toNat.testBit y_ = true → ¬ gLC T (2 ^ y_) (a0_).toNat)), (gN T - u1_).toNat < n → zW l m_M_isOfOne (zn Mz + 0, zw Mz + 0) Mz 2 [some (.ref 81), some (.int (Int32.ofInt a0_)), some (.int (Int32.ofInt u1_))] [] (zpI [] [] Mz (fun v N => (((v = 1 ∧ gL1 T (a0_).toNat) ∨ (v = 0 ∧ ¬ gL1 T (a0_).toNat))))) := by
    intro n
    induction n with
    | zero =>
      intro u1_ hu1_a hu1_b i2_ i3_ i4_ h0
      exact absurd h0 (Nat.not_lt_zero _)
    | succ n ih_2 =>
      intro u1_ hu1_a hu1_b i2_ i3_ i4_ hlt_2
      have hml_ := (show (∀ y_ : Nat, (y_ : Int) < u1_ → (a0_).toNat.testBit y_ = true → ¬ gLC T (2 ^ y_) (a0_).toNat) by first | with_reducible assumption | assumption)
      refine zw_iload_n (pc := 2) (n := 2) (x := Int32.ofInt u1_) rfl (zdal_p dlD_M_isOfOne_20 (i := 2) rfl) ?_
      refine zw_aload_n (pc := 3) (n := 0) (x := 81) rfl (zdal_p dlD_M_isOfOne_20 (i := 3) rfl) ?_
      refine zr_getI0 hf hW (pc := 4) (by decide) f_M_196 rfl (zdal_p dlD_M_isOfOne_20 (i := 4) rfl) ?_
      refine zr_icmp_ge (pc := 7) (tgt := 37) ⟨hu1_a, hu1_b⟩ ⟨(ze_r Mz 81 20).1, (ze_r Mz 81 20).2⟩ (by decide) (zdal_p dlD_M_isOfOne_20 (i := 5) rfl) (fun hc_7 => ?_) (fun hc_7 => ?_)
      · skip
        refine zw_iconst (pc := 37) (v := Int32.ofInt 0) (by decide) (zdal_p dlD_M_isOfOne_20 (i := 21) rfl) ?_
        exact zr_iret (pc := 38) (ty := .boolean) rfl (z_narB (by omega)) ⟨by omega, by omega⟩ hf (show ((0 = 1 ∧ gL1 T (a0_).toNat) ∨ (0 = 0 ∧ ¬ gL1 T (a0_).toNat)) from Or.inr (⟨(show 0 = 0 by first | rfl | exact (fun ⟨y_, hy_, hb_, hg_⟩ => hml_ y_ (by omega) hb_ hg_)), (show ¬ gL1 T (a0_).toNat by first | rfl | exact (fun ⟨y_, hy_, hb_, hg_⟩ => hml_ y_ (by omega) hb_ hg_))⟩)) (zdal_p dlD_M_isOfOne_20 (i := 22) rfl)
      · skip
        refine zw_iload_n (pc := 10) (n := 1) (x := Int32.ofInt a0_) rfl (zdal_p dlD_M_isOfOne_20 (i := 6) rfl) ?_
        refine zw_iload_n (pc := 11) (n := 2) (x := Int32.ofInt u1_) rfl (zdal_p dlD_M_isOfOne_20 (i := 7) rfl) ?_
        refine zr_callS hf.x (pc := 12) [.int (Int32.ofInt a0_), .int (Int32.ofInt u1_)] [] l_M_213 (c_M_holds l Mz (hf.w hW) a0_ ha0_a ha0_b u1_ hu1_a hu1_b (show 0 ≤ a0_ by first | with_reducible assumption | assumption | omega) (show 0 ≤ u1_ by first | with_reducible assumption | assumption | omega) (show u1_ < 32 by first | with_reducible assumption | assumption | omega)) rfl rfl (by decide) (Nat.le_of_ble_eq_true rfl) (zdal_p dlD_M_isOfOne_20 (i := 8) rfl) ?_
        rintro _ N5_ ⟨v6_, rfl, ⟨hv6_a, hv6_b⟩, hsN5_, hp0_N5_⟩
        obtain rfl := hsN5_.eq.symm
        replace hp0_N5_ : ((v6_ = 1 ∧ zbt a0_ u1_) ∨ (v6_ = 0 ∧ ¬ zbt a0_ u1_)) := hp0_N5_
        rcases hp0_N5_ with ⟨rfl, ha12_0_hp0_N5_⟩ | ⟨rfl, ha12_0_hp0_N5_⟩
        · skip
          have hin_ := ha12_0_hp0_N5_
          show zW l m_M_isOfOne (zn Mz + 0, zw Mz + 0) Mz 15 [some (.ref 81), some (.int (Int32.ofInt a0_)), some (.int (Int32.ofInt u1_))] [.int (Int32.ofInt 1)] _
          refine zr_if_eq (pc := 15) (tgt := 31) ⟨(by decide), (by decide)⟩ (by decide) (zdal_p dlD_M_isOfOne_20 (i := 9) rfl) (fun hc_15 => ?_) (fun hc_15 => ?_)
          · skip
            exact absurd hc_15 (by decide)
          · skip
            refine zw_aload_n (pc := 18) (n := 0) (x := 81) rfl (zdal_p dlD_M_isOfOne_20 (i := 10) rfl) ?_
            refine zw_iconst (pc := 19) (v := Int32.ofInt 1) (by decide) (zdal_p dlD_M_isOfOne_20 (i := 11) rfl) ?_
            refine zw_iload_n (pc := 20) (n := 2) (x := Int32.ofInt u1_) rfl (zdal_p dlD_M_isOfOne_20 (i := 12) rfl) ?_
            refine zr_ishl (pc := 21) (zdal_p dlD_M_isOfOne_20 (i := 13) rfl) ?_
            have hr7_ := zshl_r 1 u1_
            have hsi := zshl_i hG (k := u1_) (by omega) (by omega)
            have hsq_ := zshl_n (k := u1_) (by omega) (by omega)
            refine zr_callV (hf.w hW) hf.x (pc := 22) [.int (Int32.ofInt (zshl 1 u1_))] [] l_M_229 (c_M_closed l Mz (hf.w hW) (zshl 1 u1_) (by omega) (by omega) T hG dv0 (show gIn T (zshl 1 u1_) by exact hsi.1)) rfl rfl rfl (by decide) (Nat.le_of_ble_eq_true rfl) (zdal_p dlD_M_isOfOne_20 (i := 14) rfl) ?_
            rintro _ N8_ ⟨v9_, rfl, ⟨hv9_a, hv9_b⟩, hsN8_, ⟨hp0_N8_, hp1_N8_, hp2_N8_⟩⟩
            obtain rfl := hsN8_.eq.symm
            show zW l m_M_isOfOne (zn Mz + 0, zw Mz + 0) Mz 25 [some (.ref 81), some (.int (Int32.ofInt a0_)), some (.int (Int32.ofInt u1_))] [.int (Int32.ofInt v9_)] _
            have hlc_ := hp0_N8_
            rw [hsq_] at hlc_
            have hlq_ : v9_ = a0_ ↔ gLC T (2 ^ (u1_).toNat) (a0_).toNat := ⟨fun e_ => by rw [← e_]; exact hlc_, fun q_ => by have e_ := q_.uq hlc_; omega⟩
            refine zw_iload_n (pc := 25) (n := 1) (x := Int32.ofInt a0_) rfl (zdal_p dlD_M_isOfOne_20 (i := 15) rfl) ?_
            refine zr_icmp_ne (pc := 26) (tgt := 31) ⟨hv9_a, hv9_b⟩ ⟨ha0_a, ha0_b⟩ (by decide) (zdal_p dlD_M_isOfOne_20 (i := 16) rfl) (fun hc_26 => ?_) (fun hc_26 => ?_)
            · skip
              refine zr_iinc (pc := 31) (i := 2) (a := u1_) (n := 1) (L2 := [some (.ref 81), some (.int (Int32.ofInt a0_)), some (.int (Int32.ofInt (u1_ + 1)))]) rfl (by decide) rfl (zdal_p dlD_M_isOfOne_20 (i := 19) rfl) ?_
              refine zw_goto (pc := 34) (tgt := 2) (by decide) (zdal_p dlD_M_isOfOne_20 (i := 20) rfl) ?_
              have hmn_ : (∀ y_ : Nat, (y_ : Int) < (u1_ + 1) → (a0_).toNat.testBit y_ = true → ¬ gLC T (2 ^ y_) (a0_).toNat) := zL1_s hml_ (by first | exact Or.inl hno_ | exact Or.inr (fun q_ => absurd (hlq_.mpr q_) (by omega)))
              exact ih_2 (u1_ + 1) (by omega) (by omega) (show 0 ≤ (u1_ + 1) by first | with_reducible assumption | assumption | omega) (show (u1_ + 1) ≤ gN T by first | with_reducible assumption | assumption | omega) (show (∀ y_ : Nat, (y_ : Int) < (u1_ + 1) → (a0_).toNat.testBit y_ = true → ¬ gLC T (2 ^ y_) (a0_).toNat) by exact hmn_) (by omega)
            · skip
              refine zw_iconst (pc := 29) (v := Int32.ofInt 1) (by decide) (zdal_p dlD_M_isOfOne_20 (i := 17) rfl) ?_
              exact zr_iret (pc := 30) (ty := .boolean) rfl (z_narB (by omega)) ⟨by omega, by omega⟩ hf (show ((1 = 1 ∧ gL1 T (a0_).toNat) ∨ (1 = 0 ∧ ¬ gL1 T (a0_).toNat)) from Or.inl (⟨(show 1 = 1 by first | rfl | exact ⟨(u1_).toNat, by omega, hin_, hlq_.mp (by omega)⟩), (show gL1 T (a0_).toNat by first | rfl | exact ⟨(u1_).toNat, by omega, hin_, hlq_.mp (by omega)⟩)⟩)) (zdal_p dlD_M_isOfOne_20 (i := 18) rfl)
        · skip
          have hno_ := ha12_0_hp0_N5_
          show zW l m_M_isOfOne (zn Mz + 0, zw Mz + 0) Mz 15 [some (.ref 81), some (.int (Int32.ofInt a0_)), some (.int (Int32.ofInt u1_))] [.int (Int32.ofInt 0)] _
          refine zr_if_eq (pc := 15) (tgt := 31) ⟨(by decide), (by decide)⟩ (by decide) (zdal_p dlD_M_isOfOne_20 (i := 9) rfl) (fun hc_15 => ?_) (fun hc_15 => ?_)
          · skip
            refine zr_iinc (pc := 31) (i := 2) (a := u1_) (n := 1) (L2 := [some (.ref 81), some (.int (Int32.ofInt a0_)), some (.int (Int32.ofInt (u1_ + 1)))]) rfl (by decide) rfl (zdal_p dlD_M_isOfOne_20 (i := 19) rfl) ?_
            refine zw_goto (pc := 34) (tgt := 2) (by decide) (zdal_p dlD_M_isOfOne_20 (i := 20) rfl) ?_
            have hmn_ : (∀ y_ : Nat, (y_ : Int) < (u1_ + 1) → (a0_).toNat.testBit y_ = true → ¬ gLC T (2 ^ y_) (a0_).toNat) := zL1_s hml_ (by first | exact Or.inl hno_ | exact Or.inr (fun q_ => absurd (hlq_.mpr q_) (by omega)))
            exact ih_2 (u1_ + 1) (by omega) (by omega) (show 0 ≤ (u1_ + 1) by first | with_reducible assumption | assumption | omega) (show (u1_ + 1) ≤ gN T by first | with_reducible assumption | assumption | omega) (show (∀ y_ : Nat, (y_ : Int) < (u1_ + 1) → (a0_).toNat.testBit y_ = true → ¬ gLC T (2 ^ y_) (a0_).toNat) by exact hmn_) (by omega)
          · skip
            exact absurd hc_15 (by decide)
  exact lp_2 _ 0 (by decide) (by decide) (show 0 ≤ (0 : Int) by first | with_reducible assumption | assumption | omega) (show (0 : Int) ≤ gN T by first | with_reducible assumption | assumption | omega) (show (∀ y_ : Nat, (y_ : Int) < (0 : Int) → (a0_).toNat.testBit y_ = true → ¬ gLC T (2 ^ y_) (a0_).toNat) by exact fun y_ hy_ => absurd hy_ (by omega)) (Nat.lt_succ_self _)
set_option maxHeartbeats 4000000 in
theorem c_M_areAlikeG (l : Launch) (Mz : zMem) (hW : zMt Mz) (a0_ : Int) (ha0_a : -2147483648 ≤ a0_) (ha0_b : a0_ < 2147483648) (T : zGT) (hO : gOK T) (p0_ : zGB T Mz) (p1_ : 0 ≤ a0_) (p2_ : a0_ < 16777216) : zC l m_M_areAlike 0 0 [.ref 81, .int (Int32.ofInt a0_)] Mz (zpI [] [] Mz (fun v N => (((v = 1 ∧ gAb T (a0_).toNat) ∨ (v = 0 ∧ ¬ gAb T (a0_).toNat))))) := by
  refine zC_of (L0 := [some (.ref 81), some (.int (Int32.ofInt a0_)), none, none]) md_M_areAlike (Nat.le_of_ble_eq_true rfl) rfl ?_ zQ0
  have hf : zFr [] [] Mz Mz := zFr.rf
  have r_20 := ze_r Mz 81 20
  have hG := hO.1
  have g24 := hG.2.1
  have g1 := hG.1
  have dv0 : zTab T Mz := p0_.1
  have dv1 : zB 85 144 0 5 Mz := p0_.2.1
  have dv2 : zJX T Mz := p0_.2.2.1
  have dv3 : zFirs T Mz := p0_.2.2.2.1
  have dv4 : zSSm T Mz := p0_.2.2.2.2.1
  have dv5 : zGD Mz := zGB.d hO p0_
  have gb := dv5.1
  have gn := dv0.1
  have hsz_ := dv0.1
  refine zw_iconst (pc := 0) (v := Int32.ofInt 0) (by decide) (zdal_p dlC_M_areAlike_148 (i := 0) rfl) ?_
  refine zw_istore_n (pc := 1) (i := 2) (L2 := [some (.ref 81), some (.int (Int32.ofInt a0_)), some (.int (Int32.ofInt 0)), none]) rfl (by decide) rfl (zdal_p dlC_M_areAlike_148 (i := 1) rfl) ?_
  have lp_2 : ∀ (n : Nat) (u1_ : Int) (hu1_a : -2147483648 ≤ u1_) (hu1_b : u1_ < 2147483648) (i2_ : 0 ≤ u1_) (i3_ : u1_ ≤ gN T) (i4_ : zAbI T (a0_).toNat u1_ 0), (gN T - u1_).toNat < n → zW l m_M_areAlike (zn Mz + 0, zw Mz + 0) Mz 2 [some (.ref 81), some (.int (Int32.ofInt a0_)), some (.int (Int32.ofInt u1_)), none] [] (zpI [] [] Mz (fun v N => (((v = 1 ∧ gAb T (a0_).toNat) ∨ (v = 0 ∧ ¬ gAb T (a0_).toNat))))) := by
    intro n
    induction n with
    | zero =>
      intro u1_ hu1_a hu1_b i2_ i3_ i4_ h0
      exact absurd h0 (Nat.not_lt_zero _)
    | succ n ih_2 =>
      intro u1_ hu1_a hu1_b i2_ i3_ i4_ hlt_2
      have haa_ := (show zAbI T (a0_).toNat u1_ 0 by first | with_reducible assumption | assumption)
      refine zw_iload_n (pc := 2) (n := 2) (x := Int32.ofInt u1_) rfl (zdal_p dlC_M_areAlike_148 (i := 2) rfl) ?_
      refine zw_aload_n (pc := 3) (n := 0) (x := 81) rfl (zdal_p dlC_M_areAlike_148 (i := 3) rfl) ?_
      refine zr_getI0 hf hW (pc := 4) (by decide) f_M_196 rfl (zdal_p dlC_M_areAlike_148 (i := 4) rfl) ?_
      refine zr_icmp_ge (pc := 7) (tgt := 65) ⟨hu1_a, hu1_b⟩ ⟨(ze_r Mz 81 20).1, (ze_r Mz 81 20).2⟩ (by decide) (zdal_p dlC_M_areAlike_148 (i := 5) rfl) (fun hc_7 => ?_) (fun hc_7 => ?_)
      · skip
        refine zw_iconst (pc := 65) (v := Int32.ofInt 1) (by decide) (zdal_p dlC_M_areAlike_149 (i := 11) rfl) ?_
        exact zr_iret (pc := 66) (ty := .boolean) rfl (z_narB (by omega)) ⟨by omega, by omega⟩ hf (show ((1 = 1 ∧ gAb T (a0_).toNat) ∨ (1 = 0 ∧ ¬ gAb T (a0_).toNat)) from Or.inl (⟨(show 1 = 1 by first | rfl | exact zAbI_e (by omega) haa_), (show gAb T (a0_).toNat by first | rfl | exact zAbI_e (by omega) haa_)⟩)) (zdal_p dlC_M_areAlike_149 (i := 12) rfl)
      · skip
        refine zw_iconst (pc := 10) (v := Int32.ofInt 0) (by decide) (zdal_p dlC_M_areAlike_148 (i := 6) rfl) ?_
        refine zw_istore_n (pc := 11) (i := 3) (L2 := [some (.ref 81), some (.int (Int32.ofInt a0_)), some (.int (Int32.ofInt u1_)), some (.int (Int32.ofInt 0))]) rfl (by decide) rfl (zdal_p dlC_M_areAlike_148 (i := 7) rfl) ?_
        have lp_12 : ∀ (n : Nat) (u5_ : Int) (hu5_a : -2147483648 ≤ u5_) (hu5_b : u5_ < 2147483648) (i6_ : 0 ≤ u5_) (i7_ : u5_ ≤ gN T) (i8_ : zAbI T (a0_).toNat u1_ u5_), (gN T - u5_).toNat < n → zW l m_M_areAlike (zn Mz + 0, zw Mz + 0) Mz 12 [some (.ref 81), some (.int (Int32.ofInt a0_)), some (.int (Int32.ofInt u1_)), some (.int (Int32.ofInt u5_))] [] (zpI [] [] Mz (fun v N => (((v = 1 ∧ gAb T (a0_).toNat) ∨ (v = 0 ∧ ¬ gAb T (a0_).toNat))))) := by
          intro n
          induction n with
          | zero =>
            intro u5_ hu5_a hu5_b i6_ i7_ i8_ h0
            exact absurd h0 (Nat.not_lt_zero _)
          | succ n ih_12 =>
            intro u5_ hu5_a hu5_b i6_ i7_ i8_ hlt_12
            have hab_ := (show zAbI T (a0_).toNat u1_ u5_ by first | with_reducible assumption | assumption)
            refine zw_iload_n (pc := 12) (n := 3) (x := Int32.ofInt u5_) rfl (zdal_p dlC_M_areAlike_148 (i := 8) rfl) ?_
            refine zw_aload_n (pc := 13) (n := 0) (x := 81) rfl (zdal_p dlC_M_areAlike_148 (i := 9) rfl) ?_
            refine zr_getI0 hf hW (pc := 14) (by decide) f_M_196 rfl (zdal_p dlC_M_areAlike_148 (i := 10) rfl) ?_
            refine zr_icmp_ge (pc := 17) (tgt := 59) ⟨hu5_a, hu5_b⟩ ⟨(ze_r Mz 81 20).1, (ze_r Mz 81 20).2⟩ (by decide) (zdal_p dlC_M_areAlike_148 (i := 11) rfl) (fun hc_17 => ?_) (fun hc_17 => ?_)
            · skip
              refine zr_iinc (pc := 59) (i := 2) (a := u1_) (n := 1) (L2 := [some (.ref 81), some (.int (Int32.ofInt a0_)), some (.int (Int32.ofInt (u1_ + 1))), some (.int (Int32.ofInt u5_))]) rfl (by decide) rfl (zdal_p dlC_M_areAlike_149 (i := 9) rfl) ?_
              refine zw_goto (pc := 62) (tgt := 2) (by decide) (zdal_p dlC_M_areAlike_149 (i := 10) rfl) ?_
              have haf_ := zAbI_f (by omega) hab_
              refine zW_le [some (.ref 81), some (.int (Int32.ofInt a0_)), some (.int (Int32.ofInt (u1_ + 1))), none] (⟨rfl, rfl, rfl, trivial⟩) ?_
              exact ih_2 (u1_ + 1) (by omega) (by omega) (show 0 ≤ (u1_ + 1) by first | with_reducible assumption | assumption | omega) (show (u1_ + 1) ≤ gN T by first | with_reducible assumption | assumption | omega) (show zAbI T (a0_).toNat (u1_ + 1) 0 by exact haf_) (by omega)
            · skip
              refine zw_iload_n (pc := 20) (n := 1) (x := Int32.ofInt a0_) rfl (zdal_p dlC_M_areAlike_148 (i := 12) rfl) ?_
              refine zw_iload_n (pc := 21) (n := 2) (x := Int32.ofInt u1_) rfl (zdal_p dlC_M_areAlike_148 (i := 13) rfl) ?_
              refine zr_callS hf.x (pc := 22) [.int (Int32.ofInt a0_), .int (Int32.ofInt u1_)] [] l_M_213 (c_M_holds l Mz (hf.w hW) a0_ ha0_a ha0_b u1_ hu1_a hu1_b (show 0 ≤ a0_ by first | with_reducible assumption | assumption | omega) (show 0 ≤ u1_ by first | with_reducible assumption | assumption | omega) (show u1_ < 32 by first | with_reducible assumption | assumption | omega)) rfl rfl (by decide) (Nat.le_of_ble_eq_true rfl) (zdal_p dlC_M_areAlike_148 (i := 14) rfl) ?_
              rintro _ N9_ ⟨v10_, rfl, ⟨hv10_a, hv10_b⟩, hsN9_, hp0_N9_⟩
              obtain rfl := hsN9_.eq.symm
              replace hp0_N9_ : ((v10_ = 1 ∧ zbt a0_ u1_) ∨ (v10_ = 0 ∧ ¬ zbt a0_ u1_)) := hp0_N9_
              rcases hp0_N9_ with ⟨rfl, ha22_0_hp0_N9_⟩ | ⟨rfl, ha22_0_hp0_N9_⟩
              · skip
                have hba_ := ha22_0_hp0_N9_
                show zW l m_M_areAlike (zn Mz + 0, zw Mz + 0) Mz 25 [some (.ref 81), some (.int (Int32.ofInt a0_)), some (.int (Int32.ofInt u1_)), some (.int (Int32.ofInt u5_))] [.int (Int32.ofInt 1)] _
                refine zr_if_eq (pc := 25) (tgt := 53) ⟨(by decide), (by decide)⟩ (by decide) (zdal_p dlC_M_areAlike_148 (i := 15) rfl) (fun hc_25 => ?_) (fun hc_25 => ?_)
                · skip
                  exact absurd hc_25 (by decide)
                · skip
                  refine zw_iload_n (pc := 28) (n := 1) (x := Int32.ofInt a0_) rfl (zdal_p dlC_M_areAlike_148 (i := 16) rfl) ?_
                  refine zw_iload_n (pc := 29) (n := 3) (x := Int32.ofInt u5_) rfl (zdal_p dlC_M_areAlike_148 (i := 17) rfl) ?_
                  refine zr_callS hf.x (pc := 30) [.int (Int32.ofInt a0_), .int (Int32.ofInt u5_)] [] l_M_213 (c_M_holds l Mz (hf.w hW) a0_ ha0_a ha0_b u5_ hu5_a hu5_b (show 0 ≤ a0_ by first | with_reducible assumption | assumption | omega) (show 0 ≤ u5_ by first | with_reducible assumption | assumption | omega) (show u5_ < 32 by first | with_reducible assumption | assumption | omega)) rfl rfl (by decide) (Nat.le_of_ble_eq_true rfl) (zdal_p dlC_M_areAlike_148 (i := 18) rfl) ?_
                  rintro _ N11_ ⟨v12_, rfl, ⟨hv12_a, hv12_b⟩, hsN11_, hp0_N11_⟩
                  obtain rfl := hsN11_.eq.symm
                  replace hp0_N11_ : ((v12_ = 1 ∧ zbt a0_ u5_) ∨ (v12_ = 0 ∧ ¬ zbt a0_ u5_)) := hp0_N11_
                  rcases hp0_N11_ with ⟨rfl, ha30_0_hp0_N11_⟩ | ⟨rfl, ha30_0_hp0_N11_⟩
                  · skip
                    have hbb_ := ha30_0_hp0_N11_
                    show zW l m_M_areAlike (zn Mz + 0, zw Mz + 0) Mz 33 [some (.ref 81), some (.int (Int32.ofInt a0_)), some (.int (Int32.ofInt u1_)), some (.int (Int32.ofInt u5_))] [.int (Int32.ofInt 1)] _
                    refine zr_if_eq (pc := 33) (tgt := 53) ⟨(by decide), (by decide)⟩ (by decide) (zdal_p dlC_M_areAlike_148 (i := 19) rfl) (fun hc_33 => ?_) (fun hc_33 => ?_)
                    · skip
                      exact absurd hc_33 (by decide)
                    · skip
                      refine zw_aload_n (pc := 36) (n := 0) (x := 81) rfl (zdal_p dlC_M_areAlike_148 (i := 20) rfl) ?_
                      refine zw_iload_n (pc := 37) (n := 2) (x := Int32.ofInt u1_) rfl (zdal_p dlC_M_areAlike_148 (i := 21) rfl) ?_
                      refine zw_iload_n (pc := 38) (n := 3) (x := Int32.ofInt u5_) rfl (zdal_p dlC_M_areAlike_148 (i := 22) rfl) ?_
                      refine zr_callV (hf.w hW) hf.x (pc := 39) [.int (Int32.ofInt u1_), .int (Int32.ofInt u5_)] [] l_M_216 (c_M_by l Mz (hf.w hW) u1_ hu1_a hu1_b u5_ hu5_a hu5_b T hG dv0 (show 0 ≤ u1_ by first | with_reducible assumption | assumption | omega) (show u1_ < ze Mz 81 20 by first | with_reducible assumption | assumption | omega) (show 0 ≤ u5_ by first | with_reducible assumption | assumption | omega) (show u5_ < ze Mz 81 20 by first | with_reducible assumption | assumption | omega)) rfl rfl rfl (by decide) (Nat.le_of_ble_eq_true rfl) (zdal_p dlC_M_areAlike_148 (i := 23) rfl) ?_
                      rintro _ N13_ ⟨v14_, rfl, ⟨hv14_a, hv14_b⟩, hsN13_, ⟨hp0_N13_, hp1_N13_, hp2_N13_⟩⟩
                      obtain rfl := hsN13_.eq.symm
                      show zW l m_M_areAlike (zn Mz + 0, zw Mz + 0) Mz 42 [some (.ref 81), some (.int (Int32.ofInt a0_)), some (.int (Int32.ofInt u1_)), some (.int (Int32.ofInt u5_))] [.int (Int32.ofInt v14_)] _
                      have hq1_ := hp0_N13_
                      refine zw_aload_n (pc := 42) (n := 0) (x := 81) rfl (zdal_p dlC_M_areAlike_149 (i := 0) rfl) ?_
                      refine zw_iload_n (pc := 43) (n := 3) (x := Int32.ofInt u5_) rfl (zdal_p dlC_M_areAlike_149 (i := 1) rfl) ?_
                      refine zw_iload_n (pc := 44) (n := 2) (x := Int32.ofInt u1_) rfl (zdal_p dlC_M_areAlike_149 (i := 2) rfl) ?_
                      refine zr_callV (hf.w hW) hf.x (pc := 45) [.int (Int32.ofInt u5_), .int (Int32.ofInt u1_)] [.int (Int32.ofInt v14_)] l_M_216 (c_M_by l Mz (hf.w hW) u5_ hu5_a hu5_b u1_ hu1_a hu1_b T hG dv0 (show 0 ≤ u5_ by first | with_reducible assumption | assumption | omega) (show u5_ < ze Mz 81 20 by first | with_reducible assumption | assumption | omega) (show 0 ≤ u1_ by first | with_reducible assumption | assumption | omega) (show u1_ < ze Mz 81 20 by first | with_reducible assumption | assumption | omega)) rfl rfl rfl (by decide) (Nat.le_of_ble_eq_true rfl) (zdal_p dlC_M_areAlike_149 (i := 3) rfl) ?_
                      rintro _ N15_ ⟨v16_, rfl, ⟨hv16_a, hv16_b⟩, hsN15_, ⟨hp0_N15_, hp1_N15_, hp2_N15_⟩⟩
                      obtain rfl := hsN15_.eq.symm
                      show zW l m_M_areAlike (zn Mz + 0, zw Mz + 0) Mz 48 [some (.ref 81), some (.int (Int32.ofInt a0_)), some (.int (Int32.ofInt u1_)), some (.int (Int32.ofInt u5_))] [.int (Int32.ofInt v16_), .int (Int32.ofInt v14_)] _
                      have hq2_ := hp0_N15_
                      refine zr_icmp_eq (pc := 48) (tgt := 53) ⟨hv14_a, hv14_b⟩ ⟨hv16_a, hv16_b⟩ (by decide) (zdal_p dlC_M_areAlike_149 (i := 4) rfl) (fun hc_48 => ?_) (fun hc_48 => ?_)
                      · skip
                        refine zr_iinc (pc := 53) (i := 3) (a := u5_) (n := 1) (L2 := [some (.ref 81), some (.int (Int32.ofInt a0_)), some (.int (Int32.ofInt u1_)), some (.int (Int32.ofInt (u5_ + 1)))]) rfl (by decide) rfl d_M_areAlike_53 ?_
                        refine zw_goto (pc := 56) (tgt := 12) (by decide) d_M_areAlike_56 ?_
                        have hbx_ : zAbI T (a0_).toNat u1_ (u5_ + 1) := by first | exact hbn_ | exact zAbI_s (by omega) (by omega) hab_ (Or.inr (Or.inr (by omega)))
                        exact ih_12 (u5_ + 1) (by omega) (by omega) (show 0 ≤ (u5_ + 1) by first | with_reducible assumption | assumption | omega) (show (u5_ + 1) ≤ gN T by first | with_reducible assumption | assumption | omega) (show zAbI T (a0_).toNat u1_ (u5_ + 1) by exact hbx_) (by omega)
                      · skip
                        refine zw_iconst (pc := 51) (v := Int32.ofInt 0) (by decide) (zdal_p dlC_M_areAlike_149 (i := 5) rfl) ?_
                        exact zr_iret (pc := 52) (ty := .boolean) rfl (z_narB (by omega)) ⟨by omega, by omega⟩ hf (show ((0 = 1 ∧ gAb T (a0_).toNat) ∨ (0 = 0 ∧ ¬ gAb T (a0_).toNat)) from Or.inr (⟨(show 0 = 0 by first | rfl | exact (fun q_ => by have q2_ := q_ (u1_).toNat (u5_).toNat (by omega) (by omega) hba_ hbb_; omega)), (show ¬ gAb T (a0_).toNat by first | rfl | exact (fun q_ => by have q2_ := q_ (u1_).toNat (u5_).toNat (by omega) (by omega) hba_ hbb_; omega))⟩)) (zdal_p dlC_M_areAlike_149 (i := 6) rfl)
                  · skip
                    have hbn_ := zAbI_s (by omega) (by omega) hab_ (Or.inr (Or.inl ha30_0_hp0_N11_))
                    show zW l m_M_areAlike (zn Mz + 0, zw Mz + 0) Mz 33 [some (.ref 81), some (.int (Int32.ofInt a0_)), some (.int (Int32.ofInt u1_)), some (.int (Int32.ofInt u5_))] [.int (Int32.ofInt 0)] _
                    refine zr_if_eq (pc := 33) (tgt := 53) ⟨(by decide), (by decide)⟩ (by decide) (zdal_p dlC_M_areAlike_148 (i := 19) rfl) (fun hc_33 => ?_) (fun hc_33 => ?_)
                    · skip
                      refine zr_iinc (pc := 53) (i := 3) (a := u5_) (n := 1) (L2 := [some (.ref 81), some (.int (Int32.ofInt a0_)), some (.int (Int32.ofInt u1_)), some (.int (Int32.ofInt (u5_ + 1)))]) rfl (by decide) rfl d_M_areAlike_53 ?_
                      refine zw_goto (pc := 56) (tgt := 12) (by decide) d_M_areAlike_56 ?_
                      have hbx_ : zAbI T (a0_).toNat u1_ (u5_ + 1) := by first | exact hbn_ | exact zAbI_s (by omega) (by omega) hab_ (Or.inr (Or.inr (by omega)))
                      exact ih_12 (u5_ + 1) (by omega) (by omega) (show 0 ≤ (u5_ + 1) by first | with_reducible assumption | assumption | omega) (show (u5_ + 1) ≤ gN T by first | with_reducible assumption | assumption | omega) (show zAbI T (a0_).toNat u1_ (u5_ + 1) by exact hbx_) (by omega)
                    · skip
                      exact absurd hc_33 (by decide)
              · skip
                have hbn_ := zAbI_s (by omega) (by omega) hab_ (Or.inl ha22_0_hp0_N9_)
                show zW l m_M_areAlike (zn Mz + 0, zw Mz + 0) Mz 25 [some (.ref 81), some (.int (Int32.ofInt a0_)), some (.int (Int32.ofInt u1_)), some (.int (Int32.ofInt u5_))] [.int (Int32.ofInt 0)] _
                refine zr_if_eq (pc := 25) (tgt := 53) ⟨(by decide), (by decide)⟩ (by decide) (zdal_p dlC_M_areAlike_148 (i := 15) rfl) (fun hc_25 => ?_) (fun hc_25 => ?_)
                · skip
                  refine zr_iinc (pc := 53) (i := 3) (a := u5_) (n := 1) (L2 := [some (.ref 81), some (.int (Int32.ofInt a0_)), some (.int (Int32.ofInt u1_)), some (.int (Int32.ofInt (u5_ + 1)))]) rfl (by decide) rfl d_M_areAlike_53 ?_
                  refine zw_goto (pc := 56) (tgt := 12) (by decide) d_M_areAlike_56 ?_
                  have hbx_ : zAbI T (a0_).toNat u1_ (u5_ + 1) := by first | exact hbn_ | exact zAbI_s (by omega) (by omega) hab_ (Or.inr (Or.inr (by omega)))
                  exact ih_12 (u5_ + 1) (by omega) (by omega) (show 0 ≤ (u5_ + 1) by first | with_reducible assumption | assumption | omega) (show (u5_ + 1) ≤ gN T by first | with_reducible assumption | assumption | omega) (show zAbI T (a0_).toNat u1_ (u5_ + 1) by exact hbx_) (by omega)
                · skip
                  exact absurd hc_25 (by decide)
        exact lp_12 _ 0 (by decide) (by decide) (show 0 ≤ (0 : Int) by first | with_reducible assumption | assumption | omega) (show (0 : Int) ≤ gN T by first | with_reducible assumption | assumption | omega) (show zAbI T (a0_).toNat u1_ (0 : Int) by exact haa_) (Nat.lt_succ_self _)
  exact lp_2 _ 0 (by decide) (by decide) (show 0 ≤ (0 : Int) by first | with_reducible assumption | assumption | omega) (show (0 : Int) ≤ gN T by first | with_reducible assumption | assumption | omega) (show zAbI T (a0_).toNat (0 : Int) 0 by exact zAbI_0) (Nat.lt_succ_self _)
set_option maxHeartbeats 4000000 in
theorem c_M_sortG (l : Launch) (Mz : zMem) (hW : zMt Mz) (a0_ : Int) (ha0_a : -2147483648 ≤ a0_) (ha0_b : a0_ < 2147483648) (a1_ : Int) (ha1_a : -2147483648 ≤ a1_) (ha1_b : a1_ < 2147483648) (T : zGT) (hO : gOK T) (hX : gEx T) (hGr_ : gGr T) (p0_ : zGB T Mz) (p1_ : zSoM T Mz) : zC l m_M_sort 0 0 [.ref 81, .int (Int32.ofInt a0_), .int (Int32.ofInt a1_)] Mz (zpI [] [] Mz (fun v N => (((0 ≤ a0_ ∧ a0_ < ((gF T).length : Int) ∧ zfSo T a0_ (gFn T (a0_).toNat) a1_ v) ∨ (¬ (0 ≤ a0_ ∧ a0_ < ((gF T).length : Int)) ∧ v = (-1 : Int)))))) := by
  refine zC_of (L0 := [some (.ref 81), some (.int (Int32.ofInt a0_)), some (.int (Int32.ofInt a1_))]) md_M_sort (Nat.le_of_ble_eq_true rfl) rfl ?_ zQ0
  have hf : zFr [] [] Mz Mz := zFr.rf
  have r_26 := ze_r Mz 81 26
  have hG := hO.1
  have g24 := hG.2.1
  have g1 := hG.1
  have dv0 : zTab T Mz := p0_.1
  have dv1 : zB 85 144 0 5 Mz := p0_.2.1
  have dv2 : zJX T Mz := p0_.2.2.1
  have dv3 : zFirs T Mz := p0_.2.2.2.1
  have dv4 : zSSm T Mz := p0_.2.2.2.2.1
  have dv5 : zGD Mz := zGB.d hO p0_
  have gb := dv5.1
  have gn := dv0.1
  have hsz_ := dv0.1
  have hfl_ := dv3.1
  refine zw_aload_n (pc := 0) (n := 0) (x := 81) rfl (zdal_p dlD_M_sort_14 (i := 0) rfl) ?_
  refine zw_iload_n (pc := 1) (n := 1) (x := Int32.ofInt a0_) rfl (zdal_p dlD_M_sort_14 (i := 1) rfl) ?_
  refine zr_callV (hf.w hW) hf.x (pc := 2) [.int (Int32.ofInt a0_)] [] l_M_414 (c_M_isSortG l Mz (hf.w hW) a0_ ha0_a ha0_b T hO p0_) rfl rfl rfl (by decide) (Nat.le_of_ble_eq_true rfl) (zdal_p dlD_M_sort_14 (i := 2) rfl) ?_
  rintro _ N1_ ⟨v2_, rfl, ⟨hv2_a, hv2_b⟩, hsN1_, hp0_N1_⟩
  obtain rfl := hsN1_.eq.symm
  replace hp0_N1_ : ((v2_ = 1 ∧ 0 ≤ a0_ ∧ a0_ < ze Mz 81 26) ∨ (v2_ = 0 ∧ (a0_ < 0 ∨ ze Mz 81 26 ≤ a0_))) := hp0_N1_
  rcases hp0_N1_ with ⟨rfl, ha2_0_hp0_N1_, ha2_1_hp0_N1_⟩ | ⟨rfl, ha2_0_hp0_N1_⟩
  · skip
    show zW l m_M_sort (zn Mz + 0, zw Mz + 0) Mz 5 [some (.ref 81), some (.int (Int32.ofInt a0_)), some (.int (Int32.ofInt a1_))] [.int (Int32.ofInt 1)] _
    refine zr_if_ne (pc := 5) (tgt := 10) ⟨(by decide), (by decide)⟩ (by decide) (zdal_p dlD_M_sort_14 (i := 3) rfl) (fun hc_5 => ?_) (fun hc_5 => ?_)
    · skip
      refine zw_iload_n (pc := 10) (n := 2) (x := Int32.ofInt a1_) rfl (zdal_p dlD_M_sort_14 (i := 6) rfl) ?_
      by_cases hs_11_0 : a1_ = 0
      · refine zr_tabIn (c := 0) (off := 37) (tgt := 48) ⟨by decide, by decide⟩ hs_11_0 (by decide) (by decide) rfl (by decide) d_M_sort_11 ?_
        refine zw_aload_n (pc := 48) (n := 0) (x := 81) rfl (zdal_p dlD_M_sort_14 (i := 8) rfl) ?_
        refine zr_getF (r := 91) (hf.w hW) (pc := 49) f_M_44 rfl (zh_91 (hf.w hW)).1 (zdal_p dlD_M_sort_14 (i := 9) rfl) ?_
        refine zw_iload_n (pc := 52) (n := 1) (x := Int32.ofInt a0_) rfl (zdal_p dlD_M_sort_14 (i := 10) rfl) ?_
        refine zr_ialdn (pc := 53) (zh_91 (hf.w hW)).2 (by decide) (by omega) (by omega) (zdal_p dlD_M_sort_14 (i := 11) rfl) (fun v3_ hv3_ hv3_a hv3_b => ?_)
        have hfx_ := dv3.g hO (e := a0_) (by omega) (by omega)
        refine zr_toI (show v3_ = ze Mz 91 (a0_).toNat by omega) ?_
        have hfw_ : (ze Mz 91 (a0_).toNat) = (((gFn T (a0_).toNat) : Nat) : Int) := dv3.2 _ (by omega)
        have hfm_ := (hO.2.2.1.2.1 _ (gFn_m (T := T) (i := (a0_).toNat) (by omega))).1
        have hfb_ := gS_b hO hfm_
        have hft_ : ((ze Mz 91 (a0_).toNat)).toNat = (gFn T (a0_).toNat) := by omega
        have h1q_ := gM1_q hGr_ hO hX hfm_
        refine zr_callS hf.x (pc := 54) [.int (Int32.ofInt (ze Mz 91 (a0_).toNat))] [] l_M_253 (c_M_ones l Mz (hf.w hW) (ze Mz 91 (a0_).toNat) (by omega) (by omega) (show 0 ≤ (ze Mz 91 (a0_).toNat) by first | with_reducible assumption | assumption | omega)) rfl rfl (by decide) (Nat.le_of_ble_eq_true rfl) (zdal_p dlD_M_sort_14 (i := 12) rfl) ?_
        rintro _ N4_ ⟨v5_, rfl, ⟨hv5_a, hv5_b⟩, hsN4_, ⟨hp0_N4_, hp1_N4_, hp2_N4_⟩⟩
        obtain rfl := hsN4_.eq.symm
        show zW l m_M_sort (zn Mz + 0, zw Mz + 0) Mz 57 [some (.ref 81), some (.int (Int32.ofInt a0_)), some (.int (Int32.ofInt a1_))] [.int (Int32.ofInt v5_)] _
        have hon_ := hp0_N4_
        rw [hfw_, zcb_n (by omega) 31 (Nat.le_refl _)] at hon_
        replace hon_ : v5_ = ((gcb (gFn T (a0_).toNat) : Nat) : Int) := hon_
        exact zr_iret (pc := 57) (ty := .int) rfl rfl ⟨by omega, by omega⟩ hf (show ((0 ≤ a0_ ∧ a0_ < ((gF T).length : Int) ∧ zfSo T a0_ (gFn T (a0_).toNat) a1_ v5_) ∨ (¬ (0 ≤ a0_ ∧ a0_ < ((gF T).length : Int)) ∧ v5_ = (-1 : Int))) by exact Or.inl ⟨by omega, by omega, Or.inl (⟨by omega, hon_⟩)⟩) (zdal_p dlD_M_sort_14 (i := 13) rfl)
      by_cases hs_11_1 : a1_ = 1
      · refine zr_tabIn (c := 1) (off := 47) (tgt := 58) ⟨by decide, by decide⟩ hs_11_1 (by decide) (by decide) rfl (by decide) d_M_sort_11 ?_
        refine zw_aload_n (pc := 58) (n := 0) (x := 81) rfl (zdal_p dlD_M_sort_14 (i := 14) rfl) ?_
        refine zr_getF (r := 92) (hf.w hW) (pc := 59) f_M_47 rfl (zh_92 (hf.w hW)).1 (zdal_p dlD_M_sort_14 (i := 15) rfl) ?_
        refine zw_iload_n (pc := 62) (n := 1) (x := Int32.ofInt a0_) rfl (zdal_p dlD_M_sort_14 (i := 16) rfl) ?_
        refine zr_ialdn (pc := 63) (zh_92 (hf.w hW)).2 (by decide) (by omega) (by omega) (zdal_p dlD_M_sort_14 (i := 17) rfl) (fun v6_ hv6_ hv6_a hv6_b => ?_)
        have hv92_ := (show v6_ = _ by first | with_reducible assumption | assumption)
        have hsw_ := zSoM_w hO dv3 dv4 dv2 p1_ (i := a0_) (by omega) (by omega)
        exact zr_iret (pc := 64) (ty := .int) rfl rfl ⟨by omega, by omega⟩ hf (show ((0 ≤ a0_ ∧ a0_ < ((gF T).length : Int) ∧ zfSo T a0_ (gFn T (a0_).toNat) a1_ v6_) ∨ (¬ (0 ≤ a0_ ∧ a0_ < ((gF T).length : Int)) ∧ v6_ = (-1 : Int))) by exact Or.inl ⟨by omega, by omega, Or.inr (Or.inl (⟨by omega, by rw [show v6_ = ze Mz 92 (a0_).toNat by omega]; exact hsw_⟩))⟩) (zdal_p dlD_M_sort_14 (i := 18) rfl)
      by_cases hs_11_2 : a1_ = 2
      · refine zr_tabIn (c := 2) (off := 54) (tgt := 65) ⟨by decide, by decide⟩ hs_11_2 (by decide) (by decide) rfl (by decide) d_M_sort_11 ?_
        refine zw_aload_n (pc := 65) (n := 0) (x := 81) rfl (zdal_p dlD_M_sort_14 (i := 19) rfl) ?_
        refine zr_getF (r := 91) (hf.w hW) (pc := 66) f_M_44 rfl (zh_91 (hf.w hW)).1 (zdal_p dlD_M_sort_14 (i := 20) rfl) ?_
        refine zw_iload_n (pc := 69) (n := 1) (x := Int32.ofInt a0_) rfl (zdal_p dlD_M_sort_14 (i := 21) rfl) ?_
        refine zr_ialdn (pc := 70) (zh_91 (hf.w hW)).2 (by decide) (by omega) (by omega) (zdal_p dlD_M_sort_14 (i := 22) rfl) (fun v7_ hv7_ hv7_a hv7_b => ?_)
        have hfx_ := dv3.g hO (e := a0_) (by omega) (by omega)
        refine zr_toI (show v7_ = ze Mz 91 (a0_).toNat by omega) ?_
        have hfw_ : (ze Mz 91 (a0_).toNat) = (((gFn T (a0_).toNat) : Nat) : Int) := dv3.2 _ (by omega)
        have hfm_ := (hO.2.2.1.2.1 _ (gFn_m (T := T) (i := (a0_).toNat) (by omega))).1
        have hfb_ := gS_b hO hfm_
        have hft_ : ((ze Mz 91 (a0_).toNat)).toNat = (gFn T (a0_).toNat) := by omega
        have h1q_ := gM1_q hGr_ hO hX hfm_
        exact zr_iret (pc := 71) (ty := .int) rfl rfl ⟨by omega, by omega⟩ hf (show ((0 ≤ a0_ ∧ a0_ < ((gF T).length : Int) ∧ zfSo T a0_ (gFn T (a0_).toNat) a1_ (ze Mz 91 (a0_).toNat)) ∨ (¬ (0 ≤ a0_ ∧ a0_ < ((gF T).length : Int)) ∧ (ze Mz 91 (a0_).toNat) = (-1 : Int))) by exact Or.inl ⟨by omega, by omega, Or.inr (Or.inr (Or.inl (⟨by omega, hfw_⟩)))⟩) (zdal_p dlD_M_sort_14 (i := 23) rfl)
      by_cases hs_11_3 : a1_ = 3
      · refine zr_tabIn (c := 3) (off := 61) (tgt := 72) ⟨by decide, by decide⟩ hs_11_3 (by decide) (by decide) rfl (by decide) d_M_sort_11 ?_
        refine zw_aload_n (pc := 72) (n := 0) (x := 81) rfl (zdal_p dlD_M_sort_15 (i := 0) rfl) ?_
        refine zw_aload_n (pc := 73) (n := 0) (x := 81) rfl (zdal_p dlD_M_sort_15 (i := 1) rfl) ?_
        refine zr_getF (r := 91) (hf.w hW) (pc := 74) f_M_44 rfl (zh_91 (hf.w hW)).1 (zdal_p dlD_M_sort_15 (i := 2) rfl) ?_
        refine zw_iload_n (pc := 77) (n := 1) (x := Int32.ofInt a0_) rfl (zdal_p dlD_M_sort_15 (i := 3) rfl) ?_
        refine zr_ialdn (pc := 78) (zh_91 (hf.w hW)).2 (by decide) (by omega) (by omega) (zdal_p dlD_M_sort_15 (i := 4) rfl) (fun v8_ hv8_ hv8_a hv8_b => ?_)
        have hfx_ := dv3.g hO (e := a0_) (by omega) (by omega)
        refine zr_toI (show v8_ = ze Mz 91 (a0_).toNat by omega) ?_
        have hfw_ : (ze Mz 91 (a0_).toNat) = (((gFn T (a0_).toNat) : Nat) : Int) := dv3.2 _ (by omega)
        have hfm_ := (hO.2.2.1.2.1 _ (gFn_m (T := T) (i := (a0_).toNat) (by omega))).1
        have hfb_ := gS_b hO hfm_
        have hft_ : ((ze Mz 91 (a0_).toNat)).toNat = (gFn T (a0_).toNat) := by omega
        have h1q_ := gM1_q hGr_ hO hX hfm_
        refine zr_callV (hf.w hW) hf.x (pc := 79) [.int (Int32.ofInt (ze Mz 91 (a0_).toNat))] [] l_M_417 (c_M_normOfG l Mz (hf.w hW) (ze Mz 91 (a0_).toNat) (by omega) (by omega) T hO p0_ (show 0 ≤ (ze Mz 91 (a0_).toNat) by first | with_reducible assumption | assumption | omega) (show (ze Mz 91 (a0_).toNat) < 16777216 by first | with_reducible assumption | assumption | omega)) rfl rfl rfl (by decide) (Nat.le_of_ble_eq_true rfl) (zdal_p dlD_M_sort_15 (i := 5) rfl) ?_
        rintro _ N9_ ⟨v10_, rfl, ⟨hv10_a, hv10_b⟩, hsN9_, ⟨hp0_N9_, hp1_N9_, hp2_N9_⟩⟩
        obtain rfl := hsN9_.eq.symm
        show zW l m_M_sort (zn Mz + 0, zw Mz + 0) Mz 82 [some (.ref 81), some (.int (Int32.ofInt a0_)), some (.int (Int32.ofInt a1_))] [.int (Int32.ofInt v10_)] _
        have hnm_ := hp0_N9_
        rw [hft_] at hnm_
        have hnl_ := zbq_lt (gNb T (gFn T (a0_).toNat)) (gN T)
        have hp2_ : 2 ^ gN T ≤ 2 ^ 24 := Nat.pow_le_pow_right (by omega) g24
        refine zr_callS hf.x (pc := 82) [.int (Int32.ofInt v10_)] [] l_M_253 (c_M_ones l Mz (hf.w hW) v10_ hv10_a hv10_b (show 0 ≤ v10_ by first | with_reducible assumption | assumption | omega)) rfl rfl (by decide) (Nat.le_of_ble_eq_true rfl) (zdal_p dlD_M_sort_15 (i := 6) rfl) ?_
        rintro _ N11_ ⟨v12_, rfl, ⟨hv12_a, hv12_b⟩, hsN11_, ⟨hp0_N11_, hp1_N11_, hp2_N11_⟩⟩
        obtain rfl := hsN11_.eq.symm
        show zW l m_M_sort (zn Mz + 0, zw Mz + 0) Mz 85 [some (.ref 81), some (.int (Int32.ofInt a0_)), some (.int (Int32.ofInt a1_))] [.int (Int32.ofInt v12_)] _
        have hon_ := hp0_N11_
        rw [hnm_, zcb_n (by omega) 31 (Nat.le_refl _)] at hon_
        replace hon_ : v12_ = ((gcb (zbq (gNb T (gFn T (a0_).toNat)) (gN T)) : Nat) : Int) := hon_
        exact zr_iret (pc := 85) (ty := .int) rfl rfl ⟨by omega, by omega⟩ hf (show ((0 ≤ a0_ ∧ a0_ < ((gF T).length : Int) ∧ zfSo T a0_ (gFn T (a0_).toNat) a1_ v12_) ∨ (¬ (0 ≤ a0_ ∧ a0_ < ((gF T).length : Int)) ∧ v12_ = (-1 : Int))) by exact Or.inl ⟨by omega, by omega, Or.inr (Or.inr (Or.inr (Or.inl (⟨by omega, hon_⟩))))⟩) (zdal_p dlD_M_sort_15 (i := 7) rfl)
      by_cases hs_11_4 : a1_ = 4
      · refine zr_tabIn (c := 4) (off := 75) (tgt := 86) ⟨by decide, by decide⟩ hs_11_4 (by decide) (by decide) rfl (by decide) d_M_sort_11 ?_
        refine zw_aload_n (pc := 86) (n := 0) (x := 81) rfl (zdal_p dlD_M_sort_15 (i := 8) rfl) ?_
        refine zw_aload_n (pc := 87) (n := 0) (x := 81) rfl (zdal_p dlD_M_sort_15 (i := 9) rfl) ?_
        refine zr_getF (r := 91) (hf.w hW) (pc := 88) f_M_44 rfl (zh_91 (hf.w hW)).1 (zdal_p dlD_M_sort_15 (i := 10) rfl) ?_
        refine zw_iload_n (pc := 91) (n := 1) (x := Int32.ofInt a0_) rfl (zdal_p dlD_M_sort_15 (i := 11) rfl) ?_
        refine zr_ialdn (pc := 92) (zh_91 (hf.w hW)).2 (by decide) (by omega) (by omega) (zdal_p dlD_M_sort_15 (i := 12) rfl) (fun v13_ hv13_ hv13_a hv13_b => ?_)
        have hfx_ := dv3.g hO (e := a0_) (by omega) (by omega)
        refine zr_toI (show v13_ = ze Mz 91 (a0_).toNat by omega) ?_
        have hfw_ : (ze Mz 91 (a0_).toNat) = (((gFn T (a0_).toNat) : Nat) : Int) := dv3.2 _ (by omega)
        have hfm_ := (hO.2.2.1.2.1 _ (gFn_m (T := T) (i := (a0_).toNat) (by omega))).1
        have hfb_ := gS_b hO hfm_
        have hft_ : ((ze Mz 91 (a0_).toNat)).toNat = (gFn T (a0_).toNat) := by omega
        have h1q_ := gM1_q hGr_ hO hX hfm_
        refine zr_callV (hf.w hW) hf.x (pc := 93) [.int (Int32.ofInt (ze Mz 91 (a0_).toNat))] [] l_M_420 (c_M_isOfOneG l Mz (hf.w hW) (ze Mz 91 (a0_).toNat) (by omega) (by omega) T hO p0_ (show 0 ≤ (ze Mz 91 (a0_).toNat) by first | with_reducible assumption | assumption | omega) (show (ze Mz 91 (a0_).toNat) < 16777216 by first | with_reducible assumption | assumption | omega)) rfl rfl rfl (by decide) (Nat.le_of_ble_eq_true rfl) (zdal_p dlD_M_sort_15 (i := 13) rfl) ?_
        rintro _ N14_ ⟨v15_, rfl, ⟨hv15_a, hv15_b⟩, hsN14_, hp0_N14_⟩
        obtain rfl := hsN14_.eq.symm
        replace hp0_N14_ : ((v15_ = 1 ∧ gL1 T ((ze Mz 91 (a0_).toNat)).toNat) ∨ (v15_ = 0 ∧ ¬ gL1 T ((ze Mz 91 (a0_).toNat)).toNat)) := hp0_N14_
        rcases hp0_N14_ with ⟨rfl, ha93_0_hp0_N14_⟩ | ⟨rfl, ha93_0_hp0_N14_⟩
        · skip
          have hm_ := ha93_0_hp0_N14_
          rw [hft_] at hm_
          show zW l m_M_sort (zn Mz + 0, zw Mz + 0) Mz 96 [some (.ref 81), some (.int (Int32.ofInt a0_)), some (.int (Int32.ofInt a1_))] [.int (Int32.ofInt 1)] _
          refine zr_callS hf.x (pc := 96) [.int (Int32.ofInt 1)] [] l_M_256 (c_M_truth l Mz (hf.w hW) 1 (by decide) (by decide) (by omega)) rfl rfl (by decide) (Nat.le_of_ble_eq_true rfl) (zdal_p dlD_M_sort_15 (i := 14) rfl) ?_
          rintro _ N16_ ⟨v17_, rfl, ⟨hv17_a, hv17_b⟩, hsN16_, hp0_N16_⟩
          obtain rfl := hsN16_.eq.symm
          replace hp0_N16_ : v17_ = 1 := hp0_N16_
          show zW l m_M_sort (zn Mz + 0, zw Mz + 0) Mz 99 [some (.ref 81), some (.int (Int32.ofInt a0_)), some (.int (Int32.ofInt a1_))] [.int (Int32.ofInt v17_)] _
          have htr_ := hp0_N16_
          exact zr_iret (pc := 99) (ty := .int) rfl rfl ⟨by omega, by omega⟩ hf (show ((0 ≤ a0_ ∧ a0_ < ((gF T).length : Int) ∧ zfSo T a0_ (gFn T (a0_).toNat) a1_ v17_) ∨ (¬ (0 ≤ a0_ ∧ a0_ < ((gF T).length : Int)) ∧ v17_ = (-1 : Int))) by exact Or.inl ⟨by omega, by omega, Or.inr (Or.inr (Or.inr (Or.inr (Or.inl (⟨by omega, by first | exact Or.inl ⟨by omega, h1q_.mpr hm_⟩ | exact Or.inr ⟨by omega, fun q_ => hm_ (h1q_.mp q_)⟩⟩)))))⟩) (zdal_p dlD_M_sort_15 (i := 15) rfl)
        · skip
          have hm_ := ha93_0_hp0_N14_
          rw [hft_] at hm_
          show zW l m_M_sort (zn Mz + 0, zw Mz + 0) Mz 96 [some (.ref 81), some (.int (Int32.ofInt a0_)), some (.int (Int32.ofInt a1_))] [.int (Int32.ofInt 0)] _
          refine zr_callS hf.x (pc := 96) [.int (Int32.ofInt 0)] [] l_M_256 (c_M_truth l Mz (hf.w hW) 0 (by decide) (by decide) (by omega)) rfl rfl (by decide) (Nat.le_of_ble_eq_true rfl) (zdal_p dlD_M_sort_15 (i := 14) rfl) ?_
          rintro _ N18_ ⟨v19_, rfl, ⟨hv19_a, hv19_b⟩, hsN18_, hp0_N18_⟩
          obtain rfl := hsN18_.eq.symm
          replace hp0_N18_ : v19_ = 0 := hp0_N18_
          show zW l m_M_sort (zn Mz + 0, zw Mz + 0) Mz 99 [some (.ref 81), some (.int (Int32.ofInt a0_)), some (.int (Int32.ofInt a1_))] [.int (Int32.ofInt v19_)] _
          have htr_ := hp0_N18_
          exact zr_iret (pc := 99) (ty := .int) rfl rfl ⟨by omega, by omega⟩ hf (show ((0 ≤ a0_ ∧ a0_ < ((gF T).length : Int) ∧ zfSo T a0_ (gFn T (a0_).toNat) a1_ v19_) ∨ (¬ (0 ≤ a0_ ∧ a0_ < ((gF T).length : Int)) ∧ v19_ = (-1 : Int))) by exact Or.inl ⟨by omega, by omega, Or.inr (Or.inr (Or.inr (Or.inr (Or.inl (⟨by omega, by first | exact Or.inl ⟨by omega, h1q_.mpr hm_⟩ | exact Or.inr ⟨by omega, fun q_ => hm_ (h1q_.mp q_)⟩⟩)))))⟩) (zdal_p dlD_M_sort_15 (i := 15) rfl)
      by_cases hs_11_5 : a1_ = 5
      · refine zr_tabIn (c := 5) (off := 89) (tgt := 100) ⟨by decide, by decide⟩ hs_11_5 (by decide) (by decide) rfl (by decide) d_M_sort_11 ?_
        refine zw_aload_n (pc := 100) (n := 0) (x := 81) rfl (zdal_p dlD_M_sort_15 (i := 16) rfl) ?_
        refine zw_aload_n (pc := 101) (n := 0) (x := 81) rfl (zdal_p dlD_M_sort_15 (i := 17) rfl) ?_
        refine zr_getF (r := 91) (hf.w hW) (pc := 102) f_M_44 rfl (zh_91 (hf.w hW)).1 (zdal_p dlD_M_sort_15 (i := 18) rfl) ?_
        refine zw_iload_n (pc := 105) (n := 1) (x := Int32.ofInt a0_) rfl (zdal_p dlD_M_sort_15 (i := 19) rfl) ?_
        refine zr_ialdn (pc := 106) (zh_91 (hf.w hW)).2 (by decide) (by omega) (by omega) (zdal_p dlD_M_sort_15 (i := 20) rfl) (fun v20_ hv20_ hv20_a hv20_b => ?_)
        have hfx_ := dv3.g hO (e := a0_) (by omega) (by omega)
        refine zr_toI (show v20_ = ze Mz 91 (a0_).toNat by omega) ?_
        have hfw_ : (ze Mz 91 (a0_).toNat) = (((gFn T (a0_).toNat) : Nat) : Int) := dv3.2 _ (by omega)
        have hfm_ := (hO.2.2.1.2.1 _ (gFn_m (T := T) (i := (a0_).toNat) (by omega))).1
        have hfb_ := gS_b hO hfm_
        have hft_ : ((ze Mz 91 (a0_).toNat)).toNat = (gFn T (a0_).toNat) := by omega
        have h1q_ := gM1_q hGr_ hO hX hfm_
        refine zr_callV (hf.w hW) hf.x (pc := 107) [.int (Int32.ofInt (ze Mz 91 (a0_).toNat))] [] l_M_397 (c_M_areAlikeG l Mz (hf.w hW) (ze Mz 91 (a0_).toNat) (by omega) (by omega) T hO p0_ (show 0 ≤ (ze Mz 91 (a0_).toNat) by first | with_reducible assumption | assumption | omega) (show (ze Mz 91 (a0_).toNat) < 16777216 by first | with_reducible assumption | assumption | omega)) rfl rfl rfl (by decide) (Nat.le_of_ble_eq_true rfl) (zdal_p dlD_M_sort_15 (i := 21) rfl) ?_
        rintro _ N21_ ⟨v22_, rfl, ⟨hv22_a, hv22_b⟩, hsN21_, hp0_N21_⟩
        obtain rfl := hsN21_.eq.symm
        replace hp0_N21_ : ((v22_ = 1 ∧ gAb T ((ze Mz 91 (a0_).toNat)).toNat) ∨ (v22_ = 0 ∧ ¬ gAb T ((ze Mz 91 (a0_).toNat)).toNat)) := hp0_N21_
        rcases hp0_N21_ with ⟨rfl, ha107_0_hp0_N21_⟩ | ⟨rfl, ha107_0_hp0_N21_⟩
        · skip
          have hm_ := ha107_0_hp0_N21_
          rw [hft_] at hm_
          show zW l m_M_sort (zn Mz + 0, zw Mz + 0) Mz 110 [some (.ref 81), some (.int (Int32.ofInt a0_)), some (.int (Int32.ofInt a1_))] [.int (Int32.ofInt 1)] _
          refine zr_callS hf.x (pc := 110) [.int (Int32.ofInt 1)] [] l_M_256 (c_M_truth l Mz (hf.w hW) 1 (by decide) (by decide) (by omega)) rfl rfl (by decide) (Nat.le_of_ble_eq_true rfl) (zdal_p dlD_M_sort_15 (i := 22) rfl) ?_
          rintro _ N23_ ⟨v24_, rfl, ⟨hv24_a, hv24_b⟩, hsN23_, hp0_N23_⟩
          obtain rfl := hsN23_.eq.symm
          replace hp0_N23_ : v24_ = 1 := hp0_N23_
          show zW l m_M_sort (zn Mz + 0, zw Mz + 0) Mz 113 [some (.ref 81), some (.int (Int32.ofInt a0_)), some (.int (Int32.ofInt a1_))] [.int (Int32.ofInt v24_)] _
          have htr_ := hp0_N23_
          exact zr_iret (pc := 113) (ty := .int) rfl rfl ⟨by omega, by omega⟩ hf (show ((0 ≤ a0_ ∧ a0_ < ((gF T).length : Int) ∧ zfSo T a0_ (gFn T (a0_).toNat) a1_ v24_) ∨ (¬ (0 ≤ a0_ ∧ a0_ < ((gF T).length : Int)) ∧ v24_ = (-1 : Int))) by exact Or.inl ⟨by omega, by omega, Or.inr (Or.inr (Or.inr (Or.inr (Or.inr (Or.inl (⟨by omega, by first | exact Or.inl ⟨by omega, hm_⟩ | exact Or.inr ⟨by omega, hm_⟩⟩))))))⟩) (zdal_p dlD_M_sort_15 (i := 23) rfl)
        · skip
          have hm_ := ha107_0_hp0_N21_
          rw [hft_] at hm_
          show zW l m_M_sort (zn Mz + 0, zw Mz + 0) Mz 110 [some (.ref 81), some (.int (Int32.ofInt a0_)), some (.int (Int32.ofInt a1_))] [.int (Int32.ofInt 0)] _
          refine zr_callS hf.x (pc := 110) [.int (Int32.ofInt 0)] [] l_M_256 (c_M_truth l Mz (hf.w hW) 0 (by decide) (by decide) (by omega)) rfl rfl (by decide) (Nat.le_of_ble_eq_true rfl) (zdal_p dlD_M_sort_15 (i := 22) rfl) ?_
          rintro _ N25_ ⟨v26_, rfl, ⟨hv26_a, hv26_b⟩, hsN25_, hp0_N25_⟩
          obtain rfl := hsN25_.eq.symm
          replace hp0_N25_ : v26_ = 0 := hp0_N25_
          show zW l m_M_sort (zn Mz + 0, zw Mz + 0) Mz 113 [some (.ref 81), some (.int (Int32.ofInt a0_)), some (.int (Int32.ofInt a1_))] [.int (Int32.ofInt v26_)] _
          have htr_ := hp0_N25_
          exact zr_iret (pc := 113) (ty := .int) rfl rfl ⟨by omega, by omega⟩ hf (show ((0 ≤ a0_ ∧ a0_ < ((gF T).length : Int) ∧ zfSo T a0_ (gFn T (a0_).toNat) a1_ v26_) ∨ (¬ (0 ≤ a0_ ∧ a0_ < ((gF T).length : Int)) ∧ v26_ = (-1 : Int))) by exact Or.inl ⟨by omega, by omega, Or.inr (Or.inr (Or.inr (Or.inr (Or.inr (Or.inl (⟨by omega, by first | exact Or.inl ⟨by omega, hm_⟩ | exact Or.inr ⟨by omega, hm_⟩⟩))))))⟩) (zdal_p dlD_M_sort_15 (i := 23) rfl)
      refine zr_tabOut (tgt := 114) ⟨ha1_a, ha1_b⟩ (by omega) (by decide) d_M_sort_11 ?_
      refine zw_iconst (pc := 114) (v := Int32.ofInt (-1)) (by decide) (zdal_p dlD_M_sort_16 (i := 0) rfl) ?_
      exact zr_iret (pc := 115) (ty := .int) rfl rfl ⟨by omega, by omega⟩ hf (show ((0 ≤ a0_ ∧ a0_ < ((gF T).length : Int) ∧ zfSo T a0_ (gFn T (a0_).toNat) a1_ ((-1))) ∨ (¬ (0 ≤ a0_ ∧ a0_ < ((gF T).length : Int)) ∧ ((-1)) = (-1 : Int))) by exact Or.inl ⟨by omega, by omega, Or.inr (Or.inr (Or.inr (Or.inr (Or.inr (Or.inr (⟨by omega, rfl⟩))))))⟩) (zdal_p dlD_M_sort_16 (i := 1) rfl)
    · skip
      exact absurd hc_5 (by decide)
  · skip
    show zW l m_M_sort (zn Mz + 0, zw Mz + 0) Mz 5 [some (.ref 81), some (.int (Int32.ofInt a0_)), some (.int (Int32.ofInt a1_))] [.int (Int32.ofInt 0)] _
    refine zr_if_ne (pc := 5) (tgt := 10) ⟨(by decide), (by decide)⟩ (by decide) (zdal_p dlD_M_sort_14 (i := 3) rfl) (fun hc_5 => ?_) (fun hc_5 => ?_)
    · skip
      exact absurd hc_5 (by decide)
    · skip
      refine zw_iconst (pc := 8) (v := Int32.ofInt (-1)) (by decide) (zdal_p dlD_M_sort_14 (i := 4) rfl) ?_
      exact zr_iret (pc := 9) (ty := .int) rfl rfl ⟨by omega, by omega⟩ hf (show ((0 ≤ a0_ ∧ a0_ < ((gF T).length : Int) ∧ zfSo T a0_ (gFn T (a0_).toNat) a1_ ((-1))) ∨ (¬ (0 ≤ a0_ ∧ a0_ < ((gF T).length : Int)) ∧ ((-1)) = (-1 : Int))) by exact Or.inr ⟨by omega, rfl⟩) (zdal_p dlD_M_sort_14 (i := 5) rfl)
