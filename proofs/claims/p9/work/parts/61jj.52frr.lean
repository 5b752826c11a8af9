set_option maxHeartbeats 4000000 in
theorem c_M_timesOfG (l : Launch) (Mz : zMem) (hW : zMt Mz) (a0_ : Int) (ha0_a : -2147483648 ≤ a0_) (ha0_b : a0_ < 2147483648) (T : zGT) (hO : gOK T) (hX : gEx T) (p0_ : zGB T Mz) (p1_ : 0 ≤ a0_) (p2_ : a0_ < ze Mz 81 20) : zC l m_M_timesOf 0 0 [.ref 81, .int (Int32.ofInt a0_)] Mz (zpI [] [] Mz (fun v N => gOr T (a0_).toNat (v).toNat ∧ 1 ≤ v)) := by
  refine zC_of (L0 := [some (.ref 81), some (.int (Int32.ofInt a0_)), none, none]) md_M_timesOf (Nat.le_of_ble_eq_true rfl) rfl ?_ zQ0
  have hf : zFr [] [] Mz Mz := zFr.rf
  have r_20 := ze_r Mz 81 20
  have hG := hO.1
  have g24 := hG.2.1
  have g1 := hG.1
  have dv0 : zTab T Mz := p0_.1
  have dv1 : zB 85 144 0 5 Mz := p0_.2.1
  have dv2 : zJX T Mz := p0_.2.2.1
  have dv3 : zFirs T Mz := p0_.2.2.2.1
  have dv4 : zSSm T Mz := p0_.2.2.2.2.1
  have dv5 : zGD Mz := zGB.d hO p0_
  have gb := dv5.1
  have gn := dv0.1
  obtain ⟨K, hK1, hK2⟩ := hX.1 (a0_).toNat (by omega)
  refine zw_iconst (pc := 0) (v := Int32.ofInt 1) (by decide) d_M_timesOf_0 ?_
  refine zw_istore_n (pc := 1) (i := 2) (L2 := [some (.ref 81), some (.int (Int32.ofInt a0_)), some (.int (Int32.ofInt 1)), none]) rfl (by decide) rfl d_M_timesOf_1 ?_
  refine zw_iload_n (pc := 2) (n := 1) (x := Int32.ofInt a0_) rfl d_M_timesOf_2 ?_
  refine zw_istore_n (pc := 3) (i := 3) (L2 := [some (.ref 81), some (.int (Int32.ofInt a0_)), some (.int (Int32.ofInt 1)), some (.int (Int32.ofInt a0_))]) rfl (by decide) rfl d_M_timesOf_3 ?_
  have lp_4 : ∀ (n : Nat) (u1_ : Int) (hu1_a : -2147483648 ≤ u1_) (hu1_b : u1_ < 2147483648) (u2_ : Int) (hu2_a : -2147483648 ≤ u2_) (hu2_b : u2_ < 2147483648) (i3_ : 1 ≤ u1_) (i4_ : u1_ - 1 ≤ K) (i5_ : u2_ = ((gpw T (a0_).toNat (u1_ - 1).toNat : Nat) : Int)) (i6_ : 0 ≤ u2_) (i7_ : u2_ < ze Mz 81 20) (i8_ : (∀ k_ : Nat, (k_ : Int) + 1 < u1_ → gpw T (a0_).toNat k_ ≠ 0)), ((K : Int) + 1 - u1_).toNat < n → zW l m_M_timesOf (zn Mz + 0, zw Mz + 0) Mz 4 [some (.ref 81), some (.int (Int32.ofInt a0_)), some (.int (Int32.ofInt u1_)), some (.int (Int32.ofInt u2_))] [] (zpI [] [] Mz (fun v N => gOr T (a0_).toNat (v).toNat ∧ 1 ≤ v)) := by
    intro n
    induction n with
    | zero =>
      intro u1_ hu1_a hu1_b u2_ hu2_a hu2_b i3_ i4_ i5_ i6_ i7_ i8_ h0
      exact absurd h0 (Nat.not_lt_zero _)
    | succ n ih_4 =>
      intro u1_ hu1_a hu1_b u2_ hu2_a hu2_b i3_ i4_ i5_ i6_ i7_ i8_ hlt_4
      have hpx_ := (show u2_ = ((gpw T (a0_).toNat (u1_ - 1).toNat : Nat) : Int) by assumption)
      have hno_ := (show (∀ k_ : Nat, (k_ : Int) + 1 < u1_ → gpw T (a0_).toNat k_ ≠ 0) by assumption)
      refine zw_iload_n (pc := 4) (n := 3) (x := Int32.ofInt u2_) rfl d_M_timesOf_4 ?_
      refine zr_if_eq (pc := 5) (tgt := 21) ⟨hu2_a, hu2_b⟩ (by decide) d_M_timesOf_5 (fun hc_5 => ?_) (fun hc_5 => ?_)
      · skip
        refine zw_iload_n (pc := 21) (n := 2) (x := Int32.ofInt u1_) rfl d_M_timesOf_21 ?_
        exact zr_iret (pc := 22) (ty := .int) rfl rfl ⟨by omega, by omega⟩ hf ⟨(show gOr T (a0_).toNat (u1_).toNat by exact gOr_0 (by omega) hno_ hpx_ (by omega)), (show 1 ≤ u1_ by first | assumption | omega)⟩ d_M_timesOf_22
      · skip
        obtain ⟨w_, hw_⟩ : ∃ w_ : Int, w_ = u1_ - 1 := ⟨_, rfl⟩
        have hx_ : u2_ = ((gpw T (a0_).toNat w_.toNat : Nat) : Int) := by rw [hw_]; assumption
        have hne_ := gpw_n hK2 (show u2_ = ((gpw T (a0_).toNat (u1_ - 1).toNat : Nat) : Int) by assumption) (by omega) (by omega)
        have hnx_ := gOr_n hno_ hpx_ (by omega) (by omega)
        refine zr_iinc (pc := 8) (i := 2) (a := u1_) (n := 1) (L2 := [some (.ref 81), some (.int (Int32.ofInt a0_)), some (.int (Int32.ofInt (u1_ + 1))), some (.int (Int32.ofInt u2_))]) rfl (by decide) rfl d_M_timesOf_8 ?_
        refine zw_aload_n (pc := 11) (n := 0) (x := 81) rfl d_M_timesOf_11 ?_
        refine zw_iload_n (pc := 12) (n := 3) (x := Int32.ofInt u2_) rfl d_M_timesOf_12 ?_
        refine zw_iload_n (pc := 13) (n := 1) (x := Int32.ofInt a0_) rfl d_M_timesOf_13 ?_
        refine zr_callV (hf.w hW) hf.x (pc := 14) [.int (Int32.ofInt u2_), .int (Int32.ofInt a0_)] [] l_M_216 (c_M_by l Mz (hf.w hW) u2_ hu2_a hu2_b a0_ ha0_a ha0_b T hG dv0 (show 0 ≤ u2_ by first | assumption | omega) (show u2_ < ze Mz 81 20 by first | assumption | omega) (show 0 ≤ a0_ by first | assumption | omega) (show a0_ < ze Mz 81 20 by first | assumption | omega)) rfl rfl rfl (by decide) (Nat.le_of_ble_eq_true rfl) d_M_timesOf_14 ?_
        rintro _ N9_ ⟨v10_, rfl, ⟨hv10_a, hv10_b⟩, hsN9_, ⟨hp0_N9_, hp1_N9_, hp2_N9_⟩⟩
        obtain rfl := hsN9_.eq.symm
        show zW l m_M_timesOf (zn Mz + 0, zw Mz + 0) Mz 17 [some (.ref 81), some (.int (Int32.ofInt a0_)), some (.int (Int32.ofInt (u1_ + 1))), some (.int (Int32.ofInt u2_))] [.int (Int32.ofInt v10_)] (zpI [] [] Mz (fun v N => gOr T (a0_).toNat (v).toNat ∧ 1 ≤ v))
        have hpw := gpw_s (by omega) hx_ hp0_N9_
        refine zw_istore_n (pc := 17) (i := 3) (L2 := [some (.ref 81), some (.int (Int32.ofInt a0_)), some (.int (Int32.ofInt (u1_ + 1))), some (.int (Int32.ofInt v10_))]) rfl (by decide) rfl d_M_timesOf_17 ?_
        refine zw_goto (pc := 18) (tgt := 4) (by decide) d_M_timesOf_18 ?_
        exact ih_4 (u1_ + 1) (by omega) (by omega) v10_ hv10_a hv10_b (show 1 ≤ (u1_ + 1) by first | assumption | omega) (show (u1_ + 1) - 1 ≤ K by first | assumption | omega) (show v10_ = ((gpw T (a0_).toNat ((u1_ + 1) - 1).toNat : Nat) : Int) by rw [show (u1_ + 1) - 1 = w_ + 1 by omega]; exact hpw) (show 0 ≤ v10_ by first | assumption | omega) (show v10_ < ze Mz 81 20 by first | assumption | omega) (show (∀ k_ : Nat, (k_ : Int) + 1 < (u1_ + 1) → gpw T (a0_).toNat k_ ≠ 0) by exact hnx_) (by omega)
  exact lp_4 _ 1 (by decide) (by decide) a0_ ha0_a ha0_b (show 1 ≤ (1 : Int) by first | assumption | omega) (show (1 : Int) - 1 ≤ K by first | assumption | omega) (show a0_ = ((gpw T (a0_).toNat ((1 : Int) - 1).toNat : Nat) : Int) by show a0_ = (((a0_).toNat : Nat) : Int); omega) (show 0 ≤ a0_ by first | assumption | omega) (show a0_ < ze Mz 81 20 by first | assumption | omega) (show (∀ k_ : Nat, (k_ : Int) + 1 < (1 : Int) → gpw T (a0_).toNat k_ ≠ 0) by intro k_ hk_; omega) (Nat.lt_succ_self _)
set_option maxHeartbeats 4000000 in
theorem c_M_orderG (l : Launch) (Mz : zMem) (hW : zMt Mz) (a0_ : Int) (ha0_a : -2147483648 ≤ a0_) (ha0_b : a0_ < 2147483648) (T : zGT) (hO : gOK T) (hX : gEx T) (p0_ : zGB T Mz) : zC l m_M_order 0 0 [.ref 81, .int (Int32.ofInt a0_)] Mz (zpI [] [] Mz (fun v N => (((0 ≤ a0_ ∧ a0_ < (gN T : Int) ∧ gOr T (a0_).toNat (v).toNat ∧ 1 ≤ v) ∨ (¬ (0 ≤ a0_ ∧ a0_ < (gN T : Int)) ∧ v = (-1 : Int)))))) := by
  refine zC_of (L0 := [some (.ref 81), some (.int (Int32.ofInt a0_))]) md_M_order (Nat.le_of_ble_eq_true rfl) rfl ?_ zQ0
  have hf : zFr [] [] Mz Mz := zFr.rf
  have r_20 := ze_r Mz 81 20
  have hG := hO.1
  have g24 := hG.2.1
  have g1 := hG.1
  have dv0 : zTab T Mz := p0_.1
  have dv1 : zB 85 144 0 5 Mz := p0_.2.1
  have dv2 : zJX T Mz := p0_.2.2.1
  have dv3 : zFirs T Mz := p0_.2.2.2.1
  have dv4 : zSSm T Mz := p0_.2.2.2.2.1
  have dv5 : zGD Mz := zGB.d hO p0_
  have gb := dv5.1
  have gn := dv0.1
  have hsz_ := dv0.1
  refine zw_aload_n (pc := 0) (n := 0) (x := 81) rfl d_M_order_0 ?_
  refine zw_iload_n (pc := 1) (n := 1) (x := Int32.ofInt a0_) rfl d_M_order_1 ?_
  refine zr_callV (hf.w hW) hf.x (pc := 2) [.int (Int32.ofInt a0_)] [] l_M_400 (c_M_isMemberG l Mz (hf.w hW) a0_ ha0_a ha0_b T hO p0_) rfl rfl rfl (by decide) (Nat.le_of_ble_eq_true rfl) d_M_order_2 ?_
  rintro _ N1_ ⟨v2_, rfl, ⟨hv2_a, hv2_b⟩, hsN1_, hp0_N1_⟩
  obtain rfl := hsN1_.eq.symm
  replace hp0_N1_ : ((v2_ = 1 ∧ 0 ≤ a0_ ∧ a0_ < ze Mz 81 20) ∨ (v2_ = 0 ∧ (a0_ < 0 ∨ ze Mz 81 20 ≤ a0_))) := hp0_N1_
  rcases hp0_N1_ with ⟨rfl, ha2_0_hp0_N1_, ha2_1_hp0_N1_⟩ | ⟨rfl, ha2_0_hp0_N1_⟩
  · skip
    show zW l m_M_order (zn Mz + 0, zw Mz + 0) Mz 5 [some (.ref 81), some (.int (Int32.ofInt a0_))] [.int (Int32.ofInt 1)] (zpI [] [] Mz (fun v N => (((0 ≤ a0_ ∧ a0_ < (gN T : Int) ∧ gOr T (a0_).toNat (v).toNat ∧ 1 ≤ v) ∨ (¬ (0 ≤ a0_ ∧ a0_ < (gN T : Int)) ∧ v = (-1 : Int))))))
    refine zr_if_eq (pc := 5) (tgt := 16) ⟨(by decide), (by decide)⟩ (by decide) d_M_order_5 (fun hc_5 => ?_) (fun hc_5 => ?_)
    · skip
      exact absurd hc_5 (by decide)
    · skip
      refine zw_aload_n (pc := 8) (n := 0) (x := 81) rfl d_M_order_8 ?_
      refine zw_iload_n (pc := 9) (n := 1) (x := Int32.ofInt a0_) rfl d_M_order_9 ?_
      refine zr_callV (hf.w hW) hf.x (pc := 10) [.int (Int32.ofInt a0_)] [] l_M_403 (c_M_timesOfG l Mz (hf.w hW) a0_ ha0_a ha0_b T hO hX p0_ (show 0 ≤ a0_ by first | assumption | omega) (show a0_ < ze Mz 81 20 by first | assumption | omega)) rfl rfl rfl (by decide) (Nat.le_of_ble_eq_true rfl) d_M_order_10 ?_
      rintro _ N3_ ⟨v4_, rfl, ⟨hv4_a, hv4_b⟩, hsN3_, ⟨hp0_N3_, hp1_N3_⟩⟩
      obtain rfl := hsN3_.eq.symm
      show zW l m_M_order (zn Mz + 0, zw Mz + 0) Mz 13 [some (.ref 81), some (.int (Int32.ofInt a0_))] [.int (Int32.ofInt v4_)] (zpI [] [] Mz (fun v N => (((0 ≤ a0_ ∧ a0_ < (gN T : Int) ∧ gOr T (a0_).toNat (v).toNat ∧ 1 ≤ v) ∨ (¬ (0 ≤ a0_ ∧ a0_ < (gN T : Int)) ∧ v = (-1 : Int))))))
      refine zw_goto (pc := 13) (tgt := 17) (by decide) d_M_order_13 ?_
      exact zr_iret (pc := 17) (ty := .int) rfl rfl ⟨by omega, by omega⟩ hf (show ((0 ≤ a0_ ∧ a0_ < (gN T : Int) ∧ gOr T (a0_).toNat (v4_).toNat ∧ 1 ≤ v4_) ∨ (¬ (0 ≤ a0_ ∧ a0_ < (gN T : Int)) ∧ v4_ = (-1 : Int))) by first | exact Or.inr ⟨by omega, rfl⟩ | exact Or.inl ⟨by omega, by omega, by assumption, by omega⟩) d_M_order_17
  · skip
    show zW l m_M_order (zn Mz + 0, zw Mz + 0) Mz 5 [some (.ref 81), some (.int (Int32.ofInt a0_))] [.int (Int32.ofInt 0)] (zpI [] [] Mz (fun v N => (((0 ≤ a0_ ∧ a0_ < (gN T : Int) ∧ gOr T (a0_).toNat (v).toNat ∧ 1 ≤ v) ∨ (¬ (0 ≤ a0_ ∧ a0_ < (gN T : Int)) ∧ v = (-1 : Int))))))
    refine zr_if_eq (pc := 5) (tgt := 16) ⟨(by decide), (by decide)⟩ (by decide) d_M_order_5 (fun hc_5 => ?_) (fun hc_5 => ?_)
    · skip
      refine zw_iconst (pc := 16) (v := Int32.ofInt (-1)) (by decide) d_M_order_16 ?_
      exact zr_iret (pc := 17) (ty := .int) rfl rfl ⟨by omega, by omega⟩ hf (show ((0 ≤ a0_ ∧ a0_ < (gN T : Int) ∧ gOr T (a0_).toNat (((-1))).toNat ∧ 1 ≤ ((-1))) ∨ (¬ (0 ≤ a0_ ∧ a0_ < (gN T : Int)) ∧ ((-1)) = (-1 : Int))) by first | exact Or.inr ⟨by omega, rfl⟩ | exact Or.inl ⟨by omega, by omega, by assumption, by omega⟩) d_M_order_17
    · skip
      exact absurd hc_5 (by decide)
