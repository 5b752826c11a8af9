set_option maxHeartbeats 4000000 in
theorem c_M_timesOfG (l : Launch) (Mz : zMem) (hW : zMt Mz) (a0_ : Int) (ha0_a : -2147483648 ≤ a0_) (ha0_b : a0_ < 2147483648) (T : zGT) (hO : gOK T) (hX : gEx T) (p0_ : zGB T Mz) (p1_ : 0 ≤ a0_) (p2_ : a0_ < ze Mz 81 20) : zC l m_M_timesOf 0 0 [.ref 81, .int (Int32.ofInt a0_)] Mz (zpI [] [] Mz (fun v N => gOr T (a0_).toNat (v).toNat ∧ 1 ≤ v)) := by
  refine zC_of (L0 := [some (.ref 81), some (.int (Int32.ofInt a0_)), none, none]) md_M_timesOf (Nat.le_of_ble_eq_true rfl) rfl ?_ zQ0
  have hf : zFr [] [] Mz Mz := zFr.rf
  have r_20 := ze_r Mz 81 20
  have hG := hO.1
  have g24 := hG.2.1
  have g1 := hG.1
  have dv0 : zTab T Mz := p0_.1
  have dv1 : zB 85 144 0 5 Mz := p0_.2.1
  have dv2 : zJX T Mz := p0_.2.2.1
  have dv3 : zFirs T Mz := p0_.2.2.2.1
  have dv4 : zSSm T Mz := p0_.2.2.2.2.1
  have dv5 : zGD Mz := zGB.d hO p0_
  have gb := dv5.1
  have gn := dv0.1
  obtain ⟨K, hK1, hK2⟩ := hX.1 (a0_).toNat (by omega)
  refine zw_iconst (pc := 0) (v := Int32.ofInt 1) (by decide) d_M_timesOf_0 ?_
  refine zw_istore_n (pc := 1) (i := 2) (L2 := [some (.ref 81), some (.int (Int32.ofInt a0_)), some (.int (Int32.ofInt 1)), none]) rfl (by decide) rfl d_M_timesOf_1 ?_
  refine zw_iload_n (pc := 2) (n := 1) (x := Int32.ofInt a0_) rfl d_M_timesOf_2 ?_
  refine zw_istore_n (pc := 3) (i := 3) (L2 := [some (.ref 81), some (.int (Int32.ofInt a0_)), some (.int (Int32.ofInt 1)), some (.int (Int32.ofInt a0_))]) rfl (by decide) rfl d_M_timesOf_3 ?_
  have lp_4 : ∀ (n : Nat) (u1_ : Int) (hu1_a : -2147483648 ≤ u1_) (hu1_b : u1_ < 2147483648) (u2_ : Int) (hu2_a : -2147483648 ≤ u2_) (hu2_b : u2_ < 2147483648) (i3_ : 1 ≤ u1_) (i4_ : u1_ - 1 ≤ K) (i5_ : u2_ = ((gpw T (a0_).toNat (u1_ - 1).toNat : Nat) : Int)) (i6_ : 0 ≤ u2_) (i7_ : u2_ < ze Mz 81 20) (i8_ : (∀ k_ : Nat, (k_ : Int) + 1 < u1_ → gpw T (a0_).toNat k_ ≠ 0)), ((K : Int) + 1 - u1_).toNat < n → zW l m_M_timesOf (zn Mz + 0, zw Mz + 0) Mz 4 [some (.ref 81), some (.int (Int32.ofInt a0_)), some (.int (Int32.ofInt u1_)), some (.int (Int32.ofInt u2_))] [] (zpI [] [] Mz (fun v N => gOr T (a0_).toNat (v).toNat ∧ 1 ≤ v)) := by
    intro n
    induction n with
    | zero =>
      intro u1_ hu1_a hu1_b u2_ hu2_a hu2_b i3_ i4_ i5_ i6_ i7_ i8_ h0
      exact absurd h0 (Nat.not_lt_zero _)
    | succ n ih_4 =>
      intro u1_ hu1_a hu1_b u2_ hu2_a hu2_b i3_ i4_ i5_ i6_ i7_ i8_ hlt_4
      have hpx_ := (show u2_ = ((gpw T (a0_).toNat (u1_ - 1).toNat : Nat) : Int) by assumption)
      have hno_ := (show (∀ k_ : Nat, (k_ : Int) + 1 < u1_ → gpw T (a0_).toNat k_ ≠ 0) by assumption)
      refine zw_iload_n (pc := 4) (n := 3) (x := Int32.ofInt u2_) rfl d_M_timesOf_4 ?_
      refine zr_if_eq (pc := 5) (tgt := 21) ⟨hu2_a, hu2_b⟩ (by decide) d_M_timesOf_5 (fun hc_5 => ?_) (fun hc_5 => ?_)
      · skip
        refine zw_iload_n (pc := 21) (n := 2) (x := Int32.ofInt u1_) rfl d_M_timesOf_21 ?_
        exact zr_iret (pc := 22) (ty := .int) rfl rfl ⟨by omega, by omega⟩ hf ⟨(show gOr T (a0_).toNat (u1_).toNat by exact gOr_0 (by omega) hno_ hpx_ (by omega)), (show 1 ≤ u1_ by first | assumption | omega)⟩ d_M_timesOf_22
      · skip
        obtain ⟨w_, hw_⟩ : ∃ w_ : Int, w_ = u1_ - 1 := ⟨_, rfl⟩
        have hx_ : u2_ = ((gpw T (a0_).toNat w_.toNat : Nat) : Int) := by rw [hw_]; assumption
        have hne_ := gpw_n hK2 (show u2_ = ((gpw T (a0_).toNat (u1_ - 1).toNat : Nat) : Int) by assumption) (by omega) (by omega)
        have hnx_ := gOr_n hno_ hpx_ (by omega) (by omega)
        refine zr_iinc (pc := 8) (i := 2) (a := u1_) (n := 1) (L2 := [some (.ref 81), some (.int (Int32.ofInt a0_)), some (.int (Int32.ofInt (u1_ + 1))), some (.int (Int32.ofInt u2_))]) rfl (by decide) rfl d_M_timesOf_8 ?_
        refine zw_aload_n (pc := 11) (n := 0) (x := 81) rfl d_M_timesOf_11 ?_
        refine zw_iload_n (pc := 12) (n := 3) (x := Int32.ofInt u2_) rfl d_M_timesOf_12 ?_
        refine zw_iload_n (pc := 13) (n := 1) (x := Int32.ofInt a0_) rfl d_M_timesOf_13 ?_
        refine zr_callV (hf.w hW) hf.x (pc := 14) [.int (Int32.ofInt u2_), .int (Int32.ofInt a0_)] [] l_M_216 (c_M_by l Mz (hf.w hW) u2_ hu2_a hu2_b a0_ ha0_a ha0_b T hG dv0 (show 0 ≤ u2_ by first | assumption | omega) (show u2_ < ze Mz 81 20 by first | assumption | omega) (show 0 ≤ a0_ by first | assumption | omega) (show a0_ < ze Mz 81 20 by first | assumption | omega)) rfl rfl rfl (by decide) (Nat.le_of_ble_eq_true rfl) d_M_timesOf_14 ?_
        rintro _ N9_ ⟨v10_, rfl, ⟨hv10_a, hv10_b⟩, hsN9_, ⟨hp0_N9_, hp1_N9_, hp2_N9_⟩⟩
        obtain rfl := hsN9_.eq.symm
        show zW l m_M_timesOf (zn Mz + 0, zw Mz + 0) Mz 17 [some (.ref 81), some (.int (Int32.ofInt a0_)), some (.int (Int32.ofInt (u1_ + 1))), some (.int (Int32.ofInt u2_))] [.int (Int32.ofInt v10_)] (zpI [] [] Mz (fun v N => gOr T (a0_).toNat (v).toNat ∧ 1 ≤ v))
        have hpw := gpw_s (by omega) hx_ hp0_N9_
        refine zw_istore_n (pc := 17) (i := 3) (L2 := [some (.ref 81), some (.int (Int32.ofInt a0_)), some (.int (Int32.ofInt (u1_ + 1))), some (.int (Int32.ofInt v10_))]) rfl (by decide) rfl d_M_timesOf_17 ?_
        refine zw_goto (pc := 18) (tgt := 4) (by decide) d_M_timesOf_18 ?_
        exact ih_4 (u1_ + 1) (by omega) (by omega) v10_ hv10_a hv10_b (show 1 ≤ (u1_ + 1) by first | assumption | omega) (show (u1_ + 1) - 1 ≤ K by first | assumption | omega) (show v10_ = ((gpw T (a0_).toNat ((u1_ + 1) - 1).toNat : Nat) : Int) by rw [show (u1_ + 1) - 1 = w_ + 1 by omega]; exact hpw) (show 0 ≤ v10_ by first | assumption | omega) (show v10_ < ze Mz 81 20 by first | assumption | omega) (show (∀ k_ : Nat, (k_ : Int) + 1 < (u1_ + 1) → gpw T (a0_).toNat k_ ≠ 0) by exact hnx_) (by omega)
  exact lp_4 _ 1 (by decide) (by decide) a0_ ha0_a ha0_b (show 1 ≤ (1 : Int) by first | assumption | omega) (show (1 : Int) - 1 ≤ K by first | assumption | omega) (show a0_ = ((gpw T (a0_).toNat ((1 : Int) - 1).toNat : Nat) : Int) by show a0_ = (((a0_).toNat : Nat) : Int); omega) (show 0 ≤ a0_ by first | assumption | omega) (show a0_ < ze Mz 81 20 by first | assumption | omega) (show (∀ k_ : Nat, (k_ : Int) + 1 < (1 : Int) → gpw T (a0_).toNat k_ ≠ 0) by intro k_ hk_; omega) (Nat.lt_succ_self _)
set_option maxHeartbeats 4000000 in
theorem c_M_ordersG (l : Launch) (Mz : zMem) (hW : zMt Mz) (a0_ : Int) (ha0_a : -2147483648 ≤ a0_) (ha0_b : a0_ < 2147483648) (T : zGT) (hO : gOK T) (hX : gEx T) (p0_ : zGB T Mz) : zC l m_M_orders 0 0 [.ref 81, .int (Int32.ofInt a0_)] Mz (zpI [] [] Mz (fun v N => (((1 ≤ a0_ ∧ a0_ ≤ 24 ∧ v = ((zct (fun m_ => gOr T m_ (a0_).toNat) (gN T) : Nat) : Int)) ∨ (¬ (1 ≤ a0_ ∧ a0_ ≤ 24) ∧ v = (-1 : Int)))))) := by
  refine zC_of (L0 := [some (.ref 81), some (.int (Int32.ofInt a0_)), none, none]) md_M_orders (Nat.le_of_ble_eq_true rfl) rfl ?_ zQ0
  have hf : zFr [] [] Mz Mz := zFr.rf
  have r_20 := ze_r Mz 81 20
  have hG := hO.1
  have g24 := hG.2.1
  have g1 := hG.1
  have dv0 : zTab T Mz := p0_.1
  have dv1 : zB 85 144 0 5 Mz := p0_.2.1
  have dv2 : zJX T Mz := p0_.2.2.1
  have dv3 : zFirs T Mz := p0_.2.2.2.1
  have dv4 : zSSm T Mz := p0_.2.2.2.2.1
  have dv5 : zGD Mz := zGB.d hO p0_
  have gb := dv5.1
  have gn := dv0.1
  have hsz_ := dv0.1
  refine zw_iload_n (pc := 0) (n := 1) (x := Int32.ofInt a0_) rfl d_M_orders_0 ?_
  refine zr_i2l (pc := 1) ⟨ha0_a, ha0_b⟩ d_M_orders_1 ?_
  refine zw_lconst (pc := 2) (v := Int64.ofInt 1) (by decide) d_M_orders_2 ?_
  refine zr_ldc2 (pc := 3) (n := 24) (by decide) k_M_406 d_M_orders_3 ?_
  refine zr_callS hf.x (pc := 6) [.long (Int64.ofInt a0_), .long (Int64.ofInt 1), .long (Int64.ofInt 24)] [] l_M_131 (c_M_isIn l Mz (hf.w hW) a0_ (by omega) (by omega) 1 (by decide) (by decide) 24 (by decide) (by decide)) rfl rfl (by decide) (Nat.le_of_ble_eq_true rfl) d_M_orders_6 ?_
  rintro _ N1_ ⟨v2_, rfl, ⟨hv2_a, hv2_b⟩, hsN1_, hp0_N1_⟩
  obtain rfl := hsN1_.eq.symm
  replace hp0_N1_ : ((v2_ = 1 ∧ 1 ≤ a0_ ∧ a0_ ≤ 24) ∨ (v2_ = 0 ∧ (a0_ < 1 ∨ 24 < a0_))) := hp0_N1_
  rcases hp0_N1_ with ⟨rfl, ha6_0_hp0_N1_, ha6_1_hp0_N1_⟩ | ⟨rfl, ha6_0_hp0_N1_⟩
  · skip
    show zW l m_M_orders (zn Mz + 0, zw Mz + 0) Mz 9 [some (.ref 81), some (.int (Int32.ofInt a0_)), none, none] [.int (Int32.ofInt 1)] (zpI [] [] Mz (fun v N => (((1 ≤ a0_ ∧ a0_ ≤ 24 ∧ v = ((zct (fun m_ => gOr T m_ (a0_).toNat) (gN T) : Nat) : Int)) ∨ (¬ (1 ≤ a0_ ∧ a0_ ≤ 24) ∧ v = (-1 : Int))))))
    refine zr_if_ne (pc := 9) (tgt := 14) ⟨(by decide), (by decide)⟩ (by decide) d_M_orders_9 (fun hc_9 => ?_) (fun hc_9 => ?_)
    · skip
      refine zw_iconst (pc := 14) (v := Int32.ofInt 0) (by decide) d_M_orders_14 ?_
      refine zw_istore_n (pc := 15) (i := 2) (L2 := [some (.ref 81), some (.int (Int32.ofInt a0_)), some (.int (Int32.ofInt 0)), none]) rfl (by decide) rfl d_M_orders_15 ?_
      refine zw_iconst (pc := 16) (v := Int32.ofInt 0) (by decide) d_M_orders_16 ?_
      refine zw_istore_n (pc := 17) (i := 3) (L2 := [some (.ref 81), some (.int (Int32.ofInt a0_)), some (.int (Int32.ofInt 0)), some (.int (Int32.ofInt 0))]) rfl (by decide) rfl d_M_orders_17 ?_
      have lp_18 : ∀ (n : Nat) (u3_ : Int) (hu3_a : -2147483648 ≤ u3_) (hu3_b : u3_ < 2147483648) (u4_ : Int) (hu4_a : -2147483648 ≤ u4_) (hu4_b : u4_ < 2147483648) (i5_ : 0 ≤ u4_) (i6_ : u4_ ≤ gN T) (i7_ : 0 ≤ u3_) (i8_ : u3_ ≤ u4_) (i9_ : u3_ = ((zct (fun m_ => gOr T m_ (a0_).toNat) (u4_).toNat : Nat) : Int)), (gN T - u4_).toNat < n → zW l m_M_orders (zn Mz + 0, zw Mz + 0) Mz 18 [some (.ref 81), some (.int (Int32.ofInt a0_)), some (.int (Int32.ofInt u3_)), some (.int (Int32.ofInt u4_))] [] (zpI [] [] Mz (fun v N => (((1 ≤ a0_ ∧ a0_ ≤ 24 ∧ v = ((zct (fun m_ => gOr T m_ (a0_).toNat) (gN T) : Nat) : Int)) ∨ (¬ (1 ≤ a0_ ∧ a0_ ≤ 24) ∧ v = (-1 : Int)))))) := by
        intro n
        induction n with
        | zero =>
          intro u3_ hu3_a hu3_b u4_ hu4_a hu4_b i5_ i6_ i7_ i8_ i9_ h0
          exact absurd h0 (Nat.not_lt_zero _)
        | succ n ih_18 =>
          intro u3_ hu3_a hu3_b u4_ hu4_a hu4_b i5_ i6_ i7_ i8_ i9_ hlt_18
          have hct_ := (show u3_ = ((zct (fun m_ => gOr T m_ (a0_).toNat) (u4_).toNat : Nat) : Int) by assumption)
          refine zw_iload_n (pc := 18) (n := 3) (x := Int32.ofInt u4_) rfl d_M_orders_18 ?_
          refine zw_aload_n (pc := 19) (n := 0) (x := 81) rfl d_M_orders_19 ?_
          refine zr_getI0 hf hW (pc := 20) (by decide) f_M_196 rfl d_M_orders_20 ?_
          refine zr_icmp_ge (pc := 23) (tgt := 52) ⟨hu4_a, hu4_b⟩ ⟨(ze_r Mz 81 20).1, (ze_r Mz 81 20).2⟩ (by decide) d_M_orders_23 (fun hc_23 => ?_) (fun hc_23 => ?_)
          · skip
            refine zw_iload_n (pc := 52) (n := 2) (x := Int32.ofInt u3_) rfl d_M_orders_52 ?_
            exact zr_iret (pc := 53) (ty := .int) rfl rfl ⟨by omega, by omega⟩ hf (show ((1 ≤ a0_ ∧ a0_ ≤ 24 ∧ u3_ = ((zct (fun m_ => gOr T m_ (a0_).toNat) (gN T) : Nat) : Int)) ∨ (¬ (1 ≤ a0_ ∧ a0_ ≤ 24) ∧ u3_ = (-1 : Int))) by exact Or.inl ⟨by omega, by omega, by rw [show gN T = (u4_).toNat by omega]; exact hct_⟩) d_M_orders_53
          · skip
            refine zw_iload_n (pc := 26) (n := 2) (x := Int32.ofInt u3_) rfl d_M_orders_26 ?_
            refine zw_aload_n (pc := 27) (n := 0) (x := 81) rfl d_M_orders_27 ?_
            refine zw_iload_n (pc := 28) (n := 3) (x := Int32.ofInt u4_) rfl d_M_orders_28 ?_
            refine zr_callV (hf.w hW) hf.x (pc := 29) [.int (Int32.ofInt u4_)] [.int (Int32.ofInt u3_)] l_M_403 (c_M_timesOfG l Mz (hf.w hW) u4_ hu4_a hu4_b T hO hX p0_ (show 0 ≤ u4_ by first | assumption | omega) (show u4_ < ze Mz 81 20 by first | assumption | omega)) rfl rfl rfl (by decide) (Nat.le_of_ble_eq_true rfl) d_M_orders_29 ?_
            rintro _ N10_ ⟨v11_, rfl, ⟨hv11_a, hv11_b⟩, hsN10_, ⟨hp0_N10_, hp1_N10_⟩⟩
            obtain rfl := hsN10_.eq.symm
            show zW l m_M_orders (zn Mz + 0, zw Mz + 0) Mz 32 [some (.ref 81), some (.int (Int32.ofInt a0_)), some (.int (Int32.ofInt u3_)), some (.int (Int32.ofInt u4_))] [.int (Int32.ofInt v11_), .int (Int32.ofInt u3_)] (zpI [] [] Mz (fun v N => (((1 ≤ a0_ ∧ a0_ ≤ 24 ∧ v = ((zct (fun m_ => gOr T m_ (a0_).toNat) (gN T) : Nat) : Int)) ∨ (¬ (1 ≤ a0_ ∧ a0_ ≤ 24) ∧ v = (-1 : Int))))))
            have hor_ := hp0_N10_
            have hor1_ := hp1_N10_
            have hq_ := gOr_q (w := (a0_).toNat) hor_ hor1_
            refine zw_iload_n (pc := 32) (n := 1) (x := Int32.ofInt a0_) rfl d_M_orders_32 ?_
            refine zr_icmp_ne (pc := 33) (tgt := 40) ⟨hv11_a, hv11_b⟩ ⟨ha0_a, ha0_b⟩ (by decide) d_M_orders_33 (fun hc_33 => ?_) (fun hc_33 => ?_)
            · skip
              refine zw_iconst (pc := 40) (v := Int32.ofInt 0) (by decide) d_M_orders_40 ?_
              refine zr_callS hf.x (pc := 41) [.int (Int32.ofInt 0)] [.int (Int32.ofInt u3_)] l_M_256 (c_M_truth l Mz (hf.w hW) 0 (by decide) (by decide) (by omega)) rfl rfl (by decide) (Nat.le_of_ble_eq_true rfl) d_M_orders_41 ?_
              rintro _ N12_ ⟨v13_, rfl, ⟨hv13_a, hv13_b⟩, hsN12_, hp0_N12_⟩
              obtain rfl := hsN12_.eq.symm
              replace hp0_N12_ : v13_ = 0 := hp0_N12_
              show zW l m_M_orders (zn Mz + 0, zw Mz + 0) Mz 44 [some (.ref 81), some (.int (Int32.ofInt a0_)), some (.int (Int32.ofInt u3_)), some (.int (Int32.ofInt u4_))] [.int (Int32.ofInt v13_), .int (Int32.ofInt u3_)] (zpI [] [] Mz (fun v N => (((1 ≤ a0_ ∧ a0_ ≤ 24 ∧ v = ((zct (fun m_ => gOr T m_ (a0_).toNat) (gN T) : Nat) : Int)) ∨ (¬ (1 ≤ a0_ ∧ a0_ ≤ 24) ∧ v = (-1 : Int))))))
              refine zr_iadd (pc := 44) d_M_orders_44 ?_
              refine zw_istore_n (pc := 45) (i := 2) (L2 := [some (.ref 81), some (.int (Int32.ofInt a0_)), some (.int (Int32.ofInt (u3_ + v13_))), some (.int (Int32.ofInt u4_))]) rfl (by decide) rfl d_M_orders_45 ?_
              refine zr_iinc (pc := 46) (i := 3) (a := u4_) (n := 1) (L2 := [some (.ref 81), some (.int (Int32.ofInt a0_)), some (.int (Int32.ofInt (u3_ + v13_))), some (.int (Int32.ofInt (u4_ + 1)))]) rfl (by decide) rfl d_M_orders_46 ?_
              refine zw_goto (pc := 49) (tgt := 18) (by decide) d_M_orders_49 ?_
              have hcn_ : (u3_ + v13_) = ((zct (fun m_ => gOr T m_ (a0_).toNat) ((u4_ + 1)).toNat : Nat) : Int) := zct_T (p := fun m_ => gOr T m_ (a0_).toNat) (by omega) hct_ (by first | exact Or.inl ⟨by omega, hq_.mp (by omega)⟩ | exact Or.inr ⟨by omega, fun q_ => absurd (hq_.mpr q_) (by omega)⟩)
              exact ih_18 (u3_ + v13_) (by omega) (by omega) (u4_ + 1) (by omega) (by omega) (show 0 ≤ (u4_ + 1) by first | assumption | omega) (show (u4_ + 1) ≤ gN T by first | assumption | omega) (show 0 ≤ (u3_ + v13_) by first | assumption | omega) (show (u3_ + v13_) ≤ (u4_ + 1) by first | assumption | omega) (show (u3_ + v13_) = ((zct (fun m_ => gOr T m_ (a0_).toNat) ((u4_ + 1)).toNat : Nat) : Int) by exact hcn_) (by omega)
            · skip
              refine zw_iconst (pc := 36) (v := Int32.ofInt 1) (by decide) d_M_orders_36 ?_
              refine zw_goto (pc := 37) (tgt := 41) (by decide) d_M_orders_37 ?_
              refine zr_callS hf.x (pc := 41) [.int (Int32.ofInt 1)] [.int (Int32.ofInt u3_)] l_M_256 (c_M_truth l Mz (hf.w hW) 1 (by decide) (by decide) (by omega)) rfl rfl (by decide) (Nat.le_of_ble_eq_true rfl) d_M_orders_41 ?_
              rintro _ N14_ ⟨v15_, rfl, ⟨hv15_a, hv15_b⟩, hsN14_, hp0_N14_⟩
              obtain rfl := hsN14_.eq.symm
              replace hp0_N14_ : v15_ = 1 := hp0_N14_
              show zW l m_M_orders (zn Mz + 0, zw Mz + 0) Mz 44 [some (.ref 81), some (.int (Int32.ofInt a0_)), some (.int (Int32.ofInt u3_)), some (.int (Int32.ofInt u4_))] [.int (Int32.ofInt v15_), .int (Int32.ofInt u3_)] (zpI [] [] Mz (fun v N => (((1 ≤ a0_ ∧ a0_ ≤ 24 ∧ v = ((zct (fun m_ => gOr T m_ (a0_).toNat) (gN T) : Nat) : Int)) ∨ (¬ (1 ≤ a0_ ∧ a0_ ≤ 24) ∧ v = (-1 : Int))))))
              refine zr_iadd (pc := 44) d_M_orders_44 ?_
              refine zw_istore_n (pc := 45) (i := 2) (L2 := [some (.ref 81), some (.int (Int32.ofInt a0_)), some (.int (Int32.ofInt (u3_ + v15_))), some (.int (Int32.ofInt u4_))]) rfl (by decide) rfl d_M_orders_45 ?_
              refine zr_iinc (pc := 46) (i := 3) (a := u4_) (n := 1) (L2 := [some (.ref 81), some (.int (Int32.ofInt a0_)), some (.int (Int32.ofInt (u3_ + v15_))), some (.int (Int32.ofInt (u4_ + 1)))]) rfl (by decide) rfl d_M_orders_46 ?_
              refine zw_goto (pc := 49) (tgt := 18) (by decide) d_M_orders_49 ?_
              have hcn_ : (u3_ + v15_) = ((zct (fun m_ => gOr T m_ (a0_).toNat) ((u4_ + 1)).toNat : Nat) : Int) := zct_T (p := fun m_ => gOr T m_ (a0_).toNat) (by omega) hct_ (by first | exact Or.inl ⟨by omega, hq_.mp (by omega)⟩ | exact Or.inr ⟨by omega, fun q_ => absurd (hq_.mpr q_) (by omega)⟩)
              exact ih_18 (u3_ + v15_) (by omega) (by omega) (u4_ + 1) (by omega) (by omega) (show 0 ≤ (u4_ + 1) by first | assumption | omega) (show (u4_ + 1) ≤ gN T by first | assumption | omega) (show 0 ≤ (u3_ + v15_) by first | assumption | omega) (show (u3_ + v15_) ≤ (u4_ + 1) by first | assumption | omega) (show (u3_ + v15_) = ((zct (fun m_ => gOr T m_ (a0_).toNat) ((u4_ + 1)).toNat : Nat) : Int) by exact hcn_) (by omega)
      exact lp_18 _ 0 (by decide) (by decide) 0 (by decide) (by decide) (show 0 ≤ (0 : Int) by first | assumption | omega) (show (0 : Int) ≤ gN T by first | assumption | omega) (show 0 ≤ (0 : Int) by first | assumption | omega) (show (0 : Int) ≤ (0 : Int) by first | assumption | omega) (show (0 : Int) = ((zct (fun m_ => gOr T m_ (a0_).toNat) ((0 : Int)).toNat : Nat) : Int) by rfl) (Nat.lt_succ_self _)
    · skip
      exact absurd hc_9 (by decide)
  · skip
    show zW l m_M_orders (zn Mz + 0, zw Mz + 0) Mz 9 [some (.ref 81), some (.int (Int32.ofInt a0_)), none, none] [.int (Int32.ofInt 0)] (zpI [] [] Mz (fun v N => (((1 ≤ a0_ ∧ a0_ ≤ 24 ∧ v = ((zct (fun m_ => gOr T m_ (a0_).toNat) (gN T) : Nat) : Int)) ∨ (¬ (1 ≤ a0_ ∧ a0_ ≤ 24) ∧ v = (-1 : Int))))))
    refine zr_if_ne (pc := 9) (tgt := 14) ⟨(by decide), (by decide)⟩ (by decide) d_M_orders_9 (fun hc_9 => ?_) (fun hc_9 => ?_)
    · skip
      exact absurd hc_9 (by decide)
    · skip
      refine zw_iconst (pc := 12) (v := Int32.ofInt (-1)) (by decide) d_M_orders_12 ?_
      exact zr_iret (pc := 13) (ty := .int) rfl rfl ⟨by omega, by omega⟩ hf (show ((1 ≤ a0_ ∧ a0_ ≤ 24 ∧ ((-1)) = ((zct (fun m_ => gOr T m_ (a0_).toNat) (gN T) : Nat) : Int)) ∨ (¬ (1 ≤ a0_ ∧ a0_ ≤ 24) ∧ ((-1)) = (-1 : Int))) by exact Or.inr ⟨by omega, rfl⟩) d_M_orders_13
