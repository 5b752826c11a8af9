set_option maxHeartbeats 4000000 in
theorem c_M_keeperG (l : Launch) (Mz : zMem) (hW : zMt Mz) (a0_ : Int) (ha0_a : -2147483648 ≤ a0_) (ha0_b : a0_ < 2147483648) (T : zGT) (hO : gOK T) (P_ : Nat) (mv_ : List Nat) (p0_ : zGB T Mz) (p1_ : zCdR (P_ : Int) mv_ T Mz) (p2_ : ze Mz 81 16 = (P_ : Int)) (p3_ : 1 ≤ P_) (p4_ : P_ ≤ 6) : zC l m_M_keeper 0 0 [.ref 81, .int (Int32.ofInt a0_)] Mz (zpI [] [] Mz (fun v N => (((0 ≤ a0_ ∧ a0_ < (P_ : Int) ∧ ∃ c_ : Nat → Nat, gTb mv_ c_ T ∧ v = ((zbq (fun m_ => gdg (c_ m_) (a0_).toNat = (a0_).toNat) (gN T) : Nat) : Int)) ∨ (¬ (0 ≤ a0_ ∧ a0_ < (P_ : Int)) ∧ v = (-1 : Int)))))) := by
  refine zC_of (L0 := [some (.ref 81), some (.int (Int32.ofInt a0_)), none, none]) md_M_keeper (Nat.le_of_ble_eq_true rfl) rfl ?_ zQ0
  have hf : zFr [] [] Mz Mz := zFr.rf
  have r_16 := ze_r Mz 81 16
  have r_20 := ze_r Mz 81 20
  have hG := hO.1
  have g24 := hG.2.1
  have g1 := hG.1
  have dv0 : zTab T Mz := p0_.1
  have dv1 : zB 85 144 0 5 Mz := p0_.2.1
  have dv2 : zJX T Mz := p0_.2.2.1
  have dv3 : zFirs T Mz := p0_.2.2.2.1
  have dv4 : zSSm T Mz := p0_.2.2.2.2.1
  have dv5 : zGD Mz := zGB.d hO p0_
  have gb := dv5.1
  have gn := dv0.1
  have hsz_ := dv0.1
  refine zw_iload_n (pc := 0) (n := 1) (x := Int32.ofInt a0_) rfl (zdal_p dlD_M_keeper_41 (i := 0) rfl) ?_
  refine zr_i2l (pc := 1) ⟨ha0_a, ha0_b⟩ (zdal_p dlD_M_keeper_41 (i := 1) rfl) ?_
  refine zw_lconst (pc := 2) (v := Int64.ofInt 0) (by decide) (zdal_p dlD_M_keeper_41 (i := 2) rfl) ?_
  refine zw_aload_n (pc := 3) (n := 0) (x := 81) rfl (zdal_p dlD_M_keeper_41 (i := 3) rfl) ?_
  refine zr_getI0 hf hW (pc := 4) (by decide) f_M_382 rfl (zdal_p dlD_M_keeper_41 (i := 4) rfl) ?_
  refine zw_iconst (pc := 7) (v := Int32.ofInt 1) (by decide) (zdal_p dlD_M_keeper_41 (i := 5) rfl) ?_
  refine zr_isub (pc := 8) (zdal_p dlD_M_keeper_41 (i := 6) rfl) ?_
  refine zr_i2l (pc := 9) ⟨(by omega), (by omega)⟩ (zdal_p dlD_M_keeper_41 (i := 7) rfl) ?_
  refine zr_callS hf.x (pc := 10) [.long (Int64.ofInt a0_), .long (Int64.ofInt 0), .long (Int64.ofInt ((ze Mz 81 16) - 1))] [] l_M_131 (c_M_isIn l Mz (hf.w hW) a0_ (by omega) (by omega) 0 (by decide) (by decide) ((ze Mz 81 16) - 1) (by omega) (by omega)) rfl rfl (by decide) (Nat.le_of_ble_eq_true rfl) (zdal_p dlD_M_keeper_41 (i := 8) rfl) ?_
  rintro _ N1_ ⟨v2_, rfl, ⟨hv2_a, hv2_b⟩, hsN1_, hp0_N1_⟩
  obtain rfl := hsN1_.eq.symm
  replace hp0_N1_ : ((v2_ = 1 ∧ 0 ≤ a0_ ∧ a0_ ≤ ((ze Mz 81 16) - 1)) ∨ (v2_ = 0 ∧ (a0_ < 0 ∨ ((ze Mz 81 16) - 1) < a0_))) := hp0_N1_
  rcases hp0_N1_ with ⟨rfl, ha10_0_hp0_N1_, ha10_1_hp0_N1_⟩ | ⟨rfl, ha10_0_hp0_N1_⟩
  · skip
    show zW l m_M_keeper (zn Mz + 0, zw Mz + 0) Mz 13 [some (.ref 81), some (.int (Int32.ofInt a0_)), none, none] [.int (Int32.ofInt 1)] _
    refine zr_if_ne (pc := 13) (tgt := 18) ⟨(by decide), (by decide)⟩ (by decide) (zdal_p dlD_M_keeper_41 (i := 9) rfl) (fun hc_13 => ?_) (fun hc_13 => ?_)
    · skip
      refine zw_iconst (pc := 18) (v := Int32.ofInt 0) (by decide) (zdal_p dlD_M_keeper_41 (i := 12) rfl) ?_
      refine zw_istore_n (pc := 19) (i := 2) (L2 := [some (.ref 81), some (.int (Int32.ofInt a0_)), some (.int (Int32.ofInt 0)), none]) rfl (by decide) rfl (zdal_p dlD_M_keeper_41 (i := 13) rfl) ?_
      refine zw_iconst (pc := 20) (v := Int32.ofInt 0) (by decide) (zdal_p dlD_M_keeper_41 (i := 14) rfl) ?_
      refine zw_istore_n (pc := 21) (i := 3) (L2 := [some (.ref 81), some (.int (Int32.ofInt a0_)), some (.int (Int32.ofInt 0)), some (.int (Int32.ofInt 0))]) rfl (by decide) rfl (zdal_p dlD_M_keeper_41 (i := 15) rfl) ?_
      have lp_22 : ∀ (n : Nat) (u3_ : Int) (hu3_a : -2147483648 ≤ u3_) (hu3_b : u3_ < 2147483648) (u4_ : Int) (hu4_a : -2147483648 ≤ u4_) (hu4_b : u4_ < 2147483648) (i5_ : 0 ≤ u4_) (i6_ : u4_ ≤ gN T) (i7_ : u3_ = ((zbq (fun m_ => gdg (zrc Mz 85 m_ (P_ : Int)) (a0_).toNat = (a0_).toNat) (u4_).toNat : Nat) : Int)), (gN T - u4_).toNat < n → zW l m_M_keeper (zn Mz + 0, zw Mz + 0) Mz 22 [some (.ref 81), some (.int (Int32.ofInt a0_)), some (.int (Int32.ofInt u3_)), some (.int (Int32.ofInt u4_))] [] (zpI [] [] Mz (fun v N => (((0 ≤ a0_ ∧ a0_ < (P_ : Int) ∧ ∃ c_ : Nat → Nat, gTb mv_ c_ T ∧ v = ((zbq (fun m_ => gdg (c_ m_) (a0_).toNat = (a0_).toNat) (gN T) : Nat) : Int)) ∨ (¬ (0 ≤ a0_ ∧ a0_ < (P_ : Int)) ∧ v = (-1 : Int)))))) := by
        intro n
        induction n with
        | zero =>
          intro u3_ hu3_a hu3_b u4_ hu4_a hu4_b i5_ i6_ i7_ h0
          exact absurd h0 (Nat.not_lt_zero _)
        | succ n ih_22 =>
          intro u3_ hu3_a hu3_b u4_ hu4_a hu4_b i5_ i6_ i7_ hlt_22
          have hkb_ := (show u3_ = ((zbq (fun m_ => gdg (zrc Mz 85 m_ (P_ : Int)) (a0_).toNat = (a0_).toNat) (u4_).toNat : Nat) : Int) by first | with_reducible assumption | assumption)
          have hkr_ := zbq_r g24 (by omega) hkb_
          refine zw_iload_n (pc := 22) (n := 3) (x := Int32.ofInt u4_) rfl (zdal_p dlD_M_keeper_41 (i := 16) rfl) ?_
          refine zw_aload_n (pc := 23) (n := 0) (x := 81) rfl (zdal_p dlD_M_keeper_41 (i := 17) rfl) ?_
          refine zr_getI0 hf hW (pc := 24) (by decide) f_M_196 rfl (zdal_p dlD_M_keeper_41 (i := 18) rfl) ?_
          refine zr_icmp_ge (pc := 27) (tgt := 64) ⟨hu4_a, hu4_b⟩ ⟨(ze_r Mz 81 20).1, (ze_r Mz 81 20).2⟩ (by decide) (zdal_p dlD_M_keeper_41 (i := 19) rfl) (fun hc_27 => ?_) (fun hc_27 => ?_)
          · skip
            refine zw_iload_n (pc := 64) (n := 2) (x := Int32.ofInt u3_) rfl (zdal_p dlD_M_keeper_42 (i := 17) rfl) ?_
            exact zr_iret (pc := 65) (ty := .int) rfl rfl ⟨by omega, by omega⟩ hf (show ((0 ≤ a0_ ∧ a0_ < (P_ : Int) ∧ ∃ c_ : Nat → Nat, gTb mv_ c_ T ∧ u3_ = ((zbq (fun m_ => gdg (c_ m_) (a0_).toNat = (a0_).toNat) (gN T) : Nat) : Int)) ∨ (¬ (0 ≤ a0_ ∧ a0_ < (P_ : Int)) ∧ u3_ = (-1 : Int))) by exact Or.inl ⟨by omega, by omega, _, p1_, by rw [show gN T = (u4_).toNat by omega]; exact hkb_⟩) (zdal_p dlD_M_keeper_42 (i := 18) rfl)
          · skip
            refine zw_iload_n (pc := 30) (n := 2) (x := Int32.ofInt u3_) rfl (zdal_p dlD_M_keeper_41 (i := 20) rfl) ?_
            refine zw_aload_n (pc := 31) (n := 0) (x := 81) rfl (zdal_p dlD_M_keeper_41 (i := 21) rfl) ?_
            refine zr_getF (r := 85) (hf.w hW) (pc := 32) f_M_26 rfl (zh_85 (hf.w hW)).1 (zdal_p dlD_M_keeper_41 (i := 22) rfl) ?_
            refine zw_bipush (pc := 35) (v := Int32.ofInt 6) (by decide) (zdal_p dlD_M_keeper_41 (i := 23) rfl) ?_
            refine zw_iload_n (pc := 37) (n := 3) (x := Int32.ofInt u4_) rfl (zdal_p dlD_M_keeper_42 (i := 0) rfl) ?_
            refine zr_imul (pc := 38) (zdal_p dlD_M_keeper_42 (i := 1) rfl) ?_
            refine zw_iload_n (pc := 39) (n := 1) (x := Int32.ofInt a0_) rfl (zdal_p dlD_M_keeper_42 (i := 2) rfl) ?_
            refine zr_iadd (pc := 40) (zdal_p dlD_M_keeper_42 (i := 3) rfl) ?_
            refine zr_ialdn (pc := 41) (zh_85 (hf.w hW)).2 (by decide) (by omega) (by omega) (zdal_p dlD_M_keeper_42 (i := 4) rfl) (fun v8_ hv8_ hv8_a hv8_b => ?_)
            have hr9_ := dv1.g (e := (6 * u4_) + a0_) (by omega) (by omega)
            rw [← hv8_] at hr9_
            have hv_ := hv8_
            have hd_ := zCdR.dg (P := P_) dv1 (i := (u4_).toNat) (p := (a0_).toNat) (by omega) (by omega) (by omega)
            rw [show 6 * (u4_).toNat + (a0_).toNat = (6 * u4_ + a0_).toNat by omega, ← hv_] at hd_
            refine zw_iload_n (pc := 42) (n := 1) (x := Int32.ofInt a0_) rfl (zdal_p dlD_M_keeper_42 (i := 5) rfl) ?_
            refine zr_icmp_ne (pc := 43) (tgt := 50) ⟨hv8_a, hv8_b⟩ ⟨ha0_a, ha0_b⟩ (by decide) (zdal_p dlD_M_keeper_42 (i := 6) rfl) (fun hc_43 => ?_) (fun hc_43 => ?_)
            · skip
              refine zw_iconst (pc := 50) (v := Int32.ofInt 0) (by decide) (zdal_p dlD_M_keeper_42 (i := 9) rfl) ?_
              refine zr_callS hf.x (pc := 51) [.int (Int32.ofInt 0)] [.int (Int32.ofInt u3_)] l_M_256 (c_M_truth l Mz (hf.w hW) 0 (by decide) (by decide) (by omega)) rfl rfl (by decide) (Nat.le_of_ble_eq_true rfl) (zdal_p dlD_M_keeper_42 (i := 10) rfl) ?_
              rintro _ N10_ ⟨v11_, rfl, ⟨hv11_a, hv11_b⟩, hsN10_, hp0_N10_⟩
              obtain rfl := hsN10_.eq.symm
              replace hp0_N10_ : v11_ = 0 := hp0_N10_
              show zW l m_M_keeper (zn Mz + 0, zw Mz + 0) Mz 54 [some (.ref 81), some (.int (Int32.ofInt a0_)), some (.int (Int32.ofInt u3_)), some (.int (Int32.ofInt u4_))] [.int (Int32.ofInt v11_), .int (Int32.ofInt u3_)] _
              refine zw_iload_n (pc := 54) (n := 3) (x := Int32.ofInt u4_) rfl (zdal_p dlD_M_keeper_42 (i := 11) rfl) ?_
              have hkn_ := zbq_T (p := (fun m_ => gdg (zrc Mz 85 m_ (P_ : Int)) (a0_).toNat = (a0_).toNat)) (t := v11_) g24 (by omega) (by omega) hkb_ (by first | exact Or.inl ⟨by omega, (show gdg _ _ = _ by omega)⟩ | exact Or.inr ⟨by omega, (show ¬ gdg _ _ = _ by omega)⟩)
              refine zr_ishl (pc := 55) (zdal_p dlD_M_keeper_42 (i := 12) rfl) ?_
              have hr12_ := zshl_r v11_ u4_
              refine zr_ior (pc := 56) (zdal_p dlD_M_keeper_42 (i := 13) rfl) ?_
              have hr13_ := zor_r u3_ (zshl v11_ u4_)
              refine zw_istore_n (pc := 57) (i := 2) (L2 := [some (.ref 81), some (.int (Int32.ofInt a0_)), some (.int (Int32.ofInt (zor u3_ (zshl v11_ u4_)))), some (.int (Int32.ofInt u4_))]) rfl (by decide) rfl (zdal_p dlD_M_keeper_42 (i := 14) rfl) ?_
              refine zr_iinc (pc := 58) (i := 3) (a := u4_) (n := 1) (L2 := [some (.ref 81), some (.int (Int32.ofInt a0_)), some (.int (Int32.ofInt (zor u3_ (zshl v11_ u4_)))), some (.int (Int32.ofInt (u4_ + 1)))]) rfl (by decide) rfl (zdal_p dlD_M_keeper_42 (i := 15) rfl) ?_
              refine zw_goto (pc := 61) (tgt := 22) (by decide) (zdal_p dlD_M_keeper_42 (i := 16) rfl) ?_
              exact ih_22 (zor u3_ (zshl v11_ u4_)) (by omega) (by omega) (u4_ + 1) (by omega) (by omega) (show 0 ≤ (u4_ + 1) by first | with_reducible assumption | assumption | omega) (show (u4_ + 1) ≤ gN T by first | with_reducible assumption | assumption | omega) (show (zor u3_ (zshl v11_ u4_)) = ((zbq (fun m_ => gdg (zrc Mz 85 m_ (P_ : Int)) (a0_).toNat = (a0_).toNat) ((u4_ + 1)).toNat : Nat) : Int) by exact hkn_) (by omega)
            · skip
              refine zw_iconst (pc := 46) (v := Int32.ofInt 1) (by decide) (zdal_p dlD_M_keeper_42 (i := 7) rfl) ?_
              refine zw_goto (pc := 47) (tgt := 51) (by decide) (zdal_p dlD_M_keeper_42 (i := 8) rfl) ?_
              refine zr_callS hf.x (pc := 51) [.int (Int32.ofInt 1)] [.int (Int32.ofInt u3_)] l_M_256 (c_M_truth l Mz (hf.w hW) 1 (by decide) (by decide) (by omega)) rfl rfl (by decide) (Nat.le_of_ble_eq_true rfl) (zdal_p dlD_M_keeper_42 (i := 10) rfl) ?_
              rintro _ N14_ ⟨v15_, rfl, ⟨hv15_a, hv15_b⟩, hsN14_, hp0_N14_⟩
              obtain rfl := hsN14_.eq.symm
              replace hp0_N14_ : v15_ = 1 := hp0_N14_
              show zW l m_M_keeper (zn Mz + 0, zw Mz + 0) Mz 54 [some (.ref 81), some (.int (Int32.ofInt a0_)), some (.int (Int32.ofInt u3_)), some (.int (Int32.ofInt u4_))] [.int (Int32.ofInt v15_), .int (Int32.ofInt u3_)] _
              refine zw_iload_n (pc := 54) (n := 3) (x := Int32.ofInt u4_) rfl (zdal_p dlD_M_keeper_42 (i := 11) rfl) ?_
              have hkn_ := zbq_T (p := (fun m_ => gdg (zrc Mz 85 m_ (P_ : Int)) (a0_).toNat = (a0_).toNat)) (t := v15_) g24 (by omega) (by omega) hkb_ (by first | exact Or.inl ⟨by omega, (show gdg _ _ = _ by omega)⟩ | exact Or.inr ⟨by omega, (show ¬ gdg _ _ = _ by omega)⟩)
              refine zr_ishl (pc := 55) (zdal_p dlD_M_keeper_42 (i := 12) rfl) ?_
              have hr16_ := zshl_r v15_ u4_
              refine zr_ior (pc := 56) (zdal_p dlD_M_keeper_42 (i := 13) rfl) ?_
              have hr17_ := zor_r u3_ (zshl v15_ u4_)
              refine zw_istore_n (pc := 57) (i := 2) (L2 := [some (.ref 81), some (.int (Int32.ofInt a0_)), some (.int (Int32.ofInt (zor u3_ (zshl v15_ u4_)))), some (.int (Int32.ofInt u4_))]) rfl (by decide) rfl (zdal_p dlD_M_keeper_42 (i := 14) rfl) ?_
              refine zr_iinc (pc := 58) (i := 3) (a := u4_) (n := 1) (L2 := [some (.ref 81), some (.int (Int32.ofInt a0_)), some (.int (Int32.ofInt (zor u3_ (zshl v15_ u4_)))), some (.int (Int32.ofInt (u4_ + 1)))]) rfl (by decide) rfl (zdal_p dlD_M_keeper_42 (i := 15) rfl) ?_
              refine zw_goto (pc := 61) (tgt := 22) (by decide) (zdal_p dlD_M_keeper_42 (i := 16) rfl) ?_
              exact ih_22 (zor u3_ (zshl v15_ u4_)) (by omega) (by omega) (u4_ + 1) (by omega) (by omega) (show 0 ≤ (u4_ + 1) by first | with_reducible assumption | assumption | omega) (show (u4_ + 1) ≤ gN T by first | with_reducible assumption | assumption | omega) (show (zor u3_ (zshl v15_ u4_)) = ((zbq (fun m_ => gdg (zrc Mz 85 m_ (P_ : Int)) (a0_).toNat = (a0_).toNat) ((u4_ + 1)).toNat : Nat) : Int) by exact hkn_) (by omega)
      exact lp_22 _ 0 (by decide) (by decide) 0 (by decide) (by decide) (show 0 ≤ (0 : Int) by first | with_reducible assumption | assumption | omega) (show (0 : Int) ≤ gN T by first | with_reducible assumption | assumption | omega) (show (0 : Int) = ((zbq (fun m_ => gdg (zrc Mz 85 m_ (P_ : Int)) (a0_).toNat = (a0_).toNat) ((0 : Int)).toNat : Nat) : Int) by rfl) (Nat.lt_succ_self _)
    · skip
      exact absurd hc_13 (by decide)
  · skip
    show zW l m_M_keeper (zn Mz + 0, zw Mz + 0) Mz 13 [some (.ref 81), some (.int (Int32.ofInt a0_)), none, none] [.int (Int32.ofInt 0)] _
    refine zr_if_ne (pc := 13) (tgt := 18) ⟨(by decide), (by decide)⟩ (by decide) (zdal_p dlD_M_keeper_41 (i := 9) rfl) (fun hc_13 => ?_) (fun hc_13 => ?_)
    · skip
      exact absurd hc_13 (by decide)
    · skip
      refine zw_iconst (pc := 16) (v := Int32.ofInt (-1)) (by decide) (zdal_p dlD_M_keeper_41 (i := 10) rfl) ?_
      exact zr_iret (pc := 17) (ty := .int) rfl rfl ⟨by omega, by omega⟩ hf (show ((0 ≤ a0_ ∧ a0_ < (P_ : Int) ∧ ∃ c_ : Nat → Nat, gTb mv_ c_ T ∧ ((-1)) = ((zbq (fun m_ => gdg (c_ m_) (a0_).toNat = (a0_).toNat) (gN T) : Nat) : Int)) ∨ (¬ (0 ≤ a0_ ∧ a0_ < (P_ : Int)) ∧ ((-1)) = (-1 : Int))) by exact Or.inr ⟨by omega, rfl⟩) (zdal_p dlD_M_keeper_41 (i := 11) rfl)
