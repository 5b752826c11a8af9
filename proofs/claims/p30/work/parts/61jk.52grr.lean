set_option maxHeartbeats 4000000 in
theorem c_M_likesG (l : Launch) (Mz : zMem) (hW : zMt Mz) (a0_ : Int) (ha0_a : -2147483648 ≤ a0_) (ha0_b : a0_ < 2147483648) (T : zGT) (hO : gOK T) (p0_ : zGB T Mz) : zC l m_M_likes 0 0 [.ref 81, .int (Int32.ofInt a0_)] Mz (zpI [] [] Mz (fun v N => (((0 ≤ a0_ ∧ a0_ < (gN T : Int) ∧ v = ((gcb (gup (glkF T (a0_).toNat) 0 (gN T)) : Nat) : Int)) ∨ (¬ (0 ≤ a0_ ∧ a0_ < (gN T : Int)) ∧ v = (-1 : Int)))))) := by
  refine zC_of (L0 := [some (.ref 81), some (.int (Int32.ofInt a0_)), none, none]) md_M_likes (Nat.le_of_ble_eq_true rfl) rfl ?_ zQ0
  have hf : zFr [] [] Mz Mz := zFr.rf
  have r_20 := ze_r Mz 81 20
  have hG := hO.1
  have g24 := hG.2.1
  have g1 := hG.1
  have dv0 : zTab T Mz := p0_.1
  have dv1 : zB 85 144 0 5 Mz := p0_.2.1
  have dv2 : zJX T Mz := p0_.2.2.1
  have dv3 : zFirs T Mz := p0_.2.2.2.1
  have dv4 : zSSm T Mz := p0_.2.2.2.2.1
  have dv5 : zGD Mz := zGB.d hO p0_
  have gb := dv5.1
  have gn := dv0.1
  have hsz_ := dv0.1
  refine zw_aload_n (pc := 0) (n := 0) (x := 81) rfl d_M_likes_0 ?_
  refine zw_iload_n (pc := 1) (n := 1) (x := Int32.ofInt a0_) rfl d_M_likes_1 ?_
  refine zr_callV (hf.w hW) hf.x (pc := 2) [.int (Int32.ofInt a0_)] [] l_M_400 (c_M_isMemberG l Mz (hf.w hW) a0_ ha0_a ha0_b T hO p0_) rfl rfl rfl (by decide) (Nat.le_of_ble_eq_true rfl) d_M_likes_2 ?_
  rintro _ N1_ ⟨v2_, rfl, ⟨hv2_a, hv2_b⟩, hsN1_, hp0_N1_⟩
  obtain rfl := hsN1_.eq.symm
  replace hp0_N1_ : ((v2_ = 1 ∧ 0 ≤ a0_ ∧ a0_ < ze Mz 81 20) ∨ (v2_ = 0 ∧ (a0_ < 0 ∨ ze Mz 81 20 ≤ a0_))) := hp0_N1_
  rcases hp0_N1_ with ⟨rfl, ha2_0_hp0_N1_, ha2_1_hp0_N1_⟩ | ⟨rfl, ha2_0_hp0_N1_⟩
  · skip
    show zW l m_M_likes (zn Mz + 0, zw Mz + 0) Mz 5 [some (.ref 81), some (.int (Int32.ofInt a0_)), none, none] [.int (Int32.ofInt 1)] (zpI [] [] Mz (fun v N => (((0 ≤ a0_ ∧ a0_ < (gN T : Int) ∧ v = ((gcb (gup (glkF T (a0_).toNat) 0 (gN T)) : Nat) : Int)) ∨ (¬ (0 ≤ a0_ ∧ a0_ < (gN T : Int)) ∧ v = (-1 : Int))))))
    refine zr_if_ne (pc := 5) (tgt := 10) ⟨(by decide), (by decide)⟩ (by decide) d_M_likes_5 (fun hc_5 => ?_) (fun hc_5 => ?_)
    · skip
      refine zw_iconst (pc := 10) (v := Int32.ofInt 0) (by decide) d_M_likes_10 ?_
      refine zw_istore_n (pc := 11) (i := 2) (L2 := [some (.ref 81), some (.int (Int32.ofInt a0_)), some (.int (Int32.ofInt 0)), none]) rfl (by decide) rfl d_M_likes_11 ?_
      refine zw_iconst (pc := 12) (v := Int32.ofInt 0) (by decide) d_M_likes_12 ?_
      refine zw_istore_n (pc := 13) (i := 3) (L2 := [some (.ref 81), some (.int (Int32.ofInt a0_)), some (.int (Int32.ofInt 0)), some (.int (Int32.ofInt 0))]) rfl (by decide) rfl d_M_likes_13 ?_
      have lp_14 : ∀ (n : Nat) (u3_ : Int) (hu3_a : -2147483648 ≤ u3_) (hu3_b : u3_ < 2147483648) (u4_ : Int) (hu4_a : -2147483648 ≤ u4_) (hu4_b : u4_ < 2147483648) (i5_ : 0 ≤ u4_) (i6_ : u4_ ≤ gN T) (i7_ : u3_ = ((gup (glkF T (a0_).toNat) 0 (u4_).toNat : Nat) : Int)), (gN T - u4_).toNat < n → zW l m_M_likes (zn Mz + 0, zw Mz + 0) Mz 14 [some (.ref 81), some (.int (Int32.ofInt a0_)), some (.int (Int32.ofInt u3_)), some (.int (Int32.ofInt u4_))] [] (zpI [] [] Mz (fun v N => (((0 ≤ a0_ ∧ a0_ < (gN T : Int) ∧ v = ((gcb (gup (glkF T (a0_).toNat) 0 (gN T)) : Nat) : Int)) ∨ (¬ (0 ≤ a0_ ∧ a0_ < (gN T : Int)) ∧ v = (-1 : Int)))))) := by
        intro n
        induction n with
        | zero =>
          intro u3_ hu3_a hu3_b u4_ hu4_a hu4_b i5_ i6_ i7_ h0
          exact absurd h0 (Nat.not_lt_zero _)
        | succ n ih_14 =>
          intro u3_ hu3_a hu3_b u4_ hu4_a hu4_b i5_ i6_ i7_ hlt_14
          have hlk_ := (show u3_ = ((gup (glkF T (a0_).toNat) 0 (u4_).toNat : Nat) : Int) by assumption)
          have hlr_ := glk_r hG (m := (a0_).toNat) (by omega) (by omega) hlk_
          refine zw_iload_n (pc := 14) (n := 3) (x := Int32.ofInt u4_) rfl d_M_likes_14 ?_
          refine zw_aload_n (pc := 15) (n := 0) (x := 81) rfl d_M_likes_15 ?_
          refine zr_getI0 hf hW (pc := 16) (by decide) f_M_196 rfl d_M_likes_16 ?_
          refine zr_icmp_ge (pc := 19) (tgt := 49) ⟨hu4_a, hu4_b⟩ ⟨(ze_r Mz 81 20).1, (ze_r Mz 81 20).2⟩ (by decide) d_M_likes_19 (fun hc_19 => ?_) (fun hc_19 => ?_)
          · skip
            refine zw_iload_n (pc := 49) (n := 2) (x := Int32.ofInt u3_) rfl d_M_likes_49 ?_
            refine zr_callS hf.x (pc := 50) [.int (Int32.ofInt u3_)] [] l_M_253 (c_M_ones l Mz (hf.w hW) u3_ hu3_a hu3_b (show 0 ≤ u3_ by first | assumption | omega)) rfl rfl (by decide) (Nat.le_of_ble_eq_true rfl) d_M_likes_50 ?_
            rintro _ N8_ ⟨v9_, rfl, ⟨hv9_a, hv9_b⟩, hsN8_, ⟨hp0_N8_, hp1_N8_, hp2_N8_⟩⟩
            obtain rfl := hsN8_.eq.symm
            show zW l m_M_likes (zn Mz + 0, zw Mz + 0) Mz 53 [some (.ref 81), some (.int (Int32.ofInt a0_)), some (.int (Int32.ofInt u3_)), some (.int (Int32.ofInt u4_))] [.int (Int32.ofInt v9_)] (zpI [] [] Mz (fun v N => (((0 ≤ a0_ ∧ a0_ < (gN T : Int) ∧ v = ((gcb (gup (glkF T (a0_).toNat) 0 (gN T)) : Nat) : Int)) ∨ (¬ (0 ≤ a0_ ∧ a0_ < (gN T : Int)) ∧ v = (-1 : Int))))))
            have hon_ := hp0_N8_
            have hol_ := glk_lt hG (m := (a0_).toNat) (by omega) (gN T) (Nat.le_refl _)
            have hop_ : 2 ^ gN T ≤ 2 ^ 24 := Nat.pow_le_pow_right (by omega) g24
            rw [hlk_, zcb_n (by rw [show (u4_).toNat = gN T by omega]; omega) 31 (Nat.le_refl _), show (u4_).toNat = gN T by omega] at hon_
            exact zr_iret (pc := 53) (ty := .int) rfl rfl ⟨by omega, by omega⟩ hf (show ((0 ≤ a0_ ∧ a0_ < (gN T : Int) ∧ v9_ = ((gcb (gup (glkF T (a0_).toNat) 0 (gN T)) : Nat) : Int)) ∨ (¬ (0 ≤ a0_ ∧ a0_ < (gN T : Int)) ∧ v9_ = (-1 : Int))) by first | exact Or.inr ⟨by omega, rfl⟩ | exact Or.inl ⟨by omega, by omega, hon_⟩) d_M_likes_53
          · skip
            refine zw_iload_n (pc := 22) (n := 2) (x := Int32.ofInt u3_) rfl d_M_likes_22 ?_
            refine zw_iconst (pc := 23) (v := Int32.ofInt 1) (by decide) d_M_likes_23 ?_
            refine zw_aload_n (pc := 24) (n := 0) (x := 81) rfl d_M_likes_24 ?_
            refine zw_aload_n (pc := 25) (n := 0) (x := 81) rfl d_M_likes_25 ?_
            refine zw_aload_n (pc := 26) (n := 0) (x := 81) rfl d_M_likes_26 ?_
            refine zr_getF (r := 88) (hf.w hW) (pc := 27) f_M_35 rfl (zh_88 (hf.w hW)).1 d_M_likes_27 ?_
            refine zw_iload_n (pc := 30) (n := 3) (x := Int32.ofInt u4_) rfl d_M_likes_30 ?_
            refine zr_ialdn (pc := 31) (zh_88 (hf.w hW)).2 (by decide) (by omega) (by omega) d_M_likes_31 (fun v10_ hv10_ hv10_a hv10_b => ?_)
            have hu_x := dv0.u (a := u4_) (by omega) (by omega)
            have hu_y := hG.2.2.1 (u4_).toNat (by omega)
            have huv_ : v10_ = ((gi T (u4_).toNat : Nat) : Int) := (show v10_ = _ by assumption).trans (dv0.2.2 _ (by omega))
            refine zw_iload_n (pc := 32) (n := 1) (x := Int32.ofInt a0_) rfl d_M_likes_32 ?_
            refine zr_callV (hf.w hW) hf.x (pc := 33) [.int (Int32.ofInt v10_), .int (Int32.ofInt a0_)] [.ref 81, .int (Int32.ofInt 1), .int (Int32.ofInt u3_)] l_M_216 (c_M_by l Mz (hf.w hW) v10_ hv10_a hv10_b a0_ ha0_a ha0_b T hG dv0 (show 0 ≤ v10_ by first | assumption | omega) (show v10_ < ze Mz 81 20 by first | assumption | omega) (show 0 ≤ a0_ by first | assumption | omega) (show a0_ < ze Mz 81 20 by first | assumption | omega)) rfl rfl rfl (by decide) (Nat.le_of_ble_eq_true rfl) d_M_likes_33 ?_
            rintro _ N11_ ⟨v12_, rfl, ⟨hv12_a, hv12_b⟩, hsN11_, ⟨hp0_N11_, hp1_N11_, hp2_N11_⟩⟩
            obtain rfl := hsN11_.eq.symm
            show zW l m_M_likes (zn Mz + 0, zw Mz + 0) Mz 36 [some (.ref 81), some (.int (Int32.ofInt a0_)), some (.int (Int32.ofInt u3_)), some (.int (Int32.ofInt u4_))] [.int (Int32.ofInt v12_), .ref 81, .int (Int32.ofInt 1), .int (Int32.ofInt u3_)] (zpI [] [] Mz (fun v N => (((0 ≤ a0_ ∧ a0_ < (gN T : Int) ∧ v = ((gcb (gup (glkF T (a0_).toNat) 0 (gN T)) : Nat) : Int)) ∨ (¬ (0 ≤ a0_ ∧ a0_ < (gN T : Int)) ∧ v = (-1 : Int))))))
            have hb1_ := hp0_N11_
            refine zw_iload_n (pc := 36) (n := 3) (x := Int32.ofInt u4_) rfl d_M_likes_36 ?_
            refine zr_callV (hf.w hW) hf.x (pc := 37) [.int (Int32.ofInt v12_), .int (Int32.ofInt u4_)] [.int (Int32.ofInt 1), .int (Int32.ofInt u3_)] l_M_216 (c_M_by l Mz (hf.w hW) v12_ hv12_a hv12_b u4_ hu4_a hu4_b T hG dv0 (show 0 ≤ v12_ by first | assumption | omega) (show v12_ < ze Mz 81 20 by first | assumption | omega) (show 0 ≤ u4_ by first | assumption | omega) (show u4_ < ze Mz 81 20 by first | assumption | omega)) rfl rfl rfl (by decide) (Nat.le_of_ble_eq_true rfl) d_M_likes_37 ?_
            rintro _ N13_ ⟨v14_, rfl, ⟨hv14_a, hv14_b⟩, hsN13_, ⟨hp0_N13_, hp1_N13_, hp2_N13_⟩⟩
            obtain rfl := hsN13_.eq.symm
            show zW l m_M_likes (zn Mz + 0, zw Mz + 0) Mz 40 [some (.ref 81), some (.int (Int32.ofInt a0_)), some (.int (Int32.ofInt u3_)), some (.int (Int32.ofInt u4_))] [.int (Int32.ofInt v14_), .int (Int32.ofInt 1), .int (Int32.ofInt u3_)] (zpI [] [] Mz (fun v N => (((0 ≤ a0_ ∧ a0_ < (gN T : Int) ∧ v = ((gcb (gup (glkF T (a0_).toNat) 0 (gN T)) : Nat) : Int)) ∨ (¬ (0 ≤ a0_ ∧ a0_ < (gN T : Int)) ∧ v = (-1 : Int))))))
            have hb2_ := hp0_N13_
            rw [hb1_, Int.toNat_natCast, huv_, Int.toNat_natCast] at hb2_
            have hln_ := glk_s hG (m := (a0_).toNat) (by omega) (by omega) (by omega) hlk_ hb2_
            refine zr_ishl (pc := 40) d_M_likes_40 ?_
            have hr15_ := zshl_r 1 v14_
            refine zr_ior (pc := 41) d_M_likes_41 ?_
            have hr16_ := zor_r u3_ (zshl 1 v14_)
            refine zw_istore_n (pc := 42) (i := 2) (L2 := [some (.ref 81), some (.int (Int32.ofInt a0_)), some (.int (Int32.ofInt (zor u3_ (zshl 1 v14_)))), some (.int (Int32.ofInt u4_))]) rfl (by decide) rfl d_M_likes_42 ?_
            refine zr_iinc (pc := 43) (i := 3) (a := u4_) (n := 1) (L2 := [some (.ref 81), some (.int (Int32.ofInt a0_)), some (.int (Int32.ofInt (zor u3_ (zshl 1 v14_)))), some (.int (Int32.ofInt (u4_ + 1)))]) rfl (by decide) rfl d_M_likes_43 ?_
            refine zw_goto (pc := 46) (tgt := 14) (by decide) d_M_likes_46 ?_
            exact ih_14 (zor u3_ (zshl 1 v14_)) (by omega) (by omega) (u4_ + 1) (by omega) (by omega) (show 0 ≤ (u4_ + 1) by first | assumption | omega) (show (u4_ + 1) ≤ gN T by first | assumption | omega) (show (zor u3_ (zshl 1 v14_)) = ((gup (glkF T (a0_).toNat) 0 ((u4_ + 1)).toNat : Nat) : Int) by exact hln_) (by omega)
      exact lp_14 _ 0 (by decide) (by decide) 0 (by decide) (by decide) (show 0 ≤ (0 : Int) by first | assumption | omega) (show (0 : Int) ≤ gN T by first | assumption | omega) (show (0 : Int) = ((gup (glkF T (a0_).toNat) 0 ((0 : Int)).toNat : Nat) : Int) by rfl) (Nat.lt_succ_self _)
    · skip
      exact absurd hc_5 (by decide)
  · skip
    show zW l m_M_likes (zn Mz + 0, zw Mz + 0) Mz 5 [some (.ref 81), some (.int (Int32.ofInt a0_)), none, none] [.int (Int32.ofInt 0)] (zpI [] [] Mz (fun v N => (((0 ≤ a0_ ∧ a0_ < (gN T : Int) ∧ v = ((gcb (gup (glkF T (a0_).toNat) 0 (gN T)) : Nat) : Int)) ∨ (¬ (0 ≤ a0_ ∧ a0_ < (gN T : Int)) ∧ v = (-1 : Int))))))
    refine zr_if_ne (pc := 5) (tgt := 10) ⟨(by decide), (by decide)⟩ (by decide) d_M_likes_5 (fun hc_5 => ?_) (fun hc_5 => ?_)
    · skip
      exact absurd hc_5 (by decide)
    · skip
      refine zw_iconst (pc := 8) (v := Int32.ofInt (-1)) (by decide) d_M_likes_8 ?_
      exact zr_iret (pc := 9) (ty := .int) rfl rfl ⟨by omega, by omega⟩ hf (show ((0 ≤ a0_ ∧ a0_ < (gN T : Int) ∧ ((-1)) = ((gcb (gup (glkF T (a0_).toNat) 0 (gN T)) : Nat) : Int)) ∨ (¬ (0 ≤ a0_ ∧ a0_ < (gN T : Int)) ∧ ((-1)) = (-1 : Int))) by first | exact Or.inr ⟨by omega, rfl⟩ | exact Or.inl ⟨by omega, by omega, hon_⟩) d_M_likes_9
