set_option maxHeartbeats 4000000 in
theorem c_M_withinG (l : Launch) (Mz : zMem) (hW : zMt Mz) (a0_ : Int) (ha0_a : -2147483648 ≤ a0_) (ha0_b : a0_ < 2147483648) (a1_ : Int) (ha1_a : -2147483648 ≤ a1_) (ha1_b : a1_ < 2147483648) (T : zGT) (hO : gOK T) (p0_ : zGB T Mz) : zC l m_M_within 0 0 [.ref 81, .int (Int32.ofInt a0_), .int (Int32.ofInt a1_)] Mz (zpI [] [] Mz (fun v N => (((0 ≤ a0_ ∧ a0_ < ((gF T).length : Int) ∧ 0 ≤ a1_ ∧ a1_ < ((gF T).length : Int) ∧ zfWi T a0_ (gFn T (a1_).toNat) v) ∨ (¬ (0 ≤ a0_ ∧ a0_ < ((gF T).length : Int) ∧ 0 ≤ a1_ ∧ a1_ < ((gF T).length : Int)) ∧ v = (-1 : Int)))))) := by
  refine zC_of (L0 := [some (.ref 81), some (.int (Int32.ofInt a0_)), some (.int (Int32.ofInt a1_)), none, none]) md_M_within (Nat.le_of_ble_eq_true rfl) rfl ?_ zQ0
  have hf : zFr [] [] Mz Mz := zFr.rf
  have r_25 := ze_r Mz 81 25
  have r_26 := ze_r Mz 81 26
  have hG := hO.1
  have g24 := hG.2.1
  have g1 := hG.1
  have dv0 : zTab T Mz := p0_.1
  have dv1 : zB 85 144 0 5 Mz := p0_.2.1
  have dv2 : zJX T Mz := p0_.2.2.1
  have dv3 : zFirs T Mz := p0_.2.2.2.1
  have dv4 : zSSm T Mz := p0_.2.2.2.2.1
  have dv5 : zGD Mz := zGB.d hO p0_
  have gb := dv5.1
  have gn := dv0.1
  have hfl_ := dv3.1
  have hjx_ := dv2
  have hj25_ := hjx_.1.1
  refine zw_aload_n (pc := 0) (n := 0) (x := 81) rfl (zdal_p dlD_M_within_23 (i := 0) rfl) ?_
  refine zw_iload_n (pc := 1) (n := 1) (x := Int32.ofInt a0_) rfl (zdal_p dlD_M_within_23 (i := 1) rfl) ?_
  refine zr_callV (hf.w hW) hf.x (pc := 2) [.int (Int32.ofInt a0_)] [] l_M_414 (c_M_isSortG l Mz (hf.w hW) a0_ ha0_a ha0_b T hO p0_) rfl rfl rfl (by decide) (Nat.le_of_ble_eq_true rfl) (zdal_p dlD_M_within_23 (i := 2) rfl) ?_
  rintro _ N1_ ⟨v2_, rfl, ⟨hv2_a, hv2_b⟩, hsN1_, hp0_N1_⟩
  obtain rfl := hsN1_.eq.symm
  replace hp0_N1_ : ((v2_ = 1 ∧ 0 ≤ a0_ ∧ a0_ < ze Mz 81 26) ∨ (v2_ = 0 ∧ (a0_ < 0 ∨ ze Mz 81 26 ≤ a0_))) := hp0_N1_
  rcases hp0_N1_ with ⟨rfl, ha2_0_hp0_N1_, ha2_1_hp0_N1_⟩ | ⟨rfl, ha2_0_hp0_N1_⟩
  · skip
    show zW l m_M_within (zn Mz + 0, zw Mz + 0) Mz 5 [some (.ref 81), some (.int (Int32.ofInt a0_)), some (.int (Int32.ofInt a1_)), none, none] [.int (Int32.ofInt 1)] _
    refine zr_if_eq (pc := 5) (tgt := 16) ⟨(by decide), (by decide)⟩ (by decide) (zdal_p dlD_M_within_23 (i := 3) rfl) (fun hc_5 => ?_) (fun hc_5 => ?_)
    · skip
      exact absurd hc_5 (by decide)
    · skip
      refine zw_aload_n (pc := 8) (n := 0) (x := 81) rfl (zdal_p dlD_M_within_23 (i := 4) rfl) ?_
      refine zw_iload_n (pc := 9) (n := 2) (x := Int32.ofInt a1_) rfl (zdal_p dlD_M_within_23 (i := 5) rfl) ?_
      refine zr_callV (hf.w hW) hf.x (pc := 10) [.int (Int32.ofInt a1_)] [] l_M_414 (c_M_isSortG l Mz (hf.w hW) a1_ ha1_a ha1_b T hO p0_) rfl rfl rfl (by decide) (Nat.le_of_ble_eq_true rfl) (zdal_p dlD_M_within_23 (i := 6) rfl) ?_
      rintro _ N3_ ⟨v4_, rfl, ⟨hv4_a, hv4_b⟩, hsN3_, hp0_N3_⟩
      obtain rfl := hsN3_.eq.symm
      replace hp0_N3_ : ((v4_ = 1 ∧ 0 ≤ a1_ ∧ a1_ < ze Mz 81 26) ∨ (v4_ = 0 ∧ (a1_ < 0 ∨ ze Mz 81 26 ≤ a1_))) := hp0_N3_
      rcases hp0_N3_ with ⟨rfl, ha10_0_hp0_N3_, ha10_1_hp0_N3_⟩ | ⟨rfl, ha10_0_hp0_N3_⟩
      · skip
        show zW l m_M_within (zn Mz + 0, zw Mz + 0) Mz 13 [some (.ref 81), some (.int (Int32.ofInt a0_)), some (.int (Int32.ofInt a1_)), none, none] [.int (Int32.ofInt 1)] _
        refine zr_if_ne (pc := 13) (tgt := 18) ⟨(by decide), (by decide)⟩ (by decide) (zdal_p dlD_M_within_23 (i := 7) rfl) (fun hc_13 => ?_) (fun hc_13 => ?_)
        · skip
          refine zw_iconst (pc := 18) (v := Int32.ofInt 0) (by decide) (zdal_p dlD_M_within_23 (i := 10) rfl) ?_
          refine zw_istore_n (pc := 19) (i := 3) (L2 := [some (.ref 81), some (.int (Int32.ofInt a0_)), some (.int (Int32.ofInt a1_)), some (.int (Int32.ofInt 0)), none]) rfl (by decide) rfl (zdal_p dlD_M_within_23 (i := 11) rfl) ?_
          refine zw_iconst (pc := 20) (v := Int32.ofInt 0) (by decide) (zdal_p dlD_M_within_23 (i := 12) rfl) ?_
          refine zw_istore (pc := 21) (i := 4) (L2 := [some (.ref 81), some (.int (Int32.ofInt a0_)), some (.int (Int32.ofInt a1_)), some (.int (Int32.ofInt 0)), some (.int (Int32.ofInt 0))]) (by decide) rfl (zdal_p dlD_M_within_23 (i := 13) rfl) ?_
          have lp_23 : ∀ (n : Nat) (u5_ : Int) (hu5_a : -2147483648 ≤ u5_) (hu5_b : u5_ < 2147483648) (u6_ : Int) (hu6_a : -2147483648 ≤ u6_) (hu6_b : u6_ < 2147483648) (i7_ : 0 ≤ u6_) (i8_ : u6_ ≤ ze Mz 81 25) (i9_ : 0 ≤ u5_) (i10_ : u5_ ≤ u6_) (i11_ : u5_ = ((zct (fun s_ => gWi T a0_ (gFn T (a1_).toNat) (ze Mz 89 s_).toNat) (u6_).toNat : Nat) : Int)), (ze Mz 81 25 - u6_).toNat < n → zW l m_M_within (zn Mz + 0, zw Mz + 0) Mz 23 [some (.ref 81), some (.int (Int32.ofInt a0_)), some (.int (Int32.ofInt a1_)), some (.int (Int32.ofInt u5_)), some (.int (Int32.ofInt u6_))] [] (zpI [] [] Mz (fun v N => (((0 ≤ a0_ ∧ a0_ < ((gF T).length : Int) ∧ 0 ≤ a1_ ∧ a1_ < ((gF T).length : Int) ∧ zfWi T a0_ (gFn T (a1_).toNat) v) ∨ (¬ (0 ≤ a0_ ∧ a0_ < ((gF T).length : Int) ∧ 0 ≤ a1_ ∧ a1_ < ((gF T).length : Int)) ∧ v = (-1 : Int)))))) := by
            intro n
            induction n with
            | zero =>
              intro u5_ hu5_a hu5_b u6_ hu6_a hu6_b i7_ i8_ i9_ i10_ i11_ h0
              exact absurd h0 (Nat.not_lt_zero _)
            | succ n ih_23 =>
              intro u5_ hu5_a hu5_b u6_ hu6_a hu6_b i7_ i8_ i9_ i10_ i11_ hlt_23
              have hwc_ := (show u5_ = ((zct (fun s_ => gWi T a0_ (gFn T (a1_).toNat) (ze Mz 89 s_).toNat) (u6_).toNat : Nat) : Int) by assumption)
              refine zw_iload (pc := 23) (i := 4) (x := Int32.ofInt u6_) rfl (zdal_p dlD_M_within_23 (i := 14) rfl) ?_
              refine zw_aload_n (pc := 25) (n := 0) (x := 81) rfl (zdal_p dlD_M_within_23 (i := 15) rfl) ?_
              refine zr_getI0 hf hW (pc := 26) (by decide) f_M_220 rfl (zdal_p dlD_M_within_23 (i := 16) rfl) ?_
              refine zr_icmp_ge (pc := 29) (tgt := 79) ⟨hu6_a, hu6_b⟩ ⟨(ze_r Mz 81 25).1, (ze_r Mz 81 25).2⟩ (by decide) (zdal_p dlD_M_within_23 (i := 17) rfl) (fun hc_29 => ?_) (fun hc_29 => ?_)
              · skip
                refine zw_iload_n (pc := 79) (n := 3) (x := Int32.ofInt u5_) rfl (zdal_p dlD_M_within_24 (i := 21) rfl) ?_
                exact zr_iret (pc := 80) (ty := .int) rfl rfl ⟨by omega, by omega⟩ hf (show ((0 ≤ a0_ ∧ a0_ < ((gF T).length : Int) ∧ 0 ≤ a1_ ∧ a1_ < ((gF T).length : Int) ∧ zfWi T a0_ (gFn T (a1_).toNat) u5_) ∨ (¬ (0 ≤ a0_ ∧ a0_ < ((gF T).length : Int) ∧ 0 ≤ a1_ ∧ a1_ < ((gF T).length : Int)) ∧ u5_ = (-1 : Int))) by exact Or.inl ⟨by omega, by omega, by omega, by omega, _, _, hjx_.en hO, by rw [show (ze Mz 81 25).toNat = (u6_).toNat by omega]; exact hwc_⟩) (zdal_p dlD_M_within_24 (i := 22) rfl)
              · skip
                refine zw_iload_n (pc := 32) (n := 3) (x := Int32.ofInt u5_) rfl (zdal_p dlD_M_within_23 (i := 18) rfl) ?_
                refine zw_aload_n (pc := 33) (n := 0) (x := 81) rfl (zdal_p dlD_M_within_23 (i := 19) rfl) ?_
                refine zr_getF (r := 90) (hf.w hW) (pc := 34) f_M_41 rfl (zh_90 (hf.w hW)).1 (zdal_p dlD_M_within_23 (i := 20) rfl) ?_
                refine zw_iload (pc := 37) (i := 4) (x := Int32.ofInt u6_) rfl (zdal_p dlD_M_within_23 (i := 21) rfl) ?_
                refine zr_ialdn (pc := 39) (zh_90 (hf.w hW)).2 (by decide) (by omega) (by omega) (zdal_p dlD_M_within_23 (i := 22) rfl) (fun v12_ hv12_ hv12_a hv12_b => ?_)
                have hv1_ := hv12_
                have hso_ := zSS.o (k := (u6_).toNat) hO dv3 dv4 (by omega)
                have hsq_ : v12_ = a0_ ↔ zSrt T (ze Mz 89 (u6_).toNat).toNat a0_ := by rw [hv1_]; exact hso_.q hO
                refine zw_iload_n (pc := 40) (n := 1) (x := Int32.ofInt a0_) rfl (zdal_p dlD_M_within_23 (i := 23) rfl) ?_
                refine zr_icmp_ne (pc := 41) (tgt := 67) ⟨hv12_a, hv12_b⟩ ⟨ha0_a, ha0_b⟩ (by decide) (zdal_p dlD_M_within_24 (i := 0) rfl) (fun hc_41 => ?_) (fun hc_41 => ?_)
                · skip
                  refine zw_iconst (pc := 67) (v := Int32.ofInt 0) (by decide) (zdal_p dlD_M_within_24 (i := 15) rfl) ?_
                  refine zr_callS hf.x (pc := 68) [.int (Int32.ofInt 0)] [.int (Int32.ofInt u5_)] l_M_256 (c_M_truth l Mz (hf.w hW) 0 (by decide) (by decide) (by omega)) rfl rfl (by decide) (Nat.le_of_ble_eq_true rfl) (zdal_p dlD_M_within_24 (i := 16) rfl) ?_
                  rintro _ N13_ ⟨v14_, rfl, ⟨hv14_a, hv14_b⟩, hsN13_, hp0_N13_⟩
                  obtain rfl := hsN13_.eq.symm
                  replace hp0_N13_ : v14_ = 0 := hp0_N13_
                  show zW l m_M_within (zn Mz + 0, zw Mz + 0) Mz 71 [some (.ref 81), some (.int (Int32.ofInt a0_)), some (.int (Int32.ofInt a1_)), some (.int (Int32.ofInt u5_)), some (.int (Int32.ofInt u6_))] [.int (Int32.ofInt v14_), .int (Int32.ofInt u5_)] _
                  refine zr_iadd (pc := 71) (zdal_p dlD_M_within_24 (i := 17) rfl) ?_
                  refine zw_istore_n (pc := 72) (i := 3) (L2 := [some (.ref 81), some (.int (Int32.ofInt a0_)), some (.int (Int32.ofInt a1_)), some (.int (Int32.ofInt (u5_ + v14_))), some (.int (Int32.ofInt u6_))]) rfl (by decide) rfl (zdal_p dlD_M_within_24 (i := 18) rfl) ?_
                  refine zr_iinc (pc := 73) (i := 4) (a := u6_) (n := 1) (L2 := [some (.ref 81), some (.int (Int32.ofInt a0_)), some (.int (Int32.ofInt a1_)), some (.int (Int32.ofInt (u5_ + v14_))), some (.int (Int32.ofInt (u6_ + 1)))]) rfl (by decide) rfl (zdal_p dlD_M_within_24 (i := 19) rfl) ?_
                  refine zw_goto (pc := 76) (tgt := 23) (by decide) (zdal_p dlD_M_within_24 (i := 20) rfl) ?_
                  have hwn_ : (u5_ + v14_) = ((zct (fun s_ => gWi T a0_ (gFn T (a1_).toNat) (ze Mz 89 s_).toNat) ((u6_ + 1)).toNat : Nat) : Int) := zct_T (p := (fun s_ => gWi T a0_ (gFn T (a1_).toNat) (ze Mz 89 s_).toNat)) (by omega) hwc_ (by first | exact Or.inl ⟨by omega, hsq_.mp (by omega), hzz_.mp (by omega)⟩ | exact Or.inr ⟨by omega, fun q_ => absurd (hsq_.mpr q_.1) (by omega)⟩ | exact Or.inr ⟨by omega, fun q_ => absurd (hzz_.mpr q_.2) (by omega)⟩)
                  exact ih_23 (u5_ + v14_) (by omega) (by omega) (u6_ + 1) (by omega) (by omega) (show 0 ≤ (u6_ + 1) by first | assumption | omega) (show (u6_ + 1) ≤ ze Mz 81 25 by first | assumption | omega) (show 0 ≤ (u5_ + v14_) by first | assumption | omega) (show (u5_ + v14_) ≤ (u6_ + 1) by first | assumption | omega) (show (u5_ + v14_) = ((zct (fun s_ => gWi T a0_ (gFn T (a1_).toNat) (ze Mz 89 s_).toNat) ((u6_ + 1)).toNat : Nat) : Int) by exact hwn_) (by omega)
                · skip
                  refine zw_aload_n (pc := 44) (n := 0) (x := 81) rfl (zdal_p dlD_M_within_24 (i := 1) rfl) ?_
                  refine zr_getF (r := 89) (hf.w hW) (pc := 45) f_M_38 rfl (zh_89 (hf.w hW)).1 (zdal_p dlD_M_within_24 (i := 2) rfl) ?_
                  refine zw_iload (pc := 48) (i := 4) (x := Int32.ofInt u6_) rfl (zdal_p dlD_M_within_24 (i := 3) rfl) ?_
                  refine zr_ialdn (pc := 50) (zh_89 (hf.w hW)).2 (by decide) (by omega) (by omega) (zdal_p dlD_M_within_24 (i := 4) rfl) (fun v15_ hv15_ hv15_a hv15_b => ?_)
                  have hsj_ := hjx_.g hO (e := u6_) (by omega) (by omega)
                  refine zr_toI (show v15_ = ze Mz 89 (u6_).toNat by omega) ?_
                  refine zw_aload_n (pc := 51) (n := 0) (x := 81) rfl (zdal_p dlD_M_within_24 (i := 5) rfl) ?_
                  refine zr_getF (r := 91) (hf.w hW) (pc := 52) f_M_44 rfl (zh_91 (hf.w hW)).1 (zdal_p dlD_M_within_24 (i := 6) rfl) ?_
                  refine zw_iload_n (pc := 55) (n := 2) (x := Int32.ofInt a1_) rfl (zdal_p dlD_M_within_24 (i := 7) rfl) ?_
                  refine zr_ialdn (pc := 56) (zh_91 (hf.w hW)).2 (by decide) (by omega) (by omega) (zdal_p dlD_M_within_24 (i := 8) rfl) (fun v16_ hv16_ hv16_a hv16_b => ?_)
                  have hfx_ := dv3.g hO (e := a1_) (by omega) (by omega)
                  refine zr_toI (show v16_ = ze Mz 91 (a1_).toNat by omega) ?_
                  have hfwc_ : (ze Mz 91 (a1_).toNat) = ((gFn T (a1_).toNat : Nat) : Int) := dv3.2 _ (by omega)
                  have hfmc_ := (hO.2.2.1.2.1 _ (gFn_m (T := T) (i := (a1_).toNat) (by omega))).1
                  have hfbc_ := gS_b hO hfmc_
                  refine zw_iconst (pc := 57) (v := Int32.ofInt (-1)) (by decide) (zdal_p dlD_M_within_24 (i := 9) rfl) ?_
                  refine zr_ixor (pc := 58) (zdal_p dlD_M_within_24 (i := 10) rfl) ?_
                  have hr17_ := zxor_r (ze Mz 91 (a1_).toNat) ((-1))
                  refine zr_iand (pc := 59) (zdal_p dlD_M_within_24 (i := 11) rfl) ?_
                  have hr18_ := zand_r (ze Mz 89 (u6_).toNat) (zxor (ze Mz 91 (a1_).toNat) ((-1)))
                  have hzz_ := zpa_n (b := (ze Mz 89 (u6_).toNat).toNat) (w := gFn T (a1_).toNat) (by omega) (by omega)
                  rw [Int.toNat_of_nonneg hsj_.2.1, ← hfwc_] at hzz_
                  refine zr_if_ne (pc := 60) (tgt := 67) ⟨(by omega), (by omega)⟩ (by decide) (zdal_p dlD_M_within_24 (i := 12) rfl) (fun hc_60 => ?_) (fun hc_60 => ?_)
                  · skip
                    refine zw_iconst (pc := 67) (v := Int32.ofInt 0) (by decide) (zdal_p dlD_M_within_24 (i := 15) rfl) ?_
                    refine zr_callS hf.x (pc := 68) [.int (Int32.ofInt 0)] [.int (Int32.ofInt u5_)] l_M_256 (c_M_truth l Mz (hf.w hW) 0 (by decide) (by decide) (by omega)) rfl rfl (by decide) (Nat.le_of_ble_eq_true rfl) (zdal_p dlD_M_within_24 (i := 16) rfl) ?_
                    rintro _ N19_ ⟨v20_, rfl, ⟨hv20_a, hv20_b⟩, hsN19_, hp0_N19_⟩
                    obtain rfl := hsN19_.eq.symm
                    replace hp0_N19_ : v20_ = 0 := hp0_N19_
                    show zW l m_M_within (zn Mz + 0, zw Mz + 0) Mz 71 [some (.ref 81), some (.int (Int32.ofInt a0_)), some (.int (Int32.ofInt a1_)), some (.int (Int32.ofInt u5_)), some (.int (Int32.ofInt u6_))] [.int (Int32.ofInt v20_), .int (Int32.ofInt u5_)] _
                    refine zr_iadd (pc := 71) (zdal_p dlD_M_within_24 (i := 17) rfl) ?_
                    refine zw_istore_n (pc := 72) (i := 3) (L2 := [some (.ref 81), some (.int (Int32.ofInt a0_)), some (.int (Int32.ofInt a1_)), some (.int (Int32.ofInt (u5_ + v20_))), some (.int (Int32.ofInt u6_))]) rfl (by decide) rfl (zdal_p dlD_M_within_24 (i := 18) rfl) ?_
                    refine zr_iinc (pc := 73) (i := 4) (a := u6_) (n := 1) (L2 := [some (.ref 81), some (.int (Int32.ofInt a0_)), some (.int (Int32.ofInt a1_)), some (.int (Int32.ofInt (u5_ + v20_))), some (.int (Int32.ofInt (u6_ + 1)))]) rfl (by decide) rfl (zdal_p dlD_M_within_24 (i := 19) rfl) ?_
                    refine zw_goto (pc := 76) (tgt := 23) (by decide) (zdal_p dlD_M_within_24 (i := 20) rfl) ?_
                    have hwn_ : (u5_ + v20_) = ((zct (fun s_ => gWi T a0_ (gFn T (a1_).toNat) (ze Mz 89 s_).toNat) ((u6_ + 1)).toNat : Nat) : Int) := zct_T (p := (fun s_ => gWi T a0_ (gFn T (a1_).toNat) (ze Mz 89 s_).toNat)) (by omega) hwc_ (by first | exact Or.inl ⟨by omega, hsq_.mp (by omega), hzz_.mp (by omega)⟩ | exact Or.inr ⟨by omega, fun q_ => absurd (hsq_.mpr q_.1) (by omega)⟩ | exact Or.inr ⟨by omega, fun q_ => absurd (hzz_.mpr q_.2) (by omega)⟩)
                    exact ih_23 (u5_ + v20_) (by omega) (by omega) (u6_ + 1) (by omega) (by omega) (show 0 ≤ (u6_ + 1) by first | assumption | omega) (show (u6_ + 1) ≤ ze Mz 81 25 by first | assumption | omega) (show 0 ≤ (u5_ + v20_) by first | assumption | omega) (show (u5_ + v20_) ≤ (u6_ + 1) by first | assumption | omega) (show (u5_ + v20_) = ((zct (fun s_ => gWi T a0_ (gFn T (a1_).toNat) (ze Mz 89 s_).toNat) ((u6_ + 1)).toNat : Nat) : Int) by exact hwn_) (by omega)
                  · skip
                    refine zw_iconst (pc := 63) (v := Int32.ofInt 1) (by decide) (zdal_p dlD_M_within_24 (i := 13) rfl) ?_
                    refine zw_goto (pc := 64) (tgt := 68) (by decide) (zdal_p dlD_M_within_24 (i := 14) rfl) ?_
                    refine zr_callS hf.x (pc := 68) [.int (Int32.ofInt 1)] [.int (Int32.ofInt u5_)] l_M_256 (c_M_truth l Mz (hf.w hW) 1 (by decide) (by decide) (by omega)) rfl rfl (by decide) (Nat.le_of_ble_eq_true rfl) (zdal_p dlD_M_within_24 (i := 16) rfl) ?_
                    rintro _ N21_ ⟨v22_, rfl, ⟨hv22_a, hv22_b⟩, hsN21_, hp0_N21_⟩
                    obtain rfl := hsN21_.eq.symm
                    replace hp0_N21_ : v22_ = 1 := hp0_N21_
                    show zW l m_M_within (zn Mz + 0, zw Mz + 0) Mz 71 [some (.ref 81), some (.int (Int32.ofInt a0_)), some (.int (Int32.ofInt a1_)), some (.int (Int32.ofInt u5_)), some (.int (Int32.ofInt u6_))] [.int (Int32.ofInt v22_), .int (Int32.ofInt u5_)] _
                    refine zr_iadd (pc := 71) (zdal_p dlD_M_within_24 (i := 17) rfl) ?_
                    refine zw_istore_n (pc := 72) (i := 3) (L2 := [some (.ref 81), some (.int (Int32.ofInt a0_)), some (.int (Int32.ofInt a1_)), some (.int (Int32.ofInt (u5_ + v22_))), some (.int (Int32.ofInt u6_))]) rfl (by decide) rfl (zdal_p dlD_M_within_24 (i := 18) rfl) ?_
                    refine zr_iinc (pc := 73) (i := 4) (a := u6_) (n := 1) (L2 := [some (.ref 81), some (.int (Int32.ofInt a0_)), some (.int (Int32.ofInt a1_)), some (.int (Int32.ofInt (u5_ + v22_))), some (.int (Int32.ofInt (u6_ + 1)))]) rfl (by decide) rfl (zdal_p dlD_M_within_24 (i := 19) rfl) ?_
                    refine zw_goto (pc := 76) (tgt := 23) (by decide) (zdal_p dlD_M_within_24 (i := 20) rfl) ?_
                    have hwn_ : (u5_ + v22_) = ((zct (fun s_ => gWi T a0_ (gFn T (a1_).toNat) (ze Mz 89 s_).toNat) ((u6_ + 1)).toNat : Nat) : Int) := zct_T (p := (fun s_ => gWi T a0_ (gFn T (a1_).toNat) (ze Mz 89 s_).toNat)) (by omega) hwc_ (by first | exact Or.inl ⟨by omega, hsq_.mp (by omega), hzz_.mp (by omega)⟩ | exact Or.inr ⟨by omega, fun q_ => absurd (hsq_.mpr q_.1) (by omega)⟩ | exact Or.inr ⟨by omega, fun q_ => absurd (hzz_.mpr q_.2) (by omega)⟩)
                    exact ih_23 (u5_ + v22_) (by omega) (by omega) (u6_ + 1) (by omega) (by omega) (show 0 ≤ (u6_ + 1) by first | assumption | omega) (show (u6_ + 1) ≤ ze Mz 81 25 by first | assumption | omega) (show 0 ≤ (u5_ + v22_) by first | assumption | omega) (show (u5_ + v22_) ≤ (u6_ + 1) by first | assumption | omega) (show (u5_ + v22_) = ((zct (fun s_ => gWi T a0_ (gFn T (a1_).toNat) (ze Mz 89 s_).toNat) ((u6_ + 1)).toNat : Nat) : Int) by exact hwn_) (by omega)
          exact lp_23 _ 0 (by decide) (by decide) 0 (by decide) (by decide) (show 0 ≤ (0 : Int) by first | assumption | omega) (show (0 : Int) ≤ ze Mz 81 25 by first | assumption | omega) (show 0 ≤ (0 : Int) by first | assumption | omega) (show (0 : Int) ≤ (0 : Int) by first | assumption | omega) (show (0 : Int) = ((zct (fun s_ => gWi T a0_ (gFn T (a1_).toNat) (ze Mz 89 s_).toNat) ((0 : Int)).toNat : Nat) : Int) by rfl) (Nat.lt_succ_self _)
        · skip
          exact absurd hc_13 (by decide)
      · skip
        show zW l m_M_within (zn Mz + 0, zw Mz + 0) Mz 13 [some (.ref 81), some (.int (Int32.ofInt a0_)), some (.int (Int32.ofInt a1_)), none, none] [.int (Int32.ofInt 0)] _
        refine zr_if_ne (pc := 13) (tgt := 18) ⟨(by decide), (by decide)⟩ (by decide) (zdal_p dlD_M_within_23 (i := 7) rfl) (fun hc_13 => ?_) (fun hc_13 => ?_)
        · skip
          exact absurd hc_13 (by decide)
        · skip
          refine zw_iconst (pc := 16) (v := Int32.ofInt (-1)) (by decide) (zdal_p dlD_M_within_23 (i := 8) rfl) ?_
          exact zr_iret (pc := 17) (ty := .int) rfl rfl ⟨by omega, by omega⟩ hf (show ((0 ≤ a0_ ∧ a0_ < ((gF T).length : Int) ∧ 0 ≤ a1_ ∧ a1_ < ((gF T).length : Int) ∧ zfWi T a0_ (gFn T (a1_).toNat) ((-1))) ∨ (¬ (0 ≤ a0_ ∧ a0_ < ((gF T).length : Int) ∧ 0 ≤ a1_ ∧ a1_ < ((gF T).length : Int)) ∧ ((-1)) = (-1 : Int))) by exact Or.inr ⟨by omega, rfl⟩) (zdal_p dlD_M_within_23 (i := 9) rfl)
  · skip
    show zW l m_M_within (zn Mz + 0, zw Mz + 0) Mz 5 [some (.ref 81), some (.int (Int32.ofInt a0_)), some (.int (Int32.ofInt a1_)), none, none] [.int (Int32.ofInt 0)] _
    refine zr_if_eq (pc := 5) (tgt := 16) ⟨(by decide), (by decide)⟩ (by decide) (zdal_p dlD_M_within_23 (i := 3) rfl) (fun hc_5 => ?_) (fun hc_5 => ?_)
    · skip
      refine zw_iconst (pc := 16) (v := Int32.ofInt (-1)) (by decide) (zdal_p dlD_M_within_23 (i := 8) rfl) ?_
      exact zr_iret (pc := 17) (ty := .int) rfl rfl ⟨by omega, by omega⟩ hf (show ((0 ≤ a0_ ∧ a0_ < ((gF T).length : Int) ∧ 0 ≤ a1_ ∧ a1_ < ((gF T).length : Int) ∧ zfWi T a0_ (gFn T (a1_).toNat) ((-1))) ∨ (¬ (0 ≤ a0_ ∧ a0_ < ((gF T).length : Int) ∧ 0 ≤ a1_ ∧ a1_ < ((gF T).length : Int)) ∧ ((-1)) = (-1 : Int))) by exact Or.inr ⟨by omega, rfl⟩) (zdal_p dlD_M_within_23 (i := 9) rfl)
    · skip
      exact absurd hc_5 (by decide)
