set_option maxHeartbeats 4000000 in
theorem c_M_areAlikeG (l : Launch) (Mz : zMem) (hW : zMt Mz) (a0_ : Int) (ha0_a : -2147483648 ≤ a0_) (ha0_b : a0_ < 2147483648) (T : zGT) (hO : gOK T) (p0_ : zGB T Mz) (p1_ : 0 ≤ a0_) (p2_ : a0_ < 16777216) : zC l m_M_areAlike 0 0 [.ref 81, .int (Int32.ofInt a0_)] Mz (zpI [] [] Mz (fun v N => (((v = 1 ∧ gAb T (a0_).toNat) ∨ (v = 0 ∧ ¬ gAb T (a0_).toNat))))) := by
  refine zC_of (L0 := [some (.ref 81), some (.int (Int32.ofInt a0_)), none, none]) md_M_areAlike (Nat.le_of_ble_eq_true rfl) rfl ?_ zQ0
  have hf : zFr [] [] Mz Mz := zFr.rf
  have r_20 := ze_r Mz 81 20
  have hG := hO.1
  have g24 := hG.2.1
  have g1 := hG.1
  have dv0 : zTab T Mz := p0_.1
  have dv1 : zB 85 144 0 5 Mz := p0_.2.1
  have dv2 : zJX T Mz := p0_.2.2.1
  have dv3 : zFirs T Mz := p0_.2.2.2.1
  have dv4 : zSSm T Mz := p0_.2.2.2.2.1
  have dv5 : zGD Mz := zGB.d hO p0_
  have gb := dv5.1
  have gn := dv0.1
  have hsz_ := dv0.1
  refine zw_iconst (pc := 0) (v := Int32.ofInt 0) (by decide) (zdal_p dlC_M_areAlike_148 (i := 0) rfl) ?_
  refine zw_istore_n (pc := 1) (i := 2) (L2 := [some (.ref 81), some (.int (Int32.ofInt a0_)), some (.int (Int32.ofInt 0)), none]) rfl (by decide) rfl (zdal_p dlC_M_areAlike_148 (i := 1) rfl) ?_
  have lp_2 : ∀ (n : Nat) (u1_ : Int) (hu1_a : -2147483648 ≤ u1_) (hu1_b : u1_ < 2147483648) (i2_ : 0 ≤ u1_) (i3_ : u1_ ≤ gN T) (i4_ : zAbI T (a0_).toNat u1_ 0), (gN T - u1_).toNat < n → zW l m_M_areAlike (zn Mz + 0, zw Mz + 0) Mz 2 [some (.ref 81), some (.int (Int32.ofInt a0_)), some (.int (Int32.ofInt u1_)), none] [] (zpI [] [] Mz (fun v N => (((v = 1 ∧ gAb T (a0_).toNat) ∨ (v = 0 ∧ ¬ gAb T (a0_).toNat))))) := by
    intro n
    induction n with
    | zero =>
      intro u1_ hu1_a hu1_b i2_ i3_ i4_ h0
      exact absurd h0 (Nat.not_lt_zero _)
    | succ n ih_2 =>
      intro u1_ hu1_a hu1_b i2_ i3_ i4_ hlt_2
      have haa_ := (show zAbI T (a0_).toNat u1_ 0 by first | with_reducible assumption | assumption)
      refine zw_iload_n (pc := 2) (n := 2) (x := Int32.ofInt u1_) rfl (zdal_p dlC_M_areAlike_148 (i := 2) rfl) ?_
      refine zw_aload_n (pc := 3) (n := 0) (x := 81) rfl (zdal_p dlC_M_areAlike_148 (i := 3) rfl) ?_
      refine zr_getI0 hf hW (pc := 4) (by decide) f_M_196 rfl (zdal_p dlC_M_areAlike_148 (i := 4) rfl) ?_
      refine zr_icmp_ge (pc := 7) (tgt := 65) ⟨hu1_a, hu1_b⟩ ⟨(ze_r Mz 81 20).1, (ze_r Mz 81 20).2⟩ (by decide) (zdal_p dlC_M_areAlike_148 (i := 5) rfl) (fun hc_7 => ?_) (fun hc_7 => ?_)
      · skip
        refine zw_iconst (pc := 65) (v := Int32.ofInt 1) (by decide) (zdal_p dlC_M_areAlike_149 (i := 11) rfl) ?_
        exact zr_iret (pc := 66) (ty := .boolean) rfl (z_narB (by omega)) ⟨by omega, by omega⟩ hf (show ((1 = 1 ∧ gAb T (a0_).toNat) ∨ (1 = 0 ∧ ¬ gAb T (a0_).toNat)) from Or.inl (⟨(show 1 = 1 by first | rfl | exact zAbI_e (by omega) haa_), (show gAb T (a0_).toNat by first | rfl | exact zAbI_e (by omega) haa_)⟩)) (zdal_p dlC_M_areAlike_149 (i := 12) rfl)
      · skip
        refine zw_iconst (pc := 10) (v := Int32.ofInt 0) (by decide) (zdal_p dlC_M_areAlike_148 (i := 6) rfl) ?_
        refine zw_istore_n (pc := 11) (i := 3) (L2 := [some (.ref 81), some (.int (Int32.ofInt a0_)), some (.int (Int32.ofInt u1_)), some (.int (Int32.ofInt 0))]) rfl (by decide) rfl (zdal_p dlC_M_areAlike_148 (i := 7) rfl) ?_
        have lp_12 : ∀ (n : Nat) (u5_ : Int) (hu5_a : -2147483648 ≤ u5_) (hu5_b : u5_ < 2147483648) (i6_ : 0 ≤ u5_) (i7_ : u5_ ≤ gN T) (i8_ : zAbI T (a0_).toNat u1_ u5_), (gN T - u5_).toNat < n → zW l m_M_areAlike (zn Mz + 0, zw Mz + 0) Mz 12 [some (.ref 81), some (.int (Int32.ofInt a0_)), some (.int (Int32.ofInt u1_)), some (.int (Int32.ofInt u5_))] [] (zpI [] [] Mz (fun v N => (((v = 1 ∧ gAb T (a0_).toNat) ∨ (v = 0 ∧ ¬ gAb T (a0_).toNat))))) := by
          intro n
          induction n with
          | zero =>
            intro u5_ hu5_a hu5_b i6_ i7_ i8_ h0
            exact absurd h0 (Nat.not_lt_zero _)
          | succ n ih_12 =>
            intro u5_ hu5_a hu5_b i6_ i7_ i8_ hlt_12
            have hab_ := (show zAbI T (a0_).toNat u1_ u5_ by first | with_reducible assumption | assumption)
            refine zw_iload_n (pc := 12) (n := 3) (x := Int32.ofInt u5_) rfl (zdal_p dlC_M_areAlike_148 (i := 8) rfl) ?_
            refine zw_aload_n (pc := 13) (n := 0) (x := 81) rfl (zdal_p dlC_M_areAlike_148 (i := 9) rfl) ?_
            refine zr_getI0 hf hW (pc := 14) (by decide) f_M_196 rfl (zdal_p dlC_M_areAlike_148 (i := 10) rfl) ?_
            refine zr_icmp_ge (pc := 17) (tgt := 59) ⟨hu5_a, hu5_b⟩ ⟨(ze_r Mz 81 20).1, (ze_r Mz 81 20).2⟩ (by decide) (zdal_p dlC_M_areAlike_148 (i := 11) rfl) (fun hc_17 => ?_) (fun hc_17 => ?_)
            · skip
              refine zr_iinc (pc := 59) (i := 2) (a := u1_) (n := 1) (L2 := [some (.ref 81), some (.int (Int32.ofInt a0_)), some (.int (Int32.ofInt (u1_ + 1))), some (.int (Int32.ofInt u5_))]) rfl (by decide) rfl (zdal_p dlC_M_areAlike_149 (i := 9) rfl) ?_
              refine zw_goto (pc := 62) (tgt := 2) (by decide) (zdal_p dlC_M_areAlike_149 (i := 10) rfl) ?_
              have haf_ := zAbI_f (by omega) hab_
              refine zW_le [some (.ref 81), some (.int (Int32.ofInt a0_)), some (.int (Int32.ofInt (u1_ + 1))), none] (⟨rfl, rfl, rfl, trivial⟩) ?_
              exact ih_2 (u1_ + 1) (by omega) (by omega) (show 0 ≤ (u1_ + 1) by first | with_reducible assumption | assumption | omega) (show (u1_ + 1) ≤ gN T by first | with_reducible assumption | assumption | omega) (show zAbI T (a0_).toNat (u1_ + 1) 0 by exact haf_) (by omega)
            · skip
              refine zw_iload_n (pc := 20) (n := 1) (x := Int32.ofInt a0_) rfl (zdal_p dlC_M_areAlike_148 (i := 12) rfl) ?_
              refine zw_iload_n (pc := 21) (n := 2) (x := Int32.ofInt u1_) rfl (zdal_p dlC_M_areAlike_148 (i := 13) rfl) ?_
              refine zr_callS hf.x (pc := 22) [.int (Int32.ofInt a0_), .int (Int32.ofInt u1_)] [] l_M_213 (c_M_holds l Mz (hf.w hW) a0_ ha0_a ha0_b u1_ hu1_a hu1_b (show 0 ≤ a0_ by first | with_reducible assumption | assumption | omega) (show 0 ≤ u1_ by first | with_reducible assumption | assumption | omega) (show u1_ < 32 by first | with_reducible assumption | assumption | omega)) rfl rfl (by decide) (Nat.le_of_ble_eq_true rfl) (zdal_p dlC_M_areAlike_148 (i := 14) rfl) ?_
              rintro _ N9_ ⟨v10_, rfl, ⟨hv10_a, hv10_b⟩, hsN9_, hp0_N9_⟩
              obtain rfl := hsN9_.eq.symm
              replace hp0_N9_ : ((v10_ = 1 ∧ zbt a0_ u1_) ∨ (v10_ = 0 ∧ ¬ zbt a0_ u1_)) := hp0_N9_
              rcases hp0_N9_ with ⟨rfl, ha22_0_hp0_N9_⟩ | ⟨rfl, ha22_0_hp0_N9_⟩
              · skip
                have hba_ := ha22_0_hp0_N9_
                show zW l m_M_areAlike (zn Mz + 0, zw Mz + 0) Mz 25 [some (.ref 81), some (.int (Int32.ofInt a0_)), some (.int (Int32.ofInt u1_)), some (.int (Int32.ofInt u5_))] [.int (Int32.ofInt 1)] _
                refine zr_if_eq (pc := 25) (tgt := 53) ⟨(by decide), (by decide)⟩ (by decide) (zdal_p dlC_M_areAlike_148 (i := 15) rfl) (fun hc_25 => ?_) (fun hc_25 => ?_)
                · skip
                  exact absurd hc_25 (by decide)
                · skip
                  refine zw_iload_n (pc := 28) (n := 1) (x := Int32.ofInt a0_) rfl (zdal_p dlC_M_areAlike_148 (i := 16) rfl) ?_
                  refine zw_iload_n (pc := 29) (n := 3) (x := Int32.ofInt u5_) rfl (zdal_p dlC_M_areAlike_148 (i := 17) rfl) ?_
                  refine zr_callS hf.x (pc := 30) [.int (Int32.ofInt a0_), .int (Int32.ofInt u5_)] [] l_M_213 (c_M_holds l Mz (hf.w hW) a0_ ha0_a ha0_b u5_ hu5_a hu5_b (show 0 ≤ a0_ by first | with_reducible assumption | assumption | omega) (show 0 ≤ u5_ by first | with_reducible assumption | assumption | omega) (show u5_ < 32 by first | with_reducible assumption | assumption | omega)) rfl rfl (by decide) (Nat.le_of_ble_eq_true rfl) (zdal_p dlC_M_areAlike_148 (i := 18) rfl) ?_
                  rintro _ N11_ ⟨v12_, rfl, ⟨hv12_a, hv12_b⟩, hsN11_, hp0_N11_⟩
                  obtain rfl := hsN11_.eq.symm
                  replace hp0_N11_ : ((v12_ = 1 ∧ zbt a0_ u5_) ∨ (v12_ = 0 ∧ ¬ zbt a0_ u5_)) := hp0_N11_
                  rcases hp0_N11_ with ⟨rfl, ha30_0_hp0_N11_⟩ | ⟨rfl, ha30_0_hp0_N11_⟩
                  · skip
                    have hbb_ := ha30_0_hp0_N11_
                    show zW l m_M_areAlike (zn Mz + 0, zw Mz + 0) Mz 33 [some (.ref 81), some (.int (Int32.ofInt a0_)), some (.int (Int32.ofInt u1_)), some (.int (Int32.ofInt u5_))] [.int (Int32.ofInt 1)] _
                    refine zr_if_eq (pc := 33) (tgt := 53) ⟨(by decide), (by decide)⟩ (by decide) (zdal_p dlC_M_areAlike_148 (i := 19) rfl) (fun hc_33 => ?_) (fun hc_33 => ?_)
                    · skip
                      exact absurd hc_33 (by decide)
                    · skip
                      refine zw_aload_n (pc := 36) (n := 0) (x := 81) rfl (zdal_p dlC_M_areAlike_148 (i := 20) rfl) ?_
                      refine zw_iload_n (pc := 37) (n := 2) (x := Int32.ofInt u1_) rfl (zdal_p dlC_M_areAlike_148 (i := 21) rfl) ?_
                      refine zw_iload_n (pc := 38) (n := 3) (x := Int32.ofInt u5_) rfl (zdal_p dlC_M_areAlike_148 (i := 22) rfl) ?_
                      refine zr_callV (hf.w hW) hf.x (pc := 39) [.int (Int32.ofInt u1_), .int (Int32.ofInt u5_)] [] l_M_216 (c_M_by l Mz (hf.w hW) u1_ hu1_a hu1_b u5_ hu5_a hu5_b T hG dv0 (show 0 ≤ u1_ by first | with_reducible assumption | assumption | omega) (show u1_ < ze Mz 81 20 by first | with_reducible assumption | assumption | omega) (show 0 ≤ u5_ by first | with_reducible assumption | assumption | omega) (show u5_ < ze Mz 81 20 by first | with_reducible assumption | assumption | omega)) rfl rfl rfl (by decide) (Nat.le_of_ble_eq_true rfl) (zdal_p dlC_M_areAlike_148 (i := 23) rfl) ?_
                      rintro _ N13_ ⟨v14_, rfl, ⟨hv14_a, hv14_b⟩, hsN13_, ⟨hp0_N13_, hp1_N13_, hp2_N13_⟩⟩
                      obtain rfl := hsN13_.eq.symm
                      show zW l m_M_areAlike (zn Mz + 0, zw Mz + 0) Mz 42 [some (.ref 81), some (.int (Int32.ofInt a0_)), some (.int (Int32.ofInt u1_)), some (.int (Int32.ofInt u5_))] [.int (Int32.ofInt v14_)] _
                      have hq1_ := hp0_N13_
                      refine zw_aload_n (pc := 42) (n := 0) (x := 81) rfl (zdal_p dlC_M_areAlike_149 (i := 0) rfl) ?_
                      refine zw_iload_n (pc := 43) (n := 3) (x := Int32.ofInt u5_) rfl (zdal_p dlC_M_areAlike_149 (i := 1) rfl) ?_
                      refine zw_iload_n (pc := 44) (n := 2) (x := Int32.ofInt u1_) rfl (zdal_p dlC_M_areAlike_149 (i := 2) rfl) ?_
                      refine zr_callV (hf.w hW) hf.x (pc := 45) [.int (Int32.ofInt u5_), .int (Int32.ofInt u1_)] [.int (Int32.ofInt v14_)] l_M_216 (c_M_by l Mz (hf.w hW) u5_ hu5_a hu5_b u1_ hu1_a hu1_b T hG dv0 (show 0 ≤ u5_ by first | with_reducible assumption | assumption | omega) (show u5_ < ze Mz 81 20 by first | with_reducible assumption | assumption | omega) (show 0 ≤ u1_ by first | with_reducible assumption | assumption | omega) (show u1_ < ze Mz 81 20 by first | with_reducible assumption | assumption | omega)) rfl rfl rfl (by decide) (Nat.le_of_ble_eq_true rfl) (zdal_p dlC_M_areAlike_149 (i := 3) rfl) ?_
                      rintro _ N15_ ⟨v16_, rfl, ⟨hv16_a, hv16_b⟩, hsN15_, ⟨hp0_N15_, hp1_N15_, hp2_N15_⟩⟩
                      obtain rfl := hsN15_.eq.symm
                      show zW l m_M_areAlike (zn Mz + 0, zw Mz + 0) Mz 48 [some (.ref 81), some (.int (Int32.ofInt a0_)), some (.int (Int32.ofInt u1_)), some (.int (Int32.ofInt u5_))] [.int (Int32.ofInt v16_), .int (Int32.ofInt v14_)] _
                      have hq2_ := hp0_N15_
                      refine zr_icmp_eq (pc := 48) (tgt := 53) ⟨hv14_a, hv14_b⟩ ⟨hv16_a, hv16_b⟩ (by decide) (zdal_p dlC_M_areAlike_149 (i := 4) rfl) (fun hc_48 => ?_) (fun hc_48 => ?_)
                      · skip
                        refine zr_iinc (pc := 53) (i := 3) (a := u5_) (n := 1) (L2 := [some (.ref 81), some (.int (Int32.ofInt a0_)), some (.int (Int32.ofInt u1_)), some (.int (Int32.ofInt (u5_ + 1)))]) rfl (by decide) rfl d_M_areAlike_53 ?_
                        refine zw_goto (pc := 56) (tgt := 12) (by decide) d_M_areAlike_56 ?_
                        have hbx_ : zAbI T (a0_).toNat u1_ (u5_ + 1) := by first | exact hbn_ | exact zAbI_s (by omega) (by omega) hab_ (Or.inr (Or.inr (by omega)))
                        exact ih_12 (u5_ + 1) (by omega) (by omega) (show 0 ≤ (u5_ + 1) by first | with_reducible assumption | assumption | omega) (show (u5_ + 1) ≤ gN T by first | with_reducible assumption | assumption | omega) (show zAbI T (a0_).toNat u1_ (u5_ + 1) by exact hbx_) (by omega)
                      · skip
                        refine zw_iconst (pc := 51) (v := Int32.ofInt 0) (by decide) (zdal_p dlC_M_areAlike_149 (i := 5) rfl) ?_
                        exact zr_iret (pc := 52) (ty := .boolean) rfl (z_narB (by omega)) ⟨by omega, by omega⟩ hf (show ((0 = 1 ∧ gAb T (a0_).toNat) ∨ (0 = 0 ∧ ¬ gAb T (a0_).toNat)) from Or.inr (⟨(show 0 = 0 by first | rfl | exact (fun q_ => by have q2_ := q_ (u1_).toNat (u5_).toNat (by omega) (by omega) hba_ hbb_; omega)), (show ¬ gAb T (a0_).toNat by first | rfl | exact (fun q_ => by have q2_ := q_ (u1_).toNat (u5_).toNat (by omega) (by omega) hba_ hbb_; omega))⟩)) (zdal_p dlC_M_areAlike_149 (i := 6) rfl)
                  · skip
                    have hbn_ := zAbI_s (by omega) (by omega) hab_ (Or.inr (Or.inl ha30_0_hp0_N11_))
                    show zW l m_M_areAlike (zn Mz + 0, zw Mz + 0) Mz 33 [some (.ref 81), some (.int (Int32.ofInt a0_)), some (.int (Int32.ofInt u1_)), some (.int (Int32.ofInt u5_))] [.int (Int32.ofInt 0)] _
                    refine zr_if_eq (pc := 33) (tgt := 53) ⟨(by decide), (by decide)⟩ (by decide) (zdal_p dlC_M_areAlike_148 (i := 19) rfl) (fun hc_33 => ?_) (fun hc_33 => ?_)
                    · skip
                      refine zr_iinc (pc := 53) (i := 3) (a := u5_) (n := 1) (L2 := [some (.ref 81), some (.int (Int32.ofInt a0_)), some (.int (Int32.ofInt u1_)), some (.int (Int32.ofInt (u5_ + 1)))]) rfl (by decide) rfl d_M_areAlike_53 ?_
                      refine zw_goto (pc := 56) (tgt := 12) (by decide) d_M_areAlike_56 ?_
                      have hbx_ : zAbI T (a0_).toNat u1_ (u5_ + 1) := by first | exact hbn_ | exact zAbI_s (by omega) (by omega) hab_ (Or.inr (Or.inr (by omega)))
                      exact ih_12 (u5_ + 1) (by omega) (by omega) (show 0 ≤ (u5_ + 1) by first | with_reducible assumption | assumption | omega) (show (u5_ + 1) ≤ gN T by first | with_reducible assumption | assumption | omega) (show zAbI T (a0_).toNat u1_ (u5_ + 1) by exact hbx_) (by omega)
                    · skip
                      exact absurd hc_33 (by decide)
              · skip
                have hbn_ := zAbI_s (by omega) (by omega) hab_ (Or.inl ha22_0_hp0_N9_)
                show zW l m_M_areAlike (zn Mz + 0, zw Mz + 0) Mz 25 [some (.ref 81), some (.int (Int32.ofInt a0_)), some (.int (Int32.ofInt u1_)), some (.int (Int32.ofInt u5_))] [.int (Int32.ofInt 0)] _
                refine zr_if_eq (pc := 25) (tgt := 53) ⟨(by decide), (by decide)⟩ (by decide) (zdal_p dlC_M_areAlike_148 (i := 15) rfl) (fun hc_25 => ?_) (fun hc_25 => ?_)
                · skip
                  refine zr_iinc (pc := 53) (i := 3) (a := u5_) (n := 1) (L2 := [some (.ref 81), some (.int (Int32.ofInt a0_)), some (.int (Int32.ofInt u1_)), some (.int (Int32.ofInt (u5_ + 1)))]) rfl (by decide) rfl d_M_areAlike_53 ?_
                  refine zw_goto (pc := 56) (tgt := 12) (by decide) d_M_areAlike_56 ?_
                  have hbx_ : zAbI T (a0_).toNat u1_ (u5_ + 1) := by first | exact hbn_ | exact zAbI_s (by omega) (by omega) hab_ (Or.inr (Or.inr (by omega)))
                  exact ih_12 (u5_ + 1) (by omega) (by omega) (show 0 ≤ (u5_ + 1) by first | with_reducible assumption | assumption | omega) (show (u5_ + 1) ≤ gN T by first | with_reducible assumption | assumption | omega) (show zAbI T (a0_).toNat u1_ (u5_ + 1) by exact hbx_) (by omega)
                · skip
                  exact absurd hc_25 (by decide)
        exact lp_12 _ 0 (by decide) (by decide) (show 0 ≤ (0 : Int) by first | with_reducible assumption | assumption | omega) (show (0 : Int) ≤ gN T by first | with_reducible assumption | assumption | omega) (show zAbI T (a0_).toNat u1_ (0 : Int) by exact haa_) (Nat.lt_succ_self _)
  exact lp_2 _ 0 (by decide) (by decide) (show 0 ≤ (0 : Int) by first | with_reducible assumption | assumption | omega) (show (0 : Int) ≤ gN T by first | with_reducible assumption | assumption | omega) (show zAbI T (a0_).toNat (0 : Int) 0 by exact zAbI_0) (Nat.lt_succ_self _)
