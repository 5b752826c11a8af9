set_option maxHeartbeats 4000000 in
theorem c_M_alikeG (l : Launch) (Mz : zMem) (hW : zMt Mz) (T : zGT) (hO : gOK T) (p0_ : zGB T Mz) : zC l m_M_alike 0 0 [.ref 81] Mz (zpI [] [] Mz (fun v N => v = ((gAlk T (gN T) : Nat) : Int))) := by
  refine zC_of (L0 := [some (.ref 81), none, none, none]) md_M_alike (Nat.le_of_ble_eq_true rfl) rfl ?_ zQ0
  have hf : zFr [] [] Mz Mz := zFr.rf
  have r_20 := ze_r Mz 81 20
  have hG := hO.1
  have g24 := hG.2.1
  have g1 := hG.1
  have dv0 : zTab T Mz := p0_.1
  have dv1 : zB 85 144 0 5 Mz := p0_.2.1
  have dv2 : zJX T Mz := p0_.2.2.1
  have dv3 : zFirs T Mz := p0_.2.2.2.1
  have dv4 : zSSm T Mz := p0_.2.2.2.2.1
  have dv5 : zGD Mz := zGB.d hO p0_
  have gb := dv5.1
  have gn := dv0.1
  have hsz_ := dv0.1
  refine zw_iconst (pc := 0) (v := Int32.ofInt 0) (by decide) d_M_alike_0 ?_
  refine zw_istore_n (pc := 1) (i := 1) (L2 := [some (.ref 81), some (.int (Int32.ofInt 0)), none, none]) rfl (by decide) rfl d_M_alike_1 ?_
  refine zw_iconst (pc := 2) (v := Int32.ofInt 0) (by decide) d_M_alike_2 ?_
  refine zw_istore_n (pc := 3) (i := 2) (L2 := [some (.ref 81), some (.int (Int32.ofInt 0)), some (.int (Int32.ofInt 0)), none]) rfl (by decide) rfl d_M_alike_3 ?_
  have lp_4 : ∀ (n : Nat) (u1_ : Int) (hu1_a : -2147483648 ≤ u1_) (hu1_b : u1_ < 2147483648) (u2_ : Int) (hu2_a : -2147483648 ≤ u2_) (hu2_b : u2_ < 2147483648) (i3_ : 0 ≤ u2_) (i4_ : u2_ ≤ gN T) (i5_ : u1_ = ((gAlk T (u2_).toNat : Nat) : Int)), (gN T - u2_).toNat < n → zW l m_M_alike (zn Mz + 0, zw Mz + 0) Mz 4 [some (.ref 81), some (.int (Int32.ofInt u1_)), some (.int (Int32.ofInt u2_)), none] [] (zpI [] [] Mz (fun v N => v = ((gAlk T (gN T) : Nat) : Int))) := by
    intro n
    induction n with
    | zero =>
      intro u1_ hu1_a hu1_b u2_ hu2_a hu2_b i3_ i4_ i5_ h0
      exact absurd h0 (Nat.not_lt_zero _)
    | succ n ih_4 =>
      intro u1_ hu1_a hu1_b u2_ hu2_a hu2_b i3_ i4_ i5_ hlt_4
      have hak_ := (show u1_ = ((gAlk T (u2_).toNat : Nat) : Int) by assumption)
      have hal_ := gAlk_l hG (by omega) hak_
      refine zw_iload_n (pc := 4) (n := 2) (x := Int32.ofInt u2_) rfl d_M_alike_4 ?_
      refine zw_aload_n (pc := 5) (n := 0) (x := 81) rfl d_M_alike_5 ?_
      refine zr_getI0 hf hW (pc := 6) (by decide) f_M_196 rfl d_M_alike_6 ?_
      refine zr_icmp_ge (pc := 9) (tgt := 60) ⟨hu2_a, hu2_b⟩ ⟨(ze_r Mz 81 20).1, (ze_r Mz 81 20).2⟩ (by decide) d_M_alike_9 (fun hc_9 => ?_) (fun hc_9 => ?_)
      · skip
        refine zw_iload_n (pc := 60) (n := 1) (x := Int32.ofInt u1_) rfl d_M_alike_60 ?_
        exact zr_iret (pc := 61) (ty := .int) rfl rfl ⟨by omega, by omega⟩ hf (show u1_ = ((gAlk T (gN T) : Nat) : Int) by rw [show gN T = (u2_).toNat by omega]; exact hak_) d_M_alike_61
      · skip
        refine zw_iconst (pc := 12) (v := Int32.ofInt 0) (by decide) d_M_alike_12 ?_
        refine zw_istore_n (pc := 13) (i := 3) (L2 := [some (.ref 81), some (.int (Int32.ofInt u1_)), some (.int (Int32.ofInt u2_)), some (.int (Int32.ofInt 0))]) rfl (by decide) rfl d_M_alike_13 ?_
        have lp_14 : ∀ (n : Nat) (u6_ : Int) (hu6_a : -2147483648 ≤ u6_) (hu6_b : u6_ < 2147483648) (u7_ : Int) (hu7_a : -2147483648 ≤ u7_) (hu7_b : u7_ < 2147483648) (i8_ : 0 ≤ u7_) (i9_ : u7_ ≤ gN T) (i10_ : u6_ = ((gAlk T (u2_).toNat + zct (gcmm T (u2_).toNat) (u7_).toNat : Nat) : Int)), (gN T - u7_).toNat < n → zW l m_M_alike (zn Mz + 0, zw Mz + 0) Mz 14 [some (.ref 81), some (.int (Int32.ofInt u6_)), some (.int (Int32.ofInt u2_)), some (.int (Int32.ofInt u7_))] [] (zpI [] [] Mz (fun v N => v = ((gAlk T (gN T) : Nat) : Int))) := by
          intro n
          induction n with
          | zero =>
            intro u6_ hu6_a hu6_b u7_ hu7_a hu7_b i8_ i9_ i10_ h0
            exact absurd h0 (Nat.not_lt_zero _)
          | succ n ih_14 =>
            intro u6_ hu6_a hu6_b u7_ hu7_a hu7_b i8_ i9_ i10_ hlt_14
            have haj_ := (show u6_ = ((gAlk T (u2_).toNat + zct (gcmm T (u2_).toNat) (u7_).toNat : Nat) : Int) by assumption)
            have hbj_ := zct_b (gcmm T (u2_).toNat) (u7_).toNat
            refine zw_iload_n (pc := 14) (n := 3) (x := Int32.ofInt u7_) rfl d_M_alike_14 ?_
            refine zw_aload_n (pc := 15) (n := 0) (x := 81) rfl d_M_alike_15 ?_
            refine zr_getI0 hf hW (pc := 16) (by decide) f_M_196 rfl d_M_alike_16 ?_
            refine zr_icmp_ge (pc := 19) (tgt := 54) ⟨hu7_a, hu7_b⟩ ⟨(ze_r Mz 81 20).1, (ze_r Mz 81 20).2⟩ (by decide) d_M_alike_19 (fun hc_19 => ?_) (fun hc_19 => ?_)
            · skip
              refine zr_iinc (pc := 54) (i := 2) (a := u2_) (n := 1) (L2 := [some (.ref 81), some (.int (Int32.ofInt u6_)), some (.int (Int32.ofInt (u2_ + 1))), some (.int (Int32.ofInt u7_))]) rfl (by decide) rfl d_M_alike_54 ?_
              refine zw_goto (pc := 57) (tgt := 4) (by decide) d_M_alike_57 ?_
              have hcf_ := gAlk_f (by omega) (by omega) haj_
              refine zW_le [some (.ref 81), some (.int (Int32.ofInt u6_)), some (.int (Int32.ofInt (u2_ + 1))), none] (⟨rfl, rfl, rfl, trivial⟩) ?_
              exact ih_4 u6_ hu6_a hu6_b (u2_ + 1) (by omega) (by omega) (show 0 ≤ (u2_ + 1) by first | assumption | omega) (show (u2_ + 1) ≤ gN T by first | assumption | omega) (show u6_ = ((gAlk T ((u2_ + 1)).toNat : Nat) : Int) by exact hcf_) (by omega)
            · skip
              refine zw_iload_n (pc := 22) (n := 1) (x := Int32.ofInt u6_) rfl d_M_alike_22 ?_
              refine zw_aload_n (pc := 23) (n := 0) (x := 81) rfl d_M_alike_23 ?_
              refine zw_iload_n (pc := 24) (n := 2) (x := Int32.ofInt u2_) rfl d_M_alike_24 ?_
              refine zw_iload_n (pc := 25) (n := 3) (x := Int32.ofInt u7_) rfl d_M_alike_25 ?_
              refine zr_callV (hf.w hW) hf.x (pc := 26) [.int (Int32.ofInt u2_), .int (Int32.ofInt u7_)] [.int (Int32.ofInt u6_)] l_M_216 (c_M_by l Mz (hf.w hW) u2_ hu2_a hu2_b u7_ hu7_a hu7_b T hG dv0 (show 0 ≤ u2_ by first | assumption | omega) (show u2_ < ze Mz 81 20 by first | assumption | omega) (show 0 ≤ u7_ by first | assumption | omega) (show u7_ < ze Mz 81 20 by first | assumption | omega)) rfl rfl rfl (by decide) (Nat.le_of_ble_eq_true rfl) d_M_alike_26 ?_
              rintro _ N11_ ⟨v12_, rfl, ⟨hv12_a, hv12_b⟩, hsN11_, ⟨hp0_N11_, hp1_N11_, hp2_N11_⟩⟩
              obtain rfl := hsN11_.eq.symm
              show zW l m_M_alike (zn Mz + 0, zw Mz + 0) Mz 29 [some (.ref 81), some (.int (Int32.ofInt u6_)), some (.int (Int32.ofInt u2_)), some (.int (Int32.ofInt u7_))] [.int (Int32.ofInt v12_), .int (Int32.ofInt u6_)] (zpI [] [] Mz (fun v N => v = ((gAlk T (gN T) : Nat) : Int)))
              have hb1_ := hp0_N11_
              refine zw_aload_n (pc := 29) (n := 0) (x := 81) rfl d_M_alike_29 ?_
              refine zw_iload_n (pc := 30) (n := 3) (x := Int32.ofInt u7_) rfl d_M_alike_30 ?_
              refine zw_iload_n (pc := 31) (n := 2) (x := Int32.ofInt u2_) rfl d_M_alike_31 ?_
              refine zr_callV (hf.w hW) hf.x (pc := 32) [.int (Int32.ofInt u7_), .int (Int32.ofInt u2_)] [.int (Int32.ofInt v12_), .int (Int32.ofInt u6_)] l_M_216 (c_M_by l Mz (hf.w hW) u7_ hu7_a hu7_b u2_ hu2_a hu2_b T hG dv0 (show 0 ≤ u7_ by first | assumption | omega) (show u7_ < ze Mz 81 20 by first | assumption | omega) (show 0 ≤ u2_ by first | assumption | omega) (show u2_ < ze Mz 81 20 by first | assumption | omega)) rfl rfl rfl (by decide) (Nat.le_of_ble_eq_true rfl) d_M_alike_32 ?_
              rintro _ N13_ ⟨v14_, rfl, ⟨hv14_a, hv14_b⟩, hsN13_, ⟨hp0_N13_, hp1_N13_, hp2_N13_⟩⟩
              obtain rfl := hsN13_.eq.symm
              show zW l m_M_alike (zn Mz + 0, zw Mz + 0) Mz 35 [some (.ref 81), some (.int (Int32.ofInt u6_)), some (.int (Int32.ofInt u2_)), some (.int (Int32.ofInt u7_))] [.int (Int32.ofInt v14_), .int (Int32.ofInt v12_), .int (Int32.ofInt u6_)] (zpI [] [] Mz (fun v N => v = ((gAlk T (gN T) : Nat) : Int)))
              have hb2_ := hp0_N13_
              refine zr_icmp_ne (pc := 35) (tgt := 42) ⟨hv12_a, hv12_b⟩ ⟨hv14_a, hv14_b⟩ (by decide) d_M_alike_35 (fun hc_35 => ?_) (fun hc_35 => ?_)
              · skip
                refine zw_iconst (pc := 42) (v := Int32.ofInt 0) (by decide) d_M_alike_42 ?_
                refine zr_callS hf.x (pc := 43) [.int (Int32.ofInt 0)] [.int (Int32.ofInt u6_)] l_M_256 (c_M_truth l Mz (hf.w hW) 0 (by decide) (by decide) (by omega)) rfl rfl (by decide) (Nat.le_of_ble_eq_true rfl) d_M_alike_43 ?_
                rintro _ N15_ ⟨v16_, rfl, ⟨hv16_a, hv16_b⟩, hsN15_, hp0_N15_⟩
                obtain rfl := hsN15_.eq.symm
                replace hp0_N15_ : v16_ = 0 := hp0_N15_
                show zW l m_M_alike (zn Mz + 0, zw Mz + 0) Mz 46 [some (.ref 81), some (.int (Int32.ofInt u6_)), some (.int (Int32.ofInt u2_)), some (.int (Int32.ofInt u7_))] [.int (Int32.ofInt v16_), .int (Int32.ofInt u6_)] (zpI [] [] Mz (fun v N => v = ((gAlk T (gN T) : Nat) : Int)))
                refine zr_iadd (pc := 46) d_M_alike_46 ?_
                refine zw_istore_n (pc := 47) (i := 1) (L2 := [some (.ref 81), some (.int (Int32.ofInt (u6_ + v16_))), some (.int (Int32.ofInt u2_)), some (.int (Int32.ofInt u7_))]) rfl (by decide) rfl d_M_alike_47 ?_
                refine zr_iinc (pc := 48) (i := 3) (a := u7_) (n := 1) (L2 := [some (.ref 81), some (.int (Int32.ofInt (u6_ + v16_))), some (.int (Int32.ofInt u2_)), some (.int (Int32.ofInt (u7_ + 1)))]) rfl (by decide) rfl d_M_alike_48 ?_
                refine zw_goto (pc := 51) (tgt := 14) (by decide) d_M_alike_51 ?_
                have hcn_ : (u6_ + v16_) = ((gAlk T (u2_).toNat + zct (gcmm T (u2_).toNat) ((u7_ + 1)).toNat : Nat) : Int) := gAlk_t (by omega) haj_ (by first | exact Or.inl ⟨by omega, by unfold gcmm; omega⟩ | exact Or.inr ⟨by omega, by unfold gcmm; omega⟩)
                exact ih_14 (u6_ + v16_) (by omega) (by omega) (u7_ + 1) (by omega) (by omega) (show 0 ≤ (u7_ + 1) by first | assumption | omega) (show (u7_ + 1) ≤ gN T by first | assumption | omega) (show (u6_ + v16_) = ((gAlk T (u2_).toNat + zct (gcmm T (u2_).toNat) ((u7_ + 1)).toNat : Nat) : Int) by exact hcn_) (by omega)
              · skip
                refine zw_iconst (pc := 38) (v := Int32.ofInt 1) (by decide) d_M_alike_38 ?_
                refine zw_goto (pc := 39) (tgt := 43) (by decide) d_M_alike_39 ?_
                refine zr_callS hf.x (pc := 43) [.int (Int32.ofInt 1)] [.int (Int32.ofInt u6_)] l_M_256 (c_M_truth l Mz (hf.w hW) 1 (by decide) (by decide) (by omega)) rfl rfl (by decide) (Nat.le_of_ble_eq_true rfl) d_M_alike_43 ?_
                rintro _ N17_ ⟨v18_, rfl, ⟨hv18_a, hv18_b⟩, hsN17_, hp0_N17_⟩
                obtain rfl := hsN17_.eq.symm
                replace hp0_N17_ : v18_ = 1 := hp0_N17_
                show zW l m_M_alike (zn Mz + 0, zw Mz + 0) Mz 46 [some (.ref 81), some (.int (Int32.ofInt u6_)), some (.int (Int32.ofInt u2_)), some (.int (Int32.ofInt u7_))] [.int (Int32.ofInt v18_), .int (Int32.ofInt u6_)] (zpI [] [] Mz (fun v N => v = ((gAlk T (gN T) : Nat) : Int)))
                refine zr_iadd (pc := 46) d_M_alike_46 ?_
                refine zw_istore_n (pc := 47) (i := 1) (L2 := [some (.ref 81), some (.int (Int32.ofInt (u6_ + v18_))), some (.int (Int32.ofInt u2_)), some (.int (Int32.ofInt u7_))]) rfl (by decide) rfl d_M_alike_47 ?_
                refine zr_iinc (pc := 48) (i := 3) (a := u7_) (n := 1) (L2 := [some (.ref 81), some (.int (Int32.ofInt (u6_ + v18_))), some (.int (Int32.ofInt u2_)), some (.int (Int32.ofInt (u7_ + 1)))]) rfl (by decide) rfl d_M_alike_48 ?_
                refine zw_goto (pc := 51) (tgt := 14) (by decide) d_M_alike_51 ?_
                have hcn_ : (u6_ + v18_) = ((gAlk T (u2_).toNat + zct (gcmm T (u2_).toNat) ((u7_ + 1)).toNat : Nat) : Int) := gAlk_t (by omega) haj_ (by first | exact Or.inl ⟨by omega, by unfold gcmm; omega⟩ | exact Or.inr ⟨by omega, by unfold gcmm; omega⟩)
                exact ih_14 (u6_ + v18_) (by omega) (by omega) (u7_ + 1) (by omega) (by omega) (show 0 ≤ (u7_ + 1) by first | assumption | omega) (show (u7_ + 1) ≤ gN T by first | assumption | omega) (show (u6_ + v18_) = ((gAlk T (u2_).toNat + zct (gcmm T (u2_).toNat) ((u7_ + 1)).toNat : Nat) : Int) by exact hcn_) (by omega)
        exact lp_14 _ u1_ hu1_a hu1_b 0 (by decide) (by decide) (show 0 ≤ (0 : Int) by first | assumption | omega) (show (0 : Int) ≤ gN T by first | assumption | omega) (show u1_ = ((gAlk T (u2_).toNat + zct (gcmm T (u2_).toNat) ((0 : Int)).toNat : Nat) : Int) by rw [hak_]; rfl) (Nat.lt_succ_self _)
  exact lp_4 _ 0 (by decide) (by decide) 0 (by decide) (by decide) (show 0 ≤ (0 : Int) by first | assumption | omega) (show (0 : Int) ≤ gN T by first | assumption | omega) (show (0 : Int) = ((gAlk T ((0 : Int)).toNat : Nat) : Int) by rfl) (Nat.lt_succ_self _)
