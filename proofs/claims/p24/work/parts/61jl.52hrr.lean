set_option maxHeartbeats 4000000 in
theorem c_M_centreG (l : Launch) (Mz : zMem) (hW : zMt Mz) (a0_ : Int) (ha0_a : -2147483648 ≤ a0_) (ha0_b : a0_ < 2147483648) (T : zGT) (hO : gOK T) (p0_ : zGB T Mz) : zC l m_M_centre 0 0 [.ref 81, .int (Int32.ofInt a0_)] Mz (zpI [] [] Mz (fun v N => (((0 ≤ a0_ ∧ a0_ < ((gF T).length : Int) ∧ v = ((zbq (gCe T (gFn T (a0_).toNat) (gN T)) (gN T) : Nat) : Int)) ∨ (¬ (0 ≤ a0_ ∧ a0_ < ((gF T).length : Int)) ∧ v = (-1 : Int)))))) := by
  refine zC_of (L0 := [some (.ref 81), some (.int (Int32.ofInt a0_)), none, none, none, none]) md_M_centre (Nat.le_of_ble_eq_true rfl) rfl ?_ zQ0
  have hf : zFr [] [] Mz Mz := zFr.rf
  have r_20 := ze_r Mz 81 20
  have r_26 := ze_r Mz 81 26
  have hG := hO.1
  have g24 := hG.2.1
  have g1 := hG.1
  have dv0 : zTab T Mz := p0_.1
  have dv1 : zB 85 144 0 5 Mz := p0_.2.1
  have dv2 : zJX T Mz := p0_.2.2.1
  have dv3 : zFirs T Mz := p0_.2.2.2.1
  have dv4 : zSSm T Mz := p0_.2.2.2.2.1
  have dv5 : zGD Mz := zGB.d hO p0_
  have gb := dv5.1
  have gn := dv0.1
  have hsz_ := dv0.1
  have hfl_ := dv3.1
  refine zw_aload_n (pc := 0) (n := 0) (x := 81) rfl d_M_centre_0 ?_
  refine zw_iload_n (pc := 1) (n := 1) (x := Int32.ofInt a0_) rfl d_M_centre_1 ?_
  refine zr_callV (hf.w hW) hf.x (pc := 2) [.int (Int32.ofInt a0_)] [] l_M_414 (c_M_isSortG l Mz (hf.w hW) a0_ ha0_a ha0_b T hO p0_) rfl rfl rfl (by decide) (Nat.le_of_ble_eq_true rfl) d_M_centre_2 ?_
  rintro _ N1_ ⟨v2_, rfl, ⟨hv2_a, hv2_b⟩, hsN1_, hp0_N1_⟩
  obtain rfl := hsN1_.eq.symm
  replace hp0_N1_ : ((v2_ = 1 ∧ 0 ≤ a0_ ∧ a0_ < ze Mz 81 26) ∨ (v2_ = 0 ∧ (a0_ < 0 ∨ ze Mz 81 26 ≤ a0_))) := hp0_N1_
  rcases hp0_N1_ with ⟨rfl, ha2_0_hp0_N1_, ha2_1_hp0_N1_⟩ | ⟨rfl, ha2_0_hp0_N1_⟩
  · skip
    show zW l m_M_centre (zn Mz + 0, zw Mz + 0) Mz 5 [some (.ref 81), some (.int (Int32.ofInt a0_)), none, none, none, none] [.int (Int32.ofInt 1)] (zpI [] [] Mz (fun v N => (((0 ≤ a0_ ∧ a0_ < ((gF T).length : Int) ∧ v = ((zbq (gCe T (gFn T (a0_).toNat) (gN T)) (gN T) : Nat) : Int)) ∨ (¬ (0 ≤ a0_ ∧ a0_ < ((gF T).length : Int)) ∧ v = (-1 : Int))))))
    refine zr_if_ne (pc := 5) (tgt := 10) ⟨(by decide), (by decide)⟩ (by decide) d_M_centre_5 (fun hc_5 => ?_) (fun hc_5 => ?_)
    · skip
      refine zw_iconst (pc := 10) (v := Int32.ofInt 0) (by decide) d_M_centre_10 ?_
      refine zw_istore_n (pc := 11) (i := 2) (L2 := [some (.ref 81), some (.int (Int32.ofInt a0_)), some (.int (Int32.ofInt 0)), none, none, none]) rfl (by decide) rfl d_M_centre_11 ?_
      refine zw_iconst (pc := 12) (v := Int32.ofInt 0) (by decide) d_M_centre_12 ?_
      refine zw_istore_n (pc := 13) (i := 3) (L2 := [some (.ref 81), some (.int (Int32.ofInt a0_)), some (.int (Int32.ofInt 0)), some (.int (Int32.ofInt 0)), none, none]) rfl (by decide) rfl d_M_centre_13 ?_
      have lp_14 : ∀ (n : Nat) (u3_ : Int) (hu3_a : -2147483648 ≤ u3_) (hu3_b : u3_ < 2147483648) (u4_ : Int) (hu4_a : -2147483648 ≤ u4_) (hu4_b : u4_ < 2147483648) (i5_ : 0 ≤ u4_) (i6_ : u4_ ≤ gN T) (i7_ : u3_ = ((zbq (gCe T (gFn T (a0_).toNat) (gN T)) (u4_).toNat : Nat) : Int)), (gN T - u4_).toNat < n → zW l m_M_centre (zn Mz + 0, zw Mz + 0) Mz 14 [some (.ref 81), some (.int (Int32.ofInt a0_)), some (.int (Int32.ofInt u3_)), some (.int (Int32.ofInt u4_)), none, none] [] (zpI [] [] Mz (fun v N => (((0 ≤ a0_ ∧ a0_ < ((gF T).length : Int) ∧ v = ((zbq (gCe T (gFn T (a0_).toNat) (gN T)) (gN T) : Nat) : Int)) ∨ (¬ (0 ≤ a0_ ∧ a0_ < ((gF T).length : Int)) ∧ v = (-1 : Int)))))) := by
        intro n
        induction n with
        | zero =>
          intro u3_ hu3_a hu3_b u4_ hu4_a hu4_b i5_ i6_ i7_ h0
          exact absurd h0 (Nat.not_lt_zero _)
        | succ n ih_14 =>
          intro u3_ hu3_a hu3_b u4_ hu4_a hu4_b i5_ i6_ i7_ hlt_14
          have hcb_ := (show u3_ = ((zbq (gCe T (gFn T (a0_).toNat) (gN T)) (u4_).toNat : Nat) : Int) by assumption)
          have hcr_ := zbq_r g24 (by omega) hcb_
          refine zw_iload_n (pc := 14) (n := 3) (x := Int32.ofInt u4_) rfl d_M_centre_14 ?_
          refine zw_aload_n (pc := 15) (n := 0) (x := 81) rfl d_M_centre_15 ?_
          refine zr_getI0 hf hW (pc := 16) (by decide) f_M_196 rfl d_M_centre_16 ?_
          refine zr_icmp_ge (pc := 19) (tgt := 111) ⟨hu4_a, hu4_b⟩ ⟨(ze_r Mz 81 20).1, (ze_r Mz 81 20).2⟩ (by decide) d_M_centre_19 (fun hc_19 => ?_) (fun hc_19 => ?_)
          · skip
            refine zw_iload_n (pc := 111) (n := 2) (x := Int32.ofInt u3_) rfl d_M_centre_111 ?_
            exact zr_iret (pc := 112) (ty := .int) rfl rfl ⟨by omega, by omega⟩ hf (show ((0 ≤ a0_ ∧ a0_ < ((gF T).length : Int) ∧ u3_ = ((zbq (gCe T (gFn T (a0_).toNat) (gN T)) (gN T) : Nat) : Int)) ∨ (¬ (0 ≤ a0_ ∧ a0_ < ((gF T).length : Int)) ∧ u3_ = (-1 : Int))) by exact Or.inl ⟨by omega, by omega, by have hz_ := hcb_; rw [show (u4_).toNat = gN T by omega] at hz_; exact hz_⟩) d_M_centre_112
          · skip
            refine zw_aload_n (pc := 22) (n := 0) (x := 81) rfl d_M_centre_22 ?_
            refine zr_getF (r := 91) (hf.w hW) (pc := 23) f_M_44 rfl (zh_91 (hf.w hW)).1 d_M_centre_23 ?_
            refine zw_iload_n (pc := 26) (n := 1) (x := Int32.ofInt a0_) rfl d_M_centre_26 ?_
            refine zr_ialdn (pc := 27) (zh_91 (hf.w hW)).2 (by decide) (by omega) (by omega) d_M_centre_27 (fun v8_ hv8_ hv8_a hv8_b => ?_)
            have hf_x := dv3.g hO (e := a0_) (by omega) (by omega)
            refine zr_toI (show v8_ = ze Mz 91 (a0_).toNat by omega) ?_
            have hfv_ : ze Mz 91 (a0_).toNat = ((gFn T (a0_).toNat : Nat) : Int) := dv3.2 _ (by omega)
            refine zw_iload_n (pc := 28) (n := 3) (x := Int32.ofInt u4_) rfl d_M_centre_28 ?_
            refine zr_callS hf.x (pc := 29) [.int (Int32.ofInt (ze Mz 91 (a0_).toNat)), .int (Int32.ofInt u4_)] [] l_M_213 (c_M_holds l Mz (hf.w hW) (ze Mz 91 (a0_).toNat) (by omega) (by omega) u4_ hu4_a hu4_b (show 0 ≤ (ze Mz 91 (a0_).toNat) by first | assumption | omega) (show 0 ≤ u4_ by first | assumption | omega) (show u4_ < 32 by first | assumption | omega)) rfl rfl (by decide) (Nat.le_of_ble_eq_true rfl) d_M_centre_29 ?_
            rintro _ N9_ ⟨v10_, rfl, ⟨hv10_a, hv10_b⟩, hsN9_, hp0_N9_⟩
            obtain rfl := hsN9_.eq.symm
            replace hp0_N9_ : ((v10_ = 1 ∧ zbt (ze Mz 91 (a0_).toNat) u4_) ∨ (v10_ = 0 ∧ ¬ zbt (ze Mz 91 (a0_).toNat) u4_)) := hp0_N9_
            rcases hp0_N9_ with ⟨rfl, ha29_0_hp0_N9_⟩ | ⟨rfl, ha29_0_hp0_N9_⟩
            · skip
              have hce_ := zceI_1 (T := T) hfv_ ha29_0_hp0_N9_
              show zW l m_M_centre (zn Mz + 0, zw Mz + 0) Mz 32 [some (.ref 81), some (.int (Int32.ofInt a0_)), some (.int (Int32.ofInt u3_)), some (.int (Int32.ofInt u4_)), none, none] [.int (Int32.ofInt 1)] (zpI [] [] Mz (fun v N => (((0 ≤ a0_ ∧ a0_ < ((gF T).length : Int) ∧ v = ((zbq (gCe T (gFn T (a0_).toNat) (gN T)) (gN T) : Nat) : Int)) ∨ (¬ (0 ≤ a0_ ∧ a0_ < ((gF T).length : Int)) ∧ v = (-1 : Int))))))
              refine zw_istore (pc := 32) (i := 4) (L2 := [some (.ref 81), some (.int (Int32.ofInt a0_)), some (.int (Int32.ofInt u3_)), some (.int (Int32.ofInt u4_)), some (.int (Int32.ofInt 1)), none]) (by decide) rfl d_M_centre_32 ?_
              refine zw_iconst (pc := 34) (v := Int32.ofInt 0) (by decide) d_M_centre_34 ?_
              refine zw_istore (pc := 35) (i := 5) (L2 := [some (.ref 81), some (.int (Int32.ofInt a0_)), some (.int (Int32.ofInt u3_)), some (.int (Int32.ofInt u4_)), some (.int (Int32.ofInt 1)), some (.int (Int32.ofInt 0))]) (by decide) rfl d_M_centre_35 ?_
              have lp_37 : ∀ (n : Nat) (u11_ : Int) (hu11_a : -2147483648 ≤ u11_) (hu11_b : u11_ < 2147483648) (hu11_z : u11_ = 0 ∨ u11_ = 1) (u12_ : Int) (hu12_a : -2147483648 ≤ u12_) (hu12_b : u12_ < 2147483648) (i13_ : 0 ≤ u12_) (i14_ : u12_ ≤ gN T) (i15_ : zceI T (gFn T (a0_).toNat) u4_ u12_ u11_), (gN T - u12_).toNat < n → zW l m_M_centre (zn Mz + 0, zw Mz + 0) Mz 37 [some (.ref 81), some (.int (Int32.ofInt a0_)), some (.int (Int32.ofInt u3_)), some (.int (Int32.ofInt u4_)), some (.int (Int32.ofInt u11_)), some (.int (Int32.ofInt u12_))] [] (zpI [] [] Mz (fun v N => (((0 ≤ a0_ ∧ a0_ < ((gF T).length : Int) ∧ v = ((zbq (gCe T (gFn T (a0_).toNat) (gN T)) (gN T) : Nat) : Int)) ∨ (¬ (0 ≤ a0_ ∧ a0_ < ((gF T).length : Int)) ∧ v = (-1 : Int)))))) := by
                intro n
                induction n with
                | zero =>
                  intro u11_ hu11_a hu11_b hu11_z u12_ hu12_a hu12_b i13_ i14_ i15_ h0
                  exact absurd h0 (Nat.not_lt_zero _)
                | succ n ih_37 =>
                  intro u11_ hu11_a hu11_b hu11_z u12_ hu12_a hu12_b i13_ i14_ i15_ hlt_37
                  have hci_ := (show zceI T (gFn T (a0_).toNat) u4_ u12_ u11_ by assumption)
                  refine zw_iload (pc := 37) (i := 5) (x := Int32.ofInt u12_) rfl d_M_centre_37 ?_
                  refine zw_aload_n (pc := 39) (n := 0) (x := 81) rfl d_M_centre_39 ?_
                  refine zr_getI0 hf hW (pc := 40) (by decide) f_M_196 rfl d_M_centre_40 ?_
                  refine zr_icmp_ge (pc := 43) (tgt := 95) ⟨hu12_a, hu12_b⟩ ⟨(ze_r Mz 81 20).1, (ze_r Mz 81 20).2⟩ (by decide) d_M_centre_43 (fun hc_43 => ?_) (fun hc_43 => ?_)
                  · skip
                    have hcc_ := zceI_e hci_ (by first | exact Or.inl (by omega) | exact Or.inr (by omega))
                    refine zw_iload_n (pc := 95) (n := 2) (x := Int32.ofInt u3_) rfl d_M_centre_95 ?_
                    refine zw_iload (pc := 96) (i := 4) (x := Int32.ofInt u11_) rfl d_M_centre_96 ?_
                    refine zr_callS hf.x (pc := 98) [.int (Int32.ofInt u11_)] [.int (Int32.ofInt u3_)] l_M_256 (c_M_truth l Mz (hf.w hW) u11_ hu11_a hu11_b (by omega)) rfl rfl (by decide) (Nat.le_of_ble_eq_true rfl) d_M_centre_98 ?_
                    rintro _ N16_ ⟨v17_, rfl, ⟨hv17_a, hv17_b⟩, hsN16_, hp0_N16_⟩
                    obtain rfl := hsN16_.eq.symm
                    replace hp0_N16_ : v17_ = u11_ := hp0_N16_
                    show zW l m_M_centre (zn Mz + 0, zw Mz + 0) Mz 101 [some (.ref 81), some (.int (Int32.ofInt a0_)), some (.int (Int32.ofInt u3_)), some (.int (Int32.ofInt u4_)), some (.int (Int32.ofInt u11_)), some (.int (Int32.ofInt u12_))] [.int (Int32.ofInt v17_), .int (Int32.ofInt u3_)] (zpI [] [] Mz (fun v N => (((0 ≤ a0_ ∧ a0_ < ((gF T).length : Int) ∧ v = ((zbq (gCe T (gFn T (a0_).toNat) (gN T)) (gN T) : Nat) : Int)) ∨ (¬ (0 ≤ a0_ ∧ a0_ < ((gF T).length : Int)) ∧ v = (-1 : Int))))))
                    refine zw_iload_n (pc := 101) (n := 3) (x := Int32.ofInt u4_) rfl d_M_centre_101 ?_
                    have hct_ := zbq_T (p := gCe T (gFn T (a0_).toNat) (gN T)) (t := v17_) g24 (by omega) (by omega) hcb_ (by rcases hcc_ with q_ | q_; exact Or.inl ⟨by omega, q_.2⟩; exact Or.inr ⟨by omega, q_.2⟩)
                    refine zr_ishl (pc := 102) d_M_centre_102 ?_
                    have hr18_ := zshl_r v17_ u4_
                    refine zr_ior (pc := 103) d_M_centre_103 ?_
                    have hr19_ := zor_r u3_ (zshl v17_ u4_)
                    refine zw_istore_n (pc := 104) (i := 2) (L2 := [some (.ref 81), some (.int (Int32.ofInt a0_)), some (.int (Int32.ofInt (zor u3_ (zshl v17_ u4_)))), some (.int (Int32.ofInt u4_)), some (.int (Int32.ofInt u11_)), some (.int (Int32.ofInt u12_))]) rfl (by decide) rfl d_M_centre_104 ?_
                    refine zr_iinc (pc := 105) (i := 3) (a := u4_) (n := 1) (L2 := [some (.ref 81), some (.int (Int32.ofInt a0_)), some (.int (Int32.ofInt (zor u3_ (zshl v17_ u4_)))), some (.int (Int32.ofInt (u4_ + 1))), some (.int (Int32.ofInt u11_)), some (.int (Int32.ofInt u12_))]) rfl (by decide) rfl d_M_centre_105 ?_
                    refine zw_goto (pc := 108) (tgt := 14) (by decide) d_M_centre_108 ?_
                    refine zW_le [some (.ref 81), some (.int (Int32.ofInt a0_)), some (.int (Int32.ofInt (zor u3_ (zshl v17_ u4_)))), some (.int (Int32.ofInt (u4_ + 1))), none, none] (⟨rfl, rfl, rfl, rfl, trivial⟩) ?_
                    exact ih_14 (zor u3_ (zshl v17_ u4_)) (by omega) (by omega) (u4_ + 1) (by omega) (by omega) (show 0 ≤ (u4_ + 1) by first | assumption | omega) (show (u4_ + 1) ≤ gN T by first | assumption | omega) (show (zor u3_ (zshl v17_ u4_)) = ((zbq (gCe T (gFn T (a0_).toNat) (gN T)) ((u4_ + 1)).toNat : Nat) : Int) by exact hct_) (by omega)
                  · skip
                    refine zw_iload (pc := 46) (i := 4) (x := Int32.ofInt u11_) rfl d_M_centre_46 ?_
                    refine zr_if_eq (pc := 48) (tgt := 95) ⟨hu11_a, hu11_b⟩ (by decide) d_M_centre_48 (fun hc_48 => ?_) (fun hc_48 => ?_)
                    · skip
                      have hcc_ := zceI_e hci_ (by first | exact Or.inl (by omega) | exact Or.inr (by omega))
                      refine zw_iload_n (pc := 95) (n := 2) (x := Int32.ofInt u3_) rfl d_M_centre_95 ?_
                      refine zw_iload (pc := 96) (i := 4) (x := Int32.ofInt u11_) rfl d_M_centre_96 ?_
                      refine zr_callS hf.x (pc := 98) [.int (Int32.ofInt u11_)] [.int (Int32.ofInt u3_)] l_M_256 (c_M_truth l Mz (hf.w hW) u11_ hu11_a hu11_b (by omega)) rfl rfl (by decide) (Nat.le_of_ble_eq_true rfl) d_M_centre_98 ?_
                      rintro _ N20_ ⟨v21_, rfl, ⟨hv21_a, hv21_b⟩, hsN20_, hp0_N20_⟩
                      obtain rfl := hsN20_.eq.symm
                      replace hp0_N20_ : v21_ = u11_ := hp0_N20_
                      show zW l m_M_centre (zn Mz + 0, zw Mz + 0) Mz 101 [some (.ref 81), some (.int (Int32.ofInt a0_)), some (.int (Int32.ofInt u3_)), some (.int (Int32.ofInt u4_)), some (.int (Int32.ofInt u11_)), some (.int (Int32.ofInt u12_))] [.int (Int32.ofInt v21_), .int (Int32.ofInt u3_)] (zpI [] [] Mz (fun v N => (((0 ≤ a0_ ∧ a0_ < ((gF T).length : Int) ∧ v = ((zbq (gCe T (gFn T (a0_).toNat) (gN T)) (gN T) : Nat) : Int)) ∨ (¬ (0 ≤ a0_ ∧ a0_ < ((gF T).length : Int)) ∧ v = (-1 : Int))))))
                      refine zw_iload_n (pc := 101) (n := 3) (x := Int32.ofInt u4_) rfl d_M_centre_101 ?_
                      have hct_ := zbq_T (p := gCe T (gFn T (a0_).toNat) (gN T)) (t := v21_) g24 (by omega) (by omega) hcb_ (by rcases hcc_ with q_ | q_; exact Or.inl ⟨by omega, q_.2⟩; exact Or.inr ⟨by omega, q_.2⟩)
                      refine zr_ishl (pc := 102) d_M_centre_102 ?_
                      have hr22_ := zshl_r v21_ u4_
                      refine zr_ior (pc := 103) d_M_centre_103 ?_
                      have hr23_ := zor_r u3_ (zshl v21_ u4_)
                      refine zw_istore_n (pc := 104) (i := 2) (L2 := [some (.ref 81), some (.int (Int32.ofInt a0_)), some (.int (Int32.ofInt (zor u3_ (zshl v21_ u4_)))), some (.int (Int32.ofInt u4_)), some (.int (Int32.ofInt u11_)), some (.int (Int32.ofInt u12_))]) rfl (by decide) rfl d_M_centre_104 ?_
                      refine zr_iinc (pc := 105) (i := 3) (a := u4_) (n := 1) (L2 := [some (.ref 81), some (.int (Int32.ofInt a0_)), some (.int (Int32.ofInt (zor u3_ (zshl v21_ u4_)))), some (.int (Int32.ofInt (u4_ + 1))), some (.int (Int32.ofInt u11_)), some (.int (Int32.ofInt u12_))]) rfl (by decide) rfl d_M_centre_105 ?_
                      refine zw_goto (pc := 108) (tgt := 14) (by decide) d_M_centre_108 ?_
                      refine zW_le [some (.ref 81), some (.int (Int32.ofInt a0_)), some (.int (Int32.ofInt (zor u3_ (zshl v21_ u4_)))), some (.int (Int32.ofInt (u4_ + 1))), none, none] (⟨rfl, rfl, rfl, rfl, trivial⟩) ?_
                      exact ih_14 (zor u3_ (zshl v21_ u4_)) (by omega) (by omega) (u4_ + 1) (by omega) (by omega) (show 0 ≤ (u4_ + 1) by first | assumption | omega) (show (u4_ + 1) ≤ gN T by first | assumption | omega) (show (zor u3_ (zshl v21_ u4_)) = ((zbq (gCe T (gFn T (a0_).toNat) (gN T)) ((u4_ + 1)).toNat : Nat) : Int) by exact hct_) (by omega)
                    · skip
                      refine zw_aload_n (pc := 51) (n := 0) (x := 81) rfl d_M_centre_51 ?_
                      refine zr_getF (r := 91) (hf.w hW) (pc := 52) f_M_44 rfl (zh_91 (hf.w hW)).1 d_M_centre_52 ?_
                      refine zw_iload_n (pc := 55) (n := 1) (x := Int32.ofInt a0_) rfl d_M_centre_55 ?_
                      refine zr_ialdn (pc := 56) (zh_91 (hf.w hW)).2 (by decide) (by omega) (by omega) d_M_centre_56 (fun v24_ hv24_ hv24_a hv24_b => ?_)
                      have hf_x := dv3.g hO (e := a0_) (by omega) (by omega)
                      refine zr_toI (show v24_ = ze Mz 91 (a0_).toNat by omega) ?_
                      have hfv_ : ze Mz 91 (a0_).toNat = ((gFn T (a0_).toNat : Nat) : Int) := dv3.2 _ (by omega)
                      refine zw_iload (pc := 57) (i := 5) (x := Int32.ofInt u12_) rfl d_M_centre_57 ?_
                      refine zr_callS hf.x (pc := 59) [.int (Int32.ofInt (ze Mz 91 (a0_).toNat)), .int (Int32.ofInt u12_)] [] l_M_213 (c_M_holds l Mz (hf.w hW) (ze Mz 91 (a0_).toNat) (by omega) (by omega) u12_ hu12_a hu12_b (show 0 ≤ (ze Mz 91 (a0_).toNat) by first | assumption | omega) (show 0 ≤ u12_ by first | assumption | omega) (show u12_ < 32 by first | assumption | omega)) rfl rfl (by decide) (Nat.le_of_ble_eq_true rfl) d_M_centre_59 ?_
                      rintro _ N25_ ⟨v26_, rfl, ⟨hv26_a, hv26_b⟩, hsN25_, hp0_N25_⟩
                      obtain rfl := hsN25_.eq.symm
                      replace hp0_N25_ : ((v26_ = 1 ∧ zbt (ze Mz 91 (a0_).toNat) u12_) ∨ (v26_ = 0 ∧ ¬ zbt (ze Mz 91 (a0_).toNat) u12_)) := hp0_N25_
                      rcases hp0_N25_ with ⟨rfl, ha59_0_hp0_N25_⟩ | ⟨rfl, ha59_0_hp0_N25_⟩
                      · skip
                        have hbt_ := (zbt_n hfv_).mp ha59_0_hp0_N25_
                        show zW l m_M_centre (zn Mz + 0, zw Mz + 0) Mz 62 [some (.ref 81), some (.int (Int32.ofInt a0_)), some (.int (Int32.ofInt u3_)), some (.int (Int32.ofInt u4_)), some (.int (Int32.ofInt u11_)), some (.int (Int32.ofInt u12_))] [.int (Int32.ofInt 1)] (zpI [] [] Mz (fun v N => (((0 ≤ a0_ ∧ a0_ < ((gF T).length : Int) ∧ v = ((zbq (gCe T (gFn T (a0_).toNat) (gN T)) (gN T) : Nat) : Int)) ∨ (¬ (0 ≤ a0_ ∧ a0_ < ((gF T).length : Int)) ∧ v = (-1 : Int))))))
                        refine zr_if_eq (pc := 62) (tgt := 82) ⟨(by decide), (by decide)⟩ (by decide) d_M_centre_62 (fun hc_62 => ?_) (fun hc_62 => ?_)
                        · skip
                          exact absurd hc_62 (by decide)
                        · skip
                          refine zw_aload_n (pc := 65) (n := 0) (x := 81) rfl d_M_centre_65 ?_
                          refine zw_iload_n (pc := 66) (n := 3) (x := Int32.ofInt u4_) rfl d_M_centre_66 ?_
                          refine zw_iload (pc := 67) (i := 5) (x := Int32.ofInt u12_) rfl d_M_centre_67 ?_
                          refine zr_callV (hf.w hW) hf.x (pc := 69) [.int (Int32.ofInt u4_), .int (Int32.ofInt u12_)] [] l_M_216 (c_M_by l Mz (hf.w hW) u4_ hu4_a hu4_b u12_ hu12_a hu12_b T hG dv0 (show 0 ≤ u4_ by first | assumption | omega) (show u4_ < ze Mz 81 20 by first | assumption | omega) (show 0 ≤ u12_ by first | assumption | omega) (show u12_ < ze Mz 81 20 by first | assumption | omega)) rfl rfl rfl (by decide) (Nat.le_of_ble_eq_true rfl) d_M_centre_69 ?_
                          rintro _ N27_ ⟨v28_, rfl, ⟨hv28_a, hv28_b⟩, hsN27_, ⟨hp0_N27_, hp1_N27_, hp2_N27_⟩⟩
                          obtain rfl := hsN27_.eq.symm
                          show zW l m_M_centre (zn Mz + 0, zw Mz + 0) Mz 72 [some (.ref 81), some (.int (Int32.ofInt a0_)), some (.int (Int32.ofInt u3_)), some (.int (Int32.ofInt u4_)), some (.int (Int32.ofInt u11_)), some (.int (Int32.ofInt u12_))] [.int (Int32.ofInt v28_)] (zpI [] [] Mz (fun v N => (((0 ≤ a0_ ∧ a0_ < ((gF T).length : Int) ∧ v = ((zbq (gCe T (gFn T (a0_).toNat) (gN T)) (gN T) : Nat) : Int)) ∨ (¬ (0 ≤ a0_ ∧ a0_ < ((gF T).length : Int)) ∧ v = (-1 : Int))))))
                          have hb1_ := hp0_N27_
                          refine zw_aload_n (pc := 72) (n := 0) (x := 81) rfl d_M_centre_72 ?_
                          refine zw_iload (pc := 73) (i := 5) (x := Int32.ofInt u12_) rfl d_M_centre_73 ?_
                          refine zw_iload_n (pc := 75) (n := 3) (x := Int32.ofInt u4_) rfl d_M_centre_75 ?_
                          refine zr_callV (hf.w hW) hf.x (pc := 76) [.int (Int32.ofInt u12_), .int (Int32.ofInt u4_)] [.int (Int32.ofInt v28_)] l_M_216 (c_M_by l Mz (hf.w hW) u12_ hu12_a hu12_b u4_ hu4_a hu4_b T hG dv0 (show 0 ≤ u12_ by first | assumption | omega) (show u12_ < ze Mz 81 20 by first | assumption | omega) (show 0 ≤ u4_ by first | assumption | omega) (show u4_ < ze Mz 81 20 by first | assumption | omega)) rfl rfl rfl (by decide) (Nat.le_of_ble_eq_true rfl) d_M_centre_76 ?_
                          rintro _ N29_ ⟨v30_, rfl, ⟨hv30_a, hv30_b⟩, hsN29_, ⟨hp0_N29_, hp1_N29_, hp2_N29_⟩⟩
                          obtain rfl := hsN29_.eq.symm
                          show zW l m_M_centre (zn Mz + 0, zw Mz + 0) Mz 79 [some (.ref 81), some (.int (Int32.ofInt a0_)), some (.int (Int32.ofInt u3_)), some (.int (Int32.ofInt u4_)), some (.int (Int32.ofInt u11_)), some (.int (Int32.ofInt u12_))] [.int (Int32.ofInt v30_), .int (Int32.ofInt v28_)] (zpI [] [] Mz (fun v N => (((0 ≤ a0_ ∧ a0_ < ((gF T).length : Int) ∧ v = ((zbq (gCe T (gFn T (a0_).toNat) (gN T)) (gN T) : Nat) : Int)) ∨ (¬ (0 ≤ a0_ ∧ a0_ < ((gF T).length : Int)) ∧ v = (-1 : Int))))))
                          have hb2_ := hp0_N29_
                          refine zr_icmp_ne (pc := 79) (tgt := 86) ⟨hv28_a, hv28_b⟩ ⟨hv30_a, hv30_b⟩ (by decide) d_M_centre_79 (fun hc_79 => ?_) (fun hc_79 => ?_)
                          · skip
                            refine zw_iconst (pc := 86) (v := Int32.ofInt 0) (by decide) d_M_centre_86 ?_
                            refine zw_istore (pc := 87) (i := 4) (L2 := [some (.ref 81), some (.int (Int32.ofInt a0_)), some (.int (Int32.ofInt u3_)), some (.int (Int32.ofInt u4_)), some (.int (Int32.ofInt 0)), some (.int (Int32.ofInt u12_))]) (by decide) rfl d_M_centre_87 ?_
                            refine zr_iinc (pc := 89) (i := 5) (a := u12_) (n := 1) (L2 := [some (.ref 81), some (.int (Int32.ofInt a0_)), some (.int (Int32.ofInt u3_)), some (.int (Int32.ofInt u4_)), some (.int (Int32.ofInt 0)), some (.int (Int32.ofInt (u12_ + 1)))]) rfl (by decide) rfl d_M_centre_89 ?_
                            refine zw_goto (pc := 92) (tgt := 37) (by decide) d_M_centre_92 ?_
                            have hcn_ : zceI T (gFn T (a0_).toNat) u4_ (u12_ + 1) (0 : Int) := zceI_s hci_ (by omega) (by omega) (by omega) (by first | exact Or.inl ⟨by omega, Or.inl hnb_⟩ | exact Or.inl ⟨by omega, Or.inr (by omega)⟩ | exact Or.inr ⟨by omega, hbt_, by omega⟩)
                            exact ih_37 0 (by decide) (by decide) (by omega) (u12_ + 1) (by omega) (by omega) (show 0 ≤ (u12_ + 1) by first | assumption | omega) (show (u12_ + 1) ≤ gN T by first | assumption | omega) (show zceI T (gFn T (a0_).toNat) u4_ (u12_ + 1) (0 : Int) by exact hcn_) (by omega)
                          · skip
                            refine zw_iconst (pc := 82) (v := Int32.ofInt 1) (by decide) d_M_centre_82 ?_
                            refine zw_goto (pc := 83) (tgt := 87) (by decide) d_M_centre_83 ?_
                            refine zw_istore (pc := 87) (i := 4) (L2 := [some (.ref 81), some (.int (Int32.ofInt a0_)), some (.int (Int32.ofInt u3_)), some (.int (Int32.ofInt u4_)), some (.int (Int32.ofInt 1)), some (.int (Int32.ofInt u12_))]) (by decide) rfl d_M_centre_87 ?_
                            refine zr_iinc (pc := 89) (i := 5) (a := u12_) (n := 1) (L2 := [some (.ref 81), some (.int (Int32.ofInt a0_)), some (.int (Int32.ofInt u3_)), some (.int (Int32.ofInt u4_)), some (.int (Int32.ofInt 1)), some (.int (Int32.ofInt (u12_ + 1)))]) rfl (by decide) rfl d_M_centre_89 ?_
                            refine zw_goto (pc := 92) (tgt := 37) (by decide) d_M_centre_92 ?_
                            have hcn_ : zceI T (gFn T (a0_).toNat) u4_ (u12_ + 1) (1 : Int) := zceI_s hci_ (by omega) (by omega) (by omega) (by first | exact Or.inl ⟨by omega, Or.inl hnb_⟩ | exact Or.inl ⟨by omega, Or.inr (by omega)⟩ | exact Or.inr ⟨by omega, hbt_, by omega⟩)
                            exact ih_37 1 (by decide) (by decide) (by omega) (u12_ + 1) (by omega) (by omega) (show 0 ≤ (u12_ + 1) by first | assumption | omega) (show (u12_ + 1) ≤ gN T by first | assumption | omega) (show zceI T (gFn T (a0_).toNat) u4_ (u12_ + 1) (1 : Int) by exact hcn_) (by omega)
                      · skip
                        have hnb_ := fun q_ => ha59_0_hp0_N25_ ((zbt_n hfv_).mpr q_)
                        show zW l m_M_centre (zn Mz + 0, zw Mz + 0) Mz 62 [some (.ref 81), some (.int (Int32.ofInt a0_)), some (.int (Int32.ofInt u3_)), some (.int (Int32.ofInt u4_)), some (.int (Int32.ofInt u11_)), some (.int (Int32.ofInt u12_))] [.int (Int32.ofInt 0)] (zpI [] [] Mz (fun v N => (((0 ≤ a0_ ∧ a0_ < ((gF T).length : Int) ∧ v = ((zbq (gCe T (gFn T (a0_).toNat) (gN T)) (gN T) : Nat) : Int)) ∨ (¬ (0 ≤ a0_ ∧ a0_ < ((gF T).length : Int)) ∧ v = (-1 : Int))))))
                        refine zr_if_eq (pc := 62) (tgt := 82) ⟨(by decide), (by decide)⟩ (by decide) d_M_centre_62 (fun hc_62 => ?_) (fun hc_62 => ?_)
                        · skip
                          refine zw_iconst (pc := 82) (v := Int32.ofInt 1) (by decide) d_M_centre_82 ?_
                          refine zw_goto (pc := 83) (tgt := 87) (by decide) d_M_centre_83 ?_
                          refine zw_istore (pc := 87) (i := 4) (L2 := [some (.ref 81), some (.int (Int32.ofInt a0_)), some (.int (Int32.ofInt u3_)), some (.int (Int32.ofInt u4_)), some (.int (Int32.ofInt 1)), some (.int (Int32.ofInt u12_))]) (by decide) rfl d_M_centre_87 ?_
                          refine zr_iinc (pc := 89) (i := 5) (a := u12_) (n := 1) (L2 := [some (.ref 81), some (.int (Int32.ofInt a0_)), some (.int (Int32.ofInt u3_)), some (.int (Int32.ofInt u4_)), some (.int (Int32.ofInt 1)), some (.int (Int32.ofInt (u12_ + 1)))]) rfl (by decide) rfl d_M_centre_89 ?_
                          refine zw_goto (pc := 92) (tgt := 37) (by decide) d_M_centre_92 ?_
                          have hcn_ : zceI T (gFn T (a0_).toNat) u4_ (u12_ + 1) (1 : Int) := zceI_s hci_ (by omega) (by omega) (by omega) (by first | exact Or.inl ⟨by omega, Or.inl hnb_⟩ | exact Or.inl ⟨by omega, Or.inr (by omega)⟩ | exact Or.inr ⟨by omega, hbt_, by omega⟩)
                          exact ih_37 1 (by decide) (by decide) (by omega) (u12_ + 1) (by omega) (by omega) (show 0 ≤ (u12_ + 1) by first | assumption | omega) (show (u12_ + 1) ≤ gN T by first | assumption | omega) (show zceI T (gFn T (a0_).toNat) u4_ (u12_ + 1) (1 : Int) by exact hcn_) (by omega)
                        · skip
                          exact absurd hc_62 (by decide)
              exact lp_37 _ 1 (by decide) (by decide) (by omega) 0 (by decide) (by decide) (show 0 ≤ (0 : Int) by first | assumption | omega) (show (0 : Int) ≤ gN T by first | assumption | omega) (show zceI T (gFn T (a0_).toNat) u4_ (0 : Int) (1 : Int) by exact hce_) (Nat.lt_succ_self _)
            · skip
              have hce_ := zceI_0 (T := T) hfv_ ha29_0_hp0_N9_
              show zW l m_M_centre (zn Mz + 0, zw Mz + 0) Mz 32 [some (.ref 81), some (.int (Int32.ofInt a0_)), some (.int (Int32.ofInt u3_)), some (.int (Int32.ofInt u4_)), none, none] [.int (Int32.ofInt 0)] (zpI [] [] Mz (fun v N => (((0 ≤ a0_ ∧ a0_ < ((gF T).length : Int) ∧ v = ((zbq (gCe T (gFn T (a0_).toNat) (gN T)) (gN T) : Nat) : Int)) ∨ (¬ (0 ≤ a0_ ∧ a0_ < ((gF T).length : Int)) ∧ v = (-1 : Int))))))
              refine zw_istore (pc := 32) (i := 4) (L2 := [some (.ref 81), some (.int (Int32.ofInt a0_)), some (.int (Int32.ofInt u3_)), some (.int (Int32.ofInt u4_)), some (.int (Int32.ofInt 0)), none]) (by decide) rfl d_M_centre_32 ?_
              refine zw_iconst (pc := 34) (v := Int32.ofInt 0) (by decide) d_M_centre_34 ?_
              refine zw_istore (pc := 35) (i := 5) (L2 := [some (.ref 81), some (.int (Int32.ofInt a0_)), some (.int (Int32.ofInt u3_)), some (.int (Int32.ofInt u4_)), some (.int (Int32.ofInt 0)), some (.int (Int32.ofInt 0))]) (by decide) rfl d_M_centre_35 ?_
              have lp_37 : ∀ (n : Nat) (u31_ : Int) (hu31_a : -2147483648 ≤ u31_) (hu31_b : u31_ < 2147483648) (hu31_z : u31_ = 0 ∨ u31_ = 1) (u32_ : Int) (hu32_a : -2147483648 ≤ u32_) (hu32_b : u32_ < 2147483648) (i33_ : 0 ≤ u32_) (i34_ : u32_ ≤ gN T) (i35_ : zceI T (gFn T (a0_).toNat) u4_ u32_ u31_), (gN T - u32_).toNat < n → zW l m_M_centre (zn Mz + 0, zw Mz + 0) Mz 37 [some (.ref 81), some (.int (Int32.ofInt a0_)), some (.int (Int32.ofInt u3_)), some (.int (Int32.ofInt u4_)), some (.int (Int32.ofInt u31_)), some (.int (Int32.ofInt u32_))] [] (zpI [] [] Mz (fun v N => (((0 ≤ a0_ ∧ a0_ < ((gF T).length : Int) ∧ v = ((zbq (gCe T (gFn T (a0_).toNat) (gN T)) (gN T) : Nat) : Int)) ∨ (¬ (0 ≤ a0_ ∧ a0_ < ((gF T).length : Int)) ∧ v = (-1 : Int)))))) := by
                intro n
                induction n with
                | zero =>
                  intro u31_ hu31_a hu31_b hu31_z u32_ hu32_a hu32_b i33_ i34_ i35_ h0
                  exact absurd h0 (Nat.not_lt_zero _)
                | succ n ih_37 =>
                  intro u31_ hu31_a hu31_b hu31_z u32_ hu32_a hu32_b i33_ i34_ i35_ hlt_37
                  have hci_ := (show zceI T (gFn T (a0_).toNat) u4_ u32_ u31_ by assumption)
                  refine zw_iload (pc := 37) (i := 5) (x := Int32.ofInt u32_) rfl d_M_centre_37 ?_
                  refine zw_aload_n (pc := 39) (n := 0) (x := 81) rfl d_M_centre_39 ?_
                  refine zr_getI0 hf hW (pc := 40) (by decide) f_M_196 rfl d_M_centre_40 ?_
                  refine zr_icmp_ge (pc := 43) (tgt := 95) ⟨hu32_a, hu32_b⟩ ⟨(ze_r Mz 81 20).1, (ze_r Mz 81 20).2⟩ (by decide) d_M_centre_43 (fun hc_43 => ?_) (fun hc_43 => ?_)
                  · skip
                    have hcc_ := zceI_e hci_ (by first | exact Or.inl (by omega) | exact Or.inr (by omega))
                    refine zw_iload_n (pc := 95) (n := 2) (x := Int32.ofInt u3_) rfl d_M_centre_95 ?_
                    refine zw_iload (pc := 96) (i := 4) (x := Int32.ofInt u31_) rfl d_M_centre_96 ?_
                    refine zr_callS hf.x (pc := 98) [.int (Int32.ofInt u31_)] [.int (Int32.ofInt u3_)] l_M_256 (c_M_truth l Mz (hf.w hW) u31_ hu31_a hu31_b (by omega)) rfl rfl (by decide) (Nat.le_of_ble_eq_true rfl) d_M_centre_98 ?_
                    rintro _ N36_ ⟨v37_, rfl, ⟨hv37_a, hv37_b⟩, hsN36_, hp0_N36_⟩
                    obtain rfl := hsN36_.eq.symm
                    replace hp0_N36_ : v37_ = u31_ := hp0_N36_
                    show zW l m_M_centre (zn Mz + 0, zw Mz + 0) Mz 101 [some (.ref 81), some (.int (Int32.ofInt a0_)), some (.int (Int32.ofInt u3_)), some (.int (Int32.ofInt u4_)), some (.int (Int32.ofInt u31_)), some (.int (Int32.ofInt u32_))] [.int (Int32.ofInt v37_), .int (Int32.ofInt u3_)] (zpI [] [] Mz (fun v N => (((0 ≤ a0_ ∧ a0_ < ((gF T).length : Int) ∧ v = ((zbq (gCe T (gFn T (a0_).toNat) (gN T)) (gN T) : Nat) : Int)) ∨ (¬ (0 ≤ a0_ ∧ a0_ < ((gF T).length : Int)) ∧ v = (-1 : Int))))))
                    refine zw_iload_n (pc := 101) (n := 3) (x := Int32.ofInt u4_) rfl d_M_centre_101 ?_
                    have hct_ := zbq_T (p := gCe T (gFn T (a0_).toNat) (gN T)) (t := v37_) g24 (by omega) (by omega) hcb_ (by rcases hcc_ with q_ | q_; exact Or.inl ⟨by omega, q_.2⟩; exact Or.inr ⟨by omega, q_.2⟩)
                    refine zr_ishl (pc := 102) d_M_centre_102 ?_
                    have hr38_ := zshl_r v37_ u4_
                    refine zr_ior (pc := 103) d_M_centre_103 ?_
                    have hr39_ := zor_r u3_ (zshl v37_ u4_)
                    refine zw_istore_n (pc := 104) (i := 2) (L2 := [some (.ref 81), some (.int (Int32.ofInt a0_)), some (.int (Int32.ofInt (zor u3_ (zshl v37_ u4_)))), some (.int (Int32.ofInt u4_)), some (.int (Int32.ofInt u31_)), some (.int (Int32.ofInt u32_))]) rfl (by decide) rfl d_M_centre_104 ?_
                    refine zr_iinc (pc := 105) (i := 3) (a := u4_) (n := 1) (L2 := [some (.ref 81), some (.int (Int32.ofInt a0_)), some (.int (Int32.ofInt (zor u3_ (zshl v37_ u4_)))), some (.int (Int32.ofInt (u4_ + 1))), some (.int (Int32.ofInt u31_)), some (.int (Int32.ofInt u32_))]) rfl (by decide) rfl d_M_centre_105 ?_
                    refine zw_goto (pc := 108) (tgt := 14) (by decide) d_M_centre_108 ?_
                    refine zW_le [some (.ref 81), some (.int (Int32.ofInt a0_)), some (.int (Int32.ofInt (zor u3_ (zshl v37_ u4_)))), some (.int (Int32.ofInt (u4_ + 1))), none, none] (⟨rfl, rfl, rfl, rfl, trivial⟩) ?_
                    exact ih_14 (zor u3_ (zshl v37_ u4_)) (by omega) (by omega) (u4_ + 1) (by omega) (by omega) (show 0 ≤ (u4_ + 1) by first | assumption | omega) (show (u4_ + 1) ≤ gN T by first | assumption | omega) (show (zor u3_ (zshl v37_ u4_)) = ((zbq (gCe T (gFn T (a0_).toNat) (gN T)) ((u4_ + 1)).toNat : Nat) : Int) by exact hct_) (by omega)
                  · skip
                    refine zw_iload (pc := 46) (i := 4) (x := Int32.ofInt u31_) rfl d_M_centre_46 ?_
                    refine zr_if_eq (pc := 48) (tgt := 95) ⟨hu31_a, hu31_b⟩ (by decide) d_M_centre_48 (fun hc_48 => ?_) (fun hc_48 => ?_)
                    · skip
                      have hcc_ := zceI_e hci_ (by first | exact Or.inl (by omega) | exact Or.inr (by omega))
                      refine zw_iload_n (pc := 95) (n := 2) (x := Int32.ofInt u3_) rfl d_M_centre_95 ?_
                      refine zw_iload (pc := 96) (i := 4) (x := Int32.ofInt u31_) rfl d_M_centre_96 ?_
                      refine zr_callS hf.x (pc := 98) [.int (Int32.ofInt u31_)] [.int (Int32.ofInt u3_)] l_M_256 (c_M_truth l Mz (hf.w hW) u31_ hu31_a hu31_b (by omega)) rfl rfl (by decide) (Nat.le_of_ble_eq_true rfl) d_M_centre_98 ?_
                      rintro _ N40_ ⟨v41_, rfl, ⟨hv41_a, hv41_b⟩, hsN40_, hp0_N40_⟩
                      obtain rfl := hsN40_.eq.symm
                      replace hp0_N40_ : v41_ = u31_ := hp0_N40_
                      show zW l m_M_centre (zn Mz + 0, zw Mz + 0) Mz 101 [some (.ref 81), some (.int (Int32.ofInt a0_)), some (.int (Int32.ofInt u3_)), some (.int (Int32.ofInt u4_)), some (.int (Int32.ofInt u31_)), some (.int (Int32.ofInt u32_))] [.int (Int32.ofInt v41_), .int (Int32.ofInt u3_)] (zpI [] [] Mz (fun v N => (((0 ≤ a0_ ∧ a0_ < ((gF T).length : Int) ∧ v = ((zbq (gCe T (gFn T (a0_).toNat) (gN T)) (gN T) : Nat) : Int)) ∨ (¬ (0 ≤ a0_ ∧ a0_ < ((gF T).length : Int)) ∧ v = (-1 : Int))))))
                      refine zw_iload_n (pc := 101) (n := 3) (x := Int32.ofInt u4_) rfl d_M_centre_101 ?_
                      have hct_ := zbq_T (p := gCe T (gFn T (a0_).toNat) (gN T)) (t := v41_) g24 (by omega) (by omega) hcb_ (by rcases hcc_ with q_ | q_; exact Or.inl ⟨by omega, q_.2⟩; exact Or.inr ⟨by omega, q_.2⟩)
                      refine zr_ishl (pc := 102) d_M_centre_102 ?_
                      have hr42_ := zshl_r v41_ u4_
                      refine zr_ior (pc := 103) d_M_centre_103 ?_
                      have hr43_ := zor_r u3_ (zshl v41_ u4_)
                      refine zw_istore_n (pc := 104) (i := 2) (L2 := [some (.ref 81), some (.int (Int32.ofInt a0_)), some (.int (Int32.ofInt (zor u3_ (zshl v41_ u4_)))), some (.int (Int32.ofInt u4_)), some (.int (Int32.ofInt u31_)), some (.int (Int32.ofInt u32_))]) rfl (by decide) rfl d_M_centre_104 ?_
                      refine zr_iinc (pc := 105) (i := 3) (a := u4_) (n := 1) (L2 := [some (.ref 81), some (.int (Int32.ofInt a0_)), some (.int (Int32.ofInt (zor u3_ (zshl v41_ u4_)))), some (.int (Int32.ofInt (u4_ + 1))), some (.int (Int32.ofInt u31_)), some (.int (Int32.ofInt u32_))]) rfl (by decide) rfl d_M_centre_105 ?_
                      refine zw_goto (pc := 108) (tgt := 14) (by decide) d_M_centre_108 ?_
                      refine zW_le [some (.ref 81), some (.int (Int32.ofInt a0_)), some (.int (Int32.ofInt (zor u3_ (zshl v41_ u4_)))), some (.int (Int32.ofInt (u4_ + 1))), none, none] (⟨rfl, rfl, rfl, rfl, trivial⟩) ?_
                      exact ih_14 (zor u3_ (zshl v41_ u4_)) (by omega) (by omega) (u4_ + 1) (by omega) (by omega) (show 0 ≤ (u4_ + 1) by first | assumption | omega) (show (u4_ + 1) ≤ gN T by first | assumption | omega) (show (zor u3_ (zshl v41_ u4_)) = ((zbq (gCe T (gFn T (a0_).toNat) (gN T)) ((u4_ + 1)).toNat : Nat) : Int) by exact hct_) (by omega)
                    · skip
                      refine zw_aload_n (pc := 51) (n := 0) (x := 81) rfl d_M_centre_51 ?_
                      refine zr_getF (r := 91) (hf.w hW) (pc := 52) f_M_44 rfl (zh_91 (hf.w hW)).1 d_M_centre_52 ?_
                      refine zw_iload_n (pc := 55) (n := 1) (x := Int32.ofInt a0_) rfl d_M_centre_55 ?_
                      refine zr_ialdn (pc := 56) (zh_91 (hf.w hW)).2 (by decide) (by omega) (by omega) d_M_centre_56 (fun v44_ hv44_ hv44_a hv44_b => ?_)
                      have hf_x := dv3.g hO (e := a0_) (by omega) (by omega)
                      refine zr_toI (show v44_ = ze Mz 91 (a0_).toNat by omega) ?_
                      have hfv_ : ze Mz 91 (a0_).toNat = ((gFn T (a0_).toNat : Nat) : Int) := dv3.2 _ (by omega)
                      refine zw_iload (pc := 57) (i := 5) (x := Int32.ofInt u32_) rfl d_M_centre_57 ?_
                      refine zr_callS hf.x (pc := 59) [.int (Int32.ofInt (ze Mz 91 (a0_).toNat)), .int (Int32.ofInt u32_)] [] l_M_213 (c_M_holds l Mz (hf.w hW) (ze Mz 91 (a0_).toNat) (by omega) (by omega) u32_ hu32_a hu32_b (show 0 ≤ (ze Mz 91 (a0_).toNat) by first | assumption | omega) (show 0 ≤ u32_ by first | assumption | omega) (show u32_ < 32 by first | assumption | omega)) rfl rfl (by decide) (Nat.le_of_ble_eq_true rfl) d_M_centre_59 ?_
                      rintro _ N45_ ⟨v46_, rfl, ⟨hv46_a, hv46_b⟩, hsN45_, hp0_N45_⟩
                      obtain rfl := hsN45_.eq.symm
                      replace hp0_N45_ : ((v46_ = 1 ∧ zbt (ze Mz 91 (a0_).toNat) u32_) ∨ (v46_ = 0 ∧ ¬ zbt (ze Mz 91 (a0_).toNat) u32_)) := hp0_N45_
                      rcases hp0_N45_ with ⟨rfl, ha59_0_hp0_N45_⟩ | ⟨rfl, ha59_0_hp0_N45_⟩
                      · skip
                        have hbt_ := (zbt_n hfv_).mp ha59_0_hp0_N45_
                        show zW l m_M_centre (zn Mz + 0, zw Mz + 0) Mz 62 [some (.ref 81), some (.int (Int32.ofInt a0_)), some (.int (Int32.ofInt u3_)), some (.int (Int32.ofInt u4_)), some (.int (Int32.ofInt u31_)), some (.int (Int32.ofInt u32_))] [.int (Int32.ofInt 1)] (zpI [] [] Mz (fun v N => (((0 ≤ a0_ ∧ a0_ < ((gF T).length : Int) ∧ v = ((zbq (gCe T (gFn T (a0_).toNat) (gN T)) (gN T) : Nat) : Int)) ∨ (¬ (0 ≤ a0_ ∧ a0_ < ((gF T).length : Int)) ∧ v = (-1 : Int))))))
                        refine zr_if_eq (pc := 62) (tgt := 82) ⟨(by decide), (by decide)⟩ (by decide) d_M_centre_62 (fun hc_62 => ?_) (fun hc_62 => ?_)
                        · skip
                          exact absurd hc_62 (by decide)
                        · skip
                          refine zw_aload_n (pc := 65) (n := 0) (x := 81) rfl d_M_centre_65 ?_
                          refine zw_iload_n (pc := 66) (n := 3) (x := Int32.ofInt u4_) rfl d_M_centre_66 ?_
                          refine zw_iload (pc := 67) (i := 5) (x := Int32.ofInt u32_) rfl d_M_centre_67 ?_
                          refine zr_callV (hf.w hW) hf.x (pc := 69) [.int (Int32.ofInt u4_), .int (Int32.ofInt u32_)] [] l_M_216 (c_M_by l Mz (hf.w hW) u4_ hu4_a hu4_b u32_ hu32_a hu32_b T hG dv0 (show 0 ≤ u4_ by first | assumption | omega) (show u4_ < ze Mz 81 20 by first | assumption | omega) (show 0 ≤ u32_ by first | assumption | omega) (show u32_ < ze Mz 81 20 by first | assumption | omega)) rfl rfl rfl (by decide) (Nat.le_of_ble_eq_true rfl) d_M_centre_69 ?_
                          rintro _ N47_ ⟨v48_, rfl, ⟨hv48_a, hv48_b⟩, hsN47_, ⟨hp0_N47_, hp1_N47_, hp2_N47_⟩⟩
                          obtain rfl := hsN47_.eq.symm
                          show zW l m_M_centre (zn Mz + 0, zw Mz + 0) Mz 72 [some (.ref 81), some (.int (Int32.ofInt a0_)), some (.int (Int32.ofInt u3_)), some (.int (Int32.ofInt u4_)), some (.int (Int32.ofInt u31_)), some (.int (Int32.ofInt u32_))] [.int (Int32.ofInt v48_)] (zpI [] [] Mz (fun v N => (((0 ≤ a0_ ∧ a0_ < ((gF T).length : Int) ∧ v = ((zbq (gCe T (gFn T (a0_).toNat) (gN T)) (gN T) : Nat) : Int)) ∨ (¬ (0 ≤ a0_ ∧ a0_ < ((gF T).length : Int)) ∧ v = (-1 : Int))))))
                          have hb1_ := hp0_N47_
                          refine zw_aload_n (pc := 72) (n := 0) (x := 81) rfl d_M_centre_72 ?_
                          refine zw_iload (pc := 73) (i := 5) (x := Int32.ofInt u32_) rfl d_M_centre_73 ?_
                          refine zw_iload_n (pc := 75) (n := 3) (x := Int32.ofInt u4_) rfl d_M_centre_75 ?_
                          refine zr_callV (hf.w hW) hf.x (pc := 76) [.int (Int32.ofInt u32_), .int (Int32.ofInt u4_)] [.int (Int32.ofInt v48_)] l_M_216 (c_M_by l Mz (hf.w hW) u32_ hu32_a hu32_b u4_ hu4_a hu4_b T hG dv0 (show 0 ≤ u32_ by first | assumption | omega) (show u32_ < ze Mz 81 20 by first | assumption | omega) (show 0 ≤ u4_ by first | assumption | omega) (show u4_ < ze Mz 81 20 by first | assumption | omega)) rfl rfl rfl (by decide) (Nat.le_of_ble_eq_true rfl) d_M_centre_76 ?_
                          rintro _ N49_ ⟨v50_, rfl, ⟨hv50_a, hv50_b⟩, hsN49_, ⟨hp0_N49_, hp1_N49_, hp2_N49_⟩⟩
                          obtain rfl := hsN49_.eq.symm
                          show zW l m_M_centre (zn Mz + 0, zw Mz + 0) Mz 79 [some (.ref 81), some (.int (Int32.ofInt a0_)), some (.int (Int32.ofInt u3_)), some (.int (Int32.ofInt u4_)), some (.int (Int32.ofInt u31_)), some (.int (Int32.ofInt u32_))] [.int (Int32.ofInt v50_), .int (Int32.ofInt v48_)] (zpI [] [] Mz (fun v N => (((0 ≤ a0_ ∧ a0_ < ((gF T).length : Int) ∧ v = ((zbq (gCe T (gFn T (a0_).toNat) (gN T)) (gN T) : Nat) : Int)) ∨ (¬ (0 ≤ a0_ ∧ a0_ < ((gF T).length : Int)) ∧ v = (-1 : Int))))))
                          have hb2_ := hp0_N49_
                          refine zr_icmp_ne (pc := 79) (tgt := 86) ⟨hv48_a, hv48_b⟩ ⟨hv50_a, hv50_b⟩ (by decide) d_M_centre_79 (fun hc_79 => ?_) (fun hc_79 => ?_)
                          · skip
                            refine zw_iconst (pc := 86) (v := Int32.ofInt 0) (by decide) d_M_centre_86 ?_
                            refine zw_istore (pc := 87) (i := 4) (L2 := [some (.ref 81), some (.int (Int32.ofInt a0_)), some (.int (Int32.ofInt u3_)), some (.int (Int32.ofInt u4_)), some (.int (Int32.ofInt 0)), some (.int (Int32.ofInt u32_))]) (by decide) rfl d_M_centre_87 ?_
                            refine zr_iinc (pc := 89) (i := 5) (a := u32_) (n := 1) (L2 := [some (.ref 81), some (.int (Int32.ofInt a0_)), some (.int (Int32.ofInt u3_)), some (.int (Int32.ofInt u4_)), some (.int (Int32.ofInt 0)), some (.int (Int32.ofInt (u32_ + 1)))]) rfl (by decide) rfl d_M_centre_89 ?_
                            refine zw_goto (pc := 92) (tgt := 37) (by decide) d_M_centre_92 ?_
                            have hcn_ : zceI T (gFn T (a0_).toNat) u4_ (u32_ + 1) (0 : Int) := zceI_s hci_ (by omega) (by omega) (by omega) (by first | exact Or.inl ⟨by omega, Or.inl hnb_⟩ | exact Or.inl ⟨by omega, Or.inr (by omega)⟩ | exact Or.inr ⟨by omega, hbt_, by omega⟩)
                            exact ih_37 0 (by decide) (by decide) (by omega) (u32_ + 1) (by omega) (by omega) (show 0 ≤ (u32_ + 1) by first | assumption | omega) (show (u32_ + 1) ≤ gN T by first | assumption | omega) (show zceI T (gFn T (a0_).toNat) u4_ (u32_ + 1) (0 : Int) by exact hcn_) (by omega)
                          · skip
                            refine zw_iconst (pc := 82) (v := Int32.ofInt 1) (by decide) d_M_centre_82 ?_
                            refine zw_goto (pc := 83) (tgt := 87) (by decide) d_M_centre_83 ?_
                            refine zw_istore (pc := 87) (i := 4) (L2 := [some (.ref 81), some (.int (Int32.ofInt a0_)), some (.int (Int32.ofInt u3_)), some (.int (Int32.ofInt u4_)), some (.int (Int32.ofInt 1)), some (.int (Int32.ofInt u32_))]) (by decide) rfl d_M_centre_87 ?_
                            refine zr_iinc (pc := 89) (i := 5) (a := u32_) (n := 1) (L2 := [some (.ref 81), some (.int (Int32.ofInt a0_)), some (.int (Int32.ofInt u3_)), some (.int (Int32.ofInt u4_)), some (.int (Int32.ofInt 1)), some (.int (Int32.ofInt (u32_ + 1)))]) rfl (by decide) rfl d_M_centre_89 ?_
                            refine zw_goto (pc := 92) (tgt := 37) (by decide) d_M_centre_92 ?_
                            have hcn_ : zceI T (gFn T (a0_).toNat) u4_ (u32_ + 1) (1 : Int) := zceI_s hci_ (by omega) (by omega) (by omega) (by first | exact Or.inl ⟨by omega, Or.inl hnb_⟩ | exact Or.inl ⟨by omega, Or.inr (by omega)⟩ | exact Or.inr ⟨by omega, hbt_, by omega⟩)
                            exact ih_37 1 (by decide) (by decide) (by omega) (u32_ + 1) (by omega) (by omega) (show 0 ≤ (u32_ + 1) by first | assumption | omega) (show (u32_ + 1) ≤ gN T by first | assumption | omega) (show zceI T (gFn T (a0_).toNat) u4_ (u32_ + 1) (1 : Int) by exact hcn_) (by omega)
                      · skip
                        have hnb_ := fun q_ => ha59_0_hp0_N45_ ((zbt_n hfv_).mpr q_)
                        show zW l m_M_centre (zn Mz + 0, zw Mz + 0) Mz 62 [some (.ref 81), some (.int (Int32.ofInt a0_)), some (.int (Int32.ofInt u3_)), some (.int (Int32.ofInt u4_)), some (.int (Int32.ofInt u31_)), some (.int (Int32.ofInt u32_))] [.int (Int32.ofInt 0)] (zpI [] [] Mz (fun v N => (((0 ≤ a0_ ∧ a0_ < ((gF T).length : Int) ∧ v = ((zbq (gCe T (gFn T (a0_).toNat) (gN T)) (gN T) : Nat) : Int)) ∨ (¬ (0 ≤ a0_ ∧ a0_ < ((gF T).length : Int)) ∧ v = (-1 : Int))))))
                        refine zr_if_eq (pc := 62) (tgt := 82) ⟨(by decide), (by decide)⟩ (by decide) d_M_centre_62 (fun hc_62 => ?_) (fun hc_62 => ?_)
                        · skip
                          refine zw_iconst (pc := 82) (v := Int32.ofInt 1) (by decide) d_M_centre_82 ?_
                          refine zw_goto (pc := 83) (tgt := 87) (by decide) d_M_centre_83 ?_
                          refine zw_istore (pc := 87) (i := 4) (L2 := [some (.ref 81), some (.int (Int32.ofInt a0_)), some (.int (Int32.ofInt u3_)), some (.int (Int32.ofInt u4_)), some (.int (Int32.ofInt 1)), some (.int (Int32.ofInt u32_))]) (by decide) rfl d_M_centre_87 ?_
                          refine zr_iinc (pc := 89) (i := 5) (a := u32_) (n := 1) (L2 := [some (.ref 81), some (.int (Int32.ofInt a0_)), some (.int (Int32.ofInt u3_)), some (.int (Int32.ofInt u4_)), some (.int (Int32.ofInt 1)), some (.int (Int32.ofInt (u32_ + 1)))]) rfl (by decide) rfl d_M_centre_89 ?_
                          refine zw_goto (pc := 92) (tgt := 37) (by decide) d_M_centre_92 ?_
                          have hcn_ : zceI T (gFn T (a0_).toNat) u4_ (u32_ + 1) (1 : Int) := zceI_s hci_ (by omega) (by omega) (by omega) (by first | exact Or.inl ⟨by omega, Or.inl hnb_⟩ | exact Or.inl ⟨by omega, Or.inr (by omega)⟩ | exact Or.inr ⟨by omega, hbt_, by omega⟩)
                          exact ih_37 1 (by decide) (by decide) (by omega) (u32_ + 1) (by omega) (by omega) (show 0 ≤ (u32_ + 1) by first | assumption | omega) (show (u32_ + 1) ≤ gN T by first | assumption | omega) (show zceI T (gFn T (a0_).toNat) u4_ (u32_ + 1) (1 : Int) by exact hcn_) (by omega)
                        · skip
                          exact absurd hc_62 (by decide)
              exact lp_37 _ 0 (by decide) (by decide) (by omega) 0 (by decide) (by decide) (show 0 ≤ (0 : Int) by first | assumption | omega) (show (0 : Int) ≤ gN T by first | assumption | omega) (show zceI T (gFn T (a0_).toNat) u4_ (0 : Int) (0 : Int) by exact hce_) (Nat.lt_succ_self _)
      exact lp_14 _ 0 (by decide) (by decide) 0 (by decide) (by decide) (show 0 ≤ (0 : Int) by first | assumption | omega) (show (0 : Int) ≤ gN T by first | assumption | omega) (show (0 : Int) = ((zbq (gCe T (gFn T (a0_).toNat) (gN T)) ((0 : Int)).toNat : Nat) : Int) by rfl) (Nat.lt_succ_self _)
    · skip
      exact absurd hc_5 (by decide)
  · skip
    show zW l m_M_centre (zn Mz + 0, zw Mz + 0) Mz 5 [some (.ref 81), some (.int (Int32.ofInt a0_)), none, none, none, none] [.int (Int32.ofInt 0)] (zpI [] [] Mz (fun v N => (((0 ≤ a0_ ∧ a0_ < ((gF T).length : Int) ∧ v = ((zbq (gCe T (gFn T (a0_).toNat) (gN T)) (gN T) : Nat) : Int)) ∨ (¬ (0 ≤ a0_ ∧ a0_ < ((gF T).length : Int)) ∧ v = (-1 : Int))))))
    refine zr_if_ne (pc := 5) (tgt := 10) ⟨(by decide), (by decide)⟩ (by decide) d_M_centre_5 (fun hc_5 => ?_) (fun hc_5 => ?_)
    · skip
      exact absurd hc_5 (by decide)
    · skip
      refine zw_iconst (pc := 8) (v := Int32.ofInt (-1)) (by decide) d_M_centre_8 ?_
      exact zr_iret (pc := 9) (ty := .int) rfl rfl ⟨by omega, by omega⟩ hf (show ((0 ≤ a0_ ∧ a0_ < ((gF T).length : Int) ∧ ((-1)) = ((zbq (gCe T (gFn T (a0_).toNat) (gN T)) (gN T) : Nat) : Int)) ∨ (¬ (0 ≤ a0_ ∧ a0_ < ((gF T).length : Int)) ∧ ((-1)) = (-1 : Int))) by exact Or.inr ⟨by omega, rfl⟩) d_M_centre_9
