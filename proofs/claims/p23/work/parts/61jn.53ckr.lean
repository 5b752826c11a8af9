set_option maxHeartbeats 4000000 in
theorem u_Group_mixturesOfG (l : Launch) (d_ : Nat) (Mz : zMem) (hW : zKW d_ Mz) (a0_ : Int) (ha0_a : -2147483648 ≤ a0_) (ha0_b : a0_ < 2147483648) (T_ : zGT) (hT_ : T_ ∈ gTabs) (p0_ : zTt T_ d_ Mz) (p1_ : 0 ≤ a0_) (p2_ : a0_ < 16777216) : zC l m_Group_mixturesOf 0 0 [.ref (d_ + 1), .int (Int32.ofInt a0_)] Mz (zqcI d_ [] [] [] [] Mz (fun v N => zMxI T_ (a0_).toNat (gN T_) 0 v)) := by
  refine zC_of (L0 := [some (.ref (d_ + 1)), some (.int (Int32.ofInt a0_)), none, none, none, none]) md_Group_mixturesOf (Nat.le_of_ble_eq_true rfl) rfl ?_ zQ0
  have hf : zFc d_ [] [] [] [] Mz Mz := zFc.rf
  have r_D1_7 := ze_r Mz (d_ + 1) 7
  have hO_ := gTabs_ok T_ hT_
  have hG_ := hO_.1
  have hn24_ := hG_.2.1
  have hn1_ := hG_.1
  have hsz_ := p0_.1
  refine zw_iconst (pc := 0) (v := Int32.ofInt 0) (by decide) (zdal_p dlB_Group_mixturesOf_54 (i := 0) rfl) ?_
  refine zw_istore_n (pc := 1) (i := 2) (L2 := [some (.ref (d_ + 1)), some (.int (Int32.ofInt a0_)), some (.int (Int32.ofInt 0)), none, none, none]) rfl (by decide) rfl (zdal_p dlB_Group_mixturesOf_54 (i := 1) rfl) ?_
  refine zw_iconst (pc := 2) (v := Int32.ofInt 0) (by decide) (zdal_p dlB_Group_mixturesOf_54 (i := 2) rfl) ?_
  refine zw_istore_n (pc := 3) (i := 3) (L2 := [some (.ref (d_ + 1)), some (.int (Int32.ofInt a0_)), some (.int (Int32.ofInt 0)), some (.int (Int32.ofInt 0)), none, none]) rfl (by decide) rfl (zdal_p dlB_Group_mixturesOf_54 (i := 3) rfl) ?_
  have lp_4 : ∀ (n : Nat) (u1_ : Int) (hu1_a : -2147483648 ≤ u1_) (hu1_b : u1_ < 2147483648) (u2_ : Int) (hu2_a : -2147483648 ≤ u2_) (hu2_b : u2_ < 2147483648) (i3_ : 0 ≤ u2_) (i4_ : u2_ ≤ gN T_) (i5_ : zMxI T_ (a0_).toNat u2_ 0 u1_), (gN T_ - u2_).toNat < n → zW l m_Group_mixturesOf (zn Mz + 0, zw Mz + 0) Mz 4 [some (.ref (d_ + 1)), some (.int (Int32.ofInt a0_)), some (.int (Int32.ofInt u1_)), some (.int (Int32.ofInt u2_)), none, none] [] (zqcI d_ [] [] [] [] Mz (fun v N => zMxI T_ (a0_).toNat (gN T_) 0 v)) := by
    intro n
    induction n with
    | zero =>
      intro u1_ hu1_a hu1_b u2_ hu2_a hu2_b i3_ i4_ i5_ h0
      exact absurd h0 (Nat.not_lt_zero _)
    | succ n ih_4 =>
      intro u1_ hu1_a hu1_b u2_ hu2_a hu2_b i3_ i4_ i5_ hlt_4
      have hma_ := (show zMxI T_ (a0_).toNat u2_ 0 u1_ by assumption)
      refine zw_iload_n (pc := 4) (n := 3) (x := Int32.ofInt u2_) rfl (zdal_p dlB_Group_mixturesOf_54 (i := 4) rfl) ?_
      refine zw_aload_n (pc := 5) (n := 0) (x := (d_ + 1)) rfl (zdal_p dlB_Group_mixturesOf_54 (i := 5) rfl) ?_
      refine zk_getI (pc := 6) f_Group_39 rfl ((hf.w hW).kr (o := 1) (by decide)) (zdal_p dlB_Group_mixturesOf_54 (i := 6) rfl) ?_
      refine zr_icmp_ge (pc := 9) (tgt := 94) ⟨hu2_a, hu2_b⟩ ⟨(ze_r Mz (d_ + 1) 7).1, (ze_r Mz (d_ + 1) 7).2⟩ (by decide) (zdal_p dlB_Group_mixturesOf_54 (i := 7) rfl) (fun hc_9 => ?_) (fun hc_9 => ?_)
      · skip
        refine zw_iload_n (pc := 94) (n := 2) (x := Int32.ofInt u1_) rfl (zdal_p dlB_Group_mixturesOf_56 (i := 1) rfl) ?_
        exact zk_iret (pc := 95) (ty := .int) rfl rfl ⟨by omega, by omega⟩ hf (show zMxI T_ (a0_).toNat (gN T_) 0 u1_ by rw [show (gN T_ : Int) = u2_ by omega]; exact hma_) (zdal_p dlB_Group_mixturesOf_56 (i := 2) rfl)
      · skip
        refine zw_iconst (pc := 12) (v := Int32.ofInt 0) (by decide) (zdal_p dlB_Group_mixturesOf_54 (i := 8) rfl) ?_
        refine zw_istore (pc := 13) (i := 4) (L2 := [some (.ref (d_ + 1)), some (.int (Int32.ofInt a0_)), some (.int (Int32.ofInt u1_)), some (.int (Int32.ofInt u2_)), some (.int (Int32.ofInt 0)), none]) (by decide) rfl (zdal_p dlB_Group_mixturesOf_54 (i := 9) rfl) ?_
        have lp_15 : ∀ (n : Nat) (u6_ : Int) (hu6_a : -2147483648 ≤ u6_) (hu6_b : u6_ < 2147483648) (u7_ : Int) (hu7_a : -2147483648 ≤ u7_) (hu7_b : u7_ < 2147483648) (i8_ : 0 ≤ u7_) (i9_ : u7_ ≤ gN T_) (i10_ : zMxI T_ (a0_).toNat u2_ u7_ u6_), (gN T_ - u7_).toNat < n → zW l m_Group_mixturesOf (zn Mz + 0, zw Mz + 0) Mz 15 [some (.ref (d_ + 1)), some (.int (Int32.ofInt a0_)), some (.int (Int32.ofInt u6_)), some (.int (Int32.ofInt u2_)), some (.int (Int32.ofInt u7_)), none] [] (zqcI d_ [] [] [] [] Mz (fun v N => zMxI T_ (a0_).toNat (gN T_) 0 v)) := by
          intro n
          induction n with
          | zero =>
            intro u6_ hu6_a hu6_b u7_ hu7_a hu7_b i8_ i9_ i10_ h0
            exact absurd h0 (Nat.not_lt_zero _)
          | succ n ih_15 =>
            intro u6_ hu6_a hu6_b u7_ hu7_a hu7_b i8_ i9_ i10_ hlt_15
            have hmb_ := (show zMxI T_ (a0_).toNat u2_ u7_ u6_ by assumption)
            have hmr_ := hmb_.1
            refine zw_iload (pc := 15) (i := 4) (x := Int32.ofInt u7_) rfl (zdal_p dlB_Group_mixturesOf_54 (i := 10) rfl) ?_
            refine zw_aload_n (pc := 17) (n := 0) (x := (d_ + 1)) rfl (zdal_p dlB_Group_mixturesOf_54 (i := 11) rfl) ?_
            refine zk_getI (pc := 18) f_Group_39 rfl ((hf.w hW).kr (o := 1) (by decide)) (zdal_p dlB_Group_mixturesOf_54 (i := 12) rfl) ?_
            refine zr_icmp_ge (pc := 21) (tgt := 88) ⟨hu7_a, hu7_b⟩ ⟨(ze_r Mz (d_ + 1) 7).1, (ze_r Mz (d_ + 1) 7).2⟩ (by decide) (zdal_p dlB_Group_mixturesOf_54 (i := 13) rfl) (fun hc_21 => ?_) (fun hc_21 => ?_)
            · skip
              refine zr_iinc (pc := 88) (i := 3) (a := u2_) (n := 1) (L2 := [some (.ref (d_ + 1)), some (.int (Int32.ofInt a0_)), some (.int (Int32.ofInt u6_)), some (.int (Int32.ofInt (u2_ + 1))), some (.int (Int32.ofInt u7_)), none]) rfl (by decide) rfl (zdal_p dlB_Group_mixturesOf_55 (i := 23) rfl) ?_
              refine zw_goto (pc := 91) (tgt := 4) (by decide) (zdal_p dlB_Group_mixturesOf_56 (i := 0) rfl) ?_
              have hmf_ := zMxI_f (by omega) hmb_
              refine zW_le [some (.ref (d_ + 1)), some (.int (Int32.ofInt a0_)), some (.int (Int32.ofInt u6_)), some (.int (Int32.ofInt (u2_ + 1))), none, none] (⟨rfl, rfl, rfl, rfl, trivial⟩) ?_
              exact ih_4 u6_ hu6_a hu6_b (u2_ + 1) (by omega) (by omega) (show 0 ≤ (u2_ + 1) by first | assumption | omega) (show (u2_ + 1) ≤ gN T_ by first | assumption | omega) (show zMxI T_ (a0_).toNat (u2_ + 1) 0 u6_ by exact hmf_) (by omega)
            · skip
              refine zw_iload_n (pc := 24) (n := 1) (x := Int32.ofInt a0_) rfl (zdal_p dlB_Group_mixturesOf_54 (i := 14) rfl) ?_
              refine zw_iload_n (pc := 25) (n := 3) (x := Int32.ofInt u2_) rfl (zdal_p dlB_Group_mixturesOf_54 (i := 15) rfl) ?_
              refine zr_callS hf.x (pc := 26) [.int (Int32.ofInt a0_), .int (Int32.ofInt u2_)] [] l_Group_73 (u_T_isIn l d_ Mz (hf.w hW) a0_ ha0_a ha0_b u2_ hu2_a hu2_b (show 0 ≤ a0_ by first | assumption | omega) (show a0_ < 2147483648 by first | assumption | omega) (show 0 ≤ u2_ by first | assumption | omega) (show u2_ < 31 by first | assumption | omega)) rfl rfl (by decide) (Nat.le_of_ble_eq_true rfl) (zdal_p dlB_Group_mixturesOf_54 (i := 16) rfl) ?_
              rintro _ N11_ ⟨v12_, rfl, ⟨hv12_a, hv12_b⟩, hsN11_, hp0_N11_⟩
              obtain rfl := hsN11_.eq.symm
              replace hp0_N11_ : ((v12_ = 1 ∧ zbt a0_ u2_) ∨ (v12_ = 0 ∧ ¬ zbt a0_ u2_)) := hp0_N11_
              rcases hp0_N11_ with ⟨rfl, ha26_0_hp0_N11_⟩ | ⟨rfl, ha26_0_hp0_N11_⟩
              · skip
                have hbx_ := ha26_0_hp0_N11_
                show zW l m_Group_mixturesOf (zn Mz + 0, zw Mz + 0) Mz 29 [some (.ref (d_ + 1)), some (.int (Int32.ofInt a0_)), some (.int (Int32.ofInt u6_)), some (.int (Int32.ofInt u2_)), some (.int (Int32.ofInt u7_)), none] [.int (Int32.ofInt 1)] _
                refine zr_if_eq (pc := 29) (tgt := 82) ⟨(by decide), (by decide)⟩ (by decide) (zdal_p dlB_Group_mixturesOf_54 (i := 17) rfl) (fun hc_29 => ?_) (fun hc_29 => ?_)
                · skip
                  exact absurd hc_29 (by decide)
                · skip
                  refine zw_iload_n (pc := 32) (n := 1) (x := Int32.ofInt a0_) rfl (zdal_p dlB_Group_mixturesOf_54 (i := 18) rfl) ?_
                  refine zw_iload (pc := 33) (i := 4) (x := Int32.ofInt u7_) rfl (zdal_p dlB_Group_mixturesOf_54 (i := 19) rfl) ?_
                  refine zr_callS hf.x (pc := 35) [.int (Int32.ofInt a0_), .int (Int32.ofInt u7_)] [] l_Group_73 (u_T_isIn l d_ Mz (hf.w hW) a0_ ha0_a ha0_b u7_ hu7_a hu7_b (show 0 ≤ a0_ by first | assumption | omega) (show a0_ < 2147483648 by first | assumption | omega) (show 0 ≤ u7_ by first | assumption | omega) (show u7_ < 31 by first | assumption | omega)) rfl rfl (by decide) (Nat.le_of_ble_eq_true rfl) (zdal_p dlB_Group_mixturesOf_54 (i := 20) rfl) ?_
                  rintro _ N13_ ⟨v14_, rfl, ⟨hv14_a, hv14_b⟩, hsN13_, hp0_N13_⟩
                  obtain rfl := hsN13_.eq.symm
                  replace hp0_N13_ : ((v14_ = 1 ∧ zbt a0_ u7_) ∨ (v14_ = 0 ∧ ¬ zbt a0_ u7_)) := hp0_N13_
                  rcases hp0_N13_ with ⟨rfl, ha35_0_hp0_N13_⟩ | ⟨rfl, ha35_0_hp0_N13_⟩
                  · skip
                    have hby_ := ha35_0_hp0_N13_
                    show zW l m_Group_mixturesOf (zn Mz + 0, zw Mz + 0) Mz 38 [some (.ref (d_ + 1)), some (.int (Int32.ofInt a0_)), some (.int (Int32.ofInt u6_)), some (.int (Int32.ofInt u2_)), some (.int (Int32.ofInt u7_)), none] [.int (Int32.ofInt 1)] _
                    refine zr_if_eq (pc := 38) (tgt := 82) ⟨(by decide), (by decide)⟩ (by decide) (zdal_p dlB_Group_mixturesOf_54 (i := 21) rfl) (fun hc_38 => ?_) (fun hc_38 => ?_)
                    · skip
                      exact absurd hc_38 (by decide)
                    · skip
                      refine zw_aload_n (pc := 41) (n := 0) (x := (d_ + 1)) rfl (zdal_p dlB_Group_mixturesOf_54 (i := 22) rfl) ?_
                      refine zw_aload_n (pc := 42) (n := 0) (x := (d_ + 1)) rfl (zdal_p dlB_Group_mixturesOf_54 (i := 23) rfl) ?_
                      refine zw_getF (pc := 43) f_Group_26 rfl ((hf.w hW).kr (o := 1) (by decide)) ((hf.w hW).lr (o := 1) (s := 3) (r := 8) (by decide)) (zdal_p dlB_Group_mixturesOf_55 (i := 0) rfl) ?_
                      refine zw_iload_n (pc := 46) (n := 3) (x := Int32.ofInt u2_) rfl (zdal_p dlB_Group_mixturesOf_55 (i := 1) rfl) ?_
                      refine zk_at hf.x (pc := 47) l_Group_54 ((hf.w hW).kr (o := 8) (by decide)) ((hf.w hW).lr (o := 8) (s := 0) (r := 9) (by decide)) ((hf.w hW).rr (o := 9) (t := 1) (n := 24) (by decide)) (by decide) (by omega) (by omega) (by decide) (Nat.le_of_ble_eq_true rfl) (zdal_p dlB_Group_mixturesOf_55 (i := 2) rfl) (fun v15_ hv15_ hv15_a hv15_b => ?_)
                      obtain ⟨u1_x, u2_x, u3_x⟩ := p0_.u hG_ (a := u2_) (by omega) (by omega) hv15_
                      refine zw_aload_n (pc := 50) (n := 0) (x := (d_ + 1)) rfl (zdal_p dlB_Group_mixturesOf_55 (i := 3) rfl) ?_
                      refine zw_getF (pc := 51) f_Group_26 rfl ((hf.w hW).kr (o := 1) (by decide)) ((hf.w hW).lr (o := 1) (s := 3) (r := 8) (by decide)) (zdal_p dlB_Group_mixturesOf_55 (i := 4) rfl) ?_
                      refine zw_iload (pc := 54) (i := 4) (x := Int32.ofInt u7_) rfl (zdal_p dlB_Group_mixturesOf_55 (i := 5) rfl) ?_
                      refine zk_at hf.x (pc := 56) l_Group_54 ((hf.w hW).kr (o := 8) (by decide)) ((hf.w hW).lr (o := 8) (s := 0) (r := 9) (by decide)) ((hf.w hW).rr (o := 9) (t := 1) (n := 24) (by decide)) (by decide) (by omega) (by omega) (by decide) (Nat.le_of_ble_eq_true rfl) (zdal_p dlB_Group_mixturesOf_55 (i := 6) rfl) (fun v16_ hv16_ hv16_a hv16_b => ?_)
                      obtain ⟨w1_x, w2_x, w3_x⟩ := p0_.u hG_ (a := u7_) (by omega) (by omega) hv16_
                      refine zk_callV hf.x (pc := 59) [.int (Int32.ofInt v15_), .int (Int32.ofInt v16_)] [] l_Group_67 (u_Group_both l d_ Mz (hf.w hW) v15_ hv15_a hv15_b v16_ hv16_a hv16_b T_ hT_ p0_ (show 0 ≤ v15_ by first | assumption | omega) (show v15_ < gN T_ by first | assumption | omega) (show 0 ≤ v16_ by first | assumption | omega) (show v16_ < gN T_ by first | assumption | omega)) rfl rfl ((hf.w hW).kr (o := 1) (by decide)) (by decide) (by decide) (Nat.le_of_ble_eq_true rfl) (zdal_p dlB_Group_mixturesOf_55 (i := 7) rfl) ?_
                      rintro _ N17_ ⟨v18_, rfl, ⟨hv18_a, hv18_b⟩, hsN17_, ⟨hp0_N17_, hp1_N17_, hp2_N17_⟩⟩
                      obtain rfl := hsN17_.eq.symm
                      show zW l m_Group_mixturesOf (zn Mz + 0, zw Mz + 0) Mz 62 [some (.ref (d_ + 1)), some (.int (Int32.ofInt a0_)), some (.int (Int32.ofInt u6_)), some (.int (Int32.ofInt u2_)), some (.int (Int32.ofInt u7_)), none] [.int (Int32.ofInt v18_)] _
                      have hq1_ := hp0_N17_
                      rw [u1_x, w1_x, Int.toNat_natCast, Int.toNat_natCast] at hq1_
                      refine zw_istore (pc := 62) (i := 5) (L2 := [some (.ref (d_ + 1)), some (.int (Int32.ofInt a0_)), some (.int (Int32.ofInt u6_)), some (.int (Int32.ofInt u2_)), some (.int (Int32.ofInt u7_)), some (.int (Int32.ofInt v18_))]) (by decide) rfl (zdal_p dlB_Group_mixturesOf_55 (i := 8) rfl) ?_
                      refine zw_iload_n (pc := 64) (n := 2) (x := Int32.ofInt u6_) rfl (zdal_p dlB_Group_mixturesOf_55 (i := 9) rfl) ?_
                      refine zw_iconst (pc := 65) (v := Int32.ofInt 1) (by decide) (zdal_p dlB_Group_mixturesOf_55 (i := 10) rfl) ?_
                      refine zw_aload_n (pc := 66) (n := 0) (x := (d_ + 1)) rfl (zdal_p dlB_Group_mixturesOf_55 (i := 11) rfl) ?_
                      refine zw_iload (pc := 67) (i := 5) (x := Int32.ofInt v18_) rfl (zdal_p dlB_Group_mixturesOf_55 (i := 12) rfl) ?_
                      refine zw_aload_n (pc := 69) (n := 0) (x := (d_ + 1)) rfl (zdal_p dlB_Group_mixturesOf_55 (i := 13) rfl) ?_
                      refine zw_iload_n (pc := 70) (n := 3) (x := Int32.ofInt u2_) rfl (zdal_p dlB_Group_mixturesOf_55 (i := 14) rfl) ?_
                      refine zw_iload (pc := 71) (i := 4) (x := Int32.ofInt u7_) rfl (zdal_p dlB_Group_mixturesOf_55 (i := 15) rfl) ?_
                      refine zk_callV hf.x (pc := 73) [.int (Int32.ofInt u2_), .int (Int32.ofInt u7_)] [.int (Int32.ofInt v18_), .ref (d_ + 1), .int (Int32.ofInt 1), .int (Int32.ofInt u6_)] l_Group_67 (u_Group_both l d_ Mz (hf.w hW) u2_ hu2_a hu2_b u7_ hu7_a hu7_b T_ hT_ p0_ (show 0 ≤ u2_ by first | assumption | omega) (show u2_ < gN T_ by first | assumption | omega) (show 0 ≤ u7_ by first | assumption | omega) (show u7_ < gN T_ by first | assumption | omega)) rfl rfl ((hf.w hW).kr (o := 1) (by decide)) (by decide) (by decide) (Nat.le_of_ble_eq_true rfl) (zdal_p dlB_Group_mixturesOf_55 (i := 16) rfl) ?_
                      rintro _ N19_ ⟨v20_, rfl, ⟨hv20_a, hv20_b⟩, hsN19_, ⟨hp0_N19_, hp1_N19_, hp2_N19_⟩⟩
                      obtain rfl := hsN19_.eq.symm
                      show zW l m_Group_mixturesOf (zn Mz + 0, zw Mz + 0) Mz 76 [some (.ref (d_ + 1)), some (.int (Int32.ofInt a0_)), some (.int (Int32.ofInt u6_)), some (.int (Int32.ofInt u2_)), some (.int (Int32.ofInt u7_)), some (.int (Int32.ofInt v18_))] [.int (Int32.ofInt v20_), .int (Int32.ofInt v18_), .ref (d_ + 1), .int (Int32.ofInt 1), .int (Int32.ofInt u6_)] _
                      have hq2_ := hp0_N19_
                      refine zk_callV hf.x (pc := 76) [.int (Int32.ofInt v18_), .int (Int32.ofInt v20_)] [.int (Int32.ofInt 1), .int (Int32.ofInt u6_)] l_Group_67 (u_Group_both l d_ Mz (hf.w hW) v18_ hv18_a hv18_b v20_ hv20_a hv20_b T_ hT_ p0_ (show 0 ≤ v18_ by first | assumption | omega) (show v18_ < gN T_ by first | assumption | omega) (show 0 ≤ v20_ by first | assumption | omega) (show v20_ < gN T_ by first | assumption | omega)) rfl rfl ((hf.w hW).kr (o := 1) (by decide)) (by decide) (by decide) (Nat.le_of_ble_eq_true rfl) (zdal_p dlB_Group_mixturesOf_55 (i := 17) rfl) ?_
                      rintro _ N21_ ⟨v22_, rfl, ⟨hv22_a, hv22_b⟩, hsN21_, ⟨hp0_N21_, hp1_N21_, hp2_N21_⟩⟩
                      obtain rfl := hsN21_.eq.symm
                      show zW l m_Group_mixturesOf (zn Mz + 0, zw Mz + 0) Mz 79 [some (.ref (d_ + 1)), some (.int (Int32.ofInt a0_)), some (.int (Int32.ofInt u6_)), some (.int (Int32.ofInt u2_)), some (.int (Int32.ofInt u7_)), some (.int (Int32.ofInt v18_))] [.int (Int32.ofInt v22_), .int (Int32.ofInt 1), .int (Int32.ofInt u6_)] _
                      have hq3_ := hp0_N21_
                      rw [hq1_, hq2_, Int.toNat_natCast, Int.toNat_natCast] at hq3_
                      refine zr_ishl (pc := 79) (zdal_p dlB_Group_mixturesOf_55 (i := 18) rfl) ?_
                      have hr23_ := zshl_r 1 v22_
                      refine zr_ior (pc := 80) (zdal_p dlB_Group_mixturesOf_55 (i := 19) rfl) ?_
                      have hr24_ := zor_r u6_ (zshl 1 v22_)
                      have hmn_ := zMxI_1 hG_ (by omega) (by omega) (by omega) (by omega) hmb_ hbx_ hby_ hq3_
                      refine zw_istore_n (pc := 81) (i := 2) (L2 := [some (.ref (d_ + 1)), some (.int (Int32.ofInt a0_)), some (.int (Int32.ofInt (zor u6_ (zshl 1 v22_)))), some (.int (Int32.ofInt u2_)), some (.int (Int32.ofInt u7_)), some (.int (Int32.ofInt v18_))]) rfl (by decide) rfl (zdal_p dlB_Group_mixturesOf_55 (i := 20) rfl) ?_
                      refine zr_iinc (pc := 82) (i := 4) (a := u7_) (n := 1) (L2 := [some (.ref (d_ + 1)), some (.int (Int32.ofInt a0_)), some (.int (Int32.ofInt (zor u6_ (zshl 1 v22_)))), some (.int (Int32.ofInt u2_)), some (.int (Int32.ofInt (u7_ + 1))), some (.int (Int32.ofInt v18_))]) rfl (by decide) rfl (zdal_p dlB_Group_mixturesOf_55 (i := 21) rfl) ?_
                      refine zw_goto (pc := 85) (tgt := 15) (by decide) (zdal_p dlB_Group_mixturesOf_55 (i := 22) rfl) ?_
                      refine zW_le [some (.ref (d_ + 1)), some (.int (Int32.ofInt a0_)), some (.int (Int32.ofInt (zor u6_ (zshl 1 v22_)))), some (.int (Int32.ofInt u2_)), some (.int (Int32.ofInt (u7_ + 1))), none] (⟨rfl, rfl, rfl, rfl, rfl, trivial⟩) ?_
                      exact ih_15 (zor u6_ (zshl 1 v22_)) (by omega) (by omega) (u7_ + 1) (by omega) (by omega) (show 0 ≤ (u7_ + 1) by first | assumption | omega) (show (u7_ + 1) ≤ gN T_ by first | assumption | omega) (show zMxI T_ (a0_).toNat u2_ (u7_ + 1) (zor u6_ (zshl 1 v22_)) by exact hmn_) (by omega)
                  · skip
                    have hmn_ := zMxI_n (by omega) (by omega) hmb_ (Or.inr ha35_0_hp0_N13_)
                    show zW l m_Group_mixturesOf (zn Mz + 0, zw Mz + 0) Mz 38 [some (.ref (d_ + 1)), some (.int (Int32.ofInt a0_)), some (.int (Int32.ofInt u6_)), some (.int (Int32.ofInt u2_)), some (.int (Int32.ofInt u7_)), none] [.int (Int32.ofInt 0)] _
                    refine zr_if_eq (pc := 38) (tgt := 82) ⟨(by decide), (by decide)⟩ (by decide) (zdal_p dlB_Group_mixturesOf_54 (i := 21) rfl) (fun hc_38 => ?_) (fun hc_38 => ?_)
                    · skip
                      refine zr_iinc (pc := 82) (i := 4) (a := u7_) (n := 1) (L2 := [some (.ref (d_ + 1)), some (.int (Int32.ofInt a0_)), some (.int (Int32.ofInt u6_)), some (.int (Int32.ofInt u2_)), some (.int (Int32.ofInt (u7_ + 1))), none]) rfl (by decide) rfl (zdal_p dlB_Group_mixturesOf_55 (i := 21) rfl) ?_
                      refine zw_goto (pc := 85) (tgt := 15) (by decide) (zdal_p dlB_Group_mixturesOf_55 (i := 22) rfl) ?_
                      exact ih_15 u6_ hu6_a hu6_b (u7_ + 1) (by omega) (by omega) (show 0 ≤ (u7_ + 1) by first | assumption | omega) (show (u7_ + 1) ≤ gN T_ by first | assumption | omega) (show zMxI T_ (a0_).toNat u2_ (u7_ + 1) u6_ by exact hmn_) (by omega)
                    · skip
                      exact absurd hc_38 (by decide)
              · skip
                have hmn_ := zMxI_n (by omega) (by omega) hmb_ (Or.inl ha26_0_hp0_N11_)
                show zW l m_Group_mixturesOf (zn Mz + 0, zw Mz + 0) Mz 29 [some (.ref (d_ + 1)), some (.int (Int32.ofInt a0_)), some (.int (Int32.ofInt u6_)), some (.int (Int32.ofInt u2_)), some (.int (Int32.ofInt u7_)), none] [.int (Int32.ofInt 0)] _
                refine zr_if_eq (pc := 29) (tgt := 82) ⟨(by decide), (by decide)⟩ (by decide) (zdal_p dlB_Group_mixturesOf_54 (i := 17) rfl) (fun hc_29 => ?_) (fun hc_29 => ?_)
                · skip
                  refine zr_iinc (pc := 82) (i := 4) (a := u7_) (n := 1) (L2 := [some (.ref (d_ + 1)), some (.int (Int32.ofInt a0_)), some (.int (Int32.ofInt u6_)), some (.int (Int32.ofInt u2_)), some (.int (Int32.ofInt (u7_ + 1))), none]) rfl (by decide) rfl (zdal_p dlB_Group_mixturesOf_55 (i := 21) rfl) ?_
                  refine zw_goto (pc := 85) (tgt := 15) (by decide) (zdal_p dlB_Group_mixturesOf_55 (i := 22) rfl) ?_
                  exact ih_15 u6_ hu6_a hu6_b (u7_ + 1) (by omega) (by omega) (show 0 ≤ (u7_ + 1) by first | assumption | omega) (show (u7_ + 1) ≤ gN T_ by first | assumption | omega) (show zMxI T_ (a0_).toNat u2_ (u7_ + 1) u6_ by exact hmn_) (by omega)
                · skip
                  exact absurd hc_29 (by decide)
        exact lp_15 _ u1_ hu1_a hu1_b 0 (by decide) (by decide) (show 0 ≤ (0 : Int) by first | assumption | omega) (show (0 : Int) ≤ gN T_ by first | assumption | omega) (show zMxI T_ (a0_).toNat u2_ (0 : Int) u1_ by exact hma_) (Nat.lt_succ_self _)
  exact lp_4 _ 0 (by decide) (by decide) 0 (by decide) (by decide) (show 0 ≤ (0 : Int) by first | assumption | omega) (show (0 : Int) ≤ gN T_ by first | assumption | omega) (show zMxI T_ (a0_).toNat (0 : Int) 0 (0 : Int) by exact zMxI_0) (Nat.lt_succ_self _)
set_option maxHeartbeats 4000000 in
theorem u_T_mixedG (l : Launch) (d_ : Nat) (Mz : zMem) (hW : zKW d_ Mz) (hnow : zf Mz 0 2 = some (d_ + 0)) (a0_ : Int) (ha0_a : -2147483648 ≤ a0_) (ha0_b : a0_ < 2147483648) (T_ : zGT) (hT_ : T_ ∈ gTabs) (hAs_ : gAs T_) (p0_ : zTt T_ d_ Mz) (p1_ : zFir T_ d_ Mz) (p2_ : zSbK T_ d_ Mz) : zC l m_T_mixed 0 0 [.ref 0, .int (Int32.ofInt a0_)] Mz (zqcI d_ [] [] [] [11] Mz (fun v N => (((0 ≤ a0_ ∧ a0_ < ((gF T_).length : Int) ∧ ∃ r_ : Int, zMxI T_ (gFn T_ (a0_).toNat) (gN T_) 0 r_ ∧ ∃ R_ : Nat, gLC T_ r_.toNat R_ ∧ zSrt T_ R_ v) ∨ (¬ (0 ≤ a0_ ∧ a0_ < ((gF T_).length : Int)) ∧ v = (-1 : Int)))))) := by
  refine zC_of (L0 := [some (.ref 0), some (.int (Int32.ofInt a0_))]) md_T_mixed (Nat.le_of_ble_eq_true rfl) rfl ?_ zQ0
  have hf : zFc d_ [] [] [] [11] Mz Mz := zFc.rf
  have r_D12_7 := ze_r Mz (d_ + 12) 7
  have hO_ := gTabs_ok T_ hT_
  have hG_ := hO_.1
  have hn24_ := hG_.2.1
  have hn1_ := hG_.1
  have hfl_ := p1_.1
  obtain ⟨⟨hF1_, hF27_⟩, hAr_⟩ := id (gT_zTA hT_)
  refine zw_aload_n (pc := 0) (n := 0) (x := 0) rfl (zdal_p dlB_T_mixed_53 (i := 0) rfl) ?_
  refine zw_getF (pc := 1) f_T_28 rfl ((hf.w hW).ka (o := 0) (by decide)) (hf.now hnow) (zdal_p dlB_T_mixed_53 (i := 1) rfl) ?_
  refine zw_getF (pc := 4) f_T_85 rfl ((hf.w hW).kr (o := 0) (by decide)) ((hf.w hW).lr (o := 0) (s := 1) (r := 12) (by decide)) (zdal_p dlB_T_mixed_53 (i := 2) rfl) ?_
  refine zw_iload_n (pc := 7) (n := 1) (x := Int32.ofInt a0_) rfl (zdal_p dlB_T_mixed_53 (i := 3) rfl) ?_
  refine zk_callV hf.x (pc := 8) [.int (Int32.ofInt a0_)] [] l_T_143 (u_Sorts_hasSortG l d_ Mz (hf.w hW) a0_ ha0_a ha0_b) rfl rfl ((hf.w hW).kr (o := 12) (by decide)) (by decide) (by decide) (Nat.le_of_ble_eq_true rfl) (zdal_p dlB_T_mixed_53 (i := 4) rfl) ?_
  rintro _ N1_ ⟨v2_, rfl, ⟨hv2_a, hv2_b⟩, hsN1_, hp0_N1_⟩
  obtain rfl := hsN1_.eq.symm
  replace hp0_N1_ : ((v2_ = 1 ∧ 0 ≤ a0_ ∧ a0_ < ze Mz (d_ + 12) 7) ∨ (v2_ = 0 ∧ (a0_ < 0 ∨ ze Mz (d_ + 12) 7 ≤ a0_))) := hp0_N1_
  rcases hp0_N1_ with ⟨rfl, ha8_0_hp0_N1_, ha8_1_hp0_N1_⟩ | ⟨rfl, ha8_0_hp0_N1_⟩
  · skip
    show zW l m_T_mixed (zn Mz + 0, zw Mz + 0) Mz 11 [some (.ref 0), some (.int (Int32.ofInt a0_))] [.int (Int32.ofInt 1)] _
    refine zr_if_ne (pc := 11) (tgt := 16) ⟨(by decide), (by decide)⟩ (by decide) (zdal_p dlB_T_mixed_53 (i := 5) rfl) (fun hc_11 => ?_) (fun hc_11 => ?_)
    · skip
      refine zw_aload_n (pc := 16) (n := 0) (x := 0) rfl (zdal_p dlB_T_mixed_53 (i := 8) rfl) ?_
      refine zw_getF (pc := 17) f_T_28 rfl ((hf.w hW).ka (o := 0) (by decide)) (hf.now hnow) (zdal_p dlB_T_mixed_53 (i := 9) rfl) ?_
      refine zw_getF (pc := 20) f_T_85 rfl ((hf.w hW).kr (o := 0) (by decide)) ((hf.w hW).lr (o := 0) (s := 1) (r := 12) (by decide)) (zdal_p dlB_T_mixed_53 (i := 10) rfl) ?_
      refine zw_aload_n (pc := 23) (n := 0) (x := 0) rfl (zdal_p dlB_T_mixed_53 (i := 11) rfl) ?_
      refine zw_getF (pc := 24) f_T_28 rfl ((hf.w hW).ka (o := 0) (by decide)) (hf.now hnow) (zdal_p dlB_T_mixed_53 (i := 12) rfl) ?_
      refine zw_getF (pc := 27) f_T_61 rfl ((hf.w hW).kr (o := 0) (by decide)) ((hf.w hW).lr (o := 0) (s := 0) (r := 1) (by decide)) (zdal_p dlB_T_mixed_53 (i := 13) rfl) ?_
      refine zw_aload_n (pc := 30) (n := 0) (x := 0) rfl (zdal_p dlB_T_mixed_53 (i := 14) rfl) ?_
      refine zw_getF (pc := 31) f_T_28 rfl ((hf.w hW).ka (o := 0) (by decide)) (hf.now hnow) (zdal_p dlB_T_mixed_53 (i := 15) rfl) ?_
      refine zw_getF (pc := 34) f_T_85 rfl ((hf.w hW).kr (o := 0) (by decide)) ((hf.w hW).lr (o := 0) (s := 1) (r := 12) (by decide)) (zdal_p dlB_T_mixed_53 (i := 16) rfl) ?_
      refine zw_getF (pc := 37) f_T_146 rfl ((hf.w hW).kr (o := 12) (by decide)) ((hf.w hW).lr (o := 12) (s := 4) (r := 19) (by decide)) (zdal_p dlB_T_mixed_53 (i := 17) rfl) ?_
      refine zw_iload_n (pc := 40) (n := 1) (x := Int32.ofInt a0_) rfl (zdal_p dlB_T_mixed_53 (i := 18) rfl) ?_
      refine zk_at hf.x (pc := 41) l_T_118 ((hf.w hW).kr (o := 19) (by decide)) ((hf.w hW).lr (o := 19) (s := 0) (r := 20) (by decide)) ((hf.w hW).rr (o := 20) (t := 1) (n := 27) (by decide)) (by decide) (by omega) (by omega) (by decide) (Nat.le_of_ble_eq_true rfl) (zdal_p dlB_T_mixed_53 (i := 19) rfl) (fun v3_ hv3_ hv3_a hv3_b => ?_)
      have hfva_ := hv3_
      have hfwa_ : v3_ = ((gFn T_ (a0_).toNat : Nat) : Int) := hfva_.trans (p1_.2 _ (by omega))
      have hfma_ := (hO_.2.2.1.2.1 _ (gFn_m (T := T_) (i := (a0_).toNat) (by omega))).1
      have hfba_ := gS_b hO_ hfma_
      refine zk_callV hf.x (pc := 44) [.int (Int32.ofInt v3_)] [.ref (d_ + 12)] l_T_205 (u_Group_mixturesOfG l d_ Mz (hf.w hW) v3_ hv3_a hv3_b T_ hT_ p0_ (show 0 ≤ v3_ by first | assumption | omega) (show v3_ < 16777216 by first | assumption | omega)) rfl rfl ((hf.w hW).kr (o := 1) (by decide)) (by decide) (by decide) (Nat.le_of_ble_eq_true rfl) (zdal_p dlB_T_mixed_53 (i := 20) rfl) ?_
      rintro _ N4_ ⟨v5_, rfl, ⟨hv5_a, hv5_b⟩, hsN4_, hp0_N4_⟩
      obtain rfl := hsN4_.eq.symm
      replace hp0_N4_ : zMxI T_ (v3_).toNat (gN T_) 0 v5_ := hp0_N4_
      show zW l m_T_mixed (zn Mz + 0, zw Mz + 0) Mz 47 [some (.ref 0), some (.int (Int32.ofInt a0_))] [.int (Int32.ofInt v5_), .ref (d_ + 12)] _
      have hmx_ := hp0_N4_
      rw [hfwa_, Int.toNat_natCast] at hmx_
      have hml_ := hmx_.1
      refine zk_callV hf.x (pc := 47) [.int (Int32.ofInt v5_)] [] l_T_140 (u_Sorts_spannedSortG l d_ Mz (hf.w hW) v5_ hv5_a hv5_b T_ hT_ hAs_ p0_ p2_ (show 0 ≤ v5_ by omega) (show (v5_).toNat < 2 ^ gN T_ by exact hml_.2.2)) rfl rfl ((hf.w hW).kr (o := 12) (by decide)) (by decide) (by decide) (Nat.le_of_ble_eq_true rfl) (zdal_p dlB_T_mixed_53 (i := 21) rfl) ?_
      rintro _ N6_ ⟨v7_, rfl, ⟨hv7_a, hv7_b⟩, hsN6_, hp0_N6_⟩
      replace hp0_N6_ : (∃ R_ : Nat, gLC T_ (v5_).toNat R_ ∧ zSrt T_ R_ v7_) := hp0_N6_
      have hf_N6_ : zFc d_ [] [] [] [11] Mz N6_ := hf.tr hsN6_ (by decide) (by decide) (by decide) (by decide)
      have eD12_7_N6_ : ze N6_ (d_ + 12) 7 = ze Mz (d_ + 12) 7 := hsN6_.e (by decide)
      have c8_ : zTt T_ d_ N6_ := zTt.fr (hf.w hW) hsN6_ p0_ (by decide)
      have c9_ : zFir T_ d_ N6_ := zFir.fr (hf.w hW) hsN6_ p1_ (by decide)
      have c10_ : zSbK T_ d_ N6_ := zSbK.fr (hf.w hW) hsN6_ p2_ (by decide)
      show zW l m_T_mixed (zn Mz + 0, zw Mz + 0) N6_ 50 [some (.ref 0), some (.int (Int32.ofInt a0_))] [.int (Int32.ofInt v7_)] _
      have hsp_ := hp0_N6_
      exact zk_iret (pc := 50) (ty := .int) rfl rfl ⟨by omega, by omega⟩ hf_N6_ (show ((0 ≤ a0_ ∧ a0_ < ((gF T_).length : Int) ∧ ∃ r_ : Int, zMxI T_ (gFn T_ (a0_).toNat) (gN T_) 0 r_ ∧ ∃ R_ : Nat, gLC T_ r_.toNat R_ ∧ zSrt T_ R_ v7_) ∨ (¬ (0 ≤ a0_ ∧ a0_ < ((gF T_).length : Int)) ∧ v7_ = (-1 : Int))) by first | exact Or.inr ⟨by omega, rfl⟩ | exact Or.inl ⟨by omega, by omega, _, hmx_, hsp_⟩) (zdal_p dlB_T_mixed_53 (i := 22) rfl)
    · skip
      exact absurd hc_11 (by decide)
  · skip
    show zW l m_T_mixed (zn Mz + 0, zw Mz + 0) Mz 11 [some (.ref 0), some (.int (Int32.ofInt a0_))] [.int (Int32.ofInt 0)] _
    refine zr_if_ne (pc := 11) (tgt := 16) ⟨(by decide), (by decide)⟩ (by decide) (zdal_p dlB_T_mixed_53 (i := 5) rfl) (fun hc_11 => ?_) (fun hc_11 => ?_)
    · skip
      exact absurd hc_11 (by decide)
    · skip
      refine zw_iconst (pc := 14) (v := Int32.ofInt (-1)) (by decide) (zdal_p dlB_T_mixed_53 (i := 6) rfl) ?_
      exact zk_iret (pc := 15) (ty := .int) rfl rfl ⟨by omega, by omega⟩ hf (show ((0 ≤ a0_ ∧ a0_ < ((gF T_).length : Int) ∧ ∃ r_ : Int, zMxI T_ (gFn T_ (a0_).toNat) (gN T_) 0 r_ ∧ ∃ R_ : Nat, gLC T_ r_.toNat R_ ∧ zSrt T_ R_ ((-1))) ∨ (¬ (0 ≤ a0_ ∧ a0_ < ((gF T_).length : Int)) ∧ ((-1)) = (-1 : Int))) by first | exact Or.inr ⟨by omega, rfl⟩ | exact Or.inl ⟨by omega, by omega, _, hmx_, hsp_⟩) (zdal_p dlB_T_mixed_53 (i := 7) rfl)
