set_option maxHeartbeats 4000000 in
theorem u_Group_leastOfCosetG (l : Launch) (d_ : Nat) (Mz : zMem) (hW : zKW d_ Mz) (a0_ : Int) (ha0_a : -2147483648 ≤ a0_) (ha0_b : a0_ < 2147483648) (a1_ : Int) (ha1_a : -2147483648 ≤ a1_) (ha1_b : a1_ < 2147483648) (T_ : zGT) (hT_ : T_ ∈ gTabs) (p0_ : zTt T_ d_ Mz) (p1_ : 0 ≤ a0_) (p2_ : a0_ < 16777216) (p3_ : 0 ≤ a1_) (p4_ : a1_ < gN T_) : zC l m_Group_leastOfCoset 0 0 [.ref (d_ + 1), .int (Int32.ofInt a0_), .int (Int32.ofInt a1_)] Mz (zqcI d_ [] [] [] [] Mz (fun v N => v = ((gcos T_ (a0_).toNat (a1_).toNat : Nat) : Int) ∧ 0 ≤ v ∧ v ≤ a1_)) := by
  refine zC_of (L0 := [some (.ref (d_ + 1)), some (.int (Int32.ofInt a0_)), some (.int (Int32.ofInt a1_)), none, none]) md_Group_leastOfCoset (Nat.le_of_ble_eq_true rfl) rfl ?_ zQ0
  have hf : zFc d_ [] [] [] [] Mz Mz := zFc.rf
  have r_D1_7 := ze_r Mz (d_ + 1) 7
  have hO_ := gTabs_ok T_ hT_
  have hG_ := hO_.1
  have hn24_ := hG_.2.1
  have hn1_ := hG_.1
  have hsz_ := p0_.1
  refine zw_iload_n (pc := 0) (n := 2) (x := Int32.ofInt a1_) rfl (zdal_p dlB_Group_leastOfCoset_46 (i := 0) rfl) ?_
  refine zw_istore_n (pc := 1) (i := 3) (L2 := [some (.ref (d_ + 1)), some (.int (Int32.ofInt a0_)), some (.int (Int32.ofInt a1_)), some (.int (Int32.ofInt a1_)), none]) rfl (by decide) rfl (zdal_p dlB_Group_leastOfCoset_46 (i := 1) rfl) ?_
  refine zw_iconst (pc := 2) (v := Int32.ofInt 0) (by decide) (zdal_p dlB_Group_leastOfCoset_46 (i := 2) rfl) ?_
  refine zw_istore (pc := 3) (i := 4) (L2 := [some (.ref (d_ + 1)), some (.int (Int32.ofInt a0_)), some (.int (Int32.ofInt a1_)), some (.int (Int32.ofInt a1_)), some (.int (Int32.ofInt 0))]) (by decide) rfl (zdal_p dlB_Group_leastOfCoset_46 (i := 3) rfl) ?_
  have lp_5 : ∀ (n : Nat) (u1_ : Int) (hu1_a : -2147483648 ≤ u1_) (hu1_b : u1_ < 2147483648) (u2_ : Int) (hu2_a : -2147483648 ≤ u2_) (hu2_b : u2_ < 2147483648) (i3_ : 0 ≤ u2_) (i4_ : u2_ ≤ gN T_) (i5_ : 0 ≤ u1_) (i6_ : u1_ ≤ a1_) (i7_ : u1_ = ((gup (gcoF T_ (a0_).toNat (a1_).toNat) (a1_).toNat (u2_).toNat : Nat) : Int)), (gN T_ - u2_).toNat < n → zW l m_Group_leastOfCoset (zn Mz + 0, zw Mz + 0) Mz 5 [some (.ref (d_ + 1)), some (.int (Int32.ofInt a0_)), some (.int (Int32.ofInt a1_)), some (.int (Int32.ofInt u1_)), some (.int (Int32.ofInt u2_))] [] (zqcI d_ [] [] [] [] Mz (fun v N => v = ((gcos T_ (a0_).toNat (a1_).toNat : Nat) : Int) ∧ 0 ≤ v ∧ v ≤ a1_)) := by
    intro n
    induction n with
    | zero =>
      intro u1_ hu1_a hu1_b u2_ hu2_a hu2_b i3_ i4_ i5_ i6_ i7_ h0
      exact absurd h0 (Nat.not_lt_zero _)
    | succ n ih_5 =>
      intro u1_ hu1_a hu1_b u2_ hu2_a hu2_b i3_ i4_ i5_ i6_ i7_ hlt_5
      have hgc_ := (show u1_ = ((gup (gcoF T_ (a0_).toNat (a1_).toNat) (a1_).toNat (u2_).toNat : Nat) : Int) by first | with_reducible assumption | assumption)
      refine zw_iload (pc := 5) (i := 4) (x := Int32.ofInt u2_) rfl (zdal_p dlB_Group_leastOfCoset_46 (i := 4) rfl) ?_
      refine zw_aload_n (pc := 7) (n := 0) (x := (d_ + 1)) rfl (zdal_p dlB_Group_leastOfCoset_46 (i := 5) rfl) ?_
      refine zk_getI (pc := 8) f_Group_39 rfl ((hf.w hW).kr (o := 1) (by decide)) (zdal_p dlB_Group_leastOfCoset_46 (i := 6) rfl) ?_
      refine zr_icmp_ge (pc := 11) (tgt := 41) ⟨hu2_a, hu2_b⟩ ⟨(ze_r Mz (d_ + 1) 7).1, (ze_r Mz (d_ + 1) 7).2⟩ (by decide) (zdal_p dlB_Group_leastOfCoset_46 (i := 7) rfl) (fun hc_11 => ?_) (fun hc_11 => ?_)
      · skip
        refine zw_iload_n (pc := 41) (n := 3) (x := Int32.ofInt u1_) rfl (zdal_p dlB_Group_leastOfCoset_46 (i := 21) rfl) ?_
        exact zk_iret (pc := 42) (ty := .int) rfl rfl ⟨by omega, by omega⟩ hf ⟨(show u1_ = ((gcos T_ (a0_).toNat (a1_).toNat : Nat) : Int) by rw [gcos_e, show gN T_ = (u2_).toNat by omega]; exact hgc_), (show 0 ≤ u1_ by first | with_reducible assumption | assumption | omega), (show u1_ ≤ a1_ by first | with_reducible assumption | assumption | omega)⟩ (zdal_p dlB_Group_leastOfCoset_46 (i := 22) rfl)
      · skip
        refine zw_iload_n (pc := 14) (n := 1) (x := Int32.ofInt a0_) rfl (zdal_p dlB_Group_leastOfCoset_46 (i := 8) rfl) ?_
        refine zw_iload (pc := 15) (i := 4) (x := Int32.ofInt u2_) rfl (zdal_p dlB_Group_leastOfCoset_46 (i := 9) rfl) ?_
        refine zr_callS hf.x (pc := 17) [.int (Int32.ofInt a0_), .int (Int32.ofInt u2_)] [] l_Group_73 (u_T_isIn l d_ Mz (hf.w hW) a0_ ha0_a ha0_b u2_ hu2_a hu2_b (show 0 ≤ a0_ by first | with_reducible assumption | assumption | omega) (show a0_ < 2147483648 by first | with_reducible assumption | assumption | omega) (show 0 ≤ u2_ by first | with_reducible assumption | assumption | omega) (show u2_ < 31 by first | with_reducible assumption | assumption | omega)) rfl rfl (by decide) (Nat.le_of_ble_eq_true rfl) (zdal_p dlB_Group_leastOfCoset_46 (i := 10) rfl) ?_
        rintro _ N8_ ⟨v9_, rfl, ⟨hv9_a, hv9_b⟩, hsN8_, hp0_N8_⟩
        obtain rfl := hsN8_.eq.symm
        replace hp0_N8_ : ((v9_ = 1 ∧ zbt a0_ u2_) ∨ (v9_ = 0 ∧ ¬ zbt a0_ u2_)) := hp0_N8_
        rcases hp0_N8_ with ⟨rfl, ha17_0_hp0_N8_⟩ | ⟨rfl, ha17_0_hp0_N8_⟩
        · skip
          have hin_ := ha17_0_hp0_N8_
          show zW l m_Group_leastOfCoset (zn Mz + 0, zw Mz + 0) Mz 20 [some (.ref (d_ + 1)), some (.int (Int32.ofInt a0_)), some (.int (Int32.ofInt a1_)), some (.int (Int32.ofInt u1_)), some (.int (Int32.ofInt u2_))] [.int (Int32.ofInt 1)] _
          refine zr_if_eq (pc := 20) (tgt := 35) ⟨(by decide), (by decide)⟩ (by decide) (zdal_p dlB_Group_leastOfCoset_46 (i := 11) rfl) (fun hc_20 => ?_) (fun hc_20 => ?_)
          · skip
            exact absurd hc_20 (by decide)
          · skip
            refine zw_iload_n (pc := 23) (n := 3) (x := Int32.ofInt u1_) rfl (zdal_p dlB_Group_leastOfCoset_46 (i := 12) rfl) ?_
            refine zw_aload_n (pc := 24) (n := 0) (x := (d_ + 1)) rfl (zdal_p dlB_Group_leastOfCoset_46 (i := 13) rfl) ?_
            refine zw_iload (pc := 25) (i := 4) (x := Int32.ofInt u2_) rfl (zdal_p dlB_Group_leastOfCoset_46 (i := 14) rfl) ?_
            refine zw_iload_n (pc := 27) (n := 2) (x := Int32.ofInt a1_) rfl (zdal_p dlB_Group_leastOfCoset_46 (i := 15) rfl) ?_
            refine zk_callV hf.x (pc := 28) [.int (Int32.ofInt u2_), .int (Int32.ofInt a1_)] [.int (Int32.ofInt u1_)] l_Group_67 (u_Group_both l d_ Mz (hf.w hW) u2_ hu2_a hu2_b a1_ ha1_a ha1_b T_ hT_ p0_ (show 0 ≤ u2_ by first | with_reducible assumption | assumption | omega) (show u2_ < gN T_ by first | with_reducible assumption | assumption | omega) (show 0 ≤ a1_ by first | with_reducible assumption | assumption | omega) (show a1_ < gN T_ by first | with_reducible assumption | assumption | omega)) rfl rfl ((hf.w hW).kr (o := 1) (by decide)) (by decide) (by decide) (Nat.le_of_ble_eq_true rfl) (zdal_p dlB_Group_leastOfCoset_46 (i := 16) rfl) ?_
            rintro _ N10_ ⟨v11_, rfl, ⟨hv11_a, hv11_b⟩, hsN10_, ⟨hp0_N10_, hp1_N10_, hp2_N10_⟩⟩
            obtain rfl := hsN10_.eq.symm
            show zW l m_Group_leastOfCoset (zn Mz + 0, zw Mz + 0) Mz 31 [some (.ref (d_ + 1)), some (.int (Int32.ofInt a0_)), some (.int (Int32.ofInt a1_)), some (.int (Int32.ofInt u1_)), some (.int (Int32.ofInt u2_))] [.int (Int32.ofInt v11_), .int (Int32.ofInt u1_)] _
            have hbo_ := hp0_N10_
            refine zk_mmin (pc := 31) x_Group_88 (by decide) (Nat.le_of_ble_eq_true rfl) (zdal_p dlB_Group_leastOfCoset_46 (i := 17) rfl) ⟨hu1_a, hu1_b⟩ ⟨hv11_a, hv11_b⟩ (fun v12_ hv12_ => ?_)
            have hv12_a : -2147483648 ≤ v12_ := by omega
            have hv12_b : v12_ < 2147483648 := by omega
            have hgn_ : v12_ = ((gup (gcoF T_ (a0_).toNat (a1_).toNat) (a1_).toNat (u2_ + 1).toNat : Nat) : Int) := by rcases hv12_ with q_ | q_; rw [ q_.2]; exact gco_s1 rfl (by omega) hgc_ hin_ hbo_ q_.1; rw [ q_.2]; exact gco_s0 rfl (by omega) hgc_ (Or.inr ⟨hbo_, q_.1⟩)
            refine zw_istore_n (pc := 34) (i := 3) (L2 := [some (.ref (d_ + 1)), some (.int (Int32.ofInt a0_)), some (.int (Int32.ofInt a1_)), some (.int (Int32.ofInt v12_)), some (.int (Int32.ofInt u2_))]) rfl (by decide) rfl (zdal_p dlB_Group_leastOfCoset_46 (i := 18) rfl) ?_
            refine zr_iinc (pc := 35) (i := 4) (a := u2_) (n := 1) (L2 := [some (.ref (d_ + 1)), some (.int (Int32.ofInt a0_)), some (.int (Int32.ofInt a1_)), some (.int (Int32.ofInt v12_)), some (.int (Int32.ofInt (u2_ + 1)))]) rfl (by decide) rfl (zdal_p dlB_Group_leastOfCoset_46 (i := 19) rfl) ?_
            refine zw_goto (pc := 38) (tgt := 5) (by decide) (zdal_p dlB_Group_leastOfCoset_46 (i := 20) rfl) ?_
            exact ih_5 v12_ hv12_a hv12_b (u2_ + 1) (by omega) (by omega) (show 0 ≤ (u2_ + 1) by first | with_reducible assumption | assumption | omega) (show (u2_ + 1) ≤ gN T_ by first | with_reducible assumption | assumption | omega) (show 0 ≤ v12_ by first | with_reducible assumption | assumption | omega) (show v12_ ≤ a1_ by first | with_reducible assumption | assumption | omega) (show v12_ = ((gup (gcoF T_ (a0_).toNat (a1_).toNat) (a1_).toNat ((u2_ + 1)).toNat : Nat) : Int) by exact hgn_) (by omega)
        · skip
          have hgn_ := gco_s0 (v := 0) rfl (by omega) hgc_ (Or.inl ha17_0_hp0_N8_)
          show zW l m_Group_leastOfCoset (zn Mz + 0, zw Mz + 0) Mz 20 [some (.ref (d_ + 1)), some (.int (Int32.ofInt a0_)), some (.int (Int32.ofInt a1_)), some (.int (Int32.ofInt u1_)), some (.int (Int32.ofInt u2_))] [.int (Int32.ofInt 0)] _
          refine zr_if_eq (pc := 20) (tgt := 35) ⟨(by decide), (by decide)⟩ (by decide) (zdal_p dlB_Group_leastOfCoset_46 (i := 11) rfl) (fun hc_20 => ?_) (fun hc_20 => ?_)
          · skip
            refine zr_iinc (pc := 35) (i := 4) (a := u2_) (n := 1) (L2 := [some (.ref (d_ + 1)), some (.int (Int32.ofInt a0_)), some (.int (Int32.ofInt a1_)), some (.int (Int32.ofInt u1_)), some (.int (Int32.ofInt (u2_ + 1)))]) rfl (by decide) rfl (zdal_p dlB_Group_leastOfCoset_46 (i := 19) rfl) ?_
            refine zw_goto (pc := 38) (tgt := 5) (by decide) (zdal_p dlB_Group_leastOfCoset_46 (i := 20) rfl) ?_
            exact ih_5 u1_ hu1_a hu1_b (u2_ + 1) (by omega) (by omega) (show 0 ≤ (u2_ + 1) by first | with_reducible assumption | assumption | omega) (show (u2_ + 1) ≤ gN T_ by first | with_reducible assumption | assumption | omega) (show 0 ≤ u1_ by first | with_reducible assumption | assumption | omega) (show u1_ ≤ a1_ by first | with_reducible assumption | assumption | omega) (show u1_ = ((gup (gcoF T_ (a0_).toNat (a1_).toNat) (a1_).toNat ((u2_ + 1)).toNat : Nat) : Int) by exact hgn_) (by omega)
          · skip
            exact absurd hc_20 (by decide)
  exact lp_5 _ a1_ ha1_a ha1_b 0 (by decide) (by decide) (show 0 ≤ (0 : Int) by first | with_reducible assumption | assumption | omega) (show (0 : Int) ≤ gN T_ by first | with_reducible assumption | assumption | omega) (show 0 ≤ a1_ by first | with_reducible assumption | assumption | omega) (show a1_ ≤ a1_ by first | with_reducible assumption | assumption | omega) (show a1_ = ((gup (gcoF T_ (a0_).toNat (a1_).toNat) (a1_).toNat ((0 : Int)).toNat : Nat) : Int) by show a1_ = (((a1_).toNat : Nat) : Int); omega) (Nat.lt_succ_self _)
