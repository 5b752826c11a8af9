set_option maxHeartbeats 4000000 in
theorem u_Group_leastOfCosetG (l : Launch) (d_ : Nat) (Mz : zMem) (hW : zKW d_ Mz) (a0_ : Int) (ha0_a : -2147483648 ≤ a0_) (ha0_b : a0_ < 2147483648) (a1_ : Int) (ha1_a : -2147483648 ≤ a1_) (ha1_b : a1_ < 2147483648) (T_ : zGT) (hT_ : T_ ∈ gTabs) (p0_ : zTt T_ d_ Mz) (p1_ : 0 ≤ a0_) (p2_ : a0_ < 16777216) (p3_ : 0 ≤ a1_) (p4_ : a1_ < gN T_) : zC l m_Group_leastOfCoset 0 0 [.ref (d_ + 1), .int (Int32.ofInt a0_), .int (Int32.ofInt a1_)] Mz (zqcI d_ [] [] [] [] Mz (fun v N => v = ((gcos T_ (a0_).toNat (a1_).toNat : Nat) : Int) ∧ 0 ≤ v ∧ v ≤ a1_)) := by
  refine zC_of (L0 := [some (.ref (d_ + 1)), some (.int (Int32.ofInt a0_)), some (.int (Int32.ofInt a1_)), none, none]) md_Group_leastOfCoset (Nat.le_of_ble_eq_true rfl) rfl ?_ zQ0
  have hf : zFc d_ [] [] [] [] Mz Mz := zFc.rf
  have r_D1_7 := ze_r Mz (d_ + 1) 7
  have hO_ := gTabs_ok T_ hT_
  have hG_ := hO_.1
  have hn24_ := hG_.2.1
  have hn1_ := hG_.1
  have hsz_ := p0_.1
  refine zw_iload_n (pc := 0) (n := 2) (x := Int32.ofInt a1_) rfl d_Group_leastOfCoset_0 ?_
  refine zw_istore_n (pc := 1) (i := 3) (L2 := [some (.ref (d_ + 1)), some (.int (Int32.ofInt a0_)), some (.int (Int32.ofInt a1_)), some (.int (Int32.ofInt a1_)), none]) rfl (by decide) rfl d_Group_leastOfCoset_1 ?_
  refine zw_iconst (pc := 2) (v := Int32.ofInt 0) (by decide) d_Group_leastOfCoset_2 ?_
  refine zw_istore (pc := 3) (i := 4) (L2 := [some (.ref (d_ + 1)), some (.int (Int32.ofInt a0_)), some (.int (Int32.ofInt a1_)), some (.int (Int32.ofInt a1_)), some (.int (Int32.ofInt 0))]) (by decide) rfl d_Group_leastOfCoset_3 ?_
  have lp_5 : ∀ (n : Nat) (u1_ : Int) (hu1_a : -2147483648 ≤ u1_) (hu1_b : u1_ < 2147483648) (u2_ : Int) (hu2_a : -2147483648 ≤ u2_) (hu2_b : u2_ < 2147483648) (i3_ : 0 ≤ u2_) (i4_ : u2_ ≤ gN T_) (i5_ : 0 ≤ u1_) (i6_ : u1_ ≤ a1_) (i7_ : u1_ = ((gup (gcoF T_ (a0_).toNat (a1_).toNat) (a1_).toNat (u2_).toNat : Nat) : Int)), (gN T_ - u2_).toNat < n → zW l m_Group_leastOfCoset (zn Mz + 0, zw Mz + 0) Mz 5 [some (.ref (d_ + 1)), some (.int (Int32.ofInt a0_)), some (.int (Int32.ofInt a1_)), some (.int (Int32.ofInt u1_)), some (.int (Int32.ofInt u2_))] [] (zqcI d_ [] [] [] [] Mz (fun v N => v = ((gcos T_ (a0_).toNat (a1_).toNat : Nat) : Int) ∧ 0 ≤ v ∧ v ≤ a1_)) := by
    intro n
    induction n with
    | zero =>
      intro u1_ hu1_a hu1_b u2_ hu2_a hu2_b i3_ i4_ i5_ i6_ i7_ h0
      exact absurd h0 (Nat.not_lt_zero _)
    | succ n ih_5 =>
      intro u1_ hu1_a hu1_b u2_ hu2_a hu2_b i3_ i4_ i5_ i6_ i7_ hlt_5
      have hgc_ := (show u1_ = ((gup (gcoF T_ (a0_).toNat (a1_).toNat) (a1_).toNat (u2_).toNat : Nat) : Int) by assumption)
      refine zw_iload (pc := 5) (i := 4) (x := Int32.ofInt u2_) rfl d_Group_leastOfCoset_5 ?_
      refine zw_aload_n (pc := 7) (n := 0) (x := (d_ + 1)) rfl d_Group_leastOfCoset_7 ?_
      refine zk_getI (pc := 8) f_Group_39 rfl ((hf.w hW).kr (o := 1) (by decide)) d_Group_leastOfCoset_8 ?_
      refine zr_icmp_ge (pc := 11) (tgt := 41) ⟨hu2_a, hu2_b⟩ ⟨(ze_r Mz (d_ + 1) 7).1, (ze_r Mz (d_ + 1) 7).2⟩ (by decide) d_Group_leastOfCoset_11 (fun hc_11 => ?_) (fun hc_11 => ?_)
      · skip
        refine zw_iload_n (pc := 41) (n := 3) (x := Int32.ofInt u1_) rfl d_Group_leastOfCoset_41 ?_
        exact zk_iret (pc := 42) (ty := .int) rfl rfl ⟨by omega, by omega⟩ hf ⟨(show u1_ = ((gcos T_ (a0_).toNat (a1_).toNat : Nat) : Int) by rw [gcos_e, show gN T_ = (u2_).toNat by omega]; exact hgc_), (show 0 ≤ u1_ by first | assumption | omega), (show u1_ ≤ a1_ by first | assumption | omega)⟩ d_Group_leastOfCoset_42
      · skip
        refine zw_iload_n (pc := 14) (n := 1) (x := Int32.ofInt a0_) rfl d_Group_leastOfCoset_14 ?_
        refine zw_iload (pc := 15) (i := 4) (x := Int32.ofInt u2_) rfl d_Group_leastOfCoset_15 ?_
        refine zr_callS hf.x (pc := 17) [.int (Int32.ofInt a0_), .int (Int32.ofInt u2_)] [] l_Group_73 (u_T_isIn l d_ Mz (hf.w hW) a0_ ha0_a ha0_b u2_ hu2_a hu2_b (show 0 ≤ a0_ by first | assumption | omega) (show a0_ < 2147483648 by first | assumption | omega) (show 0 ≤ u2_ by first | assumption | omega) (show u2_ < 31 by first | assumption | omega)) rfl rfl (by decide) (Nat.le_of_ble_eq_true rfl) d_Group_leastOfCoset_17 ?_
        rintro _ N8_ ⟨v9_, rfl, ⟨hv9_a, hv9_b⟩, hsN8_, hp0_N8_⟩
        obtain rfl := hsN8_.eq.symm
        replace hp0_N8_ : ((v9_ = 1 ∧ zbt a0_ u2_) ∨ (v9_ = 0 ∧ ¬ zbt a0_ u2_)) := hp0_N8_
        rcases hp0_N8_ with ⟨rfl, ha17_0_hp0_N8_⟩ | ⟨rfl, ha17_0_hp0_N8_⟩
        · skip
          have hin_ := ha17_0_hp0_N8_
          show zW l m_Group_leastOfCoset (zn Mz + 0, zw Mz + 0) Mz 20 [some (.ref (d_ + 1)), some (.int (Int32.ofInt a0_)), some (.int (Int32.ofInt a1_)), some (.int (Int32.ofInt u1_)), some (.int (Int32.ofInt u2_))] [.int (Int32.ofInt 1)] (zqcI d_ [] [] [] [] Mz (fun v N => v = ((gcos T_ (a0_).toNat (a1_).toNat : Nat) : Int) ∧ 0 ≤ v ∧ v ≤ a1_))
          refine zr_if_eq (pc := 20) (tgt := 35) ⟨(by decide), (by decide)⟩ (by decide) d_Group_leastOfCoset_20 (fun hc_20 => ?_) (fun hc_20 => ?_)
          · skip
            exact absurd hc_20 (by decide)
          · skip
            refine zw_iload_n (pc := 23) (n := 3) (x := Int32.ofInt u1_) rfl d_Group_leastOfCoset_23 ?_
            refine zw_aload_n (pc := 24) (n := 0) (x := (d_ + 1)) rfl d_Group_leastOfCoset_24 ?_
            refine zw_iload (pc := 25) (i := 4) (x := Int32.ofInt u2_) rfl d_Group_leastOfCoset_25 ?_
            refine zw_iload_n (pc := 27) (n := 2) (x := Int32.ofInt a1_) rfl d_Group_leastOfCoset_27 ?_
            refine zk_callV hf.x (pc := 28) [.int (Int32.ofInt u2_), .int (Int32.ofInt a1_)] [.int (Int32.ofInt u1_)] l_Group_67 (u_Group_both l d_ Mz (hf.w hW) u2_ hu2_a hu2_b a1_ ha1_a ha1_b T_ hT_ p0_ (show 0 ≤ u2_ by first | assumption | omega) (show u2_ < gN T_ by first | assumption | omega) (show 0 ≤ a1_ by first | assumption | omega) (show a1_ < gN T_ by first | assumption | omega)) rfl rfl ((hf.w hW).kr (o := 1) (by decide)) (by decide) (by decide) (Nat.le_of_ble_eq_true rfl) d_Group_leastOfCoset_28 ?_
            rintro _ N10_ ⟨v11_, rfl, ⟨hv11_a, hv11_b⟩, hsN10_, ⟨hp0_N10_, hp1_N10_, hp2_N10_⟩⟩
            obtain rfl := hsN10_.eq.symm
            show zW l m_Group_leastOfCoset (zn Mz + 0, zw Mz + 0) Mz 31 [some (.ref (d_ + 1)), some (.int (Int32.ofInt a0_)), some (.int (Int32.ofInt a1_)), some (.int (Int32.ofInt u1_)), some (.int (Int32.ofInt u2_))] [.int (Int32.ofInt v11_), .int (Int32.ofInt u1_)] (zqcI d_ [] [] [] [] Mz (fun v N => v = ((gcos T_ (a0_).toNat (a1_).toNat : Nat) : Int) ∧ 0 ≤ v ∧ v ≤ a1_))
            have hbo_ := hp0_N10_
            refine zk_mmin (pc := 31) x_Group_88 (by decide) (Nat.le_of_ble_eq_true rfl) d_Group_leastOfCoset_31 ⟨hu1_a, hu1_b⟩ ⟨hv11_a, hv11_b⟩ (fun v12_ hv12_ => ?_)
            have hv12_a : -2147483648 ≤ v12_ := by omega
            have hv12_b : v12_ < 2147483648 := by omega
            have hgn_ : v12_ = ((gup (gcoF T_ (a0_).toNat (a1_).toNat) (a1_).toNat (u2_ + 1).toNat : Nat) : Int) := by rcases hv12_ with q_ | q_; rw [ q_.2]; exact gco_s1 rfl (by omega) hgc_ hin_ hbo_ q_.1; rw [ q_.2]; exact gco_s0 rfl (by omega) hgc_ (Or.inr ⟨hbo_, q_.1⟩)
            refine zw_istore_n (pc := 34) (i := 3) (L2 := [some (.ref (d_ + 1)), some (.int (Int32.ofInt a0_)), some (.int (Int32.ofInt a1_)), some (.int (Int32.ofInt v12_)), some (.int (Int32.ofInt u2_))]) rfl (by decide) rfl d_Group_leastOfCoset_34 ?_
            refine zr_iinc (pc := 35) (i := 4) (a := u2_) (n := 1) (L2 := [some (.ref (d_ + 1)), some (.int (Int32.ofInt a0_)), some (.int (Int32.ofInt a1_)), some (.int (Int32.ofInt v12_)), some (.int (Int32.ofInt (u2_ + 1)))]) rfl (by decide) rfl d_Group_leastOfCoset_35 ?_
            refine zw_goto (pc := 38) (tgt := 5) (by decide) d_Group_leastOfCoset_38 ?_
            exact ih_5 v12_ hv12_a hv12_b (u2_ + 1) (by omega) (by omega) (show 0 ≤ (u2_ + 1) by first | assumption | omega) (show (u2_ + 1) ≤ gN T_ by first | assumption | omega) (show 0 ≤ v12_ by first | assumption | omega) (show v12_ ≤ a1_ by first | assumption | omega) (show v12_ = ((gup (gcoF T_ (a0_).toNat (a1_).toNat) (a1_).toNat ((u2_ + 1)).toNat : Nat) : Int) by exact hgn_) (by omega)
        · skip
          have hgn_ := gco_s0 (v := 0) rfl (by omega) hgc_ (Or.inl ha17_0_hp0_N8_)
          show zW l m_Group_leastOfCoset (zn Mz + 0, zw Mz + 0) Mz 20 [some (.ref (d_ + 1)), some (.int (Int32.ofInt a0_)), some (.int (Int32.ofInt a1_)), some (.int (Int32.ofInt u1_)), some (.int (Int32.ofInt u2_))] [.int (Int32.ofInt 0)] (zqcI d_ [] [] [] [] Mz (fun v N => v = ((gcos T_ (a0_).toNat (a1_).toNat : Nat) : Int) ∧ 0 ≤ v ∧ v ≤ a1_))
          refine zr_if_eq (pc := 20) (tgt := 35) ⟨(by decide), (by decide)⟩ (by decide) d_Group_leastOfCoset_20 (fun hc_20 => ?_) (fun hc_20 => ?_)
          · skip
            refine zr_iinc (pc := 35) (i := 4) (a := u2_) (n := 1) (L2 := [some (.ref (d_ + 1)), some (.int (Int32.ofInt a0_)), some (.int (Int32.ofInt a1_)), some (.int (Int32.ofInt u1_)), some (.int (Int32.ofInt (u2_ + 1)))]) rfl (by decide) rfl d_Group_leastOfCoset_35 ?_
            refine zw_goto (pc := 38) (tgt := 5) (by decide) d_Group_leastOfCoset_38 ?_
            exact ih_5 u1_ hu1_a hu1_b (u2_ + 1) (by omega) (by omega) (show 0 ≤ (u2_ + 1) by first | assumption | omega) (show (u2_ + 1) ≤ gN T_ by first | assumption | omega) (show 0 ≤ u1_ by first | assumption | omega) (show u1_ ≤ a1_ by first | assumption | omega) (show u1_ = ((gup (gcoF T_ (a0_).toNat (a1_).toNat) (a1_).toNat ((u2_ + 1)).toNat : Nat) : Int) by exact hgn_) (by omega)
          · skip
            exact absurd hc_20 (by decide)
  exact lp_5 _ a1_ ha1_a ha1_b 0 (by decide) (by decide) (show 0 ≤ (0 : Int) by first | assumption | omega) (show (0 : Int) ≤ gN T_ by first | assumption | omega) (show 0 ≤ a1_ by first | assumption | omega) (show a1_ ≤ a1_ by first | assumption | omega) (show a1_ = ((gup (gcoF T_ (a0_).toNat (a1_).toNat) (a1_).toNat ((0 : Int)).toNat : Nat) : Int) by show a1_ = (((a1_).toNat : Nat) : Int); omega) (Nat.lt_succ_self _)
set_option maxHeartbeats 4000000 in
theorem u_T_takesG (l : Launch) (d_ : Nat) (Mz : zMem) (hW : zKW d_ Mz) (hnow : zf Mz 0 2 = some (d_ + 0)) (a0_ : Int) (ha0_a : -2147483648 ≤ a0_) (ha0_b : a0_ < 2147483648) (a1_ : Int) (ha1_a : -2147483648 ≤ a1_) (ha1_b : a1_ < 2147483648) (a2_ : Int) (ha2_a : -2147483648 ≤ a2_) (ha2_b : a2_ < 2147483648) (T_ : zGT) (hT_ : T_ ∈ gTabs) (p0_ : zTt T_ d_ Mz) (p1_ : zFir T_ d_ Mz) : zC l m_T_takes 0 0 [.ref 0, .int (Int32.ofInt a0_), .int (Int32.ofInt a1_), .int (Int32.ofInt a2_)] Mz (zqcI d_ [] [] [] [] Mz (fun v N => (((0 ≤ a0_ ∧ a0_ < ((gF T_).length : Int) ∧ 0 ≤ a1_ ∧ a1_ < (gN T_ : Int) ∧ 0 ≤ a2_ ∧ a2_ < (gN T_ : Int) ∧ v = ((gcos T_ (gFn T_ (a0_).toNat) (gm T_ (a1_).toNat (a2_).toNat) : Nat) : Int)) ∨ (¬ (0 ≤ a0_ ∧ a0_ < ((gF T_).length : Int) ∧ 0 ≤ a1_ ∧ a1_ < (gN T_ : Int) ∧ 0 ≤ a2_ ∧ a2_ < (gN T_ : Int)) ∧ v = (-1 : Int)))))) := by
  refine zC_of (L0 := [some (.ref 0), some (.int (Int32.ofInt a0_)), some (.int (Int32.ofInt a1_)), some (.int (Int32.ofInt a2_))]) md_T_takes (Nat.le_of_ble_eq_true rfl) rfl ?_ zQ0
  have hf : zFc d_ [] [] [] [] Mz Mz := zFc.rf
  have r_D1_7 := ze_r Mz (d_ + 1) 7
  have r_D12_7 := ze_r Mz (d_ + 12) 7
  have hO_ := gTabs_ok T_ hT_
  have hG_ := hO_.1
  have hn24_ := hG_.2.1
  have hn1_ := hG_.1
  have hsz_ := p0_.1
  have hfl_ := p1_.1
  obtain ⟨⟨hF1_, hF27_⟩, hAr_⟩ := id (gT_zTA hT_)
  refine zw_aload_n (pc := 0) (n := 0) (x := 0) rfl d_T_takes_0 ?_
  refine zw_getF (pc := 1) f_T_28 rfl ((hf.w hW).ka (o := 0) (by decide)) (hf.now hnow) d_T_takes_1 ?_
  refine zw_getF (pc := 4) f_T_85 rfl ((hf.w hW).kr (o := 0) (by decide)) ((hf.w hW).lr (o := 0) (s := 1) (r := 12) (by decide)) d_T_takes_4 ?_
  refine zw_iload_n (pc := 7) (n := 1) (x := Int32.ofInt a0_) rfl d_T_takes_7 ?_
  refine zk_callV hf.x (pc := 8) [.int (Int32.ofInt a0_)] [] l_T_143 (u_Sorts_hasSortG l d_ Mz (hf.w hW) a0_ ha0_a ha0_b) rfl rfl ((hf.w hW).kr (o := 12) (by decide)) (by decide) (by decide) (Nat.le_of_ble_eq_true rfl) d_T_takes_8 ?_
  rintro _ N1_ ⟨v2_, rfl, ⟨hv2_a, hv2_b⟩, hsN1_, hp0_N1_⟩
  obtain rfl := hsN1_.eq.symm
  replace hp0_N1_ : ((v2_ = 1 ∧ 0 ≤ a0_ ∧ a0_ < ze Mz (d_ + 12) 7) ∨ (v2_ = 0 ∧ (a0_ < 0 ∨ ze Mz (d_ + 12) 7 ≤ a0_))) := hp0_N1_
  rcases hp0_N1_ with ⟨rfl, ha8_0_hp0_N1_, ha8_1_hp0_N1_⟩ | ⟨rfl, ha8_0_hp0_N1_⟩
  · skip
    show zW l m_T_takes (zn Mz + 0, zw Mz + 0) Mz 11 [some (.ref 0), some (.int (Int32.ofInt a0_)), some (.int (Int32.ofInt a1_)), some (.int (Int32.ofInt a2_))] [.int (Int32.ofInt 1)] (zqcI d_ [] [] [] [] Mz (fun v N => (((0 ≤ a0_ ∧ a0_ < ((gF T_).length : Int) ∧ 0 ≤ a1_ ∧ a1_ < (gN T_ : Int) ∧ 0 ≤ a2_ ∧ a2_ < (gN T_ : Int) ∧ v = ((gcos T_ (gFn T_ (a0_).toNat) (gm T_ (a1_).toNat (a2_).toNat) : Nat) : Int)) ∨ (¬ (0 ≤ a0_ ∧ a0_ < ((gF T_).length : Int) ∧ 0 ≤ a1_ ∧ a1_ < (gN T_ : Int) ∧ 0 ≤ a2_ ∧ a2_ < (gN T_ : Int)) ∧ v = (-1 : Int))))))
    refine zr_if_eq (pc := 11) (tgt := 42) ⟨(by decide), (by decide)⟩ (by decide) d_T_takes_11 (fun hc_11 => ?_) (fun hc_11 => ?_)
    · skip
      exact absurd hc_11 (by decide)
    · skip
      refine zw_aload_n (pc := 14) (n := 0) (x := 0) rfl d_T_takes_14 ?_
      refine zw_getF (pc := 15) f_T_28 rfl ((hf.w hW).ka (o := 0) (by decide)) (hf.now hnow) d_T_takes_15 ?_
      refine zw_getF (pc := 18) f_T_61 rfl ((hf.w hW).kr (o := 0) (by decide)) ((hf.w hW).lr (o := 0) (s := 0) (r := 1) (by decide)) d_T_takes_18 ?_
      refine zw_iload_n (pc := 21) (n := 2) (x := Int32.ofInt a1_) rfl d_T_takes_21 ?_
      refine zk_callV hf.x (pc := 22) [.int (Int32.ofInt a1_)] [] l_T_108 (u_Group_hasMemberG l d_ Mz (hf.w hW) a1_ ha1_a ha1_b) rfl rfl ((hf.w hW).kr (o := 1) (by decide)) (by decide) (by decide) (Nat.le_of_ble_eq_true rfl) d_T_takes_22 ?_
      rintro _ N3_ ⟨v4_, rfl, ⟨hv4_a, hv4_b⟩, hsN3_, hp0_N3_⟩
      obtain rfl := hsN3_.eq.symm
      replace hp0_N3_ : ((v4_ = 1 ∧ 0 ≤ a1_ ∧ a1_ < ze Mz (d_ + 1) 7) ∨ (v4_ = 0 ∧ (a1_ < 0 ∨ ze Mz (d_ + 1) 7 ≤ a1_))) := hp0_N3_
      rcases hp0_N3_ with ⟨rfl, ha22_0_hp0_N3_, ha22_1_hp0_N3_⟩ | ⟨rfl, ha22_0_hp0_N3_⟩
      · skip
        show zW l m_T_takes (zn Mz + 0, zw Mz + 0) Mz 25 [some (.ref 0), some (.int (Int32.ofInt a0_)), some (.int (Int32.ofInt a1_)), some (.int (Int32.ofInt a2_))] [.int (Int32.ofInt 1)] (zqcI d_ [] [] [] [] Mz (fun v N => (((0 ≤ a0_ ∧ a0_ < ((gF T_).length : Int) ∧ 0 ≤ a1_ ∧ a1_ < (gN T_ : Int) ∧ 0 ≤ a2_ ∧ a2_ < (gN T_ : Int) ∧ v = ((gcos T_ (gFn T_ (a0_).toNat) (gm T_ (a1_).toNat (a2_).toNat) : Nat) : Int)) ∨ (¬ (0 ≤ a0_ ∧ a0_ < ((gF T_).length : Int) ∧ 0 ≤ a1_ ∧ a1_ < (gN T_ : Int) ∧ 0 ≤ a2_ ∧ a2_ < (gN T_ : Int)) ∧ v = (-1 : Int))))))
        refine zr_if_eq (pc := 25) (tgt := 42) ⟨(by decide), (by decide)⟩ (by decide) d_T_takes_25 (fun hc_25 => ?_) (fun hc_25 => ?_)
        · skip
          exact absurd hc_25 (by decide)
        · skip
          refine zw_aload_n (pc := 28) (n := 0) (x := 0) rfl d_T_takes_28 ?_
          refine zw_getF (pc := 29) f_T_28 rfl ((hf.w hW).ka (o := 0) (by decide)) (hf.now hnow) d_T_takes_29 ?_
          refine zw_getF (pc := 32) f_T_61 rfl ((hf.w hW).kr (o := 0) (by decide)) ((hf.w hW).lr (o := 0) (s := 0) (r := 1) (by decide)) d_T_takes_32 ?_
          refine zw_iload_n (pc := 35) (n := 3) (x := Int32.ofInt a2_) rfl d_T_takes_35 ?_
          refine zk_callV hf.x (pc := 36) [.int (Int32.ofInt a2_)] [] l_T_108 (u_Group_hasMemberG l d_ Mz (hf.w hW) a2_ ha2_a ha2_b) rfl rfl ((hf.w hW).kr (o := 1) (by decide)) (by decide) (by decide) (Nat.le_of_ble_eq_true rfl) d_T_takes_36 ?_
          rintro _ N5_ ⟨v6_, rfl, ⟨hv6_a, hv6_b⟩, hsN5_, hp0_N5_⟩
          obtain rfl := hsN5_.eq.symm
          replace hp0_N5_ : ((v6_ = 1 ∧ 0 ≤ a2_ ∧ a2_ < ze Mz (d_ + 1) 7) ∨ (v6_ = 0 ∧ (a2_ < 0 ∨ ze Mz (d_ + 1) 7 ≤ a2_))) := hp0_N5_
          rcases hp0_N5_ with ⟨rfl, ha36_0_hp0_N5_, ha36_1_hp0_N5_⟩ | ⟨rfl, ha36_0_hp0_N5_⟩
          · skip
            show zW l m_T_takes (zn Mz + 0, zw Mz + 0) Mz 39 [some (.ref 0), some (.int (Int32.ofInt a0_)), some (.int (Int32.ofInt a1_)), some (.int (Int32.ofInt a2_))] [.int (Int32.ofInt 1)] (zqcI d_ [] [] [] [] Mz (fun v N => (((0 ≤ a0_ ∧ a0_ < ((gF T_).length : Int) ∧ 0 ≤ a1_ ∧ a1_ < (gN T_ : Int) ∧ 0 ≤ a2_ ∧ a2_ < (gN T_ : Int) ∧ v = ((gcos T_ (gFn T_ (a0_).toNat) (gm T_ (a1_).toNat (a2_).toNat) : Nat) : Int)) ∨ (¬ (0 ≤ a0_ ∧ a0_ < ((gF T_).length : Int) ∧ 0 ≤ a1_ ∧ a1_ < (gN T_ : Int) ∧ 0 ≤ a2_ ∧ a2_ < (gN T_ : Int)) ∧ v = (-1 : Int))))))
            refine zr_if_ne (pc := 39) (tgt := 44) ⟨(by decide), (by decide)⟩ (by decide) d_T_takes_39 (fun hc_39 => ?_) (fun hc_39 => ?_)
            · skip
              refine zw_aload_n (pc := 44) (n := 0) (x := 0) rfl d_T_takes_44 ?_
              refine zw_getF (pc := 45) f_T_28 rfl ((hf.w hW).ka (o := 0) (by decide)) (hf.now hnow) d_T_takes_45 ?_
              refine zw_getF (pc := 48) f_T_61 rfl ((hf.w hW).kr (o := 0) (by decide)) ((hf.w hW).lr (o := 0) (s := 0) (r := 1) (by decide)) d_T_takes_48 ?_
              refine zw_aload_n (pc := 51) (n := 0) (x := 0) rfl d_T_takes_51 ?_
              refine zw_getF (pc := 52) f_T_28 rfl ((hf.w hW).ka (o := 0) (by decide)) (hf.now hnow) d_T_takes_52 ?_
              refine zw_getF (pc := 55) f_T_85 rfl ((hf.w hW).kr (o := 0) (by decide)) ((hf.w hW).lr (o := 0) (s := 1) (r := 12) (by decide)) d_T_takes_55 ?_
              refine zw_getF (pc := 58) f_T_146 rfl ((hf.w hW).kr (o := 12) (by decide)) ((hf.w hW).lr (o := 12) (s := 4) (r := 19) (by decide)) d_T_takes_58 ?_
              refine zw_iload_n (pc := 61) (n := 1) (x := Int32.ofInt a0_) rfl d_T_takes_61 ?_
              refine zk_at hf.x (pc := 62) l_T_118 ((hf.w hW).kr (o := 19) (by decide)) ((hf.w hW).lr (o := 19) (s := 0) (r := 20) (by decide)) ((hf.w hW).rr (o := 20) (t := 1) (n := 27) (by decide)) (by decide) (by omega) (by omega) (by decide) (Nat.le_of_ble_eq_true rfl) d_T_takes_62 (fun v7_ hv7_ hv7_a hv7_b => ?_)
              have hfv_ := hv7_
              have hfw_ : v7_ = ((gFn T_ (a0_).toNat : Nat) : Int) := hfv_.trans (p1_.2 _ (by omega))
              have hfm_ := (hO_.2.2.1.2.1 _ (gFn_m (T := T_) (i := (a0_).toNat) (by omega))).1
              have hfb_ := gS_b hO_ hfm_
              refine zw_aload_n (pc := 65) (n := 0) (x := 0) rfl d_T_takes_65 ?_
              refine zw_getF (pc := 66) f_T_28 rfl ((hf.w hW).ka (o := 0) (by decide)) (hf.now hnow) d_T_takes_66 ?_
              refine zw_getF (pc := 69) f_T_61 rfl ((hf.w hW).kr (o := 0) (by decide)) ((hf.w hW).lr (o := 0) (s := 0) (r := 1) (by decide)) d_T_takes_69 ?_
              refine zw_iload_n (pc := 72) (n := 2) (x := Int32.ofInt a1_) rfl d_T_takes_72 ?_
              refine zw_iload_n (pc := 73) (n := 3) (x := Int32.ofInt a2_) rfl d_T_takes_73 ?_
              refine zk_callV hf.x (pc := 74) [.int (Int32.ofInt a1_), .int (Int32.ofInt a2_)] [.int (Int32.ofInt v7_), .ref (d_ + 1)] l_T_128 (u_Group_both l d_ Mz (hf.w hW) a1_ ha1_a ha1_b a2_ ha2_a ha2_b T_ hT_ p0_ (show 0 ≤ a1_ by first | assumption | omega) (show a1_ < gN T_ by first | assumption | omega) (show 0 ≤ a2_ by first | assumption | omega) (show a2_ < gN T_ by first | assumption | omega)) rfl rfl ((hf.w hW).kr (o := 1) (by decide)) (by decide) (by decide) (Nat.le_of_ble_eq_true rfl) d_T_takes_74 ?_
              rintro _ N8_ ⟨v9_, rfl, ⟨hv9_a, hv9_b⟩, hsN8_, ⟨hp0_N8_, hp1_N8_, hp2_N8_⟩⟩
              obtain rfl := hsN8_.eq.symm
              show zW l m_T_takes (zn Mz + 0, zw Mz + 0) Mz 77 [some (.ref 0), some (.int (Int32.ofInt a0_)), some (.int (Int32.ofInt a1_)), some (.int (Int32.ofInt a2_))] [.int (Int32.ofInt v9_), .int (Int32.ofInt v7_), .ref (d_ + 1)] (zqcI d_ [] [] [] [] Mz (fun v N => (((0 ≤ a0_ ∧ a0_ < ((gF T_).length : Int) ∧ 0 ≤ a1_ ∧ a1_ < (gN T_ : Int) ∧ 0 ≤ a2_ ∧ a2_ < (gN T_ : Int) ∧ v = ((gcos T_ (gFn T_ (a0_).toNat) (gm T_ (a1_).toNat (a2_).toNat) : Nat) : Int)) ∨ (¬ (0 ≤ a0_ ∧ a0_ < ((gF T_).length : Int) ∧ 0 ≤ a1_ ∧ a1_ < (gN T_ : Int) ∧ 0 ≤ a2_ ∧ a2_ < (gN T_ : Int)) ∧ v = (-1 : Int))))))
              have hgm_ := hp0_N8_
              refine zk_callV hf.x (pc := 77) [.int (Int32.ofInt v7_), .int (Int32.ofInt v9_)] [] l_T_198 (u_Group_leastOfCosetG l d_ Mz (hf.w hW) v7_ hv7_a hv7_b v9_ hv9_a hv9_b T_ hT_ p0_ (show 0 ≤ v7_ by first | assumption | omega) (show v7_ < 16777216 by first | assumption | omega) (show 0 ≤ v9_ by first | assumption | omega) (show v9_ < gN T_ by first | assumption | omega)) rfl rfl ((hf.w hW).kr (o := 1) (by decide)) (by decide) (by decide) (Nat.le_of_ble_eq_true rfl) d_T_takes_77 ?_
              rintro _ N10_ ⟨v11_, rfl, ⟨hv11_a, hv11_b⟩, hsN10_, ⟨hp0_N10_, hp1_N10_, hp2_N10_⟩⟩
              obtain rfl := hsN10_.eq.symm
              show zW l m_T_takes (zn Mz + 0, zw Mz + 0) Mz 80 [some (.ref 0), some (.int (Int32.ofInt a0_)), some (.int (Int32.ofInt a1_)), some (.int (Int32.ofInt a2_))] [.int (Int32.ofInt v11_)] (zqcI d_ [] [] [] [] Mz (fun v N => (((0 ≤ a0_ ∧ a0_ < ((gF T_).length : Int) ∧ 0 ≤ a1_ ∧ a1_ < (gN T_ : Int) ∧ 0 ≤ a2_ ∧ a2_ < (gN T_ : Int) ∧ v = ((gcos T_ (gFn T_ (a0_).toNat) (gm T_ (a1_).toNat (a2_).toNat) : Nat) : Int)) ∨ (¬ (0 ≤ a0_ ∧ a0_ < ((gF T_).length : Int) ∧ 0 ≤ a1_ ∧ a1_ < (gN T_ : Int) ∧ 0 ≤ a2_ ∧ a2_ < (gN T_ : Int)) ∧ v = (-1 : Int))))))
              have hco_ := hp0_N10_
              rw [hfw_, hgm_, Int.toNat_natCast, Int.toNat_natCast] at hco_
              exact zk_iret (pc := 80) (ty := .int) rfl rfl ⟨by omega, by omega⟩ hf (show ((0 ≤ a0_ ∧ a0_ < ((gF T_).length : Int) ∧ 0 ≤ a1_ ∧ a1_ < (gN T_ : Int) ∧ 0 ≤ a2_ ∧ a2_ < (gN T_ : Int) ∧ v11_ = ((gcos T_ (gFn T_ (a0_).toNat) (gm T_ (a1_).toNat (a2_).toNat) : Nat) : Int)) ∨ (¬ (0 ≤ a0_ ∧ a0_ < ((gF T_).length : Int) ∧ 0 ≤ a1_ ∧ a1_ < (gN T_ : Int) ∧ 0 ≤ a2_ ∧ a2_ < (gN T_ : Int)) ∧ v11_ = (-1 : Int))) by first | exact Or.inr ⟨by omega, rfl⟩ | exact Or.inl ⟨by omega, by omega, by omega, by omega, by omega, by omega, hco_⟩) d_T_takes_80
            · skip
              exact absurd hc_39 (by decide)
          · skip
            show zW l m_T_takes (zn Mz + 0, zw Mz + 0) Mz 39 [some (.ref 0), some (.int (Int32.ofInt a0_)), some (.int (Int32.ofInt a1_)), some (.int (Int32.ofInt a2_))] [.int (Int32.ofInt 0)] (zqcI d_ [] [] [] [] Mz (fun v N => (((0 ≤ a0_ ∧ a0_ < ((gF T_).length : Int) ∧ 0 ≤ a1_ ∧ a1_ < (gN T_ : Int) ∧ 0 ≤ a2_ ∧ a2_ < (gN T_ : Int) ∧ v = ((gcos T_ (gFn T_ (a0_).toNat) (gm T_ (a1_).toNat (a2_).toNat) : Nat) : Int)) ∨ (¬ (0 ≤ a0_ ∧ a0_ < ((gF T_).length : Int) ∧ 0 ≤ a1_ ∧ a1_ < (gN T_ : Int) ∧ 0 ≤ a2_ ∧ a2_ < (gN T_ : Int)) ∧ v = (-1 : Int))))))
            refine zr_if_ne (pc := 39) (tgt := 44) ⟨(by decide), (by decide)⟩ (by decide) d_T_takes_39 (fun hc_39 => ?_) (fun hc_39 => ?_)
            · skip
              exact absurd hc_39 (by decide)
            · skip
              refine zw_iconst (pc := 42) (v := Int32.ofInt (-1)) (by decide) d_T_takes_42 ?_
              exact zk_iret (pc := 43) (ty := .int) rfl rfl ⟨by omega, by omega⟩ hf (show ((0 ≤ a0_ ∧ a0_ < ((gF T_).length : Int) ∧ 0 ≤ a1_ ∧ a1_ < (gN T_ : Int) ∧ 0 ≤ a2_ ∧ a2_ < (gN T_ : Int) ∧ ((-1)) = ((gcos T_ (gFn T_ (a0_).toNat) (gm T_ (a1_).toNat (a2_).toNat) : Nat) : Int)) ∨ (¬ (0 ≤ a0_ ∧ a0_ < ((gF T_).length : Int) ∧ 0 ≤ a1_ ∧ a1_ < (gN T_ : Int) ∧ 0 ≤ a2_ ∧ a2_ < (gN T_ : Int)) ∧ ((-1)) = (-1 : Int))) by first | exact Or.inr ⟨by omega, rfl⟩ | exact Or.inl ⟨by omega, by omega, by omega, by omega, by omega, by omega, hco_⟩) d_T_takes_43
      · skip
        show zW l m_T_takes (zn Mz + 0, zw Mz + 0) Mz 25 [some (.ref 0), some (.int (Int32.ofInt a0_)), some (.int (Int32.ofInt a1_)), some (.int (Int32.ofInt a2_))] [.int (Int32.ofInt 0)] (zqcI d_ [] [] [] [] Mz (fun v N => (((0 ≤ a0_ ∧ a0_ < ((gF T_).length : Int) ∧ 0 ≤ a1_ ∧ a1_ < (gN T_ : Int) ∧ 0 ≤ a2_ ∧ a2_ < (gN T_ : Int) ∧ v = ((gcos T_ (gFn T_ (a0_).toNat) (gm T_ (a1_).toNat (a2_).toNat) : Nat) : Int)) ∨ (¬ (0 ≤ a0_ ∧ a0_ < ((gF T_).length : Int) ∧ 0 ≤ a1_ ∧ a1_ < (gN T_ : Int) ∧ 0 ≤ a2_ ∧ a2_ < (gN T_ : Int)) ∧ v = (-1 : Int))))))
        refine zr_if_eq (pc := 25) (tgt := 42) ⟨(by decide), (by decide)⟩ (by decide) d_T_takes_25 (fun hc_25 => ?_) (fun hc_25 => ?_)
        · skip
          refine zw_iconst (pc := 42) (v := Int32.ofInt (-1)) (by decide) d_T_takes_42 ?_
          exact zk_iret (pc := 43) (ty := .int) rfl rfl ⟨by omega, by omega⟩ hf (show ((0 ≤ a0_ ∧ a0_ < ((gF T_).length : Int) ∧ 0 ≤ a1_ ∧ a1_ < (gN T_ : Int) ∧ 0 ≤ a2_ ∧ a2_ < (gN T_ : Int) ∧ ((-1)) = ((gcos T_ (gFn T_ (a0_).toNat) (gm T_ (a1_).toNat (a2_).toNat) : Nat) : Int)) ∨ (¬ (0 ≤ a0_ ∧ a0_ < ((gF T_).length : Int) ∧ 0 ≤ a1_ ∧ a1_ < (gN T_ : Int) ∧ 0 ≤ a2_ ∧ a2_ < (gN T_ : Int)) ∧ ((-1)) = (-1 : Int))) by first | exact Or.inr ⟨by omega, rfl⟩ | exact Or.inl ⟨by omega, by omega, by omega, by omega, by omega, by omega, hco_⟩) d_T_takes_43
        · skip
          exact absurd hc_25 (by decide)
  · skip
    show zW l m_T_takes (zn Mz + 0, zw Mz + 0) Mz 11 [some (.ref 0), some (.int (Int32.ofInt a0_)), some (.int (Int32.ofInt a1_)), some (.int (Int32.ofInt a2_))] [.int (Int32.ofInt 0)] (zqcI d_ [] [] [] [] Mz (fun v N => (((0 ≤ a0_ ∧ a0_ < ((gF T_).length : Int) ∧ 0 ≤ a1_ ∧ a1_ < (gN T_ : Int) ∧ 0 ≤ a2_ ∧ a2_ < (gN T_ : Int) ∧ v = ((gcos T_ (gFn T_ (a0_).toNat) (gm T_ (a1_).toNat (a2_).toNat) : Nat) : Int)) ∨ (¬ (0 ≤ a0_ ∧ a0_ < ((gF T_).length : Int) ∧ 0 ≤ a1_ ∧ a1_ < (gN T_ : Int) ∧ 0 ≤ a2_ ∧ a2_ < (gN T_ : Int)) ∧ v = (-1 : Int))))))
    refine zr_if_eq (pc := 11) (tgt := 42) ⟨(by decide), (by decide)⟩ (by decide) d_T_takes_11 (fun hc_11 => ?_) (fun hc_11 => ?_)
    · skip
      refine zw_iconst (pc := 42) (v := Int32.ofInt (-1)) (by decide) d_T_takes_42 ?_
      exact zk_iret (pc := 43) (ty := .int) rfl rfl ⟨by omega, by omega⟩ hf (show ((0 ≤ a0_ ∧ a0_ < ((gF T_).length : Int) ∧ 0 ≤ a1_ ∧ a1_ < (gN T_ : Int) ∧ 0 ≤ a2_ ∧ a2_ < (gN T_ : Int) ∧ ((-1)) = ((gcos T_ (gFn T_ (a0_).toNat) (gm T_ (a1_).toNat (a2_).toNat) : Nat) : Int)) ∨ (¬ (0 ≤ a0_ ∧ a0_ < ((gF T_).length : Int) ∧ 0 ≤ a1_ ∧ a1_ < (gN T_ : Int) ∧ 0 ≤ a2_ ∧ a2_ < (gN T_ : Int)) ∧ ((-1)) = (-1 : Int))) by first | exact Or.inr ⟨by omega, rfl⟩ | exact Or.inl ⟨by omega, by omega, by omega, by omega, by omega, by omega, hco_⟩) d_T_takes_43
    · skip
      exact absurd hc_11 (by decide)
