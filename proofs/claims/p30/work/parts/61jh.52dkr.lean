set_option maxHeartbeats 4000000 in
theorem u_Group_countLikeG (l : Launch) (d_ : Nat) (Mz : zMem) (hW : zKW d_ Mz) (a0_ : Int) (ha0_a : -2147483648 ≤ a0_) (ha0_b : a0_ < 2147483648) (T_ : zGT) (hT_ : T_ ∈ gTabs) (p0_ : zTt T_ d_ Mz) (p1_ : 0 ≤ a0_) (p2_ : a0_ < gN T_) : zC l m_Group_countLike 0 0 [.ref (d_ + 1), .int (Int32.ofInt a0_)] Mz (zqcI d_ [] [] [] [] Mz (fun v N => v = ((gcb (gup (glkF T_ (a0_).toNat) 0 (gN T_)) : Nat) : Int))) := by
  refine zC_of (L0 := [some (.ref (d_ + 1)), some (.int (Int32.ofInt a0_)), none, none]) md_Group_countLike (Nat.le_of_ble_eq_true rfl) rfl ?_ zQ0
  have hf : zFc d_ [] [] [] [] Mz Mz := zFc.rf
  have r_D1_7 := ze_r Mz (d_ + 1) 7
  have hO_ := gTabs_ok T_ hT_
  have hG_ := hO_.1
  have hn24_ := hG_.2.1
  have hn1_ := hG_.1
  have hsz_ := p0_.1
  refine zw_iconst (pc := 0) (v := Int32.ofInt 0) (by decide) d_Group_countLike_0 ?_
  refine zw_istore_n (pc := 1) (i := 2) (L2 := [some (.ref (d_ + 1)), some (.int (Int32.ofInt a0_)), some (.int (Int32.ofInt 0)), none]) rfl (by decide) rfl d_Group_countLike_1 ?_
  refine zw_iconst (pc := 2) (v := Int32.ofInt 0) (by decide) d_Group_countLike_2 ?_
  refine zw_istore_n (pc := 3) (i := 3) (L2 := [some (.ref (d_ + 1)), some (.int (Int32.ofInt a0_)), some (.int (Int32.ofInt 0)), some (.int (Int32.ofInt 0))]) rfl (by decide) rfl d_Group_countLike_3 ?_
  have lp_4 : ∀ (n : Nat) (u1_ : Int) (hu1_a : -2147483648 ≤ u1_) (hu1_b : u1_ < 2147483648) (u2_ : Int) (hu2_a : -2147483648 ≤ u2_) (hu2_b : u2_ < 2147483648) (i3_ : 0 ≤ u2_) (i4_ : u2_ ≤ gN T_) (i5_ : u1_ = ((gup (glkF T_ (a0_).toNat) 0 (u2_).toNat : Nat) : Int)), (gN T_ - u2_).toNat < n → zW l m_Group_countLike (zn Mz + 0, zw Mz + 0) Mz 4 [some (.ref (d_ + 1)), some (.int (Int32.ofInt a0_)), some (.int (Int32.ofInt u1_)), some (.int (Int32.ofInt u2_))] [] (zqcI d_ [] [] [] [] Mz (fun v N => v = ((gcb (gup (glkF T_ (a0_).toNat) 0 (gN T_)) : Nat) : Int))) := by
    intro n
    induction n with
    | zero =>
      intro u1_ hu1_a hu1_b u2_ hu2_a hu2_b i3_ i4_ i5_ h0
      exact absurd h0 (Nat.not_lt_zero _)
    | succ n ih_4 =>
      intro u1_ hu1_a hu1_b u2_ hu2_a hu2_b i3_ i4_ i5_ hlt_4
      have hlk_ := (show u1_ = ((gup (glkF T_ (a0_).toNat) 0 (u2_).toNat : Nat) : Int) by assumption)
      have hlr_ := glk_r hG_ (m := (a0_).toNat) (by omega) (by omega) hlk_
      refine zw_iload_n (pc := 4) (n := 3) (x := Int32.ofInt u2_) rfl d_Group_countLike_4 ?_
      refine zw_aload_n (pc := 5) (n := 0) (x := (d_ + 1)) rfl d_Group_countLike_5 ?_
      refine zk_getI (pc := 6) f_Group_39 rfl ((hf.w hW).kr (o := 1) (by decide)) d_Group_countLike_6 ?_
      refine zr_icmp_ge (pc := 9) (tgt := 29) ⟨hu2_a, hu2_b⟩ ⟨(ze_r Mz (d_ + 1) 7).1, (ze_r Mz (d_ + 1) 7).2⟩ (by decide) d_Group_countLike_9 (fun hc_9 => ?_) (fun hc_9 => ?_)
      · skip
        refine zw_iload_n (pc := 29) (n := 2) (x := Int32.ofInt u1_) rfl d_Group_countLike_29 ?_
        refine zr_callS hf.x (pc := 30) [.int (Int32.ofInt u1_)] [] l_Group_83 (u_Integer_bitCount l d_ Mz (hf.w hW) u1_ hu1_a hu1_b (show 0 ≤ u1_ by first | assumption | omega)) rfl rfl (by decide) (Nat.le_of_ble_eq_true rfl) d_Group_countLike_30 ?_
        rintro _ N6_ ⟨v7_, rfl, ⟨hv7_a, hv7_b⟩, hsN6_, ⟨hp0_N6_, hp1_N6_, hp2_N6_⟩⟩
        obtain rfl := hsN6_.eq.symm
        show zW l m_Group_countLike (zn Mz + 0, zw Mz + 0) Mz 33 [some (.ref (d_ + 1)), some (.int (Int32.ofInt a0_)), some (.int (Int32.ofInt u1_)), some (.int (Int32.ofInt u2_))] [.int (Int32.ofInt v7_)] (zqcI d_ [] [] [] [] Mz (fun v N => v = ((gcb (gup (glkF T_ (a0_).toNat) 0 (gN T_)) : Nat) : Int)))
        have hbc_ := hp0_N6_
        rw [kbc_g (by omega), hlk_, Int.toNat_natCast, show (u2_).toNat = gN T_ by omega] at hbc_
        exact zk_iret (pc := 33) (ty := .int) rfl rfl ⟨by omega, by omega⟩ hf (show v7_ = ((gcb (gup (glkF T_ (a0_).toNat) 0 (gN T_)) : Nat) : Int) by exact hbc_) d_Group_countLike_33
      · skip
        refine zw_iload_n (pc := 12) (n := 2) (x := Int32.ofInt u1_) rfl d_Group_countLike_12 ?_
        refine zw_iconst (pc := 13) (v := Int32.ofInt 1) (by decide) d_Group_countLike_13 ?_
        refine zw_aload_n (pc := 14) (n := 0) (x := (d_ + 1)) rfl d_Group_countLike_14 ?_
        refine zw_iload_n (pc := 15) (n := 1) (x := Int32.ofInt a0_) rfl d_Group_countLike_15 ?_
        refine zw_iload_n (pc := 16) (n := 3) (x := Int32.ofInt u2_) rfl d_Group_countLike_16 ?_
        refine zk_callV hf.x (pc := 17) [.int (Int32.ofInt a0_), .int (Int32.ofInt u2_)] [.int (Int32.ofInt 1), .int (Int32.ofInt u1_)] l_Group_77 (u_Group_turn l d_ Mz (hf.w hW) a0_ ha0_a ha0_b u2_ hu2_a hu2_b T_ hT_ p0_ (show 0 ≤ a0_ by first | assumption | omega) (show a0_ < gN T_ by first | assumption | omega) (show 0 ≤ u2_ by first | assumption | omega) (show u2_ < gN T_ by first | assumption | omega)) rfl rfl ((hf.w hW).kr (o := 1) (by decide)) (by decide) (by decide) (Nat.le_of_ble_eq_true rfl) d_Group_countLike_17 ?_
        rintro _ N8_ ⟨v9_, rfl, ⟨hv9_a, hv9_b⟩, hsN8_, ⟨hp0_N8_, hp1_N8_, hp2_N8_⟩⟩
        obtain rfl := hsN8_.eq.symm
        show zW l m_Group_countLike (zn Mz + 0, zw Mz + 0) Mz 20 [some (.ref (d_ + 1)), some (.int (Int32.ofInt a0_)), some (.int (Int32.ofInt u1_)), some (.int (Int32.ofInt u2_))] [.int (Int32.ofInt v9_), .int (Int32.ofInt 1), .int (Int32.ofInt u1_)] (zqcI d_ [] [] [] [] Mz (fun v N => v = ((gcb (gup (glkF T_ (a0_).toNat) 0 (gN T_)) : Nat) : Int)))
        have hln_ := glk_s hG_ (m := (a0_).toNat) (by omega) (by omega) (by omega) hlk_ hp0_N8_
        refine zr_ishl (pc := 20) d_Group_countLike_20 ?_
        have hr10_ := zshl_r 1 v9_
        refine zr_ior (pc := 21) d_Group_countLike_21 ?_
        have hr11_ := zor_r u1_ (zshl 1 v9_)
        refine zw_istore_n (pc := 22) (i := 2) (L2 := [some (.ref (d_ + 1)), some (.int (Int32.ofInt a0_)), some (.int (Int32.ofInt (zor u1_ (zshl 1 v9_)))), some (.int (Int32.ofInt u2_))]) rfl (by decide) rfl d_Group_countLike_22 ?_
        refine zr_iinc (pc := 23) (i := 3) (a := u2_) (n := 1) (L2 := [some (.ref (d_ + 1)), some (.int (Int32.ofInt a0_)), some (.int (Int32.ofInt (zor u1_ (zshl 1 v9_)))), some (.int (Int32.ofInt (u2_ + 1)))]) rfl (by decide) rfl d_Group_countLike_23 ?_
        refine zw_goto (pc := 26) (tgt := 4) (by decide) d_Group_countLike_26 ?_
        exact ih_4 (zor u1_ (zshl 1 v9_)) (by omega) (by omega) (u2_ + 1) (by omega) (by omega) (show 0 ≤ (u2_ + 1) by first | assumption | omega) (show (u2_ + 1) ≤ gN T_ by first | assumption | omega) (show (zor u1_ (zshl 1 v9_)) = ((gup (glkF T_ (a0_).toNat) 0 ((u2_ + 1)).toNat : Nat) : Int) by exact hln_) (by omega)
  exact lp_4 _ 0 (by decide) (by decide) 0 (by decide) (by decide) (show 0 ≤ (0 : Int) by first | assumption | omega) (show (0 : Int) ≤ gN T_ by first | assumption | omega) (show (0 : Int) = ((gup (glkF T_ (a0_).toNat) 0 ((0 : Int)).toNat : Nat) : Int) by rfl) (Nat.lt_succ_self _)
set_option maxHeartbeats 4000000 in
theorem u_T_likesG (l : Launch) (d_ : Nat) (Mz : zMem) (hW : zKW d_ Mz) (hnow : zf Mz 0 2 = some (d_ + 0)) (a0_ : Int) (ha0_a : -2147483648 ≤ a0_) (ha0_b : a0_ < 2147483648) (T_ : zGT) (hT_ : T_ ∈ gTabs) (p0_ : zTt T_ d_ Mz) : zC l m_T_likes 0 0 [.ref 0, .int (Int32.ofInt a0_)] Mz (zqcI d_ [] [] [] [] Mz (fun v N => (((0 ≤ a0_ ∧ a0_ < (gN T_ : Int) ∧ v = ((gcb (gup (glkF T_ (a0_).toNat) 0 (gN T_)) : Nat) : Int)) ∨ (¬ (0 ≤ a0_ ∧ a0_ < (gN T_ : Int)) ∧ v = (-1 : Int)))))) := by
  refine zC_of (L0 := [some (.ref 0), some (.int (Int32.ofInt a0_))]) md_T_likes (Nat.le_of_ble_eq_true rfl) rfl ?_ zQ0
  have hf : zFc d_ [] [] [] [] Mz Mz := zFc.rf
  have r_D1_7 := ze_r Mz (d_ + 1) 7
  have hsz_ := p0_.1
  refine zw_aload_n (pc := 0) (n := 0) (x := 0) rfl d_T_likes_0 ?_
  refine zw_getF (pc := 1) f_T_28 rfl ((hf.w hW).ka (o := 0) (by decide)) (hf.now hnow) d_T_likes_1 ?_
  refine zw_getF (pc := 4) f_T_61 rfl ((hf.w hW).kr (o := 0) (by decide)) ((hf.w hW).lr (o := 0) (s := 0) (r := 1) (by decide)) d_T_likes_4 ?_
  refine zw_iload_n (pc := 7) (n := 1) (x := Int32.ofInt a0_) rfl d_T_likes_7 ?_
  refine zk_callV hf.x (pc := 8) [.int (Int32.ofInt a0_)] [] l_T_108 (u_Group_hasMemberG l d_ Mz (hf.w hW) a0_ ha0_a ha0_b) rfl rfl ((hf.w hW).kr (o := 1) (by decide)) (by decide) (by decide) (Nat.le_of_ble_eq_true rfl) d_T_likes_8 ?_
  rintro _ N1_ ⟨v2_, rfl, ⟨hv2_a, hv2_b⟩, hsN1_, hp0_N1_⟩
  obtain rfl := hsN1_.eq.symm
  replace hp0_N1_ : ((v2_ = 1 ∧ 0 ≤ a0_ ∧ a0_ < ze Mz (d_ + 1) 7) ∨ (v2_ = 0 ∧ (a0_ < 0 ∨ ze Mz (d_ + 1) 7 ≤ a0_))) := hp0_N1_
  rcases hp0_N1_ with ⟨rfl, ha8_0_hp0_N1_, ha8_1_hp0_N1_⟩ | ⟨rfl, ha8_0_hp0_N1_⟩
  · skip
    show zW l m_T_likes (zn Mz + 0, zw Mz + 0) Mz 11 [some (.ref 0), some (.int (Int32.ofInt a0_))] [.int (Int32.ofInt 1)] (zqcI d_ [] [] [] [] Mz (fun v N => (((0 ≤ a0_ ∧ a0_ < (gN T_ : Int) ∧ v = ((gcb (gup (glkF T_ (a0_).toNat) 0 (gN T_)) : Nat) : Int)) ∨ (¬ (0 ≤ a0_ ∧ a0_ < (gN T_ : Int)) ∧ v = (-1 : Int))))))
    refine zr_if_eq (pc := 11) (tgt := 28) ⟨(by decide), (by decide)⟩ (by decide) d_T_likes_11 (fun hc_11 => ?_) (fun hc_11 => ?_)
    · skip
      exact absurd hc_11 (by decide)
    · skip
      refine zw_aload_n (pc := 14) (n := 0) (x := 0) rfl d_T_likes_14 ?_
      refine zw_getF (pc := 15) f_T_28 rfl ((hf.w hW).ka (o := 0) (by decide)) (hf.now hnow) d_T_likes_15 ?_
      refine zw_getF (pc := 18) f_T_61 rfl ((hf.w hW).kr (o := 0) (by decide)) ((hf.w hW).lr (o := 0) (s := 0) (r := 1) (by decide)) d_T_likes_18 ?_
      refine zw_iload_n (pc := 21) (n := 1) (x := Int32.ofInt a0_) rfl d_T_likes_21 ?_
      refine zk_callV hf.x (pc := 22) [.int (Int32.ofInt a0_)] [] l_T_220 (u_Group_countLikeG l d_ Mz (hf.w hW) a0_ ha0_a ha0_b T_ hT_ p0_ (show 0 ≤ a0_ by first | assumption | omega) (show a0_ < gN T_ by first | assumption | omega)) rfl rfl ((hf.w hW).kr (o := 1) (by decide)) (by decide) (by decide) (Nat.le_of_ble_eq_true rfl) d_T_likes_22 ?_
      rintro _ N3_ ⟨v4_, rfl, ⟨hv4_a, hv4_b⟩, hsN3_, hp0_N3_⟩
      obtain rfl := hsN3_.eq.symm
      replace hp0_N3_ : v4_ = ((gcb (gup (glkF T_ (a0_).toNat) 0 (gN T_)) : Nat) : Int) := hp0_N3_
      show zW l m_T_likes (zn Mz + 0, zw Mz + 0) Mz 25 [some (.ref 0), some (.int (Int32.ofInt a0_))] [.int (Int32.ofInt v4_)] (zqcI d_ [] [] [] [] Mz (fun v N => (((0 ≤ a0_ ∧ a0_ < (gN T_ : Int) ∧ v = ((gcb (gup (glkF T_ (a0_).toNat) 0 (gN T_)) : Nat) : Int)) ∨ (¬ (0 ≤ a0_ ∧ a0_ < (gN T_ : Int)) ∧ v = (-1 : Int))))))
      refine zw_goto (pc := 25) (tgt := 29) (by decide) d_T_likes_25 ?_
      exact zk_iret (pc := 29) (ty := .int) rfl rfl ⟨by omega, by omega⟩ hf (show ((0 ≤ a0_ ∧ a0_ < (gN T_ : Int) ∧ v4_ = ((gcb (gup (glkF T_ (a0_).toNat) 0 (gN T_)) : Nat) : Int)) ∨ (¬ (0 ≤ a0_ ∧ a0_ < (gN T_ : Int)) ∧ v4_ = (-1 : Int))) by first | exact Or.inr ⟨by omega, rfl⟩ | exact Or.inl ⟨by omega, by omega, by assumption⟩) d_T_likes_29
  · skip
    show zW l m_T_likes (zn Mz + 0, zw Mz + 0) Mz 11 [some (.ref 0), some (.int (Int32.ofInt a0_))] [.int (Int32.ofInt 0)] (zqcI d_ [] [] [] [] Mz (fun v N => (((0 ≤ a0_ ∧ a0_ < (gN T_ : Int) ∧ v = ((gcb (gup (glkF T_ (a0_).toNat) 0 (gN T_)) : Nat) : Int)) ∨ (¬ (0 ≤ a0_ ∧ a0_ < (gN T_ : Int)) ∧ v = (-1 : Int))))))
    refine zr_if_eq (pc := 11) (tgt := 28) ⟨(by decide), (by decide)⟩ (by decide) d_T_likes_11 (fun hc_11 => ?_) (fun hc_11 => ?_)
    · skip
      refine zw_iconst (pc := 28) (v := Int32.ofInt (-1)) (by decide) d_T_likes_28 ?_
      exact zk_iret (pc := 29) (ty := .int) rfl rfl ⟨by omega, by omega⟩ hf (show ((0 ≤ a0_ ∧ a0_ < (gN T_ : Int) ∧ ((-1)) = ((gcb (gup (glkF T_ (a0_).toNat) 0 (gN T_)) : Nat) : Int)) ∨ (¬ (0 ≤ a0_ ∧ a0_ < (gN T_ : Int)) ∧ ((-1)) = (-1 : Int))) by first | exact Or.inr ⟨by omega, rfl⟩ | exact Or.inl ⟨by omega, by omega, by assumption⟩) d_T_likes_29
    · skip
      exact absurd hc_11 (by decide)
