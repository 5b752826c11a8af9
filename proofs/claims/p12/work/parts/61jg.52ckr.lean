set_option maxHeartbeats 4000000 in
theorem u_Group_repeatsOfG (l : Launch) (d_ : Nat) (Mz : zMem) (hW : zKW d_ Mz) (a0_ : Int) (ha0_a : -2147483648 ≤ a0_) (ha0_b : a0_ < 2147483648) (T_ : zGT) (hT_ : T_ ∈ gTabs) (p0_ : zTt T_ d_ Mz) (p1_ : 0 ≤ a0_) (p2_ : a0_ < gN T_) : zC l m_Group_repeatsOf 0 0 [.ref (d_ + 1), .int (Int32.ofInt a0_)] Mz (zqcI d_ [] [] [] [] Mz (fun v N => gOr T_ (a0_).toNat (v).toNat ∧ 1 ≤ v ∧ v ≤ 24)) := by
  refine zC_of (L0 := [some (.ref (d_ + 1)), some (.int (Int32.ofInt a0_)), none, none]) md_Group_repeatsOf (Nat.le_of_ble_eq_true rfl) rfl ?_ zQ0
  have hf : zFc d_ [] [] [] [] Mz Mz := zFc.rf
  have hO_ := gTabs_ok T_ hT_
  have hG_ := hO_.1
  have hn24_ := hG_.2.1
  have hn1_ := hG_.1
  have hX_ := gTabs_ex T_ hT_
  obtain ⟨V_, hV_, hV24_⟩ := gOr_x hG_ hX_ (m := (a0_).toNat) (by omega)
  refine zw_iload_n (pc := 0) (n := 1) (x := Int32.ofInt a0_) rfl (zdal_p dlB_Group_repeatsOf_9 (i := 0) rfl) ?_
  refine zw_istore_n (pc := 1) (i := 2) (L2 := [some (.ref (d_ + 1)), some (.int (Int32.ofInt a0_)), some (.int (Int32.ofInt a0_)), none]) rfl (by decide) rfl (zdal_p dlB_Group_repeatsOf_9 (i := 1) rfl) ?_
  refine zw_iconst (pc := 2) (v := Int32.ofInt 1) (by decide) (zdal_p dlB_Group_repeatsOf_9 (i := 2) rfl) ?_
  refine zw_istore_n (pc := 3) (i := 3) (L2 := [some (.ref (d_ + 1)), some (.int (Int32.ofInt a0_)), some (.int (Int32.ofInt a0_)), some (.int (Int32.ofInt 1))]) rfl (by decide) rfl (zdal_p dlB_Group_repeatsOf_9 (i := 3) rfl) ?_
  have lp_4 : ∀ (n : Nat) (u1_ : Int) (hu1_a : -2147483648 ≤ u1_) (hu1_b : u1_ < 2147483648) (u2_ : Int) (hu2_a : -2147483648 ≤ u2_) (hu2_b : u2_ < 2147483648) (i3_ : 1 ≤ u2_) (i4_ : u2_ ≤ 24) (i5_ : u1_ = ((gpw T_ (a0_).toNat (u2_ - 1).toNat : Nat) : Int)) (i6_ : 0 ≤ u1_) (i7_ : u1_ < gN T_) (i8_ : (∀ k_ : Nat, (k_ : Int) + 1 < u2_ → gpw T_ (a0_).toNat k_ ≠ 0)), (24 - u2_).toNat < n → zW l m_Group_repeatsOf (zn Mz + 0, zw Mz + 0) Mz 4 [some (.ref (d_ + 1)), some (.int (Int32.ofInt a0_)), some (.int (Int32.ofInt u1_)), some (.int (Int32.ofInt u2_))] [] (zqcI d_ [] [] [] [] Mz (fun v N => gOr T_ (a0_).toNat (v).toNat ∧ 1 ≤ v ∧ v ≤ 24)) := by
    intro n
    induction n with
    | zero =>
      intro u1_ hu1_a hu1_b u2_ hu2_a hu2_b i3_ i4_ i5_ i6_ i7_ i8_ h0
      exact absurd h0 (Nat.not_lt_zero _)
    | succ n ih_4 =>
      intro u1_ hu1_a hu1_b u2_ hu2_a hu2_b i3_ i4_ i5_ i6_ i7_ i8_ hlt_4
      have hpx_ := (show u1_ = ((gpw T_ (a0_).toNat (u2_ - 1).toNat : Nat) : Int) by first | with_reducible assumption | assumption)
      have hno_ := (show (∀ k_ : Nat, (k_ : Int) + 1 < u2_ → gpw T_ (a0_).toNat k_ ≠ 0) by first | with_reducible assumption | assumption)
      refine zw_iload_n (pc := 4) (n := 2) (x := Int32.ofInt u1_) rfl (zdal_p dlB_Group_repeatsOf_9 (i := 4) rfl) ?_
      refine zr_if_eq (pc := 5) (tgt := 27) ⟨hu1_a, hu1_b⟩ (by decide) (zdal_p dlB_Group_repeatsOf_9 (i := 5) rfl) (fun hc_5 => ?_) (fun hc_5 => ?_)
      · skip
        refine zw_iload_n (pc := 27) (n := 3) (x := Int32.ofInt u2_) rfl (zdal_p dlB_Group_repeatsOf_9 (i := 16) rfl) ?_
        exact zk_iret (pc := 28) (ty := .int) rfl rfl ⟨by omega, by omega⟩ hf ⟨(show gOr T_ (a0_).toNat (u2_).toNat by exact gOr_e hV_ hV24_ (by omega) hno_ hpx_ (by first | exact Or.inl (by omega) | exact Or.inr (by omega))), (show 1 ≤ u2_ by first | with_reducible assumption | assumption | omega), (show u2_ ≤ 24 by first | with_reducible assumption | assumption | omega)⟩ (zdal_p dlB_Group_repeatsOf_9 (i := 17) rfl)
      · skip
        refine zw_iload_n (pc := 8) (n := 3) (x := Int32.ofInt u2_) rfl (zdal_p dlB_Group_repeatsOf_9 (i := 6) rfl) ?_
        refine zw_bipush (pc := 9) (v := Int32.ofInt 24) (by decide) (zdal_p dlB_Group_repeatsOf_9 (i := 7) rfl) ?_
        refine zr_icmp_ge (pc := 11) (tgt := 27) ⟨hu2_a, hu2_b⟩ ⟨(by decide), (by decide)⟩ (by decide) (zdal_p dlB_Group_repeatsOf_9 (i := 8) rfl) (fun hc_11 => ?_) (fun hc_11 => ?_)
        · skip
          refine zw_iload_n (pc := 27) (n := 3) (x := Int32.ofInt u2_) rfl (zdal_p dlB_Group_repeatsOf_9 (i := 16) rfl) ?_
          exact zk_iret (pc := 28) (ty := .int) rfl rfl ⟨by omega, by omega⟩ hf ⟨(show gOr T_ (a0_).toNat (u2_).toNat by exact gOr_e hV_ hV24_ (by omega) hno_ hpx_ (by first | exact Or.inl (by omega) | exact Or.inr (by omega))), (show 1 ≤ u2_ by first | with_reducible assumption | assumption | omega), (show u2_ ≤ 24 by first | with_reducible assumption | assumption | omega)⟩ (zdal_p dlB_Group_repeatsOf_9 (i := 17) rfl)
        · skip
          refine zw_aload_n (pc := 14) (n := 0) (x := (d_ + 1)) rfl (zdal_p dlB_Group_repeatsOf_9 (i := 9) rfl) ?_
          refine zw_iload_n (pc := 15) (n := 2) (x := Int32.ofInt u1_) rfl (zdal_p dlB_Group_repeatsOf_9 (i := 10) rfl) ?_
          refine zw_iload_n (pc := 16) (n := 1) (x := Int32.ofInt a0_) rfl (zdal_p dlB_Group_repeatsOf_9 (i := 11) rfl) ?_
          refine zk_callV hf.x (pc := 17) [.int (Int32.ofInt u1_), .int (Int32.ofInt a0_)] [] l_Group_67 (u_Group_both l d_ Mz (hf.w hW) u1_ hu1_a hu1_b a0_ ha0_a ha0_b T_ hT_ p0_ (show 0 ≤ u1_ by first | with_reducible assumption | assumption | omega) (show u1_ < gN T_ by first | with_reducible assumption | assumption | omega) (show 0 ≤ a0_ by first | with_reducible assumption | assumption | omega) (show a0_ < gN T_ by first | with_reducible assumption | assumption | omega)) rfl rfl ((hf.w hW).kr (o := 1) (by decide)) (by decide) (by decide) (Nat.le_of_ble_eq_true rfl) (zdal_p dlB_Group_repeatsOf_9 (i := 12) rfl) ?_
          rintro _ N9_ ⟨v10_, rfl, ⟨hv10_a, hv10_b⟩, hsN9_, ⟨hp0_N9_, hp1_N9_, hp2_N9_⟩⟩
          obtain rfl := hsN9_.eq.symm
          show zW l m_Group_repeatsOf (zn Mz + 0, zw Mz + 0) Mz 20 [some (.ref (d_ + 1)), some (.int (Int32.ofInt a0_)), some (.int (Int32.ofInt u1_)), some (.int (Int32.ofInt u2_))] [.int (Int32.ofInt v10_)] _
          have hpw_ := gpw_s (by omega) hpx_ hp0_N9_
          have hnx_ := gOr_n hno_ hpx_ (by omega) (by omega)
          refine zw_istore_n (pc := 20) (i := 2) (L2 := [some (.ref (d_ + 1)), some (.int (Int32.ofInt a0_)), some (.int (Int32.ofInt v10_)), some (.int (Int32.ofInt u2_))]) rfl (by decide) rfl (zdal_p dlB_Group_repeatsOf_9 (i := 13) rfl) ?_
          refine zr_iinc (pc := 21) (i := 3) (a := u2_) (n := 1) (L2 := [some (.ref (d_ + 1)), some (.int (Int32.ofInt a0_)), some (.int (Int32.ofInt v10_)), some (.int (Int32.ofInt (u2_ + 1)))]) rfl (by decide) rfl (zdal_p dlB_Group_repeatsOf_9 (i := 14) rfl) ?_
          refine zw_goto (pc := 24) (tgt := 4) (by decide) (zdal_p dlB_Group_repeatsOf_9 (i := 15) rfl) ?_
          exact ih_4 v10_ hv10_a hv10_b (u2_ + 1) (by omega) (by omega) (show 1 ≤ (u2_ + 1) by first | with_reducible assumption | assumption | omega) (show (u2_ + 1) ≤ 24 by first | with_reducible assumption | assumption | omega) (show v10_ = ((gpw T_ (a0_).toNat ((u2_ + 1) - 1).toNat : Nat) : Int) by exact gpw_t hpw_ (by omega)) (show 0 ≤ v10_ by first | with_reducible assumption | assumption | omega) (show v10_ < gN T_ by first | with_reducible assumption | assumption | omega) (show (∀ k_ : Nat, (k_ : Int) + 1 < (u2_ + 1) → gpw T_ (a0_).toNat k_ ≠ 0) by exact hnx_) (by omega)
  exact lp_4 _ a0_ ha0_a ha0_b 1 (by decide) (by decide) (show 1 ≤ (1 : Int) by first | with_reducible assumption | assumption | omega) (show (1 : Int) ≤ 24 by first | with_reducible assumption | assumption | omega) (show a0_ = ((gpw T_ (a0_).toNat ((1 : Int) - 1).toNat : Nat) : Int) by show a0_ = (((a0_).toNat : Nat) : Int); omega) (show 0 ≤ a0_ by first | with_reducible assumption | assumption | omega) (show a0_ < gN T_ by first | with_reducible assumption | assumption | omega) (show (∀ k_ : Nat, (k_ : Int) + 1 < (1 : Int) → gpw T_ (a0_).toNat k_ ≠ 0) by intro k_ hk_; omega) (Nat.lt_succ_self _)
