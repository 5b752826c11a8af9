set_option maxHeartbeats 4000000 in
theorem u_Group_repeatsOfG (l : Launch) (d_ : Nat) (Mz : zMem) (hW : zKW d_ Mz) (a0_ : Int) (ha0_a : -2147483648 ≤ a0_) (ha0_b : a0_ < 2147483648) (T_ : zGT) (hT_ : T_ ∈ gTabs) (p0_ : zTt T_ d_ Mz) (p1_ : 0 ≤ a0_) (p2_ : a0_ < gN T_) : zC l m_Group_repeatsOf 0 0 [.ref (d_ + 1), .int (Int32.ofInt a0_)] Mz (zqcI d_ [] [] [] [] Mz (fun v N => gOr T_ (a0_).toNat (v).toNat ∧ 1 ≤ v ∧ v ≤ 24)) := by
  refine zC_of (L0 := [some (.ref (d_ + 1)), some (.int (Int32.ofInt a0_)), none, none]) md_Group_repeatsOf (Nat.le_of_ble_eq_true rfl) rfl ?_ zQ0
  have hf : zFc d_ [] [] [] [] Mz Mz := zFc.rf
  have hO_ := gTabs_ok T_ hT_
  have hG_ := hO_.1
  have hn24_ := hG_.2.1
  have hn1_ := hG_.1
  have hX_ := gTabs_ex T_ hT_
  obtain ⟨V_, hV_, hV24_⟩ := gOr_x hG_ hX_ (m := (a0_).toNat) (by omega)
  refine zw_iload_n (pc := 0) (n := 1) (x := Int32.ofInt a0_) rfl d_Group_repeatsOf_0 ?_
  refine zw_istore_n (pc := 1) (i := 2) (L2 := [some (.ref (d_ + 1)), some (.int (Int32.ofInt a0_)), some (.int (Int32.ofInt a0_)), none]) rfl (by decide) rfl d_Group_repeatsOf_1 ?_
  refine zw_iconst (pc := 2) (v := Int32.ofInt 1) (by decide) d_Group_repeatsOf_2 ?_
  refine zw_istore_n (pc := 3) (i := 3) (L2 := [some (.ref (d_ + 1)), some (.int (Int32.ofInt a0_)), some (.int (Int32.ofInt a0_)), some (.int (Int32.ofInt 1))]) rfl (by decide) rfl d_Group_repeatsOf_3 ?_
  have lp_4 : ∀ (n : Nat) (u1_ : Int) (hu1_a : -2147483648 ≤ u1_) (hu1_b : u1_ < 2147483648) (u2_ : Int) (hu2_a : -2147483648 ≤ u2_) (hu2_b : u2_ < 2147483648) (i3_ : 1 ≤ u2_) (i4_ : u2_ ≤ 24) (i5_ : u1_ = ((gpw T_ (a0_).toNat (u2_ - 1).toNat : Nat) : Int)) (i6_ : 0 ≤ u1_) (i7_ : u1_ < gN T_) (i8_ : (∀ k_ : Nat, (k_ : Int) + 1 < u2_ → gpw T_ (a0_).toNat k_ ≠ 0)), (24 - u2_).toNat < n → zW l m_Group_repeatsOf (zn Mz + 0, zw Mz + 0) Mz 4 [some (.ref (d_ + 1)), some (.int (Int32.ofInt a0_)), some (.int (Int32.ofInt u1_)), some (.int (Int32.ofInt u2_))] [] (zqcI d_ [] [] [] [] Mz (fun v N => gOr T_ (a0_).toNat (v).toNat ∧ 1 ≤ v ∧ v ≤ 24)) := by
    intro n
    induction n with
    | zero =>
      intro u1_ hu1_a hu1_b u2_ hu2_a hu2_b i3_ i4_ i5_ i6_ i7_ i8_ h0
      exact absurd h0 (Nat.not_lt_zero _)
    | succ n ih_4 =>
      intro u1_ hu1_a hu1_b u2_ hu2_a hu2_b i3_ i4_ i5_ i6_ i7_ i8_ hlt_4
      have hpx_ := (show u1_ = ((gpw T_ (a0_).toNat (u2_ - 1).toNat : Nat) : Int) by assumption)
      have hno_ := (show (∀ k_ : Nat, (k_ : Int) + 1 < u2_ → gpw T_ (a0_).toNat k_ ≠ 0) by assumption)
      refine zw_iload_n (pc := 4) (n := 2) (x := Int32.ofInt u1_) rfl d_Group_repeatsOf_4 ?_
      refine zr_if_eq (pc := 5) (tgt := 27) ⟨hu1_a, hu1_b⟩ (by decide) d_Group_repeatsOf_5 (fun hc_5 => ?_) (fun hc_5 => ?_)
      · skip
        refine zw_iload_n (pc := 27) (n := 3) (x := Int32.ofInt u2_) rfl d_Group_repeatsOf_27 ?_
        exact zk_iret (pc := 28) (ty := .int) rfl rfl ⟨by omega, by omega⟩ hf ⟨(show gOr T_ (a0_).toNat (u2_).toNat by exact gOr_e hV_ hV24_ (by omega) hno_ hpx_ (by first | exact Or.inl (by omega) | exact Or.inr (by omega))), (show 1 ≤ u2_ by first | assumption | omega), (show u2_ ≤ 24 by first | assumption | omega)⟩ d_Group_repeatsOf_28
      · skip
        refine zw_iload_n (pc := 8) (n := 3) (x := Int32.ofInt u2_) rfl d_Group_repeatsOf_8 ?_
        refine zw_bipush (pc := 9) (v := Int32.ofInt 24) (by decide) d_Group_repeatsOf_9 ?_
        refine zr_icmp_ge (pc := 11) (tgt := 27) ⟨hu2_a, hu2_b⟩ ⟨(by decide), (by decide)⟩ (by decide) d_Group_repeatsOf_11 (fun hc_11 => ?_) (fun hc_11 => ?_)
        · skip
          refine zw_iload_n (pc := 27) (n := 3) (x := Int32.ofInt u2_) rfl d_Group_repeatsOf_27 ?_
          exact zk_iret (pc := 28) (ty := .int) rfl rfl ⟨by omega, by omega⟩ hf ⟨(show gOr T_ (a0_).toNat (u2_).toNat by exact gOr_e hV_ hV24_ (by omega) hno_ hpx_ (by first | exact Or.inl (by omega) | exact Or.inr (by omega))), (show 1 ≤ u2_ by first | assumption | omega), (show u2_ ≤ 24 by first | assumption | omega)⟩ d_Group_repeatsOf_28
        · skip
          refine zw_aload_n (pc := 14) (n := 0) (x := (d_ + 1)) rfl d_Group_repeatsOf_14 ?_
          refine zw_iload_n (pc := 15) (n := 2) (x := Int32.ofInt u1_) rfl d_Group_repeatsOf_15 ?_
          refine zw_iload_n (pc := 16) (n := 1) (x := Int32.ofInt a0_) rfl d_Group_repeatsOf_16 ?_
          refine zk_callV hf.x (pc := 17) [.int (Int32.ofInt u1_), .int (Int32.ofInt a0_)] [] l_Group_67 (u_Group_both l d_ Mz (hf.w hW) u1_ hu1_a hu1_b a0_ ha0_a ha0_b T_ hT_ p0_ (show 0 ≤ u1_ by first | assumption | omega) (show u1_ < gN T_ by first | assumption | omega) (show 0 ≤ a0_ by first | assumption | omega) (show a0_ < gN T_ by first | assumption | omega)) rfl rfl ((hf.w hW).kr (o := 1) (by decide)) (by decide) (by decide) (Nat.le_of_ble_eq_true rfl) d_Group_repeatsOf_17 ?_
          rintro _ N9_ ⟨v10_, rfl, ⟨hv10_a, hv10_b⟩, hsN9_, ⟨hp0_N9_, hp1_N9_, hp2_N9_⟩⟩
          obtain rfl := hsN9_.eq.symm
          show zW l m_Group_repeatsOf (zn Mz + 0, zw Mz + 0) Mz 20 [some (.ref (d_ + 1)), some (.int (Int32.ofInt a0_)), some (.int (Int32.ofInt u1_)), some (.int (Int32.ofInt u2_))] [.int (Int32.ofInt v10_)] (zqcI d_ [] [] [] [] Mz (fun v N => gOr T_ (a0_).toNat (v).toNat ∧ 1 ≤ v ∧ v ≤ 24))
          have hpw_ := gpw_s (by omega) hpx_ hp0_N9_
          have hnx_ := gOr_n hno_ hpx_ (by omega) (by omega)
          refine zw_istore_n (pc := 20) (i := 2) (L2 := [some (.ref (d_ + 1)), some (.int (Int32.ofInt a0_)), some (.int (Int32.ofInt v10_)), some (.int (Int32.ofInt u2_))]) rfl (by decide) rfl d_Group_repeatsOf_20 ?_
          refine zr_iinc (pc := 21) (i := 3) (a := u2_) (n := 1) (L2 := [some (.ref (d_ + 1)), some (.int (Int32.ofInt a0_)), some (.int (Int32.ofInt v10_)), some (.int (Int32.ofInt (u2_ + 1)))]) rfl (by decide) rfl d_Group_repeatsOf_21 ?_
          refine zw_goto (pc := 24) (tgt := 4) (by decide) d_Group_repeatsOf_24 ?_
          exact ih_4 v10_ hv10_a hv10_b (u2_ + 1) (by omega) (by omega) (show 1 ≤ (u2_ + 1) by first | assumption | omega) (show (u2_ + 1) ≤ 24 by first | assumption | omega) (show v10_ = ((gpw T_ (a0_).toNat ((u2_ + 1) - 1).toNat : Nat) : Int) by exact gpw_t hpw_ (by omega)) (show 0 ≤ v10_ by first | assumption | omega) (show v10_ < gN T_ by first | assumption | omega) (show (∀ k_ : Nat, (k_ : Int) + 1 < (u2_ + 1) → gpw T_ (a0_).toNat k_ ≠ 0) by exact hnx_) (by omega)
  exact lp_4 _ a0_ ha0_a ha0_b 1 (by decide) (by decide) (show 1 ≤ (1 : Int) by first | assumption | omega) (show (1 : Int) ≤ 24 by first | assumption | omega) (show a0_ = ((gpw T_ (a0_).toNat ((1 : Int) - 1).toNat : Nat) : Int) by show a0_ = (((a0_).toNat : Nat) : Int); omega) (show 0 ≤ a0_ by first | assumption | omega) (show a0_ < gN T_ by first | assumption | omega) (show (∀ k_ : Nat, (k_ : Int) + 1 < (1 : Int) → gpw T_ (a0_).toNat k_ ≠ 0) by intro k_ hk_; omega) (Nat.lt_succ_self _)
set_option maxHeartbeats 4000000 in
theorem u_Group_countRepeatingG (l : Launch) (d_ : Nat) (Mz : zMem) (hW : zKW d_ Mz) (a0_ : Int) (ha0_a : -2147483648 ≤ a0_) (ha0_b : a0_ < 2147483648) (T_ : zGT) (hT_ : T_ ∈ gTabs) (p0_ : zTt T_ d_ Mz) (p1_ : 1 ≤ a0_) (p2_ : a0_ ≤ 24) : zC l m_Group_countRepeating 0 0 [.ref (d_ + 1), .int (Int32.ofInt a0_)] Mz (zqcI d_ [] [] [] [] Mz (fun v N => v = ((zct (fun m_ => gOr T_ m_ (a0_).toNat) (gN T_) : Nat) : Int))) := by
  refine zC_of (L0 := [some (.ref (d_ + 1)), some (.int (Int32.ofInt a0_)), none, none]) md_Group_countRepeating (Nat.le_of_ble_eq_true rfl) rfl ?_ zQ0
  have hf : zFc d_ [] [] [] [] Mz Mz := zFc.rf
  have r_D1_7 := ze_r Mz (d_ + 1) 7
  have hO_ := gTabs_ok T_ hT_
  have hG_ := hO_.1
  have hn24_ := hG_.2.1
  have hn1_ := hG_.1
  have hsz_ := p0_.1
  refine zw_iconst (pc := 0) (v := Int32.ofInt 0) (by decide) d_Group_countRepeating_0 ?_
  refine zw_istore_n (pc := 1) (i := 2) (L2 := [some (.ref (d_ + 1)), some (.int (Int32.ofInt a0_)), some (.int (Int32.ofInt 0)), none]) rfl (by decide) rfl d_Group_countRepeating_1 ?_
  refine zw_iconst (pc := 2) (v := Int32.ofInt 0) (by decide) d_Group_countRepeating_2 ?_
  refine zw_istore_n (pc := 3) (i := 3) (L2 := [some (.ref (d_ + 1)), some (.int (Int32.ofInt a0_)), some (.int (Int32.ofInt 0)), some (.int (Int32.ofInt 0))]) rfl (by decide) rfl d_Group_countRepeating_3 ?_
  have lp_4 : ∀ (n : Nat) (u1_ : Int) (hu1_a : -2147483648 ≤ u1_) (hu1_b : u1_ < 2147483648) (u2_ : Int) (hu2_a : -2147483648 ≤ u2_) (hu2_b : u2_ < 2147483648) (i3_ : 0 ≤ u2_) (i4_ : u2_ ≤ gN T_) (i5_ : 0 ≤ u1_) (i6_ : u1_ ≤ u2_) (i7_ : u1_ = ((zct (fun m_ => gOr T_ m_ (a0_).toNat) (u2_).toNat : Nat) : Int)), (gN T_ - u2_).toNat < n → zW l m_Group_countRepeating (zn Mz + 0, zw Mz + 0) Mz 4 [some (.ref (d_ + 1)), some (.int (Int32.ofInt a0_)), some (.int (Int32.ofInt u1_)), some (.int (Int32.ofInt u2_))] [] (zqcI d_ [] [] [] [] Mz (fun v N => v = ((zct (fun m_ => gOr T_ m_ (a0_).toNat) (gN T_) : Nat) : Int))) := by
    intro n
    induction n with
    | zero =>
      intro u1_ hu1_a hu1_b u2_ hu2_a hu2_b i3_ i4_ i5_ i6_ i7_ h0
      exact absurd h0 (Nat.not_lt_zero _)
    | succ n ih_4 =>
      intro u1_ hu1_a hu1_b u2_ hu2_a hu2_b i3_ i4_ i5_ i6_ i7_ hlt_4
      have hct_ := (show u1_ = ((zct (fun m_ => gOr T_ m_ (a0_).toNat) (u2_).toNat : Nat) : Int) by assumption)
      refine zw_iload_n (pc := 4) (n := 3) (x := Int32.ofInt u2_) rfl d_Group_countRepeating_4 ?_
      refine zw_aload_n (pc := 5) (n := 0) (x := (d_ + 1)) rfl d_Group_countRepeating_5 ?_
      refine zk_getI (pc := 6) f_Group_39 rfl ((hf.w hW).kr (o := 1) (by decide)) d_Group_countRepeating_6 ?_
      refine zr_icmp_ge (pc := 9) (tgt := 30) ⟨hu2_a, hu2_b⟩ ⟨(ze_r Mz (d_ + 1) 7).1, (ze_r Mz (d_ + 1) 7).2⟩ (by decide) d_Group_countRepeating_9 (fun hc_9 => ?_) (fun hc_9 => ?_)
      · skip
        refine zw_iload_n (pc := 30) (n := 2) (x := Int32.ofInt u1_) rfl d_Group_countRepeating_30 ?_
        exact zk_iret (pc := 31) (ty := .int) rfl rfl ⟨by omega, by omega⟩ hf (show u1_ = ((zct (fun m_ => gOr T_ m_ (a0_).toNat) (gN T_) : Nat) : Int) by rw [show gN T_ = (u2_).toNat by omega]; exact hct_) d_Group_countRepeating_31
      · skip
        refine zw_aload_n (pc := 12) (n := 0) (x := (d_ + 1)) rfl d_Group_countRepeating_12 ?_
        refine zw_iload_n (pc := 13) (n := 3) (x := Int32.ofInt u2_) rfl d_Group_countRepeating_13 ?_
        refine zk_callV hf.x (pc := 14) [.int (Int32.ofInt u2_)] [] l_Group_70 (u_Group_repeatsOfG l d_ Mz (hf.w hW) u2_ hu2_a hu2_b T_ hT_ p0_ (show 0 ≤ u2_ by first | assumption | omega) (show u2_ < gN T_ by first | assumption | omega)) rfl rfl ((hf.w hW).kr (o := 1) (by decide)) (by decide) (by decide) (Nat.le_of_ble_eq_true rfl) d_Group_countRepeating_14 ?_
        rintro _ N8_ ⟨v9_, rfl, ⟨hv9_a, hv9_b⟩, hsN8_, ⟨hp0_N8_, hp1_N8_, hp2_N8_⟩⟩
        obtain rfl := hsN8_.eq.symm
        show zW l m_Group_countRepeating (zn Mz + 0, zw Mz + 0) Mz 17 [some (.ref (d_ + 1)), some (.int (Int32.ofInt a0_)), some (.int (Int32.ofInt u1_)), some (.int (Int32.ofInt u2_))] [.int (Int32.ofInt v9_)] (zqcI d_ [] [] [] [] Mz (fun v N => v = ((zct (fun m_ => gOr T_ m_ (a0_).toNat) (gN T_) : Nat) : Int)))
        have hor_ := hp0_N8_
        have hor1_ := hp1_N8_
        have hq_ := gOr_q (w := (a0_).toNat) hor_ hor1_
        refine zw_iload_n (pc := 17) (n := 1) (x := Int32.ofInt a0_) rfl d_Group_countRepeating_17 ?_
        refine zr_icmp_ne (pc := 18) (tgt := 24) ⟨hv9_a, hv9_b⟩ ⟨ha0_a, ha0_b⟩ (by decide) d_Group_countRepeating_18 (fun hc_18 => ?_) (fun hc_18 => ?_)
        · skip
          refine zr_iinc (pc := 24) (i := 3) (a := u2_) (n := 1) (L2 := [some (.ref (d_ + 1)), some (.int (Int32.ofInt a0_)), some (.int (Int32.ofInt u1_)), some (.int (Int32.ofInt (u2_ + 1)))]) rfl (by decide) rfl d_Group_countRepeating_24 ?_
          refine zw_goto (pc := 27) (tgt := 4) (by decide) d_Group_countRepeating_27 ?_
          have hcn_ : u1_ = ((zct (fun m_ => gOr T_ m_ (a0_).toNat) ((u2_ + 1)).toNat : Nat) : Int) := by first | exact zct_1 (p := fun m_ => gOr T_ m_ (a0_).toNat) (by omega) hct_ (hq_.mp (by omega)) | exact zct_0 (p := fun m_ => gOr T_ m_ (a0_).toNat) (by omega) hct_ (fun q_ => absurd (hq_.mpr q_) (by omega))
          exact ih_4 u1_ hu1_a hu1_b (u2_ + 1) (by omega) (by omega) (show 0 ≤ (u2_ + 1) by first | assumption | omega) (show (u2_ + 1) ≤ gN T_ by first | assumption | omega) (show 0 ≤ u1_ by first | assumption | omega) (show u1_ ≤ (u2_ + 1) by first | assumption | omega) (show u1_ = ((zct (fun m_ => gOr T_ m_ (a0_).toNat) ((u2_ + 1)).toNat : Nat) : Int) by exact hcn_) (by omega)
        · skip
          refine zr_iinc (pc := 21) (i := 2) (a := u1_) (n := 1) (L2 := [some (.ref (d_ + 1)), some (.int (Int32.ofInt a0_)), some (.int (Int32.ofInt (u1_ + 1))), some (.int (Int32.ofInt u2_))]) rfl (by decide) rfl d_Group_countRepeating_21 ?_
          refine zr_iinc (pc := 24) (i := 3) (a := u2_) (n := 1) (L2 := [some (.ref (d_ + 1)), some (.int (Int32.ofInt a0_)), some (.int (Int32.ofInt (u1_ + 1))), some (.int (Int32.ofInt (u2_ + 1)))]) rfl (by decide) rfl d_Group_countRepeating_24 ?_
          refine zw_goto (pc := 27) (tgt := 4) (by decide) d_Group_countRepeating_27 ?_
          have hcn_ : (u1_ + 1) = ((zct (fun m_ => gOr T_ m_ (a0_).toNat) ((u2_ + 1)).toNat : Nat) : Int) := by first | exact zct_1 (p := fun m_ => gOr T_ m_ (a0_).toNat) (by omega) hct_ (hq_.mp (by omega)) | exact zct_0 (p := fun m_ => gOr T_ m_ (a0_).toNat) (by omega) hct_ (fun q_ => absurd (hq_.mpr q_) (by omega))
          exact ih_4 (u1_ + 1) (by omega) (by omega) (u2_ + 1) (by omega) (by omega) (show 0 ≤ (u2_ + 1) by first | assumption | omega) (show (u2_ + 1) ≤ gN T_ by first | assumption | omega) (show 0 ≤ (u1_ + 1) by first | assumption | omega) (show (u1_ + 1) ≤ (u2_ + 1) by first | assumption | omega) (show (u1_ + 1) = ((zct (fun m_ => gOr T_ m_ (a0_).toNat) ((u2_ + 1)).toNat : Nat) : Int) by exact hcn_) (by omega)
  exact lp_4 _ 0 (by decide) (by decide) 0 (by decide) (by decide) (show 0 ≤ (0 : Int) by first | assumption | omega) (show (0 : Int) ≤ gN T_ by first | assumption | omega) (show 0 ≤ (0 : Int) by first | assumption | omega) (show (0 : Int) ≤ (0 : Int) by first | assumption | omega) (show (0 : Int) = ((zct (fun m_ => gOr T_ m_ (a0_).toNat) ((0 : Int)).toNat : Nat) : Int) by rfl) (Nat.lt_succ_self _)
set_option maxHeartbeats 4000000 in
theorem u_T_ordersG (l : Launch) (d_ : Nat) (Mz : zMem) (hW : zKW d_ Mz) (hnow : zf Mz 0 2 = some (d_ + 0)) (a0_ : Int) (ha0_a : -2147483648 ≤ a0_) (ha0_b : a0_ < 2147483648) (T_ : zGT) (hT_ : T_ ∈ gTabs) (p0_ : zTt T_ d_ Mz) : zC l m_T_orders 0 0 [.ref 0, .int (Int32.ofInt a0_)] Mz (zqcI d_ [] [] [] [] Mz (fun v N => (((1 ≤ a0_ ∧ a0_ ≤ 24 ∧ v = ((zct (fun m_ => gOr T_ m_ (a0_).toNat) (gN T_) : Nat) : Int)) ∨ (¬ (1 ≤ a0_ ∧ a0_ ≤ 24) ∧ v = (-1 : Int)))))) := by
  refine zC_of (L0 := [some (.ref 0), some (.int (Int32.ofInt a0_))]) md_T_orders (Nat.le_of_ble_eq_true rfl) rfl ?_ zQ0
  have hf : zFc d_ [] [] [] [] Mz Mz := zFc.rf
  refine zw_iload_n (pc := 0) (n := 1) (x := Int32.ofInt a0_) rfl d_T_orders_0 ?_
  refine zw_iconst (pc := 1) (v := Int32.ofInt 1) (by decide) d_T_orders_1 ?_
  refine zr_icmp_lt (pc := 2) (tgt := 25) ⟨ha0_a, ha0_b⟩ ⟨(by decide), (by decide)⟩ (by decide) d_T_orders_2 (fun hc_2 => ?_) (fun hc_2 => ?_)
  · skip
    refine zw_iconst (pc := 25) (v := Int32.ofInt (-1)) (by decide) d_T_orders_25 ?_
    exact zk_iret (pc := 26) (ty := .int) rfl rfl ⟨by omega, by omega⟩ hf (show ((1 ≤ a0_ ∧ a0_ ≤ 24 ∧ ((-1)) = ((zct (fun m_ => gOr T_ m_ (a0_).toNat) (gN T_) : Nat) : Int)) ∨ (¬ (1 ≤ a0_ ∧ a0_ ≤ 24) ∧ ((-1)) = (-1 : Int))) by first | exact Or.inr ⟨by omega, rfl⟩ | exact Or.inl ⟨by omega, by omega, by assumption⟩) d_T_orders_26
  · skip
    refine zw_iload_n (pc := 5) (n := 1) (x := Int32.ofInt a0_) rfl d_T_orders_5 ?_
    refine zw_bipush (pc := 6) (v := Int32.ofInt 24) (by decide) d_T_orders_6 ?_
    refine zr_icmp_gt (pc := 8) (tgt := 25) ⟨ha0_a, ha0_b⟩ ⟨(by decide), (by decide)⟩ (by decide) d_T_orders_8 (fun hc_8 => ?_) (fun hc_8 => ?_)
    · skip
      refine zw_iconst (pc := 25) (v := Int32.ofInt (-1)) (by decide) d_T_orders_25 ?_
      exact zk_iret (pc := 26) (ty := .int) rfl rfl ⟨by omega, by omega⟩ hf (show ((1 ≤ a0_ ∧ a0_ ≤ 24 ∧ ((-1)) = ((zct (fun m_ => gOr T_ m_ (a0_).toNat) (gN T_) : Nat) : Int)) ∨ (¬ (1 ≤ a0_ ∧ a0_ ≤ 24) ∧ ((-1)) = (-1 : Int))) by first | exact Or.inr ⟨by omega, rfl⟩ | exact Or.inl ⟨by omega, by omega, by assumption⟩) d_T_orders_26
    · skip
      refine zw_aload_n (pc := 11) (n := 0) (x := 0) rfl d_T_orders_11 ?_
      refine zw_getF (pc := 12) f_T_28 rfl ((hf.w hW).ka (o := 0) (by decide)) (hf.now hnow) d_T_orders_12 ?_
      refine zw_getF (pc := 15) f_T_61 rfl ((hf.w hW).kr (o := 0) (by decide)) ((hf.w hW).lr (o := 0) (s := 0) (r := 1) (by decide)) d_T_orders_15 ?_
      refine zw_iload_n (pc := 18) (n := 1) (x := Int32.ofInt a0_) rfl d_T_orders_18 ?_
      refine zk_callV hf.x (pc := 19) [.int (Int32.ofInt a0_)] [] l_T_217 (u_Group_countRepeatingG l d_ Mz (hf.w hW) a0_ ha0_a ha0_b T_ hT_ p0_ (show 1 ≤ a0_ by first | assumption | omega) (show a0_ ≤ 24 by first | assumption | omega)) rfl rfl ((hf.w hW).kr (o := 1) (by decide)) (by decide) (by decide) (Nat.le_of_ble_eq_true rfl) d_T_orders_19 ?_
      rintro _ N1_ ⟨v2_, rfl, ⟨hv2_a, hv2_b⟩, hsN1_, hp0_N1_⟩
      obtain rfl := hsN1_.eq.symm
      replace hp0_N1_ : v2_ = ((zct (fun m_ => gOr T_ m_ (a0_).toNat) (gN T_) : Nat) : Int) := hp0_N1_
      show zW l m_T_orders (zn Mz + 0, zw Mz + 0) Mz 22 [some (.ref 0), some (.int (Int32.ofInt a0_))] [.int (Int32.ofInt v2_)] (zqcI d_ [] [] [] [] Mz (fun v N => (((1 ≤ a0_ ∧ a0_ ≤ 24 ∧ v = ((zct (fun m_ => gOr T_ m_ (a0_).toNat) (gN T_) : Nat) : Int)) ∨ (¬ (1 ≤ a0_ ∧ a0_ ≤ 24) ∧ v = (-1 : Int))))))
      refine zw_goto (pc := 22) (tgt := 26) (by decide) d_T_orders_22 ?_
      exact zk_iret (pc := 26) (ty := .int) rfl rfl ⟨by omega, by omega⟩ hf (show ((1 ≤ a0_ ∧ a0_ ≤ 24 ∧ v2_ = ((zct (fun m_ => gOr T_ m_ (a0_).toNat) (gN T_) : Nat) : Int)) ∨ (¬ (1 ≤ a0_ ∧ a0_ ≤ 24) ∧ v2_ = (-1 : Int))) by first | exact Or.inr ⟨by omega, rfl⟩ | exact Or.inl ⟨by omega, by omega, by assumption⟩) d_T_orders_26
