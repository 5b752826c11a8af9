set_option maxHeartbeats 4000000 in
theorem u_T_placeIn (l : Launch) (d_ : Nat) (Mz : zMem) (hW : zKW d_ Mz) (a0_ : Int) (ha0_a : -2147483648 ≤ a0_) (ha0_b : a0_ < 2147483648) (a1_ : Int) (ha1_a : -2147483648 ≤ a1_) (ha1_b : a1_ < 2147483648) (p0_ : 0 ≤ a0_) (p1_ : a0_ < 262144) (p2_ : 0 ≤ a1_) (p3_ : a1_ ≤ 5) : zC l m_T_placeIn 0 0 [.int (Int32.ofInt a0_), .int (Int32.ofInt a1_)] Mz (zqcI d_ [] [] [] [] Mz (fun v N => v = (gdg (a0_).toNat (a1_).toNat : Nat))) := by
  refine zC_of (L0 := [some (.int (Int32.ofInt a0_)), some (.int (Int32.ofInt a1_))]) md_T_placeIn (Nat.le_of_ble_eq_true rfl) rfl ?_ zQ0
  have hf : zFc d_ [] [] [] [] Mz Mz := zFc.rf
  refine zw_iload_n (pc := 0) (n := 0) (x := Int32.ofInt a0_) rfl (zdal_p dlA_T_placeIn_25 (i := 0) rfl) ?_
  refine zw_iconst (pc := 1) (v := Int32.ofInt 3) (by decide) (zdal_p dlA_T_placeIn_25 (i := 1) rfl) ?_
  refine zw_iconst (pc := 2) (v := Int32.ofInt 5) (by decide) (zdal_p dlA_T_placeIn_25 (i := 2) rfl) ?_
  refine zw_iload_n (pc := 3) (n := 1) (x := Int32.ofInt a1_) rfl (zdal_p dlA_T_placeIn_25 (i := 3) rfl) ?_
  refine zr_isub (pc := 4) (zdal_p dlA_T_placeIn_25 (i := 4) rfl) ?_
  refine zr_imul (pc := 5) (zdal_p dlA_T_placeIn_25 (i := 5) rfl) ?_
  refine zr_ishr (pc := 6) (zdal_p dlA_T_placeIn_25 (i := 6) rfl) ?_
  have hr1_ := zshr_r a0_ (3 * (5 - a1_))
  refine zw_bipush (pc := 7) (v := Int32.ofInt 7) (by decide) (zdal_p dlA_T_placeIn_25 (i := 7) rfl) ?_
  refine zr_iand (pc := 9) (zdal_p dlA_T_placeIn_25 (i := 8) rfl) ?_
  have hr2_ := zand_r (zshr a0_ (3 * (5 - a1_))) 7
  exact zk_iret (pc := 10) (ty := .int) rfl rfl ⟨by omega, by omega⟩ hf (show (zand (zshr a0_ (3 * (5 - a1_))) 7) = (gdg (a0_).toNat (a1_).toNat : Nat) by exact zpl5 (by omega) (by omega) (by omega) (by omega)) (zdal_p dlA_T_placeIn_25 (i := 9) rfl)
set_option maxHeartbeats 4000000 in
theorem u_T_codeOf (l : Launch) (d_ : Nat) (Mz : zMem) (hW : zKW d_ Mz) (a0_ : Int) (ha0_a : -2147483648 ≤ a0_) (ha0_b : a0_ < 2147483648) (a1_ : Int) (ha1_a : -2147483648 ≤ a1_) (ha1_b : a1_ < 2147483648) (p0_ : 0 ≤ a0_) (p1_ : a0_ ≤ 7) (p2_ : 0 ≤ a1_) (p3_ : a1_ ≤ 5) : zC l m_T_codeOf 0 0 [.int (Int32.ofInt a0_), .int (Int32.ofInt a1_)] Mz (zqcI d_ [] [] [] [] Mz (fun v N => v = ((a0_).toNat * zw5 (a1_).toNat : Nat))) := by
  refine zC_of (L0 := [some (.int (Int32.ofInt a0_)), some (.int (Int32.ofInt a1_))]) md_T_codeOf (Nat.le_of_ble_eq_true rfl) rfl ?_ zQ0
  have hf : zFc d_ [] [] [] [] Mz Mz := zFc.rf
  refine zw_iload_n (pc := 0) (n := 0) (x := Int32.ofInt a0_) rfl (zdal_p dlA_T_codeOf_21 (i := 0) rfl) ?_
  refine zw_iconst (pc := 1) (v := Int32.ofInt 3) (by decide) (zdal_p dlA_T_codeOf_21 (i := 1) rfl) ?_
  refine zw_iconst (pc := 2) (v := Int32.ofInt 5) (by decide) (zdal_p dlA_T_codeOf_21 (i := 2) rfl) ?_
  refine zw_iload_n (pc := 3) (n := 1) (x := Int32.ofInt a1_) rfl (zdal_p dlA_T_codeOf_21 (i := 3) rfl) ?_
  refine zr_isub (pc := 4) (zdal_p dlA_T_codeOf_21 (i := 4) rfl) ?_
  refine zr_imul (pc := 5) (zdal_p dlA_T_codeOf_21 (i := 5) rfl) ?_
  refine zr_ishl (pc := 6) (zdal_p dlA_T_codeOf_21 (i := 6) rfl) ?_
  have hr1_ := zshl_r a0_ (3 * (5 - a1_))
  exact zk_iret (pc := 7) (ty := .int) rfl rfl ⟨by omega, by omega⟩ hf (show (zshl a0_ (3 * (5 - a1_))) = ((a0_).toNat * zw5 (a1_).toNat : Nat) by exact zsh5 (by omega) (by omega) (by omega) (by omega)) (zdal_p dlA_T_codeOf_21 (i := 7) rfl)
set_option maxHeartbeats 4000000 in
theorem u_T_isIn (l : Launch) (d_ : Nat) (Mz : zMem) (hW : zKW d_ Mz) (a0_ : Int) (ha0_a : -2147483648 ≤ a0_) (ha0_b : a0_ < 2147483648) (a1_ : Int) (ha1_a : -2147483648 ≤ a1_) (ha1_b : a1_ < 2147483648) (p0_ : 0 ≤ a0_) (p1_ : a0_ < 2147483648) (p2_ : 0 ≤ a1_) (p3_ : a1_ < 31) : zC l m_T_isIn 0 0 [.int (Int32.ofInt a0_), .int (Int32.ofInt a1_)] Mz (zqcI d_ [] [] [] [] Mz (fun v N => (((v = 1 ∧ zbt a0_ a1_) ∨ (v = 0 ∧ ¬ zbt a0_ a1_))))) := by
  refine zC_of (L0 := [some (.int (Int32.ofInt a0_)), some (.int (Int32.ofInt a1_))]) md_T_isIn (Nat.le_of_ble_eq_true rfl) rfl ?_ zQ0
  have hf : zFc d_ [] [] [] [] Mz Mz := zFc.rf
  have hbb_ := zbit (x := a0_) (k := a1_) (by omega) (by omega) (by omega) (by omega)
  refine zw_iload_n (pc := 0) (n := 0) (x := Int32.ofInt a0_) rfl (zdal_p dlA_T_isIn_35 (i := 0) rfl) ?_
  refine zw_iload_n (pc := 1) (n := 1) (x := Int32.ofInt a1_) rfl (zdal_p dlA_T_isIn_35 (i := 1) rfl) ?_
  refine zr_ishr (pc := 2) (zdal_p dlA_T_isIn_35 (i := 2) rfl) ?_
  have hr1_ := zshr_r a0_ a1_
  refine zw_iconst (pc := 3) (v := Int32.ofInt 1) (by decide) (zdal_p dlA_T_isIn_35 (i := 3) rfl) ?_
  refine zr_iand (pc := 4) (zdal_p dlA_T_isIn_35 (i := 4) rfl) ?_
  have hr2_ := zand_r (zshr a0_ a1_) 1
  refine zr_if_eq (pc := 5) (tgt := 12) ⟨(by omega), (by omega)⟩ (by decide) (zdal_p dlA_T_isIn_35 (i := 5) rfl) (fun hc_5 => ?_) (fun hc_5 => ?_)
  · skip
    refine zw_iconst (pc := 12) (v := Int32.ofInt 0) (by decide) (zdal_p dlA_T_isIn_35 (i := 8) rfl) ?_
    exact zk_iret (pc := 13) (ty := .boolean) rfl (z_narB (by omega)) ⟨by omega, by omega⟩ hf (show ((0 = 1 ∧ zbt a0_ a1_) ∨ (0 = 0 ∧ ¬ zbt a0_ a1_)) from Or.inr (⟨(show 0 = 0 by first | rfl | (rcases hbb_ with ⟨h1_, h2_⟩ | ⟨h1_, h2_⟩; exfalso; omega; exact h1_)), (show ¬ zbt a0_ a1_ by first | rfl | (rcases hbb_ with ⟨h1_, h2_⟩ | ⟨h1_, h2_⟩; exfalso; omega; exact h1_))⟩)) (zdal_p dlA_T_isIn_35 (i := 9) rfl)
  · skip
    refine zw_iconst (pc := 8) (v := Int32.ofInt 1) (by decide) (zdal_p dlA_T_isIn_35 (i := 6) rfl) ?_
    refine zw_goto (pc := 9) (tgt := 13) (by decide) (zdal_p dlA_T_isIn_35 (i := 7) rfl) ?_
    exact zk_iret (pc := 13) (ty := .boolean) rfl (z_narB (by omega)) ⟨by omega, by omega⟩ hf (show ((1 = 1 ∧ zbt a0_ a1_) ∨ (1 = 0 ∧ ¬ zbt a0_ a1_)) from Or.inl (⟨(show 1 = 1 by first | rfl | (rcases hbb_ with ⟨h1_, h2_⟩ | ⟨h1_, h2_⟩; exact h1_; exfalso; omega)), (show zbt a0_ a1_ by first | rfl | (rcases hbb_ with ⟨h1_, h2_⟩ | ⟨h1_, h2_⟩; exact h1_; exfalso; omega))⟩)) (zdal_p dlA_T_isIn_35 (i := 9) rfl)
set_option maxHeartbeats 4000000 in
theorem u_Group_behind (l : Launch) (d_ : Nat) (Mz : zMem) (hW : zKW d_ Mz) (a0_ : Int) (ha0_a : -2147483648 ≤ a0_) (ha0_b : a0_ < 2147483648) (a1_ : Int) (ha1_a : -2147483648 ≤ a1_) (ha1_b : a1_ < 2147483648) (P_ : Nat) (p0_ : ze Mz (d_ + 1) 5 = P_) (p1_ : P_ ≤ 6) (p2_ : zkv P_ a0_) (p3_ : zkv P_ a1_) : zC l m_Group_behind 0 0 [.ref (d_ + 1), .int (Int32.ofInt a0_), .int (Int32.ofInt a1_)] Mz (zqcI d_ [] [] [] [] Mz (fun v N => v = (zbe P_ a0_ a1_ : Nat))) := by
  refine zC_of (L0 := [some (.ref (d_ + 1)), some (.int (Int32.ofInt a0_)), some (.int (Int32.ofInt a1_)), none, none]) md_Group_behind (Nat.le_of_ble_eq_true rfl) rfl ?_ zQ0
  have hf : zFc d_ [] [] [] [] Mz Mz := zFc.rf
  have r_D1_5 := ze_r Mz (d_ + 1) 5
  obtain ⟨c1_, c2_, c3_, c4_⟩ := id p2_
  obtain ⟨l1_, l2_, l3_, l4_⟩ := id p3_
  refine zw_iconst (pc := 0) (v := Int32.ofInt 0) (by decide) (zdal_p dlA_Group_behind_24 (i := 0) rfl) ?_
  refine zw_istore_n (pc := 1) (i := 3) (L2 := [some (.ref (d_ + 1)), some (.int (Int32.ofInt a0_)), some (.int (Int32.ofInt a1_)), some (.int (Int32.ofInt 0)), none]) rfl (by decide) rfl (zdal_p dlA_Group_behind_24 (i := 1) rfl) ?_
  refine zw_iconst (pc := 2) (v := Int32.ofInt 0) (by decide) (zdal_p dlA_Group_behind_24 (i := 2) rfl) ?_
  refine zw_istore (pc := 3) (i := 4) (L2 := [some (.ref (d_ + 1)), some (.int (Int32.ofInt a0_)), some (.int (Int32.ofInt a1_)), some (.int (Int32.ofInt 0)), some (.int (Int32.ofInt 0))]) (by decide) rfl (zdal_p dlA_Group_behind_24 (i := 3) rfl) ?_
  have lp_5 : ∀ (n : Nat) (u1_ : Int) (hu1_a : -2147483648 ≤ u1_) (hu1_b : u1_ < 2147483648) (u2_ : Int) (hu2_a : -2147483648 ≤ u2_) (hu2_b : u2_ < 2147483648) (i3_ : 0 ≤ u2_) (i4_ : u2_ ≤ P_) (i5_ : u1_ = (zdc (fun p_ => gdg (a1_).toNat (gdg (a0_).toNat p_)) (u2_).toNat : Nat)), (P_ - u2_).toNat < n → zW l m_Group_behind (zn Mz + 0, zw Mz + 0) Mz 5 [some (.ref (d_ + 1)), some (.int (Int32.ofInt a0_)), some (.int (Int32.ofInt a1_)), some (.int (Int32.ofInt u1_)), some (.int (Int32.ofInt u2_))] [] (zqcI d_ [] [] [] [] Mz (fun v N => v = (zbe P_ a0_ a1_ : Nat))) := by
    intro n
    induction n with
    | zero =>
      intro u1_ hu1_a hu1_b u2_ hu2_a hu2_b i3_ i4_ i5_ h0
      exact absurd h0 (Nat.not_lt_zero _)
    | succ n ih_5 =>
      intro u1_ hu1_a hu1_b u2_ hu2_a hu2_b i3_ i4_ i5_ hlt_5
      have hd0_ := gdg_lt (a0_).toNat (u2_).toNat
      have hdl_ := (show u1_ = (zdc (fun p_ => gdg (a1_).toNat (gdg (a0_).toNat p_)) (u2_).toNat : Nat) by first | with_reducible assumption | assumption)
      refine zw_iload (pc := 5) (i := 4) (x := Int32.ofInt u2_) rfl (zdal_p dlA_Group_behind_24 (i := 4) rfl) ?_
      refine zw_aload_n (pc := 7) (n := 0) (x := (d_ + 1)) rfl (zdal_p dlA_Group_behind_24 (i := 5) rfl) ?_
      refine zk_getI (pc := 8) f_Group_32 rfl ((hf.w hW).kr (o := 1) (by decide)) (zdal_p dlA_Group_behind_24 (i := 6) rfl) ?_
      refine zr_icmp_ge (pc := 11) (tgt := 38) ⟨hu2_a, hu2_b⟩ ⟨(ze_r Mz (d_ + 1) 5).1, (ze_r Mz (d_ + 1) 5).2⟩ (by decide) (zdal_p dlA_Group_behind_24 (i := 7) rfl) (fun hc_11 => ?_) (fun hc_11 => ?_)
      · skip
        refine zw_iload_n (pc := 38) (n := 3) (x := Int32.ofInt u1_) rfl (zdal_p dlA_Group_behind_24 (i := 20) rfl) ?_
        exact zk_iret (pc := 39) (ty := .int) rfl rfl ⟨by omega, by omega⟩ hf (show u1_ = (zbe P_ a0_ a1_ : Nat) by rw [hdl_, show (u2_).toNat = P_ by omega]; rfl) (zdal_p dlA_Group_behind_24 (i := 21) rfl)
      · skip
        refine zw_iload_n (pc := 14) (n := 3) (x := Int32.ofInt u1_) rfl (zdal_p dlA_Group_behind_24 (i := 8) rfl) ?_
        refine zw_iload_n (pc := 15) (n := 2) (x := Int32.ofInt a1_) rfl (zdal_p dlA_Group_behind_24 (i := 9) rfl) ?_
        refine zw_iload_n (pc := 16) (n := 1) (x := Int32.ofInt a0_) rfl (zdal_p dlA_Group_behind_24 (i := 10) rfl) ?_
        refine zw_iload (pc := 17) (i := 4) (x := Int32.ofInt u2_) rfl (zdal_p dlA_Group_behind_24 (i := 11) rfl) ?_
        refine zr_callS hf.x (pc := 19) [.int (Int32.ofInt a0_), .int (Int32.ofInt u2_)] [.int (Int32.ofInt a1_), .int (Int32.ofInt u1_)] l_Group_64 (u_T_placeIn l d_ Mz (hf.w hW) a0_ ha0_a ha0_b u2_ hu2_a hu2_b (show 0 ≤ a0_ by first | with_reducible assumption | assumption | omega) (show a0_ < 262144 by omega) (show 0 ≤ u2_ by first | with_reducible assumption | assumption | omega) (show u2_ ≤ 5 by first | with_reducible assumption | assumption | omega)) rfl rfl (by decide) (Nat.le_of_ble_eq_true rfl) (zdal_p dlA_Group_behind_24 (i := 12) rfl) ?_
        rintro _ N6_ ⟨v7_, rfl, ⟨hv7_a, hv7_b⟩, hsN6_, hp0_N6_⟩
        obtain rfl := hsN6_.eq.symm
        replace hp0_N6_ : v7_ = (gdg (a0_).toNat (u2_).toNat : Nat) := hp0_N6_
        show zW l m_Group_behind (zn Mz + 0, zw Mz + 0) Mz 22 [some (.ref (d_ + 1)), some (.int (Int32.ofInt a0_)), some (.int (Int32.ofInt a1_)), some (.int (Int32.ofInt u1_)), some (.int (Int32.ofInt u2_))] [.int (Int32.ofInt v7_), .int (Int32.ofInt a1_), .int (Int32.ofInt u1_)] _
        have hq1_ := hp0_N6_
        have hq2_ := c3_ (u2_).toNat (by omega) (by omega)
        have hd1_ := gdg_lt (a1_).toNat (v7_).toNat
        refine zr_callS hf.x (pc := 22) [.int (Int32.ofInt a1_), .int (Int32.ofInt v7_)] [.int (Int32.ofInt u1_)] l_Group_64 (u_T_placeIn l d_ Mz (hf.w hW) a1_ ha1_a ha1_b v7_ hv7_a hv7_b (show 0 ≤ a1_ by first | with_reducible assumption | assumption | omega) (show a1_ < 262144 by first | with_reducible assumption | assumption | omega) (show 0 ≤ v7_ by omega) (show v7_ ≤ 5 by first | with_reducible assumption | assumption | omega)) rfl rfl (by decide) (Nat.le_of_ble_eq_true rfl) (zdal_p dlA_Group_behind_24 (i := 13) rfl) ?_
        rintro _ N8_ ⟨v9_, rfl, ⟨hv9_a, hv9_b⟩, hsN8_, hp0_N8_⟩
        obtain rfl := hsN8_.eq.symm
        replace hp0_N8_ : v9_ = (gdg (a1_).toNat (v7_).toNat : Nat) := hp0_N8_
        show zW l m_Group_behind (zn Mz + 0, zw Mz + 0) Mz 25 [some (.ref (d_ + 1)), some (.int (Int32.ofInt a0_)), some (.int (Int32.ofInt a1_)), some (.int (Int32.ofInt u1_)), some (.int (Int32.ofInt u2_))] [.int (Int32.ofInt v9_), .int (Int32.ofInt u1_)] _
        have hq3_ := hp0_N8_
        have hd2_ := gdg_lt (a1_).toNat (gdg (a0_).toNat (u2_).toNat)
        refine zw_iload (pc := 25) (i := 4) (x := Int32.ofInt u2_) rfl (zdal_p dlA_Group_behind_24 (i := 14) rfl) ?_
        refine zr_callS hf.x (pc := 27) [.int (Int32.ofInt v9_), .int (Int32.ofInt u2_)] [.int (Int32.ofInt u1_)] l_Group_50 (u_T_codeOf l d_ Mz (hf.w hW) v9_ hv9_a hv9_b u2_ hu2_a hu2_b (show 0 ≤ v9_ by first | with_reducible assumption | assumption | omega) (show v9_ ≤ 7 by first | with_reducible assumption | assumption | omega) (show 0 ≤ u2_ by first | with_reducible assumption | assumption | omega) (show u2_ ≤ 5 by first | with_reducible assumption | assumption | omega)) rfl rfl (by decide) (Nat.le_of_ble_eq_true rfl) (zdal_p dlA_Group_behind_24 (i := 15) rfl) ?_
        rintro _ N10_ ⟨v11_, rfl, ⟨hv11_a, hv11_b⟩, hsN10_, hp0_N10_⟩
        obtain rfl := hsN10_.eq.symm
        replace hp0_N10_ : v11_ = ((v9_).toNat * zw5 (u2_).toNat : Nat) := hp0_N10_
        show zW l m_Group_behind (zn Mz + 0, zw Mz + 0) Mz 30 [some (.ref (d_ + 1)), some (.int (Int32.ofInt a0_)), some (.int (Int32.ofInt a1_)), some (.int (Int32.ofInt u1_)), some (.int (Int32.ofInt u2_))] [.int (Int32.ofInt v11_), .int (Int32.ofInt u1_)] _
        have hq4_ := hp0_N10_
        obtain ⟨hz1_, hz2_, hz3_⟩ := zdc_z (f := (fun p_ => gdg (a1_).toNat (gdg (a0_).toNat p_))) (k := u2_) (v := u1_) (t := v11_) (by omega) (by omega) (fun p hp hk => gdg_lt _ _) hdl_ (hq4_.trans (by rw [hq3_, hq1_, Int.toNat_natCast, Int.toNat_natCast]))
        refine zr_ior (pc := 30) (zdal_p dlA_Group_behind_24 (i := 16) rfl) ?_
        have hr12_ := zor_r u1_ v11_
        refine zw_istore_n (pc := 31) (i := 3) (L2 := [some (.ref (d_ + 1)), some (.int (Int32.ofInt a0_)), some (.int (Int32.ofInt a1_)), some (.int (Int32.ofInt (zor u1_ v11_))), some (.int (Int32.ofInt u2_))]) rfl (by decide) rfl (zdal_p dlA_Group_behind_24 (i := 17) rfl) ?_
        refine zr_iinc (pc := 32) (i := 4) (a := u2_) (n := 1) (L2 := [some (.ref (d_ + 1)), some (.int (Int32.ofInt a0_)), some (.int (Int32.ofInt a1_)), some (.int (Int32.ofInt (zor u1_ v11_))), some (.int (Int32.ofInt (u2_ + 1)))]) rfl (by decide) rfl (zdal_p dlA_Group_behind_24 (i := 18) rfl) ?_
        refine zw_goto (pc := 35) (tgt := 5) (by decide) (zdal_p dlA_Group_behind_24 (i := 19) rfl) ?_
        exact ih_5 (zor u1_ v11_) (by omega) (by omega) (u2_ + 1) (by omega) (by omega) (show 0 ≤ (u2_ + 1) by first | with_reducible assumption | assumption | omega) (show (u2_ + 1) ≤ P_ by first | with_reducible assumption | assumption | omega) (show (zor u1_ v11_) = (zdc (fun p_ => gdg (a1_).toNat (gdg (a0_).toNat p_)) ((u2_ + 1)).toNat : Nat) by exact hz1_) (by omega)
  exact lp_5 _ 0 (by decide) (by decide) 0 (by decide) (by decide) (show 0 ≤ (0 : Int) by first | with_reducible assumption | assumption | omega) (show (0 : Int) ≤ P_ by first | with_reducible assumption | assumption | omega) (show (0 : Int) = (zdc (fun p_ => gdg (a1_).toNat (gdg (a0_).toNat p_)) ((0 : Int)).toNat : Nat) by rw [show (0 : Int).toNat = 0 from rfl, zdc_0]; rfl) (Nat.lt_succ_self _)
set_option maxHeartbeats 4000000 in
theorem u_Group_indexOf (l : Launch) (d_ : Nat) (Mz : zMem) (hW : zKW d_ Mz) (a0_ : Int) (ha0_a : -2147483648 ≤ a0_) (ha0_b : a0_ < 2147483648) (p0_ : 0 ≤ ze Mz (d_ + 1) 7) (p1_ : ze Mz (d_ + 1) 7 ≤ 24) : zC l m_Group_indexOf 0 0 [.ref (d_ + 1), .int (Int32.ofInt a0_)] Mz (zqcI d_ [] [] [] [] Mz (fun v N => (((v = -1 ∧ (∀ i : Nat, (i : Int) < ze Mz (d_ + 1) 7 → ze Mz (d_ + 5) i ≠ a0_)) ∨ (0 ≤ v ∧ v < ze Mz (d_ + 1) 7 ∧ ze Mz (d_ + 5) (v).toNat = a0_))))) := by
  refine zC_of (L0 := [some (.ref (d_ + 1)), some (.int (Int32.ofInt a0_)), none]) md_Group_indexOf (Nat.le_of_ble_eq_true rfl) rfl ?_ zQ0
  have hf : zFc d_ [] [] [] [] Mz Mz := zFc.rf
  have r_D1_7 := ze_r Mz (d_ + 1) 7
  refine zw_iconst (pc := 0) (v := Int32.ofInt 0) (by decide) (zdal_p dlA_Group_indexOf_26 (i := 0) rfl) ?_
  refine zw_istore_n (pc := 1) (i := 2) (L2 := [some (.ref (d_ + 1)), some (.int (Int32.ofInt a0_)), some (.int (Int32.ofInt 0))]) rfl (by decide) rfl (zdal_p dlA_Group_indexOf_26 (i := 1) rfl) ?_
  have lp_2 : ∀ (n : Nat) (u1_ : Int) (hu1_a : -2147483648 ≤ u1_) (hu1_b : u1_ < 2147483648) (i2_ : 0 ≤ u1_) (i3_ : ∀ i : Nat, (i : Int) < u1_ → ze Mz (d_ + 5) i ≠ a0_), (ze Mz (d_ + 1) 7 - u1_).toNat < n → zW l m_Group_indexOf (zn Mz + 0, zw Mz + 0) Mz 2 [some (.ref (d_ + 1)), some (.int (Int32.ofInt a0_)), some (.int (Int32.ofInt u1_))] [] (zqcI d_ [] [] [] [] Mz (fun v N => (((v = -1 ∧ (∀ i : Nat, (i : Int) < ze Mz (d_ + 1) 7 → ze Mz (d_ + 5) i ≠ a0_)) ∨ (0 ≤ v ∧ v < ze Mz (d_ + 1) 7 ∧ ze Mz (d_ + 5) (v).toNat = a0_))))) := by
    intro n
    induction n with
    | zero =>
      intro u1_ hu1_a hu1_b i2_ i3_ h0
      exact absurd h0 (Nat.not_lt_zero _)
    | succ n ih_2 =>
      intro u1_ hu1_a hu1_b i2_ i3_ hlt_2
      have hno_ := (show ∀ i : Nat, (i : Int) < u1_ → ze Mz (d_ + 5) i ≠ a0_ by first | with_reducible assumption | assumption)
      refine zw_iload_n (pc := 2) (n := 2) (x := Int32.ofInt u1_) rfl (zdal_p dlA_Group_indexOf_26 (i := 2) rfl) ?_
      refine zw_aload_n (pc := 3) (n := 0) (x := (d_ + 1)) rfl (zdal_p dlA_Group_indexOf_26 (i := 3) rfl) ?_
      refine zk_getI (pc := 4) f_Group_39 rfl ((hf.w hW).kr (o := 1) (by decide)) (zdal_p dlA_Group_indexOf_26 (i := 4) rfl) ?_
      refine zr_icmp_ge (pc := 7) (tgt := 30) ⟨hu1_a, hu1_b⟩ ⟨(ze_r Mz (d_ + 1) 7).1, (ze_r Mz (d_ + 1) 7).2⟩ (by decide) (zdal_p dlA_Group_indexOf_26 (i := 5) rfl) (fun hc_7 => ?_) (fun hc_7 => ?_)
      · skip
        refine zw_iconst (pc := 30) (v := Int32.ofInt (-1)) (by decide) (zdal_p dlA_Group_indexOf_26 (i := 16) rfl) ?_
        exact zk_iret (pc := 31) (ty := .int) rfl rfl ⟨by omega, by omega⟩ hf (show ((((-1)) = -1 ∧ (∀ i : Nat, (i : Int) < ze Mz (d_ + 1) 7 → ze Mz (d_ + 5) i ≠ a0_)) ∨ (0 ≤ ((-1)) ∧ ((-1)) < ze Mz (d_ + 1) 7 ∧ ze Mz (d_ + 5) (((-1))).toNat = a0_)) from Or.inl (⟨(show ((-1)) = -1 by first | rfl | exact fun i hi => hno_ i (by omega)), (show (∀ i : Nat, (i : Int) < ze Mz (d_ + 1) 7 → ze Mz (d_ + 5) i ≠ a0_) by first | rfl | exact fun i hi => hno_ i (by omega))⟩)) (zdal_p dlA_Group_indexOf_26 (i := 17) rfl)
      · skip
        refine zw_aload_n (pc := 10) (n := 0) (x := (d_ + 1)) rfl (zdal_p dlA_Group_indexOf_26 (i := 6) rfl) ?_
        refine zw_getF (pc := 11) f_Group_20 rfl ((hf.w hW).kr (o := 1) (by decide)) ((hf.w hW).lr (o := 1) (s := 1) (r := 4) (by decide)) (zdal_p dlA_Group_indexOf_26 (i := 7) rfl) ?_
        refine zw_iload_n (pc := 14) (n := 2) (x := Int32.ofInt u1_) rfl (zdal_p dlA_Group_indexOf_26 (i := 8) rfl) ?_
        refine zk_at hf.x (pc := 15) l_Group_54 ((hf.w hW).kr (o := 4) (by decide)) ((hf.w hW).lr (o := 4) (s := 0) (r := 5) (by decide)) ((hf.w hW).rr (o := 5) (t := 1) (n := 24) (by decide)) (by decide) (by omega) (by omega) (by decide) (Nat.le_of_ble_eq_true rfl) (zdal_p dlA_Group_indexOf_26 (i := 9) rfl) (fun v4_ hv4_ hv4_a hv4_b => ?_)
        have hvv_ := hv4_
        refine zw_iload_n (pc := 18) (n := 1) (x := Int32.ofInt a0_) rfl (zdal_p dlA_Group_indexOf_26 (i := 10) rfl) ?_
        refine zr_icmp_ne (pc := 19) (tgt := 24) ⟨hv4_a, hv4_b⟩ ⟨ha0_a, ha0_b⟩ (by decide) (zdal_p dlA_Group_indexOf_26 (i := 11) rfl) (fun hc_19 => ?_) (fun hc_19 => ?_)
        · skip
          refine zr_iinc (pc := 24) (i := 2) (a := u1_) (n := 1) (L2 := [some (.ref (d_ + 1)), some (.int (Int32.ofInt a0_)), some (.int (Int32.ofInt (u1_ + 1)))]) rfl (by decide) rfl (zdal_p dlA_Group_indexOf_26 (i := 14) rfl) ?_
          refine zw_goto (pc := 27) (tgt := 2) (by decide) (zdal_p dlA_Group_indexOf_26 (i := 15) rfl) ?_
          have hn2_ : ∀ i : Nat, (i : Int) < (u1_ + 1) → ze Mz (d_ + 5) i ≠ a0_ := fun i hi => by by_cases g_ : (i : Int) < (u1_ + 1) - 1; exact hno_ i (by omega); rw [show i = (((u1_ + 1)) - 1).toNat by omega]; intro q_; rw [ Int.add_sub_cancel] at q_; omega
          exact ih_2 (u1_ + 1) (by omega) (by omega) (show 0 ≤ (u1_ + 1) by first | with_reducible assumption | assumption | omega) (show ∀ i : Nat, (i : Int) < (u1_ + 1) → ze Mz (d_ + 5) i ≠ a0_ by exact hn2_) (by omega)
        · skip
          refine zw_iload_n (pc := 22) (n := 2) (x := Int32.ofInt u1_) rfl (zdal_p dlA_Group_indexOf_26 (i := 12) rfl) ?_
          exact zk_iret (pc := 23) (ty := .int) rfl rfl ⟨by omega, by omega⟩ hf (show ((u1_ = -1 ∧ (∀ i : Nat, (i : Int) < ze Mz (d_ + 1) 7 → ze Mz (d_ + 5) i ≠ a0_)) ∨ (0 ≤ u1_ ∧ u1_ < ze Mz (d_ + 1) 7 ∧ ze Mz (d_ + 5) (u1_).toNat = a0_)) from Or.inr (⟨(show 0 ≤ u1_ by omega), (show u1_ < ze Mz (d_ + 1) 7 by omega), (show ze Mz (d_ + 5) (u1_).toNat = a0_ by omega)⟩)) (zdal_p dlA_Group_indexOf_26 (i := 13) rfl)
  exact lp_2 _ 0 (by decide) (by decide) (show 0 ≤ (0 : Int) by first | with_reducible assumption | assumption | omega) (show ∀ i : Nat, (i : Int) < (0 : Int) → ze Mz (d_ + 5) i ≠ a0_ by intro i hi; omega) (Nat.lt_succ_self _)
set_option maxHeartbeats 4000000 in
theorem u_Group_gather (l : Launch) (d_ : Nat) (Mz : zMem) (hW : zKW d_ Mz) (P_ : Nat) (mv_ : List Nat) (p0_ : zMvK mv_ P_ d_ Mz) : zC l m_Group_gather 0 0 [.ref (d_ + 1)] Mz (zqcI d_ [] [] [(1, 7)] [5] Mz (fun v N => zMvK mv_ P_ d_ N ∧ (((v = 1 ∧ zGg mv_ P_ d_ N) ∨ (v = 0 ∧ ¬ gFin mv_))))) := by
  refine zC_of (L0 := [some (.ref (d_ + 1)), none, none, none, none]) md_Group_gather (Nat.le_of_ble_eq_true rfl) rfl ?_ zQ0
  have hf : zFc d_ [] [] [(1, 7)] [5] Mz Mz := zFc.rf
  have r_D1_5 := ze_r Mz (d_ + 1) 5
  have r_D1_6 := ze_r Mz (d_ + 1) 6
  have r_D1_7 := ze_r Mz (d_ + 1) 7
  obtain ⟨⟨hP0_, hP1_, hP6_⟩, hc1_, hc2_, hc3_⟩ := id p0_
  refine zw_iconst (pc := 0) (v := Int32.ofInt 0) (by decide) (zdal_p dlA_Group_gather_17 (i := 0) rfl) ?_
  refine zw_istore_n (pc := 1) (i := 1) (L2 := [some (.ref (d_ + 1)), some (.int (Int32.ofInt 0)), none, none, none]) rfl (by decide) rfl (zdal_p dlA_Group_gather_17 (i := 1) rfl) ?_
  refine zw_iconst (pc := 2) (v := Int32.ofInt 0) (by decide) (zdal_p dlA_Group_gather_17 (i := 2) rfl) ?_
  refine zw_istore_n (pc := 3) (i := 2) (L2 := [some (.ref (d_ + 1)), some (.int (Int32.ofInt 0)), some (.int (Int32.ofInt 0)), none, none]) rfl (by decide) rfl (zdal_p dlA_Group_gather_17 (i := 3) rfl) ?_
  have lp_4 : ∀ (n : Nat) (u1_ : Int) (hu1_a : -2147483648 ≤ u1_) (hu1_b : u1_ < 2147483648) (u2_ : Int) (hu2_a : -2147483648 ≤ u2_) (hu2_b : u2_ < 2147483648) (i3_ : 0 ≤ u2_) (i4_ : u2_ ≤ P_) (i5_ : u1_ = (zdc (fun p_ => p_) (u2_).toNat : Nat)), (P_ - u2_).toNat < n → zW l m_Group_gather (zn Mz + 0, zw Mz + 0) Mz 4 [some (.ref (d_ + 1)), some (.int (Int32.ofInt u1_)), some (.int (Int32.ofInt u2_)), none, none] [] (zqcI d_ [] [] [(1, 7)] [5] Mz (fun v N => zMvK mv_ P_ d_ N ∧ (((v = 1 ∧ zGg mv_ P_ d_ N) ∨ (v = 0 ∧ ¬ gFin mv_))))) := by
    intro n
    induction n with
    | zero =>
      intro u1_ hu1_a hu1_b u2_ hu2_a hu2_b i3_ i4_ i5_ h0
      exact absurd h0 (Nat.not_lt_zero _)
    | succ n ih_4 =>
      intro u1_ hu1_a hu1_b u2_ hu2_a hu2_b i3_ i4_ i5_ hlt_4
      have hdl_ := (show u1_ = (zdc (fun p_ => p_) (u2_).toNat : Nat) by first | with_reducible assumption | assumption)
      refine zw_iload_n (pc := 4) (n := 2) (x := Int32.ofInt u2_) rfl (zdal_p dlA_Group_gather_17 (i := 4) rfl) ?_
      refine zw_aload_n (pc := 5) (n := 0) (x := (d_ + 1)) rfl (zdal_p dlA_Group_gather_17 (i := 5) rfl) ?_
      refine zk_getI (pc := 6) f_Group_32 rfl ((hf.w hW).kr (o := 1) (by decide)) (zdal_p dlA_Group_gather_17 (i := 6) rfl) ?_
      refine zr_icmp_ge (pc := 9) (tgt := 26) ⟨hu2_a, hu2_b⟩ ⟨(ze_r Mz (d_ + 1) 5).1, (ze_r Mz (d_ + 1) 5).2⟩ (by decide) (zdal_p dlA_Group_gather_17 (i := 7) rfl) (fun hc_9 => ?_) (fun hc_9 => ?_)
      · skip
        refine zw_aload_n (pc := 26) (n := 0) (x := (d_ + 1)) rfl (zdal_p dlA_Group_gather_17 (i := 16) rfl) ?_
        refine zw_getF (pc := 27) f_Group_20 rfl ((hf.w hW).kr (o := 1) (by decide)) ((hf.w hW).lr (o := 1) (s := 1) (r := 4) (by decide)) (zdal_p dlA_Group_gather_17 (i := 17) rfl) ?_
        refine zw_iconst (pc := 30) (v := Int32.ofInt 0) (by decide) (zdal_p dlA_Group_gather_17 (i := 18) rfl) ?_
        refine zw_iload_n (pc := 31) (n := 1) (x := Int32.ofInt u1_) rfl (zdal_p dlA_Group_gather_17 (i := 19) rfl) ?_
        refine zk_st hf.x (pc := 32) (o := 5) (by decide) l_Group_46 ((hf.w hW).kr (o := 4) (by decide)) ((hf.w hW).lr (o := 4) (s := 0) (r := 5) (by decide)) ((hf.w hW).rr (o := 5) (t := 1) (n := 24) (by decide)) (by decide) (by omega) (by omega) (by decide) (Nat.le_of_ble_eq_true rfl) (zdal_p dlA_Group_gather_17 (i := 20) rfl) (fun N6_ hN6_ hsN6_ => ?_)
        have hf_N6_ : zFc d_ [] [] [(1, 7)] [5] Mz N6_ := hf.tr hsN6_ (by decide) (by decide) (by decide) (by decide)
        have eD1_5_N6_ : ze N6_ (d_ + 1) 5 = ze Mz (d_ + 1) 5 := hsN6_.e (by decide)
        have eD1_6_N6_ : ze N6_ (d_ + 1) 6 = ze Mz (d_ + 1) 6 := hsN6_.e (by decide)
        have eD1_7_N6_ : ze N6_ (d_ + 1) 7 = ze Mz (d_ + 1) 7 := hsN6_.e (by decide)
        have c7_ : zMvK mv_ P_ d_ N6_ := zMvK.fr (hf.w hW) hsN6_ p0_ (by decide)
        have hst_ := zs_get hN6_ ⟨by omega, by omega⟩
        refine zw_aload_n (pc := 35) (n := 0) (x := (d_ + 1)) rfl (zdal_p dlA_Group_gather_17 (i := 21) rfl) ?_
        refine zw_iconst (pc := 36) (v := Int32.ofInt 1) (by decide) (zdal_p dlA_Group_gather_17 (i := 22) rfl) ?_
        refine zk_putR (pc := 37) (o := 1) (by decide) f_Group_39 rfl rfl ((hf_N6_.w hW).kr (o := 1) (by decide)) ⟨by omega, by omega⟩ rfl rfl (zdal_p dlA_Group_gather_17 (i := 23) rfl) (fun N8_ hsN8_ hvN8_ => ?_)
        have hf_N8_ : zFc d_ [] [] [(1, 7)] [5] Mz N8_ := hf_N6_.tr hsN8_ (by decide) (by decide) (by decide) (by decide)
        have eD1_5_N8_ : ze N8_ (d_ + 1) 5 = ze N6_ (d_ + 1) 5 := hsN8_.e (by decide)
        have eD1_6_N8_ : ze N8_ (d_ + 1) 6 = ze N6_ (d_ + 1) 6 := hsN8_.e (by decide)
        have rD1_7_N8_ := ze_r N8_ (d_ + 1) 7
        have c9_ : zMvK mv_ P_ d_ N8_ := zMvK.fr (hf_N6_.w hW) hsN8_ c7_ (by decide)
        have hst2_ := (hsN8_.r (by decide) 0).trans hst_
        have hgi0_ : zGI mv_ P_ d_ N8_ 0 0 := zGI_0 (by omega) (by omega) (hst2_.trans (by rw [hdl_, show (u2_).toNat = P_ by omega]))
        refine zw_iconst (pc := 40) (v := Int32.ofInt 0) (by decide) (zdal_p dlA_Group_gather_18 (i := 0) rfl) ?_
        refine zw_istore_n (pc := 41) (i := 2) (L2 := [some (.ref (d_ + 1)), some (.int (Int32.ofInt u1_)), some (.int (Int32.ofInt 0)), none, none]) rfl (by decide) rfl (zdal_p dlA_Group_gather_18 (i := 1) rfl) ?_
        have lp_42 : ∀ (n : Nat) (u10_ : Int) (hu10_a : -2147483648 ≤ u10_) (hu10_b : u10_ < 2147483648) (N11_ : zMem) (hs12_ : zFc d_ [] [] [(1, 7)] [5] N8_ N11_) (i13_ : 0 ≤ u10_) (i14_ : zGI mv_ P_ d_ N11_ u10_ 0) (i15_ : zMvK mv_ P_ d_ N11_), (25 - u10_).toNat < n → zW l m_Group_gather (zn Mz + 0, zw Mz + 0) N11_ 42 [some (.ref (d_ + 1)), some (.int (Int32.ofInt u1_)), some (.int (Int32.ofInt u10_)), none, none] [] (zqcI d_ [] [] [(1, 7)] [5] Mz (fun v N => zMvK mv_ P_ d_ N ∧ (((v = 1 ∧ zGg mv_ P_ d_ N) ∨ (v = 0 ∧ ¬ gFin mv_))))) := by
          intro n
          induction n with
          | zero =>
            intro u10_ hu10_a hu10_b N11_ hs12_ i13_ i14_ i15_ h0
            exact absurd h0 (Nat.not_lt_zero _)
          | succ n ih_42 =>
            intro u10_ hu10_a hu10_b N11_ hs12_ i13_ i14_ i15_ hlt_42
            have hf_N11_ : zFc d_ [] [] [(1, 7)] [5] Mz N11_ := hf_N8_.tr hs12_ (by decide) (by decide) (by decide) (by decide)
            have eD1_5_N11_ : ze N11_ (d_ + 1) 5 = ze N8_ (d_ + 1) 5 := hs12_.e (by decide)
            have eD1_6_N11_ : ze N11_ (d_ + 1) 6 = ze N8_ (d_ + 1) 6 := hs12_.e (by decide)
            have rD1_7_N11_ := ze_r N11_ (d_ + 1) 7
            have hgi_ := (show zGI mv_ P_ d_ N11_ u10_ 0 by first | with_reducible assumption | assumption)
            have hmv_ := i15_
            have hsz_ := hgi_.2.1.1
            refine zw_iload_n (pc := 42) (n := 2) (x := Int32.ofInt u10_) rfl (zdal_p dlA_Group_gather_18 (i := 2) rfl) ?_
            refine zw_aload_n (pc := 43) (n := 0) (x := (d_ + 1)) rfl (zdal_p dlA_Group_gather_18 (i := 3) rfl) ?_
            refine zk_getI (pc := 44) f_Group_39 rfl ((hf_N11_.w hW).kr (o := 1) (by decide)) (zdal_p dlA_Group_gather_18 (i := 4) rfl) ?_
            refine zr_icmp_ge (pc := 47) (tgt := 147) ⟨hu10_a, hu10_b⟩ ⟨(ze_r N11_ (d_ + 1) 7).1, (ze_r N11_ (d_ + 1) 7).2⟩ (by decide) (zdal_p dlA_Group_gather_18 (i := 5) rfl) (fun hc_47 => ?_) (fun hc_47 => ?_)
            · skip
              refine zw_iconst (pc := 147) (v := Int32.ofInt 1) (by decide) (zdal_p dlA_Group_gather_20 (i := 6) rfl) ?_
              exact zk_iret (pc := 148) (ty := .boolean) rfl (z_narB (by omega)) ⟨by omega, by omega⟩ hf_N11_ ⟨i15_, (show ((1 = 1 ∧ zGg mv_ P_ d_ N11_) ∨ (1 = 0 ∧ ¬ gFin mv_)) from Or.inl (⟨(show 1 = 1 by first | rfl | exact zGI_e hgi_ (by omega)), (show zGg mv_ P_ d_ N11_ by first | rfl | exact zGI_e hgi_ (by omega))⟩))⟩ (zdal_p dlA_Group_gather_20 (i := 7) rfl)
            · skip
              refine zw_iload_n (pc := 50) (n := 2) (x := Int32.ofInt u10_) rfl (zdal_p dlA_Group_gather_18 (i := 6) rfl) ?_
              refine zw_bipush (pc := 51) (v := Int32.ofInt 24) (by decide) (zdal_p dlA_Group_gather_18 (i := 7) rfl) ?_
              refine zr_icmp_ge (pc := 53) (tgt := 147) ⟨hu10_a, hu10_b⟩ ⟨(by decide), (by decide)⟩ (by decide) (zdal_p dlA_Group_gather_18 (i := 8) rfl) (fun hc_53 => ?_) (fun hc_53 => ?_)
              · skip
                refine zw_iconst (pc := 147) (v := Int32.ofInt 1) (by decide) (zdal_p dlA_Group_gather_20 (i := 6) rfl) ?_
                exact zk_iret (pc := 148) (ty := .boolean) rfl (z_narB (by omega)) ⟨by omega, by omega⟩ hf_N11_ ⟨i15_, (show ((1 = 1 ∧ zGg mv_ P_ d_ N11_) ∨ (1 = 0 ∧ ¬ gFin mv_)) from Or.inl (⟨(show 1 = 1 by first | rfl | exact zGI_e hgi_ (by omega)), (show zGg mv_ P_ d_ N11_ by first | rfl | exact zGI_e hgi_ (by omega))⟩))⟩ (zdal_p dlA_Group_gather_20 (i := 7) rfl)
              · skip
                refine zw_iconst (pc := 56) (v := Int32.ofInt 0) (by decide) (zdal_p dlA_Group_gather_18 (i := 9) rfl) ?_
                refine zw_istore_n (pc := 57) (i := 3) (L2 := [some (.ref (d_ + 1)), some (.int (Int32.ofInt u1_)), some (.int (Int32.ofInt u10_)), some (.int (Int32.ofInt 0)), none]) rfl (by decide) rfl (zdal_p dlA_Group_gather_18 (i := 10) rfl) ?_
                have lp_58 : ∀ (n : Nat) (u16_ : Int) (hu16_a : -2147483648 ≤ u16_) (hu16_b : u16_ < 2147483648) (N17_ : zMem) (hs18_ : zFc d_ [] [] [(1, 7)] [5] N11_ N17_) (i19_ : 0 ≤ u16_) (i20_ : u10_ < ze N17_ (d_ + 1) 7) (i21_ : zGI mv_ P_ d_ N17_ u10_ u16_) (i22_ : zMvK mv_ P_ d_ N17_), (5 - u16_).toNat < n → zW l m_Group_gather (zn Mz + 0, zw Mz + 0) N17_ 58 [some (.ref (d_ + 1)), some (.int (Int32.ofInt u1_)), some (.int (Int32.ofInt u10_)), some (.int (Int32.ofInt u16_)), none] [] (zqcI d_ [] [] [(1, 7)] [5] Mz (fun v N => zMvK mv_ P_ d_ N ∧ (((v = 1 ∧ zGg mv_ P_ d_ N) ∨ (v = 0 ∧ ¬ gFin mv_))))) := by
                  intro n
                  induction n with
                  | zero =>
                    intro u16_ hu16_a hu16_b N17_ hs18_ i19_ i20_ i21_ i22_ h0
                    exact absurd h0 (Nat.not_lt_zero _)
                  | succ n ih_58 =>
                    intro u16_ hu16_a hu16_b N17_ hs18_ i19_ i20_ i21_ i22_ hlt_58
                    have hf_N17_ : zFc d_ [] [] [(1, 7)] [5] Mz N17_ := hf_N11_.tr hs18_ (by decide) (by decide) (by decide) (by decide)
                    have hb0_N17_ : zFc d_ [] [] [(1, 7)] [5] N8_ N17_ := hs12_.tr hs18_ (by decide) (by decide) (by decide) (by decide)
                    have eD1_5_N17_ : ze N17_ (d_ + 1) 5 = ze N11_ (d_ + 1) 5 := hs18_.e (by decide)
                    have eD1_6_N17_ : ze N17_ (d_ + 1) 6 = ze N11_ (d_ + 1) 6 := hs18_.e (by decide)
                    have rD1_7_N17_ := ze_r N17_ (d_ + 1) 7
                    have hgj_ := (show zGI mv_ P_ d_ N17_ u10_ u16_ by first | with_reducible assumption | assumption)
                    have hmw_ := i22_
                    have hsy_ := hgj_.2.1.1
                    have hml_ := hmw_.2.1
                    refine zw_iload_n (pc := 58) (n := 3) (x := Int32.ofInt u16_) rfl (zdal_p dlA_Group_gather_18 (i := 11) rfl) ?_
                    refine zw_aload_n (pc := 59) (n := 0) (x := (d_ + 1)) rfl (zdal_p dlA_Group_gather_18 (i := 12) rfl) ?_
                    refine zk_getI (pc := 60) f_Group_36 rfl ((hf_N17_.w hW).kr (o := 1) (by decide)) (zdal_p dlA_Group_gather_18 (i := 13) rfl) ?_
                    rw [hf_N17_.e (by decide)]
                    refine zr_icmp_ge (pc := 63) (tgt := 141) ⟨hu16_a, hu16_b⟩ ⟨(ze_r Mz (d_ + 1) 6).1, (ze_r Mz (d_ + 1) 6).2⟩ (by decide) (zdal_p dlA_Group_gather_18 (i := 14) rfl) (fun hc_63 => ?_) (fun hc_63 => ?_)
                    · skip
                      refine zr_iinc (pc := 141) (i := 2) (a := u10_) (n := 1) (L2 := [some (.ref (d_ + 1)), some (.int (Int32.ofInt u1_)), some (.int (Int32.ofInt (u10_ + 1))), some (.int (Int32.ofInt u16_)), none]) rfl (by decide) rfl (zdal_p dlA_Group_gather_20 (i := 4) rfl) ?_
                      refine zw_goto (pc := 144) (tgt := 42) (by decide) (zdal_p dlA_Group_gather_20 (i := 5) rfl) ?_
                      refine zW_le [some (.ref (d_ + 1)), some (.int (Int32.ofInt u1_)), some (.int (Int32.ofInt (u10_ + 1))), none, none] (⟨rfl, rfl, rfl, trivial⟩) ?_
                      exact ih_42 (u10_ + 1) (by omega) (by omega) N17_ hb0_N17_ (show 0 ≤ (u10_ + 1) by first | with_reducible assumption | assumption | omega) (show zGI mv_ P_ d_ N17_ (u10_ + 1) 0 by exact zGI_n hgj_ (by omega)) i22_ (by omega)
                    · skip
                      refine zw_aload_n (pc := 66) (n := 0) (x := (d_ + 1)) rfl (zdal_p dlA_Group_gather_18 (i := 15) rfl) ?_
                      refine zw_aload_n (pc := 67) (n := 0) (x := (d_ + 1)) rfl (zdal_p dlA_Group_gather_18 (i := 16) rfl) ?_
                      refine zw_getF (pc := 68) f_Group_20 rfl ((hf_N17_.w hW).kr (o := 1) (by decide)) ((hf_N17_.w hW).lr (o := 1) (s := 1) (r := 4) (by decide)) (zdal_p dlA_Group_gather_18 (i := 17) rfl) ?_
                      refine zw_iload_n (pc := 71) (n := 2) (x := Int32.ofInt u10_) rfl (zdal_p dlA_Group_gather_18 (i := 18) rfl) ?_
                      refine zk_at hf_N17_.x (pc := 72) l_Group_54 ((hf_N17_.w hW).kr (o := 4) (by decide)) ((hf_N17_.w hW).lr (o := 4) (s := 0) (r := 5) (by decide)) ((hf_N17_.w hW).rr (o := 5) (t := 1) (n := 24) (by decide)) (by decide) (by omega) (by omega) (by decide) (Nat.le_of_ble_eq_true rfl) (zdal_p dlA_Group_gather_18 (i := 19) rfl) (fun v23_ hv23_ hv23_a hv23_b => ?_)
                      have hv1_ := hv23_
                      refine zw_aload_n (pc := 75) (n := 0) (x := (d_ + 1)) rfl (zdal_p dlA_Group_gather_18 (i := 20) rfl) ?_
                      refine zw_getF (pc := 76) f_Group_14 rfl ((hf_N17_.w hW).kr (o := 1) (by decide)) ((hf_N17_.w hW).lr (o := 1) (s := 0) (r := 2) (by decide)) (zdal_p dlA_Group_gather_18 (i := 21) rfl) ?_
                      refine zw_iload_n (pc := 79) (n := 3) (x := Int32.ofInt u16_) rfl (zdal_p dlA_Group_gather_18 (i := 22) rfl) ?_
                      refine zk_at hf_N17_.x (pc := 80) l_Group_54 ((hf_N17_.w hW).kr (o := 2) (by decide)) ((hf_N17_.w hW).lr (o := 2) (s := 0) (r := 3) (by decide)) ((hf_N17_.w hW).rr (o := 3) (t := 1) (n := 4) (by decide)) (by decide) (by omega) (by omega) (by decide) (Nat.le_of_ble_eq_true rfl) (zdal_p dlA_Group_gather_18 (i := 23) rfl) (fun v24_ hv24_ hv24_a hv24_b => ?_)
                      rw [hf_N17_.r (by decide)] at hv24_
                      have hv2_ : v24_ = ze N17_ (d_ + 3) (u16_).toNat := hv24_.trans (hf_N17_.r (by decide) _).symm
                      have hb4_ := zGI_b hmw_ hgj_ (by omega) (by omega)
                      refine zk_callV hf_N17_.x (pc := 83) [.int (Int32.ofInt v23_), .int (Int32.ofInt v24_)] [] l_Group_58 (u_Group_behind l d_ N17_ (hf_N17_.w hW) v23_ hv23_a hv23_b v24_ hv24_a hv24_b P_ (show ze N17_ (d_ + 1) 5 = P_ by first | with_reducible assumption | assumption | omega) (show P_ ≤ 6 by first | with_reducible assumption | assumption | omega) (show zkv P_ v23_ by rw [hv1_]; exact hb4_.1) (show zkv P_ v24_ by rw [hv2_]; exact hb4_.2.1)) rfl rfl ((hf_N17_.w hW).kr (o := 1) (by decide)) (by decide) (by decide) (Nat.le_of_ble_eq_true rfl) (zdal_p dlA_Group_gather_19 (i := 0) rfl) ?_
                      rintro _ N25_ ⟨v26_, rfl, ⟨hv26_a, hv26_b⟩, hsN25_, hp0_N25_⟩
                      obtain rfl := hsN25_.eq.symm
                      replace hp0_N25_ : v26_ = (zbe P_ v23_ v24_ : Nat) := hp0_N25_
                      show zW l m_Group_gather (zn Mz + 0, zw Mz + 0) N17_ 86 [some (.ref (d_ + 1)), some (.int (Int32.ofInt u1_)), some (.int (Int32.ofInt u10_)), some (.int (Int32.ofInt u16_)), none] [.int (Int32.ofInt v26_)] _
                      have hx_ := hp0_N25_
                      rw [hv1_, hv2_] at hx_
                      refine zw_istore (pc := 86) (i := 4) (L2 := [some (.ref (d_ + 1)), some (.int (Int32.ofInt u1_)), some (.int (Int32.ofInt u10_)), some (.int (Int32.ofInt u16_)), some (.int (Int32.ofInt v26_))]) (by decide) rfl (zdal_p dlA_Group_gather_19 (i := 1) rfl) ?_
                      refine zw_aload_n (pc := 88) (n := 0) (x := (d_ + 1)) rfl (zdal_p dlA_Group_gather_19 (i := 2) rfl) ?_
                      refine zw_iload (pc := 89) (i := 4) (x := Int32.ofInt v26_) rfl (zdal_p dlA_Group_gather_19 (i := 3) rfl) ?_
                      refine zk_callV hf_N17_.x (pc := 91) [.int (Int32.ofInt v26_)] [] l_Group_61 (u_Group_indexOf l d_ N17_ (hf_N17_.w hW) v26_ hv26_a hv26_b (show 0 ≤ ze N17_ (d_ + 1) 7 by first | with_reducible assumption | assumption | omega) (show ze N17_ (d_ + 1) 7 ≤ 24 by first | with_reducible assumption | assumption | omega)) rfl rfl ((hf_N17_.w hW).kr (o := 1) (by decide)) (by decide) (by decide) (Nat.le_of_ble_eq_true rfl) (zdal_p dlA_Group_gather_19 (i := 4) rfl) ?_
                      rintro _ N27_ ⟨v28_, rfl, ⟨hv28_a, hv28_b⟩, hsN27_, hp0_N27_⟩
                      obtain rfl := hsN27_.eq.symm
                      replace hp0_N27_ : ((v28_ = -1 ∧ (∀ i : Nat, (i : Int) < ze N17_ (d_ + 1) 7 → ze N17_ (d_ + 5) i ≠ v26_)) ∨ (0 ≤ v28_ ∧ v28_ < ze N17_ (d_ + 1) 7 ∧ ze N17_ (d_ + 5) (v28_).toNat = v26_)) := hp0_N27_
                      rcases hp0_N27_ with ⟨rfl, ha91_0_hp0_N27_⟩ | ⟨ha91_0_hp0_N27_, ha91_1_hp0_N27_, ha91_2_hp0_N27_⟩
                      · skip
                        have hno_ := ha91_0_hp0_N27_
                        show zW l m_Group_gather (zn Mz + 0, zw Mz + 0) N17_ 94 [some (.ref (d_ + 1)), some (.int (Int32.ofInt u1_)), some (.int (Int32.ofInt u10_)), some (.int (Int32.ofInt u16_)), some (.int (Int32.ofInt v26_))] [.int (Int32.ofInt ((-1)))] _
                        refine zw_iconst (pc := 94) (v := Int32.ofInt (-1)) (by decide) (zdal_p dlA_Group_gather_19 (i := 5) rfl) ?_
                        refine zr_icmp_eq (pc := 95) (tgt := 101) ⟨(by decide), (by decide)⟩ ⟨(by decide), (by decide)⟩ (by decide) (zdal_p dlA_Group_gather_19 (i := 6) rfl) (fun hc_95 => ?_) (fun hc_95 => ?_)
                        · skip
                          refine zw_aload_n (pc := 101) (n := 0) (x := (d_ + 1)) rfl (zdal_p dlA_Group_gather_19 (i := 8) rfl) ?_
                          refine zk_getI (pc := 102) f_Group_39 rfl ((hf_N17_.w hW).kr (o := 1) (by decide)) (zdal_p dlA_Group_gather_19 (i := 9) rfl) ?_
                          refine zw_bipush (pc := 105) (v := Int32.ofInt 24) (by decide) (zdal_p dlA_Group_gather_19 (i := 10) rfl) ?_
                          refine zr_icmp_lt (pc := 107) (tgt := 112) ⟨(ze_r N17_ (d_ + 1) 7).1, (ze_r N17_ (d_ + 1) 7).2⟩ ⟨(by decide), (by decide)⟩ (by decide) (zdal_p dlA_Group_gather_19 (i := 11) rfl) (fun hc_107 => ?_) (fun hc_107 => ?_)
                          · skip
                            refine zw_aload_n (pc := 112) (n := 0) (x := (d_ + 1)) rfl (zdal_p dlA_Group_gather_19 (i := 14) rfl) ?_
                            refine zw_getF (pc := 113) f_Group_20 rfl ((hf_N17_.w hW).kr (o := 1) (by decide)) ((hf_N17_.w hW).lr (o := 1) (s := 1) (r := 4) (by decide)) (zdal_p dlA_Group_gather_19 (i := 15) rfl) ?_
                            refine zw_aload_n (pc := 116) (n := 0) (x := (d_ + 1)) rfl (zdal_p dlA_Group_gather_19 (i := 16) rfl) ?_
                            refine zk_getI (pc := 117) f_Group_39 rfl ((hf_N17_.w hW).kr (o := 1) (by decide)) (zdal_p dlA_Group_gather_19 (i := 17) rfl) ?_
                            refine zw_iload (pc := 120) (i := 4) (x := Int32.ofInt v26_) rfl (zdal_p dlA_Group_gather_19 (i := 18) rfl) ?_
                            refine zk_st hf_N17_.x (pc := 122) (o := 5) (by decide) l_Group_46 ((hf_N17_.w hW).kr (o := 4) (by decide)) ((hf_N17_.w hW).lr (o := 4) (s := 0) (r := 5) (by decide)) ((hf_N17_.w hW).rr (o := 5) (t := 1) (n := 24) (by decide)) (by decide) (by omega) (by omega) (by decide) (Nat.le_of_ble_eq_true rfl) (zdal_p dlA_Group_gather_19 (i := 19) rfl) (fun N29_ hN29_ hsN29_ => ?_)
                            have hf_N29_ : zFc d_ [] [] [(1, 7)] [5] Mz N29_ := hf_N17_.tr hsN29_ (by decide) (by decide) (by decide) (by decide)
                            have hb0_N29_ : zFc d_ [] [] [(1, 7)] [5] N8_ N29_ := hb0_N17_.tr hsN29_ (by decide) (by decide) (by decide) (by decide)
                            have hb1_N29_ : zFc d_ [] [] [(1, 7)] [5] N11_ N29_ := hs18_.tr hsN29_ (by decide) (by decide) (by decide) (by decide)
                            have eD1_5_N29_ : ze N29_ (d_ + 1) 5 = ze N17_ (d_ + 1) 5 := hsN29_.e (by decide)
                            have eD1_6_N29_ : ze N29_ (d_ + 1) 6 = ze N17_ (d_ + 1) 6 := hsN29_.e (by decide)
                            have eD1_7_N29_ : ze N29_ (d_ + 1) 7 = ze N17_ (d_ + 1) 7 := hsN29_.e (by decide)
                            have c30_ : zMvK mv_ P_ d_ N29_ := zMvK.fr (hf_N17_.w hW) hsN29_ i22_ (by decide)
                            have hst_ := zs_get hN29_ ⟨by omega, by omega⟩
                            have hot_ := fun (i : Nat) (hi : (i : Int) < ze N17_ (d_ + 1) 7) => zs_oth hN29_ (j := i) (by omega)
                            refine zw_aload_n (pc := 125) (n := 0) (x := (d_ + 1)) rfl (zdal_p dlA_Group_gather_19 (i := 20) rfl) ?_
                            refine zw_dup (pc := 126) rfl (zdal_p dlA_Group_gather_19 (i := 21) rfl) ?_
                            refine zk_getI (pc := 127) f_Group_39 rfl ((hf_N29_.w hW).kr (o := 1) (by decide)) (zdal_p dlA_Group_gather_19 (i := 22) rfl) ?_
                            refine zw_iconst (pc := 130) (v := Int32.ofInt 1) (by decide) (zdal_p dlA_Group_gather_19 (i := 23) rfl) ?_
                            refine zr_iadd (pc := 131) (zdal_p dlA_Group_gather_20 (i := 0) rfl) ?_
                            refine zk_putR (pc := 132) (o := 1) (by decide) f_Group_39 rfl rfl ((hf_N29_.w hW).kr (o := 1) (by decide)) ⟨by omega, by omega⟩ rfl rfl (zdal_p dlA_Group_gather_20 (i := 1) rfl) (fun N31_ hsN31_ hvN31_ => ?_)
                            have hf_N31_ : zFc d_ [] [] [(1, 7)] [5] Mz N31_ := hf_N29_.tr hsN31_ (by decide) (by decide) (by decide) (by decide)
                            have hb0_N31_ : zFc d_ [] [] [(1, 7)] [5] N8_ N31_ := hb0_N29_.tr hsN31_ (by decide) (by decide) (by decide) (by decide)
                            have hb1_N31_ : zFc d_ [] [] [(1, 7)] [5] N11_ N31_ := hb1_N29_.tr hsN31_ (by decide) (by decide) (by decide) (by decide)
                            have eD1_5_N31_ : ze N31_ (d_ + 1) 5 = ze N29_ (d_ + 1) 5 := hsN31_.e (by decide)
                            have eD1_6_N31_ : ze N31_ (d_ + 1) 6 = ze N29_ (d_ + 1) 6 := hsN31_.e (by decide)
                            have rD1_7_N31_ := ze_r N31_ (d_ + 1) 7
                            have c32_ : zMvK mv_ P_ d_ N31_ := zMvK.fr (hf_N29_.w hW) hsN31_ c30_ (by decide)
                            have hga_ := zGI_a (Nz := N31_) hmw_ hgj_ (by omega) (by omega) hx_ hno_ (by omega) (by omega) (fun i hi => (hsN31_.r (by decide) i).trans (hot_ i hi)) ((hsN31_.r (by decide) _).trans hst_)
                            refine zr_iinc (pc := 135) (i := 3) (a := u16_) (n := 1) (L2 := [some (.ref (d_ + 1)), some (.int (Int32.ofInt u1_)), some (.int (Int32.ofInt u10_)), some (.int (Int32.ofInt (u16_ + 1))), some (.int (Int32.ofInt v26_))]) rfl (by decide) rfl (zdal_p dlA_Group_gather_20 (i := 2) rfl) ?_
                            refine zw_goto (pc := 138) (tgt := 58) (by decide) (zdal_p dlA_Group_gather_20 (i := 3) rfl) ?_
                            refine zW_le [some (.ref (d_ + 1)), some (.int (Int32.ofInt u1_)), some (.int (Int32.ofInt u10_)), some (.int (Int32.ofInt (u16_ + 1))), none] (⟨rfl, rfl, rfl, rfl, trivial⟩) ?_
                            exact ih_58 (u16_ + 1) (by omega) (by omega) N31_ hb1_N31_ (show 0 ≤ (u16_ + 1) by first | with_reducible assumption | assumption | omega) (show u10_ < ze N31_ (d_ + 1) 7 by first | with_reducible assumption | assumption | omega) (show zGI mv_ P_ d_ N31_ u10_ (u16_ + 1) by first | exact hgf_ | exact hga_) c32_ (by omega)
                          · skip
                            refine zw_iconst (pc := 110) (v := Int32.ofInt 0) (by decide) (zdal_p dlA_Group_gather_19 (i := 12) rfl) ?_
                            exact zk_iret (pc := 111) (ty := .boolean) rfl (z_narB (by omega)) ⟨by omega, by omega⟩ hf_N17_ ⟨i22_, (show ((0 = 1 ∧ zGg mv_ P_ d_ N17_) ∨ (0 = 0 ∧ ¬ gFin mv_)) from Or.inr (⟨(show 0 = 0 by first | rfl | exact zGI_24 hmw_ hgj_ (by omega) (by omega) hx_ hno_ (by omega)), (show ¬ gFin mv_ by first | rfl | exact zGI_24 hmw_ hgj_ (by omega) (by omega) hx_ hno_ (by omega))⟩))⟩ (zdal_p dlA_Group_gather_19 (i := 13) rfl)
                        · skip
                          exact absurd hc_95 (by decide)
                      · skip
                        have hv0_ := ha91_0_hp0_N27_
                        have hgf_ := zGI_f hmw_ hgj_ (by omega) (by omega) ha91_0_hp0_N27_ ha91_1_hp0_N27_ hx_ ha91_2_hp0_N27_
                        show zW l m_Group_gather (zn Mz + 0, zw Mz + 0) N17_ 94 [some (.ref (d_ + 1)), some (.int (Int32.ofInt u1_)), some (.int (Int32.ofInt u10_)), some (.int (Int32.ofInt u16_)), some (.int (Int32.ofInt v26_))] [.int (Int32.ofInt v28_)] _
                        refine zw_iconst (pc := 94) (v := Int32.ofInt (-1)) (by decide) (zdal_p dlA_Group_gather_19 (i := 5) rfl) ?_
                        refine zr_icmp_eq (pc := 95) (tgt := 101) ⟨hv28_a, hv28_b⟩ ⟨(by decide), (by decide)⟩ (by decide) (zdal_p dlA_Group_gather_19 (i := 6) rfl) (fun hc_95 => ?_) (fun hc_95 => ?_)
                        · skip
                          exfalso; omega
                        · skip
                          refine zw_goto (pc := 98) (tgt := 135) (by decide) (zdal_p dlA_Group_gather_19 (i := 7) rfl) ?_
                          refine zr_iinc (pc := 135) (i := 3) (a := u16_) (n := 1) (L2 := [some (.ref (d_ + 1)), some (.int (Int32.ofInt u1_)), some (.int (Int32.ofInt u10_)), some (.int (Int32.ofInt (u16_ + 1))), some (.int (Int32.ofInt v26_))]) rfl (by decide) rfl (zdal_p dlA_Group_gather_20 (i := 2) rfl) ?_
                          refine zw_goto (pc := 138) (tgt := 58) (by decide) (zdal_p dlA_Group_gather_20 (i := 3) rfl) ?_
                          refine zW_le [some (.ref (d_ + 1)), some (.int (Int32.ofInt u1_)), some (.int (Int32.ofInt u10_)), some (.int (Int32.ofInt (u16_ + 1))), none] (⟨rfl, rfl, rfl, rfl, trivial⟩) ?_
                          exact ih_58 (u16_ + 1) (by omega) (by omega) N17_ hs18_ (show 0 ≤ (u16_ + 1) by first | with_reducible assumption | assumption | omega) (show u10_ < ze N17_ (d_ + 1) 7 by first | with_reducible assumption | assumption | omega) (show zGI mv_ P_ d_ N17_ u10_ (u16_ + 1) by first | exact hgf_ | exact hga_) i22_ (by omega)
                exact lp_58 _ 0 (by decide) (by decide) N11_ zFc.rf (show 0 ≤ (0 : Int) by first | with_reducible assumption | assumption | omega) (show u10_ < ze N11_ (d_ + 1) 7 by first | with_reducible assumption | assumption | omega) (show zGI mv_ P_ d_ N11_ u10_ (0 : Int) by exact hgi_) i15_ (Nat.lt_succ_self _)
        exact lp_42 _ 0 (by decide) (by decide) N8_ zFc.rf (show 0 ≤ (0 : Int) by first | with_reducible assumption | assumption | omega) (show zGI mv_ P_ d_ N8_ (0 : Int) 0 by exact hgi0_) c9_ (Nat.lt_succ_self _)
      · skip
        refine zw_iload_n (pc := 12) (n := 1) (x := Int32.ofInt u1_) rfl (zdal_p dlA_Group_gather_17 (i := 8) rfl) ?_
        refine zw_iload_n (pc := 13) (n := 2) (x := Int32.ofInt u2_) rfl (zdal_p dlA_Group_gather_17 (i := 9) rfl) ?_
        refine zw_iload_n (pc := 14) (n := 2) (x := Int32.ofInt u2_) rfl (zdal_p dlA_Group_gather_17 (i := 10) rfl) ?_
        refine zr_callS hf.x (pc := 15) [.int (Int32.ofInt u2_), .int (Int32.ofInt u2_)] [.int (Int32.ofInt u1_)] l_Group_50 (u_T_codeOf l d_ Mz (hf.w hW) u2_ hu2_a hu2_b u2_ hu2_a hu2_b (show 0 ≤ u2_ by first | with_reducible assumption | assumption | omega) (show u2_ ≤ 7 by first | with_reducible assumption | assumption | omega) (show 0 ≤ u2_ by first | with_reducible assumption | assumption | omega) (show u2_ ≤ 5 by first | with_reducible assumption | assumption | omega)) rfl rfl (by decide) (Nat.le_of_ble_eq_true rfl) (zdal_p dlA_Group_gather_17 (i := 11) rfl) ?_
        rintro _ N33_ ⟨v34_, rfl, ⟨hv34_a, hv34_b⟩, hsN33_, hp0_N33_⟩
        obtain rfl := hsN33_.eq.symm
        replace hp0_N33_ : v34_ = ((u2_).toNat * zw5 (u2_).toNat : Nat) := hp0_N33_
        show zW l m_Group_gather (zn Mz + 0, zw Mz + 0) Mz 18 [some (.ref (d_ + 1)), some (.int (Int32.ofInt u1_)), some (.int (Int32.ofInt u2_)), none, none] [.int (Int32.ofInt v34_), .int (Int32.ofInt u1_)] _
        have hq0_ := hp0_N33_
        obtain ⟨hz1_, hz2_, hz3_⟩ := zdc_z (f := fun p_ => p_) (k := u2_) (v := u1_) (t := v34_) (by omega) (by omega) (fun p hp hk => by show p < 8; omega) hdl_ hq0_
        refine zr_ior (pc := 18) (zdal_p dlA_Group_gather_17 (i := 12) rfl) ?_
        have hr35_ := zor_r u1_ v34_
        refine zw_istore_n (pc := 19) (i := 1) (L2 := [some (.ref (d_ + 1)), some (.int (Int32.ofInt (zor u1_ v34_))), some (.int (Int32.ofInt u2_)), none, none]) rfl (by decide) rfl (zdal_p dlA_Group_gather_17 (i := 13) rfl) ?_
        refine zr_iinc (pc := 20) (i := 2) (a := u2_) (n := 1) (L2 := [some (.ref (d_ + 1)), some (.int (Int32.ofInt (zor u1_ v34_))), some (.int (Int32.ofInt (u2_ + 1))), none, none]) rfl (by decide) rfl (zdal_p dlA_Group_gather_17 (i := 14) rfl) ?_
        refine zw_goto (pc := 23) (tgt := 4) (by decide) (zdal_p dlA_Group_gather_17 (i := 15) rfl) ?_
        exact ih_4 (zor u1_ v34_) (by omega) (by omega) (u2_ + 1) (by omega) (by omega) (show 0 ≤ (u2_ + 1) by first | with_reducible assumption | assumption | omega) (show (u2_ + 1) ≤ P_ by first | with_reducible assumption | assumption | omega) (show (zor u1_ v34_) = (zdc (fun p_ => p_) ((u2_ + 1)).toNat : Nat) by exact hz1_) (by omega)
  exact lp_4 _ 0 (by decide) (by decide) 0 (by decide) (by decide) (show 0 ≤ (0 : Int) by first | with_reducible assumption | assumption | omega) (show (0 : Int) ≤ P_ by first | with_reducible assumption | assumption | omega) (show (0 : Int) = (zdc (fun p_ => p_) ((0 : Int)).toNat : Nat) by rw [show (0 : Int).toNat = 0 from rfl, zdc_0]; rfl) (Nat.lt_succ_self _)
set_option maxHeartbeats 4000000 in
theorem u_Group_begin (l : Launch) (d_ : Nat) (Mz : zMem) (hW : zKW d_ Mz) (a0_ : Int) (ha0_a : -2147483648 ≤ a0_) (ha0_b : a0_ < 2147483648) (P_ : Nat) (p0_ : a0_ = P_) (p1_ : 1 ≤ P_) (p2_ : P_ ≤ 6) : zC l m_Group_begin 0 0 [.ref (d_ + 1), .int (Int32.ofInt a0_)] Mz (zqcV d_ [] [] [(1, 5), (1, 6), (1, 7)] [5] Mz (fun N => zMvK [] P_ d_ N ∧ zGg [] P_ d_ N)) := by
  refine zC_of (L0 := [some (.ref (d_ + 1)), some (.int (Int32.ofInt a0_))]) md_Group_begin (Nat.le_of_ble_eq_true rfl) rfl ?_ zQ0
  have hf : zFc d_ [] [] [(1, 5), (1, 6), (1, 7)] [5] Mz Mz := zFc.rf
  have r_D1_5 := ze_r Mz (d_ + 1) 5
  have r_D1_6 := ze_r Mz (d_ + 1) 6
  have r_D1_7 := ze_r Mz (d_ + 1) 7
  refine zw_aload_n (pc := 0) (n := 0) (x := (d_ + 1)) rfl (zdal_p dlA_Group_begin_16 (i := 0) rfl) ?_
  refine zw_iload_n (pc := 1) (n := 1) (x := Int32.ofInt a0_) rfl (zdal_p dlA_Group_begin_16 (i := 1) rfl) ?_
  refine zk_putR (pc := 2) (o := 1) (by decide) f_Group_32 rfl rfl ((hf.w hW).kr (o := 1) (by decide)) ⟨by (exact ha0_a), by (exact ha0_b)⟩ rfl rfl (zdal_p dlA_Group_begin_16 (i := 2) rfl) (fun N1_ hsN1_ hvN1_ => ?_)
  have hf_N1_ : zFc d_ [] [] [(1, 5), (1, 6), (1, 7)] [5] Mz N1_ := hf.tr hsN1_ (by decide) (by decide) (by decide) (by decide)
  have rD1_5_N1_ := ze_r N1_ (d_ + 1) 5
  have eD1_6_N1_ : ze N1_ (d_ + 1) 6 = ze Mz (d_ + 1) 6 := hsN1_.e (by decide)
  have eD1_7_N1_ : ze N1_ (d_ + 1) 7 = ze Mz (d_ + 1) 7 := hsN1_.e (by decide)
  refine zw_aload_n (pc := 5) (n := 0) (x := (d_ + 1)) rfl (zdal_p dlA_Group_begin_16 (i := 3) rfl) ?_
  refine zw_iconst (pc := 6) (v := Int32.ofInt 0) (by decide) (zdal_p dlA_Group_begin_16 (i := 4) rfl) ?_
  refine zk_putR (pc := 7) (o := 1) (by decide) f_Group_36 rfl rfl ((hf_N1_.w hW).kr (o := 1) (by decide)) ⟨by (decide), by (decide)⟩ rfl rfl (zdal_p dlA_Group_begin_16 (i := 5) rfl) (fun N2_ hsN2_ hvN2_ => ?_)
  have hf_N2_ : zFc d_ [] [] [(1, 5), (1, 6), (1, 7)] [5] Mz N2_ := hf_N1_.tr hsN2_ (by decide) (by decide) (by decide) (by decide)
  have eD1_5_N2_ : ze N2_ (d_ + 1) 5 = ze N1_ (d_ + 1) 5 := hsN2_.e (by decide)
  have rD1_6_N2_ := ze_r N2_ (d_ + 1) 6
  have eD1_7_N2_ : ze N2_ (d_ + 1) 7 = ze N1_ (d_ + 1) 7 := hsN2_.e (by decide)
  refine zw_aload_n (pc := 10) (n := 0) (x := (d_ + 1)) rfl (zdal_p dlA_Group_begin_16 (i := 6) rfl) ?_
  refine zw_iconst (pc := 11) (v := Int32.ofInt 0) (by decide) (zdal_p dlA_Group_begin_16 (i := 7) rfl) ?_
  refine zk_putR (pc := 12) (o := 1) (by decide) f_Group_39 rfl rfl ((hf_N2_.w hW).kr (o := 1) (by decide)) ⟨by (decide), by (decide)⟩ rfl rfl (zdal_p dlA_Group_begin_16 (i := 8) rfl) (fun N3_ hsN3_ hvN3_ => ?_)
  have hf_N3_ : zFc d_ [] [] [(1, 5), (1, 6), (1, 7)] [5] Mz N3_ := hf_N2_.tr hsN3_ (by decide) (by decide) (by decide) (by decide)
  have eD1_5_N3_ : ze N3_ (d_ + 1) 5 = ze N2_ (d_ + 1) 5 := hsN3_.e (by decide)
  have eD1_6_N3_ : ze N3_ (d_ + 1) 6 = ze N2_ (d_ + 1) 6 := hsN3_.e (by decide)
  have rD1_7_N3_ := ze_r N3_ (d_ + 1) 7
  have hm0_ : zMvK [] P_ d_ N3_ := ⟨⟨by omega, by (exact p1_), by (exact p2_)⟩, by show _ = ((0 : Nat) : Int); omega, Nat.zero_le 4, fun k h => absurd h (Nat.not_lt_zero k)⟩
  refine zw_aload_n (pc := 15) (n := 0) (x := (d_ + 1)) rfl (zdal_p dlA_Group_begin_16 (i := 9) rfl) ?_
  refine zk_callV hf_N3_.x (pc := 16) [] [] l_Group_42 (u_Group_gather l d_ N3_ (hf_N3_.w hW) P_ [] hm0_) rfl rfl ((hf_N3_.w hW).kr (o := 1) (by decide)) (by decide) (by decide) (Nat.le_of_ble_eq_true rfl) (zdal_p dlA_Group_begin_16 (i := 10) rfl) ?_
  rintro _ N4_ ⟨v5_, rfl, ⟨hv5_a, hv5_b⟩, hsN4_, ⟨hp0_N4_, hp1_N4_⟩⟩
  have hf_N4_ : zFc d_ [] [] [(1, 5), (1, 6), (1, 7)] [5] Mz N4_ := hf_N3_.tr hsN4_ (by decide) (by decide) (by decide) (by decide)
  have eD1_5_N4_ : ze N4_ (d_ + 1) 5 = ze N3_ (d_ + 1) 5 := hsN4_.e (by decide)
  have eD1_6_N4_ : ze N4_ (d_ + 1) 6 = ze N3_ (d_ + 1) 6 := hsN4_.e (by decide)
  have rD1_7_N4_ := ze_r N4_ (d_ + 1) 7
  have c6_ : zMvK [] P_ d_ N4_ := zMvK.fr (hf_N3_.w hW) hsN4_ hm0_ (by decide)
  rcases hp1_N4_ with ⟨rfl, ha16_0_hp1_N4_⟩ | ⟨rfl, ha16_0_hp1_N4_⟩
  · skip
    have hg0_ := ha16_0_hp1_N4_
    show zW l m_Group_begin (zn Mz + 0, zw Mz + 0) N4_ 19 [some (.ref (d_ + 1)), some (.int (Int32.ofInt a0_))] [.int (Int32.ofInt 1)] _
    refine zw_pop (pc := 19) rfl (zdal_p dlA_Group_begin_16 (i := 11) rfl) ?_
    exact zk_vret (pc := 20) rfl hf_N4_ ⟨hp0_N4_, hg0_⟩ (zdal_p dlA_Group_begin_16 (i := 12) rfl)
  · skip
    exact absurd gFin_0 ha16_0_hp1_N4_
set_option maxHeartbeats 4000000 in
theorem u_Group_addMove (l : Launch) (d_ : Nat) (Mz : zMem) (hW : zKW d_ Mz) (a0_ : Int) (ha0_a : -2147483648 ≤ a0_) (ha0_b : a0_ < 2147483648) (P_ : Nat) (mv_ : List Nat) (p0_ : zMvK mv_ P_ d_ Mz) (p1_ : zkv P_ a0_) (p2_ : mv_.length ≤ 3) : zC l m_Group_addMove 0 0 [.ref (d_ + 1), .int (Int32.ofInt a0_)] Mz (zqcI d_ [] [] [(1, 6), (1, 7)] [3, 5] Mz (fun v N => zMvK (mv_ ++ [zkc P_ a0_]) P_ d_ N ∧ (((v = 1 ∧ zGg (mv_ ++ [zkc P_ a0_]) P_ d_ N) ∨ (v = 0 ∧ ¬ gFin (mv_ ++ [zkc P_ a0_])))))) := by
  refine zC_of (L0 := [some (.ref (d_ + 1)), some (.int (Int32.ofInt a0_))]) md_Group_addMove (Nat.le_of_ble_eq_true rfl) rfl ?_ zQ0
  have hf : zFc d_ [] [] [(1, 6), (1, 7)] [3, 5] Mz Mz := zFc.rf
  have r_D1_5 := ze_r Mz (d_ + 1) 5
  have r_D1_6 := ze_r Mz (d_ + 1) 6
  have hml_ := p0_.2.1
  refine zw_aload_n (pc := 0) (n := 0) (x := (d_ + 1)) rfl (zdal_p dlA_Group_addMove_102 (i := 0) rfl) ?_
  refine zk_getI (pc := 1) f_Group_36 rfl ((hf.w hW).kr (o := 1) (by decide)) (zdal_p dlA_Group_addMove_102 (i := 1) rfl) ?_
  refine zw_iconst (pc := 4) (v := Int32.ofInt 4) (by decide) (zdal_p dlA_Group_addMove_102 (i := 2) rfl) ?_
  refine zr_icmp_lt (pc := 5) (tgt := 10) ⟨(ze_r Mz (d_ + 1) 6).1, (ze_r Mz (d_ + 1) 6).2⟩ ⟨(by decide), (by decide)⟩ (by decide) (zdal_p dlA_Group_addMove_102 (i := 3) rfl) (fun hc_5 => ?_) (fun hc_5 => ?_)
  · skip
    refine zw_aload_n (pc := 10) (n := 0) (x := (d_ + 1)) rfl (zdal_p dlA_Group_addMove_102 (i := 6) rfl) ?_
    refine zw_getF (pc := 11) f_Group_14 rfl ((hf.w hW).kr (o := 1) (by decide)) ((hf.w hW).lr (o := 1) (s := 0) (r := 2) (by decide)) (zdal_p dlA_Group_addMove_102 (i := 7) rfl) ?_
    refine zw_aload_n (pc := 14) (n := 0) (x := (d_ + 1)) rfl (zdal_p dlA_Group_addMove_102 (i := 8) rfl) ?_
    refine zk_getI (pc := 15) f_Group_36 rfl ((hf.w hW).kr (o := 1) (by decide)) (zdal_p dlA_Group_addMove_102 (i := 9) rfl) ?_
    refine zw_iload_n (pc := 18) (n := 1) (x := Int32.ofInt a0_) rfl (zdal_p dlA_Group_addMove_102 (i := 10) rfl) ?_
    refine zk_st hf.x (pc := 19) (o := 3) (by decide) l_Group_46 ((hf.w hW).kr (o := 2) (by decide)) ((hf.w hW).lr (o := 2) (s := 0) (r := 3) (by decide)) ((hf.w hW).rr (o := 3) (t := 1) (n := 4) (by decide)) (by decide) (by (exact zo_2336 hml_ r_D1_6.1)) (by omega) (by decide) (Nat.le_of_ble_eq_true rfl) (zdal_p dlA_Group_addMove_102 (i := 11) rfl) (fun N1_ hN1_ hsN1_ => ?_)
    have hf_N1_ : zFc d_ [] [] [(1, 6), (1, 7)] [3, 5] Mz N1_ := hf.tr hsN1_ (by decide) (by decide) (by decide) (by decide)
    have eD1_5_N1_ : ze N1_ (d_ + 1) 5 = ze Mz (d_ + 1) 5 := hsN1_.e (by decide)
    have eD1_6_N1_ : ze N1_ (d_ + 1) 6 = ze Mz (d_ + 1) 6 := hsN1_.e (by decide)
    have hst_ := zs_get hN1_ ⟨by (exact ha0_a), by (exact ha0_b)⟩
    have hot_ := fun (i : Nat) (hi : (i : Int) < ze Mz (d_ + 1) 6) => zs_oth hN1_ (j := i) (by (exact zo_732 hi))
    refine zw_aload_n (pc := 22) (n := 0) (x := (d_ + 1)) rfl (zdal_p dlA_Group_addMove_102 (i := 12) rfl) ?_
    refine zw_dup (pc := 23) rfl (zdal_p dlA_Group_addMove_102 (i := 13) rfl) ?_
    refine zk_getI (pc := 24) f_Group_36 rfl ((hf_N1_.w hW).kr (o := 1) (by decide)) (zdal_p dlA_Group_addMove_102 (i := 14) rfl) ?_
    refine zw_iconst (pc := 27) (v := Int32.ofInt 1) (by decide) (zdal_p dlA_Group_addMove_102 (i := 15) rfl) ?_
    refine zr_iadd (pc := 28) (zdal_p dlA_Group_addMove_102 (i := 16) rfl) ?_
    refine zk_putR (pc := 29) (o := 1) (by decide) f_Group_36 rfl rfl ((hf_N1_.w hW).kr (o := 1) (by decide)) ⟨by (exact zo_1139 eD1_6_N1_ r_D1_6.1), by omega⟩ rfl rfl (zdal_p dlA_Group_addMove_102 (i := 17) rfl) (fun N2_ hsN2_ hvN2_ => ?_)
    have hf_N2_ : zFc d_ [] [] [(1, 6), (1, 7)] [3, 5] Mz N2_ := hf_N1_.tr hsN2_ (by decide) (by decide) (by decide) (by decide)
    have eD1_5_N2_ : ze N2_ (d_ + 1) 5 = ze N1_ (d_ + 1) 5 := hsN2_.e (by decide)
    have rD1_6_N2_ := ze_r N2_ (d_ + 1) 6
    have hm1_ := p0_.u (Nz := N2_) (by omega) (by (exact zo_53 eD1_5_N1_ eD1_5_N2_)) (by omega) p1_ ((hsN2_.r (by decide) _).trans hst_) (fun i hi => (hsN2_.r (by decide) i).trans (hot_ i hi))
    refine zw_aload_n (pc := 32) (n := 0) (x := (d_ + 1)) rfl (zdal_p dlA_Group_addMove_102 (i := 18) rfl) ?_
    refine zk_callV hf_N2_.x (pc := 33) [] [] l_Group_42 (u_Group_gather l d_ N2_ (hf_N2_.w hW) P_ (mv_ ++ [zkc P_ a0_]) hm1_) rfl rfl ((hf_N2_.w hW).kr (o := 1) (by decide)) (by decide) (by decide) (Nat.le_of_ble_eq_true rfl) (zdal_p dlA_Group_addMove_102 (i := 19) rfl) ?_
    rintro _ N3_ ⟨v4_, rfl, ⟨hv4_a, hv4_b⟩, hsN3_, ⟨hp0_N3_, hp1_N3_⟩⟩
    have hf_N3_ : zFc d_ [] [] [(1, 6), (1, 7)] [3, 5] Mz N3_ := hf_N2_.tr hsN3_ (by decide) (by decide) (by decide) (by decide)
    have eD1_5_N3_ : ze N3_ (d_ + 1) 5 = ze N2_ (d_ + 1) 5 := hsN3_.e (by decide)
    have eD1_6_N3_ : ze N3_ (d_ + 1) 6 = ze N2_ (d_ + 1) 6 := hsN3_.e (by decide)
    have c5_ : zMvK (mv_ ++ [zkc P_ a0_]) P_ d_ N3_ := zMvK.fr (hf_N2_.w hW) hsN3_ hm1_ (by decide)
    rcases hp1_N3_ with ⟨rfl, ha33_0_hp1_N3_⟩ | ⟨rfl, ha33_0_hp1_N3_⟩
    · skip
      have hg0_ := ha33_0_hp1_N3_
      have hmm_ := hp0_N3_
      show zW l m_Group_addMove (zn Mz + 0, zw Mz + 0) N3_ 36 [some (.ref (d_ + 1)), some (.int (Int32.ofInt a0_))] [.int (Int32.ofInt 1)] _
      exact zk_iret (pc := 36) (ty := .boolean) rfl (z_narB (by (decide))) ⟨by (exact hv4_a), by (exact hv4_b)⟩ hf_N3_ ⟨(show zMvK (mv_ ++ [zkc P_ a0_]) P_ d_ N3_ by first | exact hmm_ | (exfalso; omega)), (show ((1 = 1 ∧ zGg (mv_ ++ [zkc P_ a0_]) P_ d_ N3_) ∨ (1 = 0 ∧ ¬ gFin (mv_ ++ [zkc P_ a0_]))) from Or.inl (⟨(show 1 = 1 by first | rfl | exact hg0_ | (exfalso; omega)), (show zGg (mv_ ++ [zkc P_ a0_]) P_ d_ N3_ by first | rfl | exact hg0_ | (exfalso; omega))⟩))⟩ (zdal_p dlA_Group_addMove_102 (i := 20) rfl)
    · skip
      have hg0_ := ha33_0_hp1_N3_
      have hmm_ := hp0_N3_
      show zW l m_Group_addMove (zn Mz + 0, zw Mz + 0) N3_ 36 [some (.ref (d_ + 1)), some (.int (Int32.ofInt a0_))] [.int (Int32.ofInt 0)] _
      exact zk_iret (pc := 36) (ty := .boolean) rfl (z_narB (by (decide))) ⟨by (exact hv4_a), by (exact hv4_b)⟩ hf_N3_ ⟨(show zMvK (mv_ ++ [zkc P_ a0_]) P_ d_ N3_ by first | exact hmm_ | (exfalso; omega)), (show ((0 = 1 ∧ zGg (mv_ ++ [zkc P_ a0_]) P_ d_ N3_) ∨ (0 = 0 ∧ ¬ gFin (mv_ ++ [zkc P_ a0_]))) from Or.inr (⟨(show 0 = 0 by first | rfl | exact hg0_ | (exfalso; omega)), (show ¬ gFin (mv_ ++ [zkc P_ a0_]) by first | rfl | exact hg0_ | (exfalso; omega))⟩))⟩ (zdal_p dlA_Group_addMove_102 (i := 20) rfl)
  · skip
    refine zw_iconst (pc := 8) (v := Int32.ofInt 0) (by decide) (zdal_p dlA_Group_addMove_102 (i := 4) rfl) ?_
    exact zk_iret (pc := 9) (ty := .boolean) rfl (z_narB (by (decide))) ⟨by (decide), by (decide)⟩ hf ⟨(show zMvK (mv_ ++ [zkc P_ a0_]) P_ d_ Mz by first | exact hmm_ | (exfalso; omega)), (show ((0 = 1 ∧ zGg (mv_ ++ [zkc P_ a0_]) P_ d_ Mz) ∨ (0 = 0 ∧ ¬ gFin (mv_ ++ [zkc P_ a0_]))) from Or.inr (⟨(show 0 = 0 by first | rfl | exact hg0_ | (exfalso; omega)), (show ¬ gFin (mv_ ++ [zkc P_ a0_]) by first | rfl | exact hg0_ | (exfalso; omega))⟩))⟩ (zdal_p dlA_Group_addMove_102 (i := 5) rfl)
set_option maxHeartbeats 4000000 in
theorem u_Reader_readMove (l : Launch) (d_ : Nat) (Mz : zMem) (hW : zKW d_ Mz) (a0_ : Int) (ha0_a : -2147483648 ≤ a0_) (ha0_b : a0_ < 2147483648) (b_ : Nat → Int) (n_ : Nat) (P_ : Nat) (p0_ : zYb b_ n_ Mz) (p1_ : zYt b_ n_ Mz) (p2_ : a0_ = P_) (p3_ : P_ ≤ 6) : zC l m_Reader_readMove 0 0 [.ref 4, .int (Int32.ofInt a0_)] Mz (zqcI d_ [(1, 2), (1, 3), (1, 4), (1, 5), (4, 2), (4, 3)] [] [] [] Mz (fun v N => zYt b_ n_ N ∧ (((v = -1 ∧ zrm b_ n_ P_ P_ (ze Mz 1 2).toNat [] = none) ∨ (0 ≤ v ∧ (∃ l : List Nat, zrm b_ n_ P_ P_ (ze Mz 1 2).toNat [] = some ((ze N 1 2).toNat, l) ∧ zmV P_ l ∧ l.length = P_ ∧ v = ((zdc (fun p_ => l.getD p_ 0) P_ : Nat) : Int))))))) := by
  refine zC_of (L0 := [some (.ref 4), some (.int (Int32.ofInt a0_)), none, none, none, none]) md_Reader_readMove (Nat.le_of_ble_eq_true rfl) rfl ?_ zQ0
  have hf : zFc d_ [(1, 2), (1, 3), (1, 4), (1, 5), (4, 2), (4, 3)] [] [] [] Mz Mz := zFc.rf
  have r_A1_2 := ze_r Mz 1 2
  have r_A1_3 := ze_r Mz 1 3
  have r_A1_5 := ze_r Mz 1 5
  refine zw_iconst (pc := 0) (v := Int32.ofInt 0) (by decide) (zdal_p dlA_Reader_readMove_99 (i := 0) rfl) ?_
  refine zw_istore_n (pc := 1) (i := 2) (L2 := [some (.ref 4), some (.int (Int32.ofInt a0_)), some (.int (Int32.ofInt 0)), none, none, none]) rfl (by decide) rfl (zdal_p dlA_Reader_readMove_99 (i := 1) rfl) ?_
  refine zw_iconst (pc := 2) (v := Int32.ofInt 0) (by decide) (zdal_p dlA_Reader_readMove_99 (i := 2) rfl) ?_
  refine zw_istore_n (pc := 3) (i := 3) (L2 := [some (.ref 4), some (.int (Int32.ofInt a0_)), some (.int (Int32.ofInt 0)), some (.int (Int32.ofInt 0)), none, none]) rfl (by decide) rfl (zdal_p dlA_Reader_readMove_99 (i := 3) rfl) ?_
  refine zw_iconst (pc := 4) (v := Int32.ofInt 0) (by decide) (zdal_p dlA_Reader_readMove_99 (i := 4) rfl) ?_
  refine zw_istore (pc := 5) (i := 4) (L2 := [some (.ref 4), some (.int (Int32.ofInt a0_)), some (.int (Int32.ofInt 0)), some (.int (Int32.ofInt 0)), some (.int (Int32.ofInt 0)), none]) (by decide) rfl (zdal_p dlA_Reader_readMove_99 (i := 5) rfl) ?_
  have lp_7 : ∀ (n : Nat) (u1_ : Int) (hu1_a : -2147483648 ≤ u1_) (hu1_b : u1_ < 2147483648) (u2_ : Int) (hu2_a : -2147483648 ≤ u2_) (hu2_b : u2_ < 2147483648) (u3_ : Int) (hu3_a : -2147483648 ≤ u3_) (hu3_b : u3_ < 2147483648) (N4_ : zMem) (hs5_ : zFc d_ [(1, 2), (1, 3), (1, 4), (1, 5)] [] [] [] Mz N4_) (i6_ : 0 ≤ u3_) (i7_ : u3_ ≤ P_) (i8_ : ∃ l : List Nat, zrm b_ n_ P_ P_ (ze Mz 1 2).toNat [] = zrm b_ n_ P_ (P_ - (u3_).toNat) (ze N4_ 1 2).toNat l ∧ zmV P_ l ∧ (l.length : Int) = u3_ ∧ zmt u2_ l ∧ u1_ = (zdc (fun p_ => l.getD p_ 0) (u3_).toNat : Nat)) (i9_ : zYt b_ n_ N4_), (P_ - u3_).toNat < n → zW l m_Reader_readMove (zn Mz + 0, zw Mz + 0) N4_ 7 [some (.ref 4), some (.int (Int32.ofInt a0_)), some (.int (Int32.ofInt u1_)), some (.int (Int32.ofInt u2_)), some (.int (Int32.ofInt u3_)), none] [] (zqcI d_ [(1, 2), (1, 3), (1, 4), (1, 5), (4, 2), (4, 3)] [] [] [] Mz (fun v N => zYt b_ n_ N ∧ (((v = -1 ∧ zrm b_ n_ P_ P_ (ze Mz 1 2).toNat [] = none) ∨ (0 ≤ v ∧ (∃ l : List Nat, zrm b_ n_ P_ P_ (ze Mz 1 2).toNat [] = some ((ze N 1 2).toNat, l) ∧ zmV P_ l ∧ l.length = P_ ∧ v = ((zdc (fun p_ => l.getD p_ 0) P_ : Nat) : Int))))))) := by
    intro n
    induction n with
    | zero =>
      intro u1_ hu1_a hu1_b u2_ hu2_a hu2_b u3_ hu3_a hu3_b N4_ hs5_ i6_ i7_ i8_ i9_ h0
      exact absurd h0 (Nat.not_lt_zero _)
    | succ n ih_7 =>
      intro u1_ hu1_a hu1_b u2_ hu2_a hu2_b u3_ hu3_a hu3_b N4_ hs5_ i6_ i7_ i8_ i9_ hlt_7
      have hf_N4_ : zFc d_ [(1, 2), (1, 3), (1, 4), (1, 5), (4, 2), (4, 3)] [] [] [] Mz N4_ := hf.tr hs5_ (by decide) (by decide) (by decide) (by decide)
      have rA1_2_N4_ := ze_r N4_ 1 2
      have rA1_3_N4_ := ze_r N4_ 1 3
      have rA1_5_N4_ := ze_r N4_ 1 5
      have c10_ : zYb b_ n_ N4_ := zYb.fr (hf.w hW) hs5_ p0_ (by decide)
      obtain ⟨l_, hz1_, hz2_, hz3_, hz4_, hz5_⟩ := (show ∃ l : List Nat, zrm b_ n_ P_ P_ (ze Mz 1 2).toNat [] = zrm b_ n_ P_ (P_ - (u3_).toNat) (ze N4_ 1 2).toNat l ∧ zmV P_ l ∧ (l.length : Int) = u3_ ∧ zmt u2_ l ∧ u1_ = (zdc (fun p_ => l.getD p_ 0) (u3_).toNat : Nat) by first | with_reducible assumption | assumption)
      obtain ⟨⟨ht1_, ht2_⟩, ht3_⟩ := id hz4_
      refine zw_iload (pc := 7) (i := 4) (x := Int32.ofInt u3_) rfl (zdal_p dlA_Reader_readMove_99 (i := 6) rfl) ?_
      refine zw_iload_n (pc := 9) (n := 1) (x := Int32.ofInt a0_) rfl (zdal_p dlA_Reader_readMove_99 (i := 7) rfl) ?_
      refine zr_icmp_ge (pc := 10) (tgt := 93) ⟨hu3_a, hu3_b⟩ ⟨ha0_a, ha0_b⟩ (by decide) (zdal_p dlA_Reader_readMove_99 (i := 8) rfl) (fun hc_10 => ?_) (fun hc_10 => ?_)
      · skip
        refine zw_iload_n (pc := 93) (n := 2) (x := Int32.ofInt u1_) rfl (zdal_p dlA_Reader_readMove_101 (i := 5) rfl) ?_
        exact zk_iret (pc := 94) (ty := .int) rfl rfl ⟨by (exact hu1_a), by (exact hu1_b)⟩ hf_N4_ ⟨i9_, (show ((u1_ = -1 ∧ zrm b_ n_ P_ P_ (ze Mz 1 2).toNat [] = none) ∨ (0 ≤ u1_ ∧ (∃ l : List Nat, zrm b_ n_ P_ P_ (ze Mz 1 2).toNat [] = some ((ze N4_ 1 2).toNat, l) ∧ zmV P_ l ∧ l.length = P_ ∧ u1_ = ((zdc (fun p_ => l.getD p_ 0) P_ : Nat) : Int)))) from Or.inr (⟨(show 0 ≤ u1_ by first | (exact zo_2360 hu1_a hz5_) | exact ⟨l_, hz1_.trans (by rw [show P_ - (u3_).toNat = 0 by omega]; rfl), hz2_, by omega, hz5_.trans (by rw [show (u3_).toNat = P_ by omega])⟩), (show (∃ l : List Nat, zrm b_ n_ P_ P_ (ze Mz 1 2).toNat [] = some ((ze N4_ 1 2).toNat, l) ∧ zmV P_ l ∧ l.length = P_ ∧ u1_ = ((zdc (fun p_ => l.getD p_ 0) P_ : Nat) : Int)) by first | omega | exact ⟨l_, hz1_.trans (by rw [show P_ - (u3_).toNat = 0 by omega]; rfl), hz2_, by omega, hz5_.trans (by rw [show (u3_).toNat = P_ by omega])⟩)⟩))⟩ (zdal_p dlA_Reader_readMove_101 (i := 6) rfl)
      · skip
        refine zw_aload_n (pc := 13) (n := 0) (x := 4) rfl (zdal_p dlA_Reader_readMove_99 (i := 9) rfl) ?_
        refine zw_getF (pc := 14) f_Reader_15 rfl ((hf_N4_.w hW).ka (o := 4) (by decide)) ((hf_N4_.w hW).la (o := 4) (s := 0) (r := 1) (by decide)) (zdal_p dlA_Reader_readMove_99 (i := 10) rfl) ?_
        refine zk_callV hf_N4_.x (pc := 17) [] [] l_Reader_53 (u_Tokens_isNumber l d_ N4_ (hf_N4_.w hW) b_ n_ i9_) rfl rfl ((hf_N4_.w hW).ka (o := 1) (by decide)) (by decide) (by decide) (Nat.le_of_ble_eq_true rfl) (zdal_p dlA_Reader_readMove_99 (i := 11) rfl) ?_
        rintro _ N11_ ⟨v12_, rfl, ⟨hv12_a, hv12_b⟩, hsN11_, hp0_N11_⟩
        obtain rfl := hsN11_.eq.symm
        replace hp0_N11_ : ((v12_ = 1 ∧ zkd b_ n_ (ze N4_ 1 2).toNat = 2) ∨ (v12_ = 0 ∧ zkd b_ n_ (ze N4_ 1 2).toNat ≠ 2)) := hp0_N11_
        rcases hp0_N11_ with ⟨rfl, ha17_0_hp0_N11_⟩ | ⟨rfl, ha17_0_hp0_N11_⟩
        · skip
          have hk2_ := ha17_0_hp0_N11_
          have hv2_ := i9_.v2 hk2_
          show zW l m_Reader_readMove (zn Mz + 0, zw Mz + 0) N4_ 20 [some (.ref 4), some (.int (Int32.ofInt a0_)), some (.int (Int32.ofInt u1_)), some (.int (Int32.ofInt u2_)), some (.int (Int32.ofInt u3_)), none] [.int (Int32.ofInt 1)] _
          refine zr_if_ne (pc := 20) (tgt := 31) ⟨(by decide), (by decide)⟩ (by decide) (zdal_p dlA_Reader_readMove_99 (i := 12) rfl) (fun hc_20 => ?_) (fun hc_20 => ?_)
          · skip
            refine zw_aload_n (pc := 31) (n := 0) (x := 4) rfl (zdal_p dlA_Reader_readMove_99 (i := 19) rfl) ?_
            refine zw_getF (pc := 32) f_Reader_15 rfl ((hf_N4_.w hW).ka (o := 4) (by decide)) ((hf_N4_.w hW).la (o := 4) (s := 0) (r := 1) (by decide)) (zdal_p dlA_Reader_readMove_99 (i := 20) rfl) ?_
            refine zk_getI (pc := 35) f_Reader_57 rfl ((hf_N4_.w hW).ka (o := 1) (by decide)) (zdal_p dlA_Reader_readMove_99 (i := 21) rfl) ?_
            refine zw_istore (pc := 38) (i := 5) (L2 := [some (.ref 4), some (.int (Int32.ofInt a0_)), some (.int (Int32.ofInt u1_)), some (.int (Int32.ofInt u2_)), some (.int (Int32.ofInt u3_)), some (.int (Int32.ofInt (ze N4_ 1 5)))]) (by decide) rfl (zdal_p dlA_Reader_readMove_99 (i := 22) rfl) ?_
            refine zw_iload (pc := 40) (i := 5) (x := Int32.ofInt (ze N4_ 1 5)) rfl (zdal_p dlA_Reader_readMove_99 (i := 23) rfl) ?_
            refine zw_iload_n (pc := 42) (n := 1) (x := Int32.ofInt a0_) rfl (zdal_p dlA_Reader_readMove_100 (i := 0) rfl) ?_
            refine zr_icmp_ge (pc := 43) (tgt := 55) ⟨(ze_r N4_ 1 5).1, (ze_r N4_ 1 5).2⟩ ⟨ha0_a, ha0_b⟩ (by decide) (zdal_p dlA_Reader_readMove_100 (i := 1) rfl) (fun hc_43 => ?_) (fun hc_43 => ?_)
            · skip
              refine zw_aload_n (pc := 55) (n := 0) (x := 4) rfl (zdal_p dlA_Reader_readMove_100 (i := 6) rfl) ?_
              refine zw_iconst (pc := 56) (v := Int32.ofInt 4) (by decide) (zdal_p dlA_Reader_readMove_100 (i := 7) rfl) ?_
              refine zk_callV hf_N4_.x (pc := 57) [.int (Int32.ofInt 4)] [] l_Reader_41 (u_Reader_refuse l d_ N4_ (hf_N4_.w hW) 4 (by decide) (by decide)) rfl rfl ((hf_N4_.w hW).ka (o := 4) (by decide)) (by decide) (by decide) (Nat.le_of_ble_eq_true rfl) (zdal_p dlA_Reader_readMove_100 (i := 8) rfl) ?_
              rintro _ N13_ ⟨v14_, rfl, ⟨hv14_a, hv14_b⟩, hsN13_, hp0_N13_⟩
              replace hp0_N13_ : ((v14_ = 0)) := hp0_N13_
              have hf_N13_ : zFc d_ [(1, 2), (1, 3), (1, 4), (1, 5), (4, 2), (4, 3)] [] [] [] Mz N13_ := hf_N4_.tr hsN13_ (by decide) (by decide) (by decide) (by decide)
              have eA1_2_N13_ : ze N13_ 1 2 = ze N4_ 1 2 := hsN13_.ea (hf_N4_.w hW) (by decide)
              have eA1_3_N13_ : ze N13_ 1 3 = ze N4_ 1 3 := hsN13_.ea (hf_N4_.w hW) (by decide)
              have eA1_5_N13_ : ze N13_ 1 5 = ze N4_ 1 5 := hsN13_.ea (hf_N4_.w hW) (by decide)
              have c15_ : zYb b_ n_ N13_ := zYb.fr (hf_N4_.w hW) hsN13_ c10_ (by decide)
              have c16_ : zYt b_ n_ N13_ := zYt.fr (hf_N4_.w hW) hsN13_ i9_ (by decide)
              rcases hp0_N13_ with rfl
              · skip
                show zW l m_Reader_readMove (zn Mz + 0, zw Mz + 0) N13_ 60 [some (.ref 4), some (.int (Int32.ofInt a0_)), some (.int (Int32.ofInt u1_)), some (.int (Int32.ofInt u2_)), some (.int (Int32.ofInt u3_)), some (.int (Int32.ofInt (ze N4_ 1 5)))] [.int (Int32.ofInt 0)] _
                refine zw_pop (pc := 60) rfl (zdal_p dlA_Reader_readMove_100 (i := 9) rfl) ?_
                refine zw_iconst (pc := 61) (v := Int32.ofInt (-1)) (by decide) (zdal_p dlA_Reader_readMove_100 (i := 10) rfl) ?_
                exact zk_iret (pc := 62) (ty := .int) rfl rfl ⟨by (decide), by (decide)⟩ hf_N13_ ⟨c16_, (show ((((-1)) = -1 ∧ zrm b_ n_ P_ P_ (ze Mz 1 2).toNat [] = none) ∨ (0 ≤ ((-1)) ∧ (∃ l : List Nat, zrm b_ n_ P_ P_ (ze Mz 1 2).toNat [] = some ((ze N13_ 1 2).toNat, l) ∧ zmV P_ l ∧ l.length = P_ ∧ ((-1)) = ((zdc (fun p_ => l.getD p_ 0) P_ : Nat) : Int)))) from Or.inl (⟨(show ((-1)) = -1 by first | rfl | exact hrt_ | (rw [hz1_, show P_ - (u3_).toNat = (P_ - (u3_).toNat - 1) + 1 by omega]; exact zrm_f (fun q_ => by have := q_.2.1; omega))), (show zrm b_ n_ P_ P_ (ze Mz 1 2).toNat [] = none by first | rfl | exact hrt_ | (rw [hz1_, show P_ - (u3_).toNat = (P_ - (u3_).toNat - 1) + 1 by omega]; exact zrm_f (fun q_ => by have := q_.2.1; omega)))⟩))⟩ (zdal_p dlA_Reader_readMove_100 (i := 11) rfl)
            · skip
              refine zw_iload_n (pc := 46) (n := 3) (x := Int32.ofInt u2_) rfl (zdal_p dlA_Reader_readMove_100 (i := 2) rfl) ?_
              refine zw_iload (pc := 47) (i := 5) (x := Int32.ofInt (ze N4_ 1 5)) rfl (zdal_p dlA_Reader_readMove_100 (i := 3) rfl) ?_
              refine zr_callS hf_N4_.x (pc := 49) [.int (Int32.ofInt u2_), .int (Int32.ofInt (ze N4_ 1 5))] [] l_Reader_89 (u_T_isIn l d_ N4_ (hf_N4_.w hW) u2_ hu2_a hu2_b (ze N4_ 1 5) (ze_r N4_ 1 5).1 (ze_r N4_ 1 5).2 (show 0 ≤ u2_ by first | with_reducible assumption | assumption | omega) (show u2_ < 2147483648 by first | with_reducible assumption | assumption | omega) (show 0 ≤ (ze N4_ 1 5) by first | with_reducible assumption | (exact zo_57 hv2_.2.1) | assumption) (show (ze N4_ 1 5) < 31 by first | with_reducible assumption | assumption | omega)) rfl rfl (by decide) (Nat.le_of_ble_eq_true rfl) (zdal_p dlA_Reader_readMove_100 (i := 4) rfl) ?_
              rintro _ N17_ ⟨v18_, rfl, ⟨hv18_a, hv18_b⟩, hsN17_, hp0_N17_⟩
              obtain rfl := hsN17_.eq.symm
              replace hp0_N17_ : ((v18_ = 1 ∧ zbt u2_ (ze N4_ 1 5)) ∨ (v18_ = 0 ∧ ¬ zbt u2_ (ze N4_ 1 5))) := hp0_N17_
              rcases hp0_N17_ with ⟨rfl, ha49_0_hp0_N17_⟩ | ⟨rfl, ha49_0_hp0_N17_⟩
              · skip
                have hin_ := ha49_0_hp0_N17_
                have hrt_ : zrm b_ n_ P_ P_ (ze Mz 1 2).toNat [] = none := by rw [hz1_, show P_ - (u3_).toNat = (P_ - (u3_).toNat - 1) + 1 by omega]; exact zrm_f (fun q_ => q_.2.2 (by have h3_ := (ht3_ ((ze N4_ 1 5)).toNat (by omega)).mp (by rw [Int.toNat_of_nonneg (by (exact zo_57 hv2_.2.1))]; exact hin_); rwa [ hv2_.1] at h3_))
                show zW l m_Reader_readMove (zn Mz + 0, zw Mz + 0) N4_ 52 [some (.ref 4), some (.int (Int32.ofInt a0_)), some (.int (Int32.ofInt u1_)), some (.int (Int32.ofInt u2_)), some (.int (Int32.ofInt u3_)), some (.int (Int32.ofInt (ze N4_ 1 5)))] [.int (Int32.ofInt 1)] _
                refine zr_if_eq (pc := 52) (tgt := 63) ⟨(by decide), (by decide)⟩ (by decide) (zdal_p dlA_Reader_readMove_100 (i := 5) rfl) (fun hc_52 => ?_) (fun hc_52 => ?_)
                · skip
                  exact absurd hc_52 (by decide)
                · skip
                  refine zw_aload_n (pc := 55) (n := 0) (x := 4) rfl (zdal_p dlA_Reader_readMove_100 (i := 6) rfl) ?_
                  refine zw_iconst (pc := 56) (v := Int32.ofInt 4) (by decide) (zdal_p dlA_Reader_readMove_100 (i := 7) rfl) ?_
                  refine zk_callV hf_N4_.x (pc := 57) [.int (Int32.ofInt 4)] [] l_Reader_41 (u_Reader_refuse l d_ N4_ (hf_N4_.w hW) 4 (by decide) (by decide)) rfl rfl ((hf_N4_.w hW).ka (o := 4) (by decide)) (by decide) (by decide) (Nat.le_of_ble_eq_true rfl) (zdal_p dlA_Reader_readMove_100 (i := 8) rfl) ?_
                  rintro _ N19_ ⟨v20_, rfl, ⟨hv20_a, hv20_b⟩, hsN19_, hp0_N19_⟩
                  replace hp0_N19_ : ((v20_ = 0)) := hp0_N19_
                  have hf_N19_ : zFc d_ [(1, 2), (1, 3), (1, 4), (1, 5), (4, 2), (4, 3)] [] [] [] Mz N19_ := hf_N4_.tr hsN19_ (by decide) (by decide) (by decide) (by decide)
                  have eA1_2_N19_ : ze N19_ 1 2 = ze N4_ 1 2 := hsN19_.ea (hf_N4_.w hW) (by decide)
                  have eA1_3_N19_ : ze N19_ 1 3 = ze N4_ 1 3 := hsN19_.ea (hf_N4_.w hW) (by decide)
                  have eA1_5_N19_ : ze N19_ 1 5 = ze N4_ 1 5 := hsN19_.ea (hf_N4_.w hW) (by decide)
                  have c21_ : zYb b_ n_ N19_ := zYb.fr (hf_N4_.w hW) hsN19_ c10_ (by decide)
                  have c22_ : zYt b_ n_ N19_ := zYt.fr (hf_N4_.w hW) hsN19_ i9_ (by decide)
                  rcases hp0_N19_ with rfl
                  · skip
                    show zW l m_Reader_readMove (zn Mz + 0, zw Mz + 0) N19_ 60 [some (.ref 4), some (.int (Int32.ofInt a0_)), some (.int (Int32.ofInt u1_)), some (.int (Int32.ofInt u2_)), some (.int (Int32.ofInt u3_)), some (.int (Int32.ofInt (ze N4_ 1 5)))] [.int (Int32.ofInt 0)] _
                    refine zw_pop (pc := 60) rfl (zdal_p dlA_Reader_readMove_100 (i := 9) rfl) ?_
                    refine zw_iconst (pc := 61) (v := Int32.ofInt (-1)) (by decide) (zdal_p dlA_Reader_readMove_100 (i := 10) rfl) ?_
                    exact zk_iret (pc := 62) (ty := .int) rfl rfl ⟨by (decide), by (decide)⟩ hf_N19_ ⟨c22_, (show ((((-1)) = -1 ∧ zrm b_ n_ P_ P_ (ze Mz 1 2).toNat [] = none) ∨ (0 ≤ ((-1)) ∧ (∃ l : List Nat, zrm b_ n_ P_ P_ (ze Mz 1 2).toNat [] = some ((ze N19_ 1 2).toNat, l) ∧ zmV P_ l ∧ l.length = P_ ∧ ((-1)) = ((zdc (fun p_ => l.getD p_ 0) P_ : Nat) : Int)))) from Or.inl (⟨(show ((-1)) = -1 by first | rfl | exact hrt_ | (rw [hz1_, show P_ - (u3_).toNat = (P_ - (u3_).toNat - 1) + 1 by omega]; exact zrm_f (fun q_ => by have := q_.2.1; omega))), (show zrm b_ n_ P_ P_ (ze Mz 1 2).toNat [] = none by first | rfl | exact hrt_ | (rw [hz1_, show P_ - (u3_).toNat = (P_ - (u3_).toNat - 1) + 1 by omega]; exact zrm_f (fun q_ => by have := q_.2.1; omega)))⟩))⟩ (zdal_p dlA_Reader_readMove_100 (i := 11) rfl)
              · skip
                have hni_ := ha49_0_hp0_N17_
                have hnm_ : ((ze N4_ 1 5)).toNat ∉ l_ := fun q_ => hni_ (by have h3_ := (ht3_ ((ze N4_ 1 5)).toNat (by omega)).mpr q_; rwa [Int.toNat_of_nonneg (by (exact zo_57 hv2_.2.1))] at h3_)
                show zW l m_Reader_readMove (zn Mz + 0, zw Mz + 0) N4_ 52 [some (.ref 4), some (.int (Int32.ofInt a0_)), some (.int (Int32.ofInt u1_)), some (.int (Int32.ofInt u2_)), some (.int (Int32.ofInt u3_)), some (.int (Int32.ofInt (ze N4_ 1 5)))] [.int (Int32.ofInt 0)] _
                refine zr_if_eq (pc := 52) (tgt := 63) ⟨(by decide), (by decide)⟩ (by decide) (zdal_p dlA_Reader_readMove_100 (i := 5) rfl) (fun hc_52 => ?_) (fun hc_52 => ?_)
                · skip
                  refine zw_iload_n (pc := 63) (n := 3) (x := Int32.ofInt u2_) rfl (zdal_p dlA_Reader_readMove_100 (i := 12) rfl) ?_
                  refine zw_iconst (pc := 64) (v := Int32.ofInt 1) (by decide) (zdal_p dlA_Reader_readMove_100 (i := 13) rfl) ?_
                  refine zw_iload (pc := 65) (i := 5) (x := Int32.ofInt (ze N4_ 1 5)) rfl (zdal_p dlA_Reader_readMove_100 (i := 14) rfl) ?_
                  refine zr_ishl (pc := 67) (zdal_p dlA_Reader_readMove_100 (i := 15) rfl) ?_
                  have hr23_ := zshl_r 1 (ze N4_ 1 5)
                  refine zr_ior (pc := 68) (zdal_p dlA_Reader_readMove_100 (i := 16) rfl) ?_
                  have hr24_ := zor_r u2_ (zshl 1 (ze N4_ 1 5))
                  refine zw_istore_n (pc := 69) (i := 3) (L2 := [some (.ref 4), some (.int (Int32.ofInt a0_)), some (.int (Int32.ofInt u1_)), some (.int (Int32.ofInt (zor u2_ (zshl 1 (ze N4_ 1 5))))), some (.int (Int32.ofInt u3_)), some (.int (Int32.ofInt (ze N4_ 1 5)))]) rfl (by decide) rfl (zdal_p dlA_Reader_readMove_100 (i := 17) rfl) ?_
                  refine zw_iload_n (pc := 70) (n := 2) (x := Int32.ofInt u1_) rfl (zdal_p dlA_Reader_readMove_100 (i := 18) rfl) ?_
                  refine zw_iload (pc := 71) (i := 5) (x := Int32.ofInt (ze N4_ 1 5)) rfl (zdal_p dlA_Reader_readMove_100 (i := 19) rfl) ?_
                  refine zw_iload (pc := 73) (i := 4) (x := Int32.ofInt u3_) rfl (zdal_p dlA_Reader_readMove_100 (i := 20) rfl) ?_
                  refine zr_callS hf_N4_.x (pc := 75) [.int (Int32.ofInt (ze N4_ 1 5)), .int (Int32.ofInt u3_)] [.int (Int32.ofInt u1_)] l_Reader_92 (u_T_codeOf l d_ N4_ (hf_N4_.w hW) (ze N4_ 1 5) (ze_r N4_ 1 5).1 (ze_r N4_ 1 5).2 u3_ hu3_a hu3_b (show 0 ≤ (ze N4_ 1 5) by first | with_reducible assumption | (exact zo_57 hv2_.2.1) | assumption) (show (ze N4_ 1 5) ≤ 7 by first | with_reducible assumption | assumption | omega) (show 0 ≤ u3_ by first | with_reducible assumption | assumption | omega) (show u3_ ≤ 5 by first | with_reducible assumption | assumption | omega)) rfl rfl (by decide) (Nat.le_of_ble_eq_true rfl) (zdal_p dlA_Reader_readMove_100 (i := 21) rfl) ?_
                  rintro _ N25_ ⟨v26_, rfl, ⟨hv26_a, hv26_b⟩, hsN25_, hp0_N25_⟩
                  obtain rfl := hsN25_.eq.symm
                  replace hp0_N25_ : v26_ = (((ze N4_ 1 5)).toNat * zw5 (u3_).toNat : Nat) := hp0_N25_
                  show zW l m_Reader_readMove (zn Mz + 0, zw Mz + 0) N4_ 78 [some (.ref 4), some (.int (Int32.ofInt a0_)), some (.int (Int32.ofInt u1_)), some (.int (Int32.ofInt (zor u2_ (zshl 1 (ze N4_ 1 5))))), some (.int (Int32.ofInt u3_)), some (.int (Int32.ofInt (ze N4_ 1 5)))] [.int (Int32.ofInt v26_), .int (Int32.ofInt u1_)] _
                  have hcw_ := hp0_N25_
                  obtain ⟨w_, hw_⟩ : ∃ w, w = v26_ := ⟨_, rfl⟩
                  rw [← hw_] at hcw_
                  obtain ⟨g1_, g2_, g3_, g4_⟩ := zmv_s p3_ hz2_ hz3_ hz4_ hz5_ (by (exact zo_57 hv2_.2.1)) (by omega) (by omega) hnm_ hcw_
                  rw [hw_] at g4_
                  refine zr_ior (pc := 78) (zdal_p dlA_Reader_readMove_100 (i := 22) rfl) ?_
                  have hr27_ := zor_r u1_ v26_
                  refine zw_istore_n (pc := 79) (i := 2) (L2 := [some (.ref 4), some (.int (Int32.ofInt a0_)), some (.int (Int32.ofInt (zor u1_ v26_))), some (.int (Int32.ofInt (zor u2_ (zshl 1 (ze N4_ 1 5))))), some (.int (Int32.ofInt u3_)), some (.int (Int32.ofInt (ze N4_ 1 5)))]) rfl (by decide) rfl (zdal_p dlA_Reader_readMove_100 (i := 23) rfl) ?_
                  have hyt_ := i9_
                  have hyx_ := hyt_.x
                  refine zw_aload_n (pc := 80) (n := 0) (x := 4) rfl (zdal_p dlA_Reader_readMove_101 (i := 0) rfl) ?_
                  refine zw_getF (pc := 81) f_Reader_15 rfl ((hf_N4_.w hW).ka (o := 4) (by decide)) ((hf_N4_.w hW).la (o := 4) (s := 0) (r := 1) (by decide)) (zdal_p dlA_Reader_readMove_101 (i := 1) rfl) ?_
                  refine zk_callV hf_N4_.x (pc := 84) [] [] l_Reader_44 (u_Tokens_step l d_ N4_ (hf_N4_.w hW) b_ n_ c10_ (show 0 ≤ ze N4_ 1 3 by first | with_reducible assumption | (exact zo_57 hyx_.2.1) | assumption) (show ze N4_ 1 3 ≤ n_ by first | with_reducible assumption | (exact zo_277 hyx_.2.2 rA1_3_N4_.2) | assumption)) rfl rfl ((hf_N4_.w hW).ka (o := 1) (by decide)) (by decide) (by decide) (Nat.le_of_ble_eq_true rfl) (zdal_p dlA_Reader_readMove_101 (i := 2) rfl) ?_
                  rintro _ N28_ ⟨rfl, hsN28_, ⟨hp0_N28_, hp1_N28_⟩⟩
                  have hf_N28_ : zFc d_ [(1, 2), (1, 3), (1, 4), (1, 5), (4, 2), (4, 3)] [] [] [] Mz N28_ := hf_N4_.tr hsN28_ (by decide) (by decide) (by decide) (by decide)
                  have hb0_N28_ : zFc d_ [(1, 2), (1, 3), (1, 4), (1, 5)] [] [] [] Mz N28_ := hs5_.tr hsN28_ (by decide) (by decide) (by decide) (by decide)
                  have rA1_2_N28_ := ze_r N28_ 1 2
                  have rA1_3_N28_ := ze_r N28_ 1 3
                  have rA1_5_N28_ := ze_r N28_ 1 5
                  have c30_ : zYb b_ n_ N28_ := zYb.fr (hf_N4_.w hW) hsN28_ c10_ (by decide)
                  show zW l m_Reader_readMove (zn Mz + 0, zw Mz + 0) N28_ 87 [some (.ref 4), some (.int (Int32.ofInt a0_)), some (.int (Int32.ofInt (zor u1_ v26_))), some (.int (Int32.ofInt (zor u2_ (zshl 1 (ze N4_ 1 5))))), some (.int (Int32.ofInt u3_)), some (.int (Int32.ofInt (ze N4_ 1 5)))] [] _
                  have hnn_ := hyt_.n hp0_N28_
                  have hk_ : P_ - (u3_).toNat = (P_ - (u3_ + 1).toNat) + 1 := by omega
                  rw [show (ze N4_ 1 2).toNat = (ze N4_ 1 2).toNat by omega] at hnn_
                  refine zr_iinc (pc := 87) (i := 4) (a := u3_) (n := 1) (L2 := [some (.ref 4), some (.int (Int32.ofInt a0_)), some (.int (Int32.ofInt (zor u1_ v26_))), some (.int (Int32.ofInt (zor u2_ (zshl 1 (ze N4_ 1 5))))), some (.int (Int32.ofInt (u3_ + 1))), some (.int (Int32.ofInt (ze N4_ 1 5)))]) rfl (by decide) rfl (zdal_p dlA_Reader_readMove_101 (i := 3) rfl) ?_
                  refine zw_goto (pc := 90) (tgt := 7) (by decide) (zdal_p dlA_Reader_readMove_101 (i := 4) rfl) ?_
                  have hbk_ : zrm b_ n_ P_ P_ (ze Mz 1 2).toNat [] = zrm b_ n_ P_ (P_ - ((u3_ + 1)).toNat) (ze N28_ 1 2).toNat (l_ ++ [((ze N4_ 1 5)).toNat]) := by rw [hz1_, hk_, zrm_t ⟨hk2_, by omega, by rw [← hv2_.1]; exact hnm_⟩, hnn_.2, ← hv2_.1]
                  refine zW_le [some (.ref 4), some (.int (Int32.ofInt a0_)), some (.int (Int32.ofInt (zor u1_ v26_))), some (.int (Int32.ofInt (zor u2_ (zshl 1 (ze N4_ 1 5))))), some (.int (Int32.ofInt (u3_ + 1))), none] (⟨rfl, rfl, rfl, rfl, rfl, trivial⟩) ?_
                  exact ih_7 (zor u1_ v26_) (by (exact zo_284 hr27_.1)) (by (exact zo_285 hr27_.2)) (zor u2_ (zshl 1 (ze N4_ 1 5))) (by (exact zo_284 hr24_.1)) (by (exact zo_285 hr24_.2)) (u3_ + 1) (by (exact zo_74 i6_)) (by omega) N28_ hb0_N28_ (show 0 ≤ (u3_ + 1) by first | with_reducible assumption | (exact zo_76 i6_) | assumption) (show (u3_ + 1) ≤ P_ by first | with_reducible assumption | assumption | omega) (show ∃ l : List Nat, zrm b_ n_ P_ P_ (ze Mz 1 2).toNat [] = zrm b_ n_ P_ (P_ - ((u3_ + 1)).toNat) (ze N28_ 1 2).toNat l ∧ zmV P_ l ∧ (l.length : Int) = (u3_ + 1) ∧ zmt (zor u2_ (zshl 1 (ze N4_ 1 5))) l ∧ (zor u1_ v26_) = (zdc (fun p_ => l.getD p_ 0) ((u3_ + 1)).toNat : Nat) by exact ⟨_, hbk_, g1_, g2_, g3_, g4_⟩) hp1_N28_ (by omega)
                · skip
                  exact absurd hc_52 (by decide)
          · skip
            exact absurd hc_20 (by decide)
        · skip
          have hrt_ : zrm b_ n_ P_ P_ (ze Mz 1 2).toNat [] = none := by rw [hz1_, show P_ - (u3_).toNat = (P_ - (u3_).toNat - 1) + 1 by omega]; exact zrm_f (fun q_ => ha17_0_hp0_N11_ q_.1)
          show zW l m_Reader_readMove (zn Mz + 0, zw Mz + 0) N4_ 20 [some (.ref 4), some (.int (Int32.ofInt a0_)), some (.int (Int32.ofInt u1_)), some (.int (Int32.ofInt u2_)), some (.int (Int32.ofInt u3_)), none] [.int (Int32.ofInt 0)] _
          refine zr_if_ne (pc := 20) (tgt := 31) ⟨(by decide), (by decide)⟩ (by decide) (zdal_p dlA_Reader_readMove_99 (i := 12) rfl) (fun hc_20 => ?_) (fun hc_20 => ?_)
          · skip
            exact absurd hc_20 (by decide)
          · skip
            refine zw_aload_n (pc := 23) (n := 0) (x := 4) rfl (zdal_p dlA_Reader_readMove_99 (i := 13) rfl) ?_
            refine zw_iconst (pc := 24) (v := Int32.ofInt 2) (by decide) (zdal_p dlA_Reader_readMove_99 (i := 14) rfl) ?_
            refine zk_callV hf_N4_.x (pc := 25) [.int (Int32.ofInt 2)] [] l_Reader_41 (u_Reader_refuse l d_ N4_ (hf_N4_.w hW) 2 (by decide) (by decide)) rfl rfl ((hf_N4_.w hW).ka (o := 4) (by decide)) (by decide) (by decide) (Nat.le_of_ble_eq_true rfl) (zdal_p dlA_Reader_readMove_99 (i := 15) rfl) ?_
            rintro _ N31_ ⟨v32_, rfl, ⟨hv32_a, hv32_b⟩, hsN31_, hp0_N31_⟩
            replace hp0_N31_ : ((v32_ = 0)) := hp0_N31_
            have hf_N31_ : zFc d_ [(1, 2), (1, 3), (1, 4), (1, 5), (4, 2), (4, 3)] [] [] [] Mz N31_ := hf_N4_.tr hsN31_ (by decide) (by decide) (by decide) (by decide)
            have eA1_2_N31_ : ze N31_ 1 2 = ze N4_ 1 2 := hsN31_.ea (hf_N4_.w hW) (by decide)
            have eA1_3_N31_ : ze N31_ 1 3 = ze N4_ 1 3 := hsN31_.ea (hf_N4_.w hW) (by decide)
            have eA1_5_N31_ : ze N31_ 1 5 = ze N4_ 1 5 := hsN31_.ea (hf_N4_.w hW) (by decide)
            have c33_ : zYb b_ n_ N31_ := zYb.fr (hf_N4_.w hW) hsN31_ c10_ (by decide)
            have c34_ : zYt b_ n_ N31_ := zYt.fr (hf_N4_.w hW) hsN31_ i9_ (by decide)
            rcases hp0_N31_ with rfl
            · skip
              show zW l m_Reader_readMove (zn Mz + 0, zw Mz + 0) N31_ 28 [some (.ref 4), some (.int (Int32.ofInt a0_)), some (.int (Int32.ofInt u1_)), some (.int (Int32.ofInt u2_)), some (.int (Int32.ofInt u3_)), none] [.int (Int32.ofInt 0)] _
              refine zw_pop (pc := 28) rfl (zdal_p dlA_Reader_readMove_99 (i := 16) rfl) ?_
              refine zw_iconst (pc := 29) (v := Int32.ofInt (-1)) (by decide) (zdal_p dlA_Reader_readMove_99 (i := 17) rfl) ?_
              exact zk_iret (pc := 30) (ty := .int) rfl rfl ⟨by (decide), by (decide)⟩ hf_N31_ ⟨c34_, (show ((((-1)) = -1 ∧ zrm b_ n_ P_ P_ (ze Mz 1 2).toNat [] = none) ∨ (0 ≤ ((-1)) ∧ (∃ l : List Nat, zrm b_ n_ P_ P_ (ze Mz 1 2).toNat [] = some ((ze N31_ 1 2).toNat, l) ∧ zmV P_ l ∧ l.length = P_ ∧ ((-1)) = ((zdc (fun p_ => l.getD p_ 0) P_ : Nat) : Int)))) from Or.inl (⟨(show ((-1)) = -1 by first | rfl | exact hrt_ | (rw [hz1_, show P_ - (u3_).toNat = (P_ - (u3_).toNat - 1) + 1 by omega]; exact zrm_f (fun q_ => by have := q_.2.1; omega))), (show zrm b_ n_ P_ P_ (ze Mz 1 2).toNat [] = none by first | rfl | exact hrt_ | (rw [hz1_, show P_ - (u3_).toNat = (P_ - (u3_).toNat - 1) + 1 by omega]; exact zrm_f (fun q_ => by have := q_.2.1; omega)))⟩))⟩ (zdal_p dlA_Reader_readMove_99 (i := 18) rfl)
  exact lp_7 _ 0 (by decide) (by decide) 0 (by decide) (by decide) 0 (by decide) (by decide) Mz zFc.rf (show 0 ≤ (0 : Int) by first | with_reducible assumption | (decide) | assumption) (show (0 : Int) ≤ P_ by first | with_reducible assumption | (exact zo_85) | assumption) (show ∃ l : List Nat, zrm b_ n_ P_ P_ (ze Mz 1 2).toNat [] = zrm b_ n_ P_ (P_ - ((0 : Int)).toNat) (ze Mz 1 2).toNat l ∧ zmV P_ l ∧ (l.length : Int) = (0 : Int) ∧ zmt (0 : Int) l ∧ (0 : Int) = (zdc (fun p_ => l.getD p_ 0) ((0 : Int)).toNat : Nat) by exact ⟨[], by rw [show P_ - (0 : Int).toNat = P_ from rfl], zmV_0 P_, rfl, zmt_0, rfl⟩) p1_ (Nat.lt_succ_self _)
set_option maxHeartbeats 4000000 in
theorem u_Reader_readMoves (l : Launch) (d_ : Nat) (Mz : zMem) (hW : zKW d_ Mz) (b_ : Nat → Int) (n_ : Nat) (P_ : Nat) (p0_ : zYb b_ n_ Mz) (p1_ : zYt b_ n_ Mz) (p2_ : zMvK [] P_ d_ Mz) (p3_ : zGg [] P_ d_ Mz) : zC l m_Reader_readMoves 0 0 [.ref 4, .ref (d_ + 0)] Mz (zqcI d_ [(1, 2), (1, 3), (1, 4), (1, 5), (4, 2), (4, 3)] [] [(1, 6), (1, 7)] [3, 5] Mz (fun v N => zYt b_ n_ N ∧ (((v = 1 ∧ (∃ mv : List Nat, zRg (zbs b_ n_ P_) (0, (ze Mz 1 2).toNat, []) (1, (ze N 1 2).toNat, mv) ∧ zMvK mv P_ d_ N ∧ zGg mv P_ d_ N ∧ ∀ g ∈ mv, gpm g)) ∨ (v = 0 ∧ zRg (zbs b_ n_ P_) (0, (ze Mz 1 2).toNat, []) zMf))))) := by
  refine zC_of (L0 := [some (.ref 4), some (.ref (d_ + 0)), none, none, none]) md_Reader_readMoves (Nat.le_of_ble_eq_true rfl) rfl ?_ zQ0
  have hf : zFc d_ [(1, 2), (1, 3), (1, 4), (1, 5), (4, 2), (4, 3)] [] [(1, 6), (1, 7)] [3, 5] Mz Mz := zFc.rf
  have r_A1_2 := ze_r Mz 1 2
  have r_A1_3 := ze_r Mz 1 3
  have r_D1_5 := ze_r Mz (d_ + 1) 5
  have r_D1_6 := ze_r Mz (d_ + 1) 6
  obtain ⟨⟨hP0_, hP1_, hP6_⟩, hc1_, hc2_, hc3_⟩ := id p2_
  refine zw_iconst (pc := 0) (v := Int32.ofInt 0) (by decide) (zdal_p dlA_Reader_readMoves_96 (i := 0) rfl) ?_
  refine zw_istore_n (pc := 1) (i := 2) (L2 := [some (.ref 4), some (.ref (d_ + 0)), some (.int (Int32.ofInt 0)), none, none]) rfl (by decide) rfl (zdal_p dlA_Reader_readMoves_96 (i := 1) rfl) ?_
  have lp_2 : ∀ (n : Nat) (u1_ : Int) (hu1_a : -2147483648 ≤ u1_) (hu1_b : u1_ < 2147483648) (N2_ : zMem) (hs3_ : zFc d_ [(1, 2), (1, 3), (1, 4), (1, 5), (4, 2), (4, 3)] [] [(1, 6), (1, 7)] [3, 5] Mz N2_) (i4_ : 0 ≤ u1_) (i5_ : u1_ ≤ ze N2_ (d_ + 1) 6) (i6_ : zYt b_ n_ N2_) (i7_ : ∃ mv : List Nat, zRg (zbs b_ n_ P_) (0, (ze Mz 1 2).toNat, []) (0, (ze N2_ 1 2).toNat, mv) ∧ zMvK mv P_ d_ N2_ ∧ zGg mv P_ d_ N2_ ∧ ∀ g ∈ mv, gpm g), (5 - u1_).toNat < n → zW l m_Reader_readMoves (zn Mz + 0, zw Mz + 0) N2_ 2 [some (.ref 4), some (.ref (d_ + 0)), some (.int (Int32.ofInt u1_)), none, none] [] (zqcI d_ [(1, 2), (1, 3), (1, 4), (1, 5), (4, 2), (4, 3)] [] [(1, 6), (1, 7)] [3, 5] Mz (fun v N => zYt b_ n_ N ∧ (((v = 1 ∧ (∃ mv : List Nat, zRg (zbs b_ n_ P_) (0, (ze Mz 1 2).toNat, []) (1, (ze N 1 2).toNat, mv) ∧ zMvK mv P_ d_ N ∧ zGg mv P_ d_ N ∧ ∀ g ∈ mv, gpm g)) ∨ (v = 0 ∧ zRg (zbs b_ n_ P_) (0, (ze Mz 1 2).toNat, []) zMf))))) := by
    intro n
    induction n with
    | zero =>
      intro u1_ hu1_a hu1_b N2_ hs3_ i4_ i5_ i6_ i7_ h0
      exact absurd h0 (Nat.not_lt_zero _)
    | succ n ih_2 =>
      intro u1_ hu1_a hu1_b N2_ hs3_ i4_ i5_ i6_ i7_ hlt_2
      have hf_N2_ : zFc d_ [(1, 2), (1, 3), (1, 4), (1, 5), (4, 2), (4, 3)] [] [(1, 6), (1, 7)] [3, 5] Mz N2_ := hf.tr hs3_ (by decide) (by decide) (by decide) (by decide)
      have rA1_2_N2_ := ze_r N2_ 1 2
      have rA1_3_N2_ := ze_r N2_ 1 3
      have eD1_5_N2_ : ze N2_ (d_ + 1) 5 = ze Mz (d_ + 1) 5 := hs3_.e (by decide)
      have rD1_6_N2_ := ze_r N2_ (d_ + 1) 6
      have c8_ : zYb b_ n_ N2_ := zYb.fr (hf.w hW) hs3_ p0_ (by decide)
      obtain ⟨mv_, hre_, hmv_, hgg_, hpm_⟩ := (show ∃ mv : List Nat, zRg (zbs b_ n_ P_) (0, (ze Mz 1 2).toNat, []) (0, (ze N2_ 1 2).toNat, mv) ∧ zMvK mv P_ d_ N2_ ∧ zGg mv P_ d_ N2_ ∧ ∀ g ∈ mv, gpm g by first | with_reducible assumption | assumption)
      obtain ⟨⟨hQ0_, hQ1_, hQ6_⟩, hd1_, hd2_, hd3_⟩ := id hmv_
      refine zw_iload_n (pc := 2) (n := 2) (x := Int32.ofInt u1_) rfl (zdal_p dlA_Reader_readMoves_96 (i := 2) rfl) ?_
      refine zw_iconst (pc := 3) (v := Int32.ofInt 4) (by decide) (zdal_p dlA_Reader_readMoves_96 (i := 3) rfl) ?_
      refine zr_icmp_gt (pc := 4) (tgt := 106) ⟨hu1_a, hu1_b⟩ ⟨(by decide), (by decide)⟩ (by decide) (zdal_p dlA_Reader_readMoves_96 (i := 4) rfl) (fun hc_4 => ?_) (fun hc_4 => ?_)
      · skip
        refine zw_iconst (pc := 106) (v := Int32.ofInt 1) (by decide) (zdal_p dlA_Reader_readMoves_98 (i := 5) rfl) ?_
        exact zk_iret (pc := 107) (ty := .boolean) rfl (z_narB (by (decide))) ⟨by (decide), by (decide)⟩ hf_N2_ ⟨i6_, (show ((1 = 1 ∧ (∃ mv : List Nat, zRg (zbs b_ n_ P_) (0, (ze Mz 1 2).toNat, []) (1, (ze N2_ 1 2).toNat, mv) ∧ zMvK mv P_ d_ N2_ ∧ zGg mv P_ d_ N2_ ∧ ∀ g ∈ mv, gpm g)) ∨ (1 = 0 ∧ zRg (zbs b_ n_ P_) (0, (ze Mz 1 2).toNat, []) zMf)) from Or.inl (⟨(show 1 = 1 by first | rfl | exact ⟨mv_, hre_.tr (zRg.st (zbs_e hl1_)), hmv_, hgg_, hpm_⟩ | (exfalso; omega)), (show (∃ mv : List Nat, zRg (zbs b_ n_ P_) (0, (ze Mz 1 2).toNat, []) (1, (ze N2_ 1 2).toNat, mv) ∧ zMvK mv P_ d_ N2_ ∧ zGg mv P_ d_ N2_ ∧ ∀ g ∈ mv, gpm g) by first | rfl | exact ⟨mv_, hre_.tr (zRg.st (zbs_e hl1_)), hmv_, hgg_, hpm_⟩ | (exfalso; omega))⟩))⟩ (zdal_p dlA_Reader_readMoves_98 (i := 6) rfl)
      · skip
        refine zw_aload_n (pc := 7) (n := 0) (x := 4) rfl (zdal_p dlA_Reader_readMoves_96 (i := 5) rfl) ?_
        refine zw_getF (pc := 8) f_Reader_15 rfl ((hf_N2_.w hW).ka (o := 4) (by decide)) ((hf_N2_.w hW).la (o := 4) (s := 0) (r := 1) (by decide)) (zdal_p dlA_Reader_readMoves_96 (i := 6) rfl) ?_
        refine zw_ldcs (pc := 11) (i := 1) (List.mem_of_getElem? (i := 1) rfl) (zdal_p dlA_Reader_readMoves_96 (i := 7) rfl) ?_
        refine zk_callV hf_N2_.x (pc := 13) [.ref (zK 1)] [] l_Reader_49 (u_Tokens_isWord l d_ N2_ (hf_N2_.w hW) 1 (by decide) b_ n_ c8_ i6_) rfl rfl ((hf_N2_.w hW).ka (o := 1) (by decide)) (by decide) (by decide) (Nat.le_of_ble_eq_true rfl) (zdal_p dlA_Reader_readMoves_96 (i := 8) rfl) ?_
        rintro _ N9_ ⟨v10_, rfl, ⟨hv10_a, hv10_b⟩, hsN9_, hp0_N9_⟩
        obtain rfl := hsN9_.eq.symm
        replace hp0_N9_ : ((v10_ = 1 ∧ zkd b_ n_ (ze N2_ 1 2).toNat = 1 ∧ zkey b_ n_ (ze N2_ 1 2).toNat = zkw 1) ∨ (v10_ = 0 ∧ ¬ (zkd b_ n_ (ze N2_ 1 2).toNat = 1 ∧ zkey b_ n_ (ze N2_ 1 2).toNat = zkw 1))) := hp0_N9_
        rcases hp0_N9_ with ⟨rfl, ha13_0_hp0_N9_, ha13_1_hp0_N9_⟩ | ⟨rfl, ha13_0_hp0_N9_⟩
        · skip
          have hl0_ : zkd b_ n_ (ze N2_ 1 2).toNat = 1 ∧ zkey b_ n_ (ze N2_ 1 2).toNat = zkw 1 := ⟨ha13_0_hp0_N9_, ha13_1_hp0_N9_⟩
          show zW l m_Reader_readMoves (zn Mz + 0, zw Mz + 0) N2_ 16 [some (.ref 4), some (.ref (d_ + 0)), some (.int (Int32.ofInt u1_)), none, none] [.int (Int32.ofInt 1)] _
          refine zr_if_eq (pc := 16) (tgt := 106) ⟨(by decide), (by decide)⟩ (by decide) (zdal_p dlA_Reader_readMoves_96 (i := 9) rfl) (fun hc_16 => ?_) (fun hc_16 => ?_)
          · skip
            exact absurd hc_16 (by decide)
          · skip
            refine zw_aload_n (pc := 19) (n := 0) (x := 4) rfl (zdal_p dlA_Reader_readMoves_96 (i := 10) rfl) ?_
            refine zw_getF (pc := 20) f_Reader_15 rfl ((hf_N2_.w hW).ka (o := 4) (by decide)) ((hf_N2_.w hW).la (o := 4) (s := 0) (r := 1) (by decide)) (zdal_p dlA_Reader_readMoves_96 (i := 11) rfl) ?_
            refine zk_getI (pc := 23) f_Reader_30 rfl ((hf_N2_.w hW).ka (o := 1) (by decide)) (zdal_p dlA_Reader_readMoves_96 (i := 12) rfl) ?_
            refine zw_istore_n (pc := 26) (i := 3) (L2 := [some (.ref 4), some (.ref (d_ + 0)), some (.int (Int32.ofInt u1_)), some (.int (Int32.ofInt (ze N2_ 1 2))), none]) rfl (by decide) rfl (zdal_p dlA_Reader_readMoves_96 (i := 13) rfl) ?_
            refine zw_aload_n (pc := 27) (n := 1) (x := (d_ + 0)) rfl (zdal_p dlA_Reader_readMoves_96 (i := 14) rfl) ?_
            refine zw_getF (pc := 28) f_Reader_71 rfl ((hf_N2_.w hW).kr (o := 0) (by decide)) ((hf_N2_.w hW).lr (o := 0) (s := 0) (r := 1) (by decide)) (zdal_p dlA_Reader_readMoves_96 (i := 15) rfl) ?_
            refine zk_getI (pc := 31) f_Reader_75 rfl ((hf_N2_.w hW).kr (o := 1) (by decide)) (zdal_p dlA_Reader_readMoves_96 (i := 16) rfl) ?_
            refine zw_iconst (pc := 34) (v := Int32.ofInt 4) (by decide) (zdal_p dlA_Reader_readMoves_96 (i := 17) rfl) ?_
            refine zr_icmp_lt (pc := 35) (tgt := 44) ⟨(ze_r N2_ (d_ + 1) 6).1, (ze_r N2_ (d_ + 1) 6).2⟩ ⟨(by decide), (by decide)⟩ (by decide) (zdal_p dlA_Reader_readMoves_96 (i := 18) rfl) (fun hc_35 => ?_) (fun hc_35 => ?_)
            · skip
              have hyt_ := i6_
              have hyx_ := hyt_.x
              refine zw_aload_n (pc := 44) (n := 0) (x := 4) rfl (zdal_p dlA_Reader_readMoves_96 (i := 23) rfl) ?_
              refine zw_getF (pc := 45) f_Reader_15 rfl ((hf_N2_.w hW).ka (o := 4) (by decide)) ((hf_N2_.w hW).la (o := 4) (s := 0) (r := 1) (by decide)) (zdal_p dlA_Reader_readMoves_97 (i := 0) rfl) ?_
              refine zk_callV hf_N2_.x (pc := 48) [] [] l_Reader_44 (u_Tokens_step l d_ N2_ (hf_N2_.w hW) b_ n_ c8_ (show 0 ≤ ze N2_ 1 3 by first | with_reducible assumption | (exact zo_57 hyx_.2.1) | assumption) (show ze N2_ 1 3 ≤ n_ by first | with_reducible assumption | (exact zo_277 hyx_.2.2 rA1_3_N2_.2) | assumption)) rfl rfl ((hf_N2_.w hW).ka (o := 1) (by decide)) (by decide) (by decide) (Nat.le_of_ble_eq_true rfl) (zdal_p dlA_Reader_readMoves_97 (i := 1) rfl) ?_
              rintro _ N11_ ⟨rfl, hsN11_, ⟨hp0_N11_, hp1_N11_⟩⟩
              have hf_N11_ : zFc d_ [(1, 2), (1, 3), (1, 4), (1, 5), (4, 2), (4, 3)] [] [(1, 6), (1, 7)] [3, 5] Mz N11_ := hf_N2_.tr hsN11_ (by decide) (by decide) (by decide) (by decide)
              have hb0_N11_ : zFc d_ [(1, 2), (1, 3), (1, 4), (1, 5), (4, 2), (4, 3)] [] [(1, 6), (1, 7)] [3, 5] Mz N11_ := hs3_.tr hsN11_ (by decide) (by decide) (by decide) (by decide)
              have rA1_2_N11_ := ze_r N11_ 1 2
              have rA1_3_N11_ := ze_r N11_ 1 3
              have eD1_5_N11_ : ze N11_ (d_ + 1) 5 = ze N2_ (d_ + 1) 5 := hsN11_.e (by decide)
              have eD1_6_N11_ : ze N11_ (d_ + 1) 6 = ze N2_ (d_ + 1) 6 := hsN11_.e (by decide)
              have c13_ : zYb b_ n_ N11_ := zYb.fr (hf_N2_.w hW) hsN11_ c8_ (by decide)
              have c14_ : zMvK mv_ P_ d_ N11_ := zMvK.fr (hf_N2_.w hW) hsN11_ hmv_ (by decide)
              have c15_ : zGg mv_ P_ d_ N11_ := zGg.fr (hf_N2_.w hW) hsN11_ hgg_ (by decide)
              show zW l m_Reader_readMoves (zn Mz + 0, zw Mz + 0) N11_ 51 [some (.ref 4), some (.ref (d_ + 0)), some (.int (Int32.ofInt u1_)), some (.int (Int32.ofInt (ze N2_ 1 2))), none] [] _
              have hnn_ := hyt_.n hp0_N11_
              have hx1_ : (ze N11_ 1 2).toNat = znx b_ n_ (ze N2_ 1 2).toNat := hnn_.2.trans (by rw [show ze N2_ 1 2 = ze N2_ 1 2 by (exact zo_62)])
              refine zw_aload_n (pc := 51) (n := 0) (x := 4) rfl (zdal_p dlA_Reader_readMoves_97 (i := 2) rfl) ?_
              refine zw_aload_n (pc := 52) (n := 1) (x := (d_ + 0)) rfl (zdal_p dlA_Reader_readMoves_97 (i := 3) rfl) ?_
              refine zw_getF (pc := 53) f_Reader_71 rfl ((hf_N11_.w hW).kr (o := 0) (by decide)) ((hf_N11_.w hW).lr (o := 0) (s := 0) (r := 1) (by decide)) (zdal_p dlA_Reader_readMoves_97 (i := 4) rfl) ?_
              refine zk_getI (pc := 56) f_Reader_80 rfl ((hf_N11_.w hW).kr (o := 1) (by decide)) (zdal_p dlA_Reader_readMoves_97 (i := 5) rfl) ?_
              rw [hf_N11_.e (by decide)]
              refine zk_callV hf_N11_.x (pc := 59) [.int (Int32.ofInt (ze Mz (d_ + 1) 5))] [] l_Reader_82 (u_Reader_readMove l d_ N11_ (hf_N11_.w hW) (ze Mz (d_ + 1) 5) (ze_r Mz (d_ + 1) 5).1 (ze_r Mz (d_ + 1) 5).2 b_ n_ P_ c13_ hp1_N11_ (show (ze Mz (d_ + 1) 5) = P_ by first | with_reducible assumption | assumption | omega) (show P_ ≤ 6 by first | with_reducible assumption | assumption | omega)) rfl rfl ((hf_N11_.w hW).ka (o := 4) (by decide)) (by decide) (by decide) (Nat.le_of_ble_eq_true rfl) (zdal_p dlA_Reader_readMoves_97 (i := 6) rfl) ?_
              rintro _ N16_ ⟨v17_, rfl, ⟨hv17_a, hv17_b⟩, hsN16_, ⟨hp0_N16_, hp1_N16_⟩⟩
              have hf_N16_ : zFc d_ [(1, 2), (1, 3), (1, 4), (1, 5), (4, 2), (4, 3)] [] [(1, 6), (1, 7)] [3, 5] Mz N16_ := hf_N11_.tr hsN16_ (by decide) (by decide) (by decide) (by decide)
              have hb0_N16_ : zFc d_ [(1, 2), (1, 3), (1, 4), (1, 5), (4, 2), (4, 3)] [] [(1, 6), (1, 7)] [3, 5] Mz N16_ := hb0_N11_.tr hsN16_ (by decide) (by decide) (by decide) (by decide)
              have rA1_2_N16_ := ze_r N16_ 1 2
              have rA1_3_N16_ := ze_r N16_ 1 3
              have eD1_5_N16_ : ze N16_ (d_ + 1) 5 = ze N11_ (d_ + 1) 5 := hsN16_.e (by decide)
              have eD1_6_N16_ : ze N16_ (d_ + 1) 6 = ze N11_ (d_ + 1) 6 := hsN16_.e (by decide)
              have c18_ : zYb b_ n_ N16_ := zYb.fr (hf_N11_.w hW) hsN16_ c13_ (by decide)
              have c19_ : zMvK mv_ P_ d_ N16_ := zMvK.fr (hf_N11_.w hW) hsN16_ c14_ (by decide)
              have c20_ : zGg mv_ P_ d_ N16_ := zGg.fr (hf_N11_.w hW) hsN16_ c15_ (by decide)
              rcases hp1_N16_ with ⟨rfl, ha59_0_hp1_N16_⟩ | ⟨ha59_0_hp1_N16_, ha59_1_hp1_N16_⟩
              · skip
                have hr0_ := ha59_0_hp1_N16_
                rw [hx1_] at hr0_
                have hrt_ := hre_.tr (zRg.st (zbs_n hl0_ hr0_))
                show zW l m_Reader_readMoves (zn Mz + 0, zw Mz + 0) N16_ 62 [some (.ref 4), some (.ref (d_ + 0)), some (.int (Int32.ofInt u1_)), some (.int (Int32.ofInt (ze N2_ 1 2))), none] [.int (Int32.ofInt ((-1)))] _
                refine zw_istore (pc := 62) (i := 4) (L2 := [some (.ref 4), some (.ref (d_ + 0)), some (.int (Int32.ofInt u1_)), some (.int (Int32.ofInt (ze N2_ 1 2))), some (.int (Int32.ofInt ((-1))))]) (by decide) rfl (zdal_p dlA_Reader_readMoves_97 (i := 7) rfl) ?_
                refine zw_iload (pc := 64) (i := 4) (x := Int32.ofInt ((-1))) rfl (zdal_p dlA_Reader_readMoves_97 (i := 8) rfl) ?_
                refine zw_iconst (pc := 66) (v := Int32.ofInt (-1)) (by decide) (zdal_p dlA_Reader_readMoves_97 (i := 9) rfl) ?_
                refine zr_icmp_eq (pc := 67) (tgt := 79) ⟨(by decide), (by decide)⟩ ⟨(by decide), (by decide)⟩ (by decide) (zdal_p dlA_Reader_readMoves_97 (i := 10) rfl) (fun hc_67 => ?_) (fun hc_67 => ?_)
                · skip
                  refine zw_iconst (pc := 79) (v := Int32.ofInt 0) (by decide) (zdal_p dlA_Reader_readMoves_97 (i := 15) rfl) ?_
                  exact zk_iret (pc := 80) (ty := .boolean) rfl (z_narB (by (decide))) ⟨by (decide), by (decide)⟩ hf_N16_ ⟨hp0_N16_, (show ((0 = 1 ∧ (∃ mv : List Nat, zRg (zbs b_ n_ P_) (0, (ze Mz 1 2).toNat, []) (1, (ze N16_ 1 2).toNat, mv) ∧ zMvK mv P_ d_ N16_ ∧ zGg mv P_ d_ N16_ ∧ ∀ g ∈ mv, gpm g)) ∨ (0 = 0 ∧ zRg (zbs b_ n_ P_) (0, (ze Mz 1 2).toNat, []) zMf)) from Or.inr (⟨(show 0 = 0 by first | rfl | exact hrt_ | exact hre_.tr (zRg.st (zbs_4 hl0_ (by omega))) | (exfalso; omega)), (show zRg (zbs b_ n_ P_) (0, (ze Mz 1 2).toNat, []) zMf by first | rfl | exact hrt_ | exact hre_.tr (zRg.st (zbs_4 hl0_ (by omega))) | (exfalso; omega))⟩))⟩ (zdal_p dlA_Reader_readMoves_97 (i := 16) rfl)
                · skip
                  exact absurd hc_67 (by decide)
              · skip
                have hr0_ := ha59_0_hp1_N16_
                obtain ⟨l_, hr1_, hr2_, hr3_, hr4_⟩ := ha59_1_hp1_N16_
                rw [hx1_] at hr1_
                obtain ⟨hr5_, hr6_⟩ := zmc_z (by (exact hP6_)) hr2_ hr3_
                rw [← hr4_] at hr5_ hr6_
                show zW l m_Reader_readMoves (zn Mz + 0, zw Mz + 0) N16_ 62 [some (.ref 4), some (.ref (d_ + 0)), some (.int (Int32.ofInt u1_)), some (.int (Int32.ofInt (ze N2_ 1 2))), none] [.int (Int32.ofInt v17_)] _
                refine zw_istore (pc := 62) (i := 4) (L2 := [some (.ref 4), some (.ref (d_ + 0)), some (.int (Int32.ofInt u1_)), some (.int (Int32.ofInt (ze N2_ 1 2))), some (.int (Int32.ofInt v17_))]) (by decide) rfl (zdal_p dlA_Reader_readMoves_97 (i := 7) rfl) ?_
                refine zw_iload (pc := 64) (i := 4) (x := Int32.ofInt v17_) rfl (zdal_p dlA_Reader_readMoves_97 (i := 8) rfl) ?_
                refine zw_iconst (pc := 66) (v := Int32.ofInt (-1)) (by decide) (zdal_p dlA_Reader_readMoves_97 (i := 9) rfl) ?_
                refine zr_icmp_eq (pc := 67) (tgt := 79) ⟨hv17_a, hv17_b⟩ ⟨(by decide), (by decide)⟩ (by decide) (zdal_p dlA_Reader_readMoves_97 (i := 10) rfl) (fun hc_67 => ?_) (fun hc_67 => ?_)
                · skip
                  refine zw_iconst (pc := 79) (v := Int32.ofInt 0) (by decide) (zdal_p dlA_Reader_readMoves_97 (i := 15) rfl) ?_
                  exact zk_iret (pc := 80) (ty := .boolean) rfl (z_narB (by (decide))) ⟨by (decide), by (decide)⟩ hf_N16_ ⟨hp0_N16_, (show ((0 = 1 ∧ (∃ mv : List Nat, zRg (zbs b_ n_ P_) (0, (ze Mz 1 2).toNat, []) (1, (ze N16_ 1 2).toNat, mv) ∧ zMvK mv P_ d_ N16_ ∧ zGg mv P_ d_ N16_ ∧ ∀ g ∈ mv, gpm g)) ∨ (0 = 0 ∧ zRg (zbs b_ n_ P_) (0, (ze Mz 1 2).toNat, []) zMf)) from Or.inr (⟨(show 0 = 0 by first | rfl | exact hrt_ | exact hre_.tr (zRg.st (zbs_4 hl0_ (by omega))) | (exfalso; omega)), (show zRg (zbs b_ n_ P_) (0, (ze Mz 1 2).toNat, []) zMf by first | rfl | exact hrt_ | exact hre_.tr (zRg.st (zbs_4 hl0_ (by omega))) | (exfalso; omega))⟩))⟩ (zdal_p dlA_Reader_readMoves_97 (i := 16) rfl)
                · skip
                  refine zw_aload_n (pc := 70) (n := 0) (x := 4) rfl (zdal_p dlA_Reader_readMoves_97 (i := 11) rfl) ?_
                  refine zw_bipush (pc := 71) (v := Int32.ofInt 59) (by decide) (zdal_p dlA_Reader_readMoves_97 (i := 12) rfl) ?_
                  refine zk_callV hf_N16_.x (pc := 73) [.int (Int32.ofInt 59)] [] l_Reader_66 (u_Reader_passSign l d_ N16_ (hf_N16_.w hW) 59 (by decide) (by decide) b_ n_ c18_ hp0_N16_) rfl rfl ((hf_N16_.w hW).ka (o := 4) (by decide)) (by decide) (by decide) (Nat.le_of_ble_eq_true rfl) (zdal_p dlA_Reader_readMoves_97 (i := 13) rfl) ?_
                  rintro _ N21_ ⟨v22_, rfl, ⟨hv22_a, hv22_b⟩, hsN21_, ⟨hp0_N21_, hp1_N21_⟩⟩
                  have hf_N21_ : zFc d_ [(1, 2), (1, 3), (1, 4), (1, 5), (4, 2), (4, 3)] [] [(1, 6), (1, 7)] [3, 5] Mz N21_ := hf_N16_.tr hsN21_ (by decide) (by decide) (by decide) (by decide)
                  have hb0_N21_ : zFc d_ [(1, 2), (1, 3), (1, 4), (1, 5), (4, 2), (4, 3)] [] [(1, 6), (1, 7)] [3, 5] Mz N21_ := hb0_N16_.tr hsN21_ (by decide) (by decide) (by decide) (by decide)
                  have rA1_2_N21_ := ze_r N21_ 1 2
                  have rA1_3_N21_ := ze_r N21_ 1 3
                  have eD1_5_N21_ : ze N21_ (d_ + 1) 5 = ze N16_ (d_ + 1) 5 := hsN21_.e (by decide)
                  have eD1_6_N21_ : ze N21_ (d_ + 1) 6 = ze N16_ (d_ + 1) 6 := hsN21_.e (by decide)
                  have c23_ : zYb b_ n_ N21_ := zYb.fr (hf_N16_.w hW) hsN21_ c18_ (by decide)
                  have c24_ : zMvK mv_ P_ d_ N21_ := zMvK.fr (hf_N16_.w hW) hsN21_ c19_ (by decide)
                  have c25_ : zGg mv_ P_ d_ N21_ := zGg.fr (hf_N16_.w hW) hsN21_ c20_ (by decide)
                  rcases hp1_N21_ with ⟨rfl, ha73_0_hp1_N21_, ha73_1_hp1_N21_⟩ | ⟨rfl, ha73_0_hp1_N21_⟩
                  · skip
                    have hs1_ := ha73_0_hp1_N21_
                    have hs2_ := ha73_1_hp1_N21_
                    show zW l m_Reader_readMoves (zn Mz + 0, zw Mz + 0) N21_ 76 [some (.ref 4), some (.ref (d_ + 0)), some (.int (Int32.ofInt u1_)), some (.int (Int32.ofInt (ze N2_ 1 2))), some (.int (Int32.ofInt v17_))] [.int (Int32.ofInt 1)] _
                    refine zr_if_ne (pc := 76) (tgt := 81) ⟨(by decide), (by decide)⟩ (by decide) (zdal_p dlA_Reader_readMoves_97 (i := 14) rfl) (fun hc_76 => ?_) (fun hc_76 => ?_)
                    · skip
                      refine zw_aload_n (pc := 81) (n := 1) (x := (d_ + 0)) rfl (zdal_p dlA_Reader_readMoves_97 (i := 17) rfl) ?_
                      refine zw_getF (pc := 82) f_Reader_71 rfl ((hf_N21_.w hW).kr (o := 0) (by decide)) ((hf_N21_.w hW).lr (o := 0) (s := 0) (r := 1) (by decide)) (zdal_p dlA_Reader_readMoves_97 (i := 18) rfl) ?_
                      refine zw_iload (pc := 85) (i := 4) (x := Int32.ofInt v17_) rfl (zdal_p dlA_Reader_readMoves_97 (i := 19) rfl) ?_
                      refine zk_callV hf_N21_.x (pc := 87) [.int (Int32.ofInt v17_)] [] l_Reader_86 (u_Group_addMove l d_ N21_ (hf_N21_.w hW) v17_ hv17_a hv17_b P_ mv_ c24_ (show zkv P_ v17_ by first | with_reducible assumption | assumption | omega) (show mv_.length ≤ 3 by first | with_reducible assumption | assumption | omega)) rfl rfl ((hf_N21_.w hW).kr (o := 1) (by decide)) (by decide) (by decide) (Nat.le_of_ble_eq_true rfl) (zdal_p dlA_Reader_readMoves_97 (i := 20) rfl) ?_
                      rintro _ N26_ ⟨v27_, rfl, ⟨hv27_a, hv27_b⟩, hsN26_, ⟨hp0_N26_, hp1_N26_⟩⟩
                      have hf_N26_ : zFc d_ [(1, 2), (1, 3), (1, 4), (1, 5), (4, 2), (4, 3)] [] [(1, 6), (1, 7)] [3, 5] Mz N26_ := hf_N21_.tr hsN26_ (by decide) (by decide) (by decide) (by decide)
                      have hb0_N26_ : zFc d_ [(1, 2), (1, 3), (1, 4), (1, 5), (4, 2), (4, 3)] [] [(1, 6), (1, 7)] [3, 5] Mz N26_ := hb0_N21_.tr hsN26_ (by decide) (by decide) (by decide) (by decide)
                      have eA1_2_N26_ : ze N26_ 1 2 = ze N21_ 1 2 := hsN26_.ea (hf_N21_.w hW) (by decide)
                      have eA1_3_N26_ : ze N26_ 1 3 = ze N21_ 1 3 := hsN26_.ea (hf_N21_.w hW) (by decide)
                      have eD1_5_N26_ : ze N26_ (d_ + 1) 5 = ze N21_ (d_ + 1) 5 := hsN26_.e (by decide)
                      have rD1_6_N26_ := ze_r N26_ (d_ + 1) 6
                      have c28_ : zYb b_ n_ N26_ := zYb.fr (hf_N21_.w hW) hsN26_ c23_ (by decide)
                      have c29_ : zYt b_ n_ N26_ := zYt.fr (hf_N21_.w hW) hsN26_ hp0_N21_ (by decide)
                      rcases hp1_N26_ with ⟨rfl, ha87_0_hp1_N26_⟩ | ⟨rfl, ha87_0_hp1_N26_⟩
                      · skip
                        have hf0_ := ha87_0_hp1_N26_
                        have hf1_ := hp0_N26_
                        rw [hr6_] at hf0_ hf1_
                        have hbk_ := hre_.tr (zRg.st (zbs_t hl0_ (by omega) hr1_ ⟨hs1_, hf0_.2.2.2.2⟩))
                        rw [← hs2_, show (ze N21_ 1 2).toNat = (ze N26_ 1 2).toNat by rw [show ze N21_ 1 2 = ze N26_ 1 2 by omega]] at hbk_
                        show zW l m_Reader_readMoves (zn Mz + 0, zw Mz + 0) N26_ 90 [some (.ref 4), some (.ref (d_ + 0)), some (.int (Int32.ofInt u1_)), some (.int (Int32.ofInt (ze N2_ 1 2))), some (.int (Int32.ofInt v17_))] [.int (Int32.ofInt 1)] _
                        refine zr_if_ne (pc := 90) (tgt := 100) ⟨(by decide), (by decide)⟩ (by decide) (zdal_p dlA_Reader_readMoves_97 (i := 21) rfl) (fun hc_90 => ?_) (fun hc_90 => ?_)
                        · skip
                          refine zr_iinc (pc := 100) (i := 2) (a := u1_) (n := 1) (L2 := [some (.ref 4), some (.ref (d_ + 0)), some (.int (Int32.ofInt (u1_ + 1))), some (.int (Int32.ofInt (ze N2_ 1 2))), some (.int (Int32.ofInt v17_))]) rfl (by decide) rfl (zdal_p dlA_Reader_readMoves_98 (i := 3) rfl) ?_
                          refine zw_goto (pc := 103) (tgt := 2) (by decide) (zdal_p dlA_Reader_readMoves_98 (i := 4) rfl) ?_
                          refine zW_le [some (.ref 4), some (.ref (d_ + 0)), some (.int (Int32.ofInt (u1_ + 1))), none, none] (⟨rfl, rfl, rfl, trivial⟩) ?_
                          exact ih_2 (u1_ + 1) (by (exact zo_74 i4_)) (by omega) N26_ hb0_N26_ (show 0 ≤ (u1_ + 1) by first | with_reducible assumption | (exact zo_76 i4_) | assumption) (show (u1_ + 1) ≤ ze N26_ (d_ + 1) 6 by have h1_ := hf1_.2.1; rw [List.length_append, List.length_singleton] at h1_; omega) c29_ (show ∃ mv : List Nat, zRg (zbs b_ n_ P_) (0, (ze Mz 1 2).toNat, []) (0, (ze N26_ 1 2).toNat, mv) ∧ zMvK mv P_ d_ N26_ ∧ zGg mv P_ d_ N26_ ∧ ∀ g ∈ mv, gpm g by exact ⟨_, hbk_, hf1_, hf0_, fun g hg => (List.mem_append.mp hg).elim (hpm_ g) (fun e_ => by rw [List.mem_singleton.mp e_]; exact (zmc_p (by (exact hP6_)) hr3_ hr2_).1)⟩) (by omega)
                        · skip
                          exact absurd hc_90 (by decide)
                      · skip
                        have hf0_ := ha87_0_hp1_N26_
                        rw [hr6_] at hf0_
                        have hrt_ := hre_.tr (zRg.st (zbs_f hl0_ hr1_ (fun q_ => hf0_ q_.2)))
                        show zW l m_Reader_readMoves (zn Mz + 0, zw Mz + 0) N26_ 90 [some (.ref 4), some (.ref (d_ + 0)), some (.int (Int32.ofInt u1_)), some (.int (Int32.ofInt (ze N2_ 1 2))), some (.int (Int32.ofInt v17_))] [.int (Int32.ofInt 0)] _
                        refine zr_if_ne (pc := 90) (tgt := 100) ⟨(by decide), (by decide)⟩ (by decide) (zdal_p dlA_Reader_readMoves_97 (i := 21) rfl) (fun hc_90 => ?_) (fun hc_90 => ?_)
                        · skip
                          exact absurd hc_90 (by decide)
                        · skip
                          refine zw_aload_n (pc := 93) (n := 0) (x := 4) rfl (zdal_p dlA_Reader_readMoves_97 (i := 22) rfl) ?_
                          refine zw_iconst (pc := 94) (v := Int32.ofInt 5) (by decide) (zdal_p dlA_Reader_readMoves_97 (i := 23) rfl) ?_
                          refine zw_iload_n (pc := 95) (n := 3) (x := Int32.ofInt (ze N2_ 1 2)) rfl (zdal_p dlA_Reader_readMoves_98 (i := 0) rfl) ?_
                          refine zk_callV hf_N26_.x (pc := 96) [.int (Int32.ofInt 5), .int (Int32.ofInt (ze N2_ 1 2))] [] l_Reader_33 (u_Reader_refuseAt l d_ N26_ (hf_N26_.w hW) 5 (by decide) (by decide) (ze N2_ 1 2) (ze_r N2_ 1 2).1 (ze_r N2_ 1 2).2) rfl rfl ((hf_N26_.w hW).ka (o := 4) (by decide)) (by decide) (by decide) (Nat.le_of_ble_eq_true rfl) (zdal_p dlA_Reader_readMoves_98 (i := 1) rfl) ?_
                          rintro _ N30_ ⟨v31_, rfl, ⟨hv31_a, hv31_b⟩, hsN30_, hp0_N30_⟩
                          replace hp0_N30_ : ((v31_ = 0)) := hp0_N30_
                          have hf_N30_ : zFc d_ [(1, 2), (1, 3), (1, 4), (1, 5), (4, 2), (4, 3)] [] [(1, 6), (1, 7)] [3, 5] Mz N30_ := hf_N26_.tr hsN30_ (by decide) (by decide) (by decide) (by decide)
                          have eA1_2_N30_ : ze N30_ 1 2 = ze N26_ 1 2 := hsN30_.ea (hf_N26_.w hW) (by decide)
                          have eA1_3_N30_ : ze N30_ 1 3 = ze N26_ 1 3 := hsN30_.ea (hf_N26_.w hW) (by decide)
                          have eD1_5_N30_ : ze N30_ (d_ + 1) 5 = ze N26_ (d_ + 1) 5 := hsN30_.e (by decide)
                          have eD1_6_N30_ : ze N30_ (d_ + 1) 6 = ze N26_ (d_ + 1) 6 := hsN30_.e (by decide)
                          have c32_ : zYb b_ n_ N30_ := zYb.fr (hf_N26_.w hW) hsN30_ c28_ (by decide)
                          have c33_ : zYt b_ n_ N30_ := zYt.fr (hf_N26_.w hW) hsN30_ c29_ (by decide)
                          rcases hp0_N30_ with rfl
                          · skip
                            show zW l m_Reader_readMoves (zn Mz + 0, zw Mz + 0) N30_ 99 [some (.ref 4), some (.ref (d_ + 0)), some (.int (Int32.ofInt u1_)), some (.int (Int32.ofInt (ze N2_ 1 2))), some (.int (Int32.ofInt v17_))] [.int (Int32.ofInt 0)] _
                            exact zk_iret (pc := 99) (ty := .boolean) rfl (z_narB (by (decide))) ⟨by (exact hv27_a), by (exact hv27_b)⟩ hf_N30_ ⟨c33_, (show ((0 = 1 ∧ (∃ mv : List Nat, zRg (zbs b_ n_ P_) (0, (ze Mz 1 2).toNat, []) (1, (ze N30_ 1 2).toNat, mv) ∧ zMvK mv P_ d_ N30_ ∧ zGg mv P_ d_ N30_ ∧ ∀ g ∈ mv, gpm g)) ∨ (0 = 0 ∧ zRg (zbs b_ n_ P_) (0, (ze Mz 1 2).toNat, []) zMf)) from Or.inr (⟨(show 0 = 0 by first | rfl | exact hrt_ | exact hre_.tr (zRg.st (zbs_4 hl0_ (by omega))) | (exfalso; omega)), (show zRg (zbs b_ n_ P_) (0, (ze Mz 1 2).toNat, []) zMf by first | rfl | exact hrt_ | exact hre_.tr (zRg.st (zbs_4 hl0_ (by omega))) | (exfalso; omega))⟩))⟩ (zdal_p dlA_Reader_readMoves_98 (i := 2) rfl)
                    · skip
                      exact absurd hc_76 (by decide)
                  · skip
                    have hrt_ := hre_.tr (zRg.st (zbs_f hl0_ hr1_ (fun q_ => ha73_0_hp1_N21_ q_.1)))
                    show zW l m_Reader_readMoves (zn Mz + 0, zw Mz + 0) N21_ 76 [some (.ref 4), some (.ref (d_ + 0)), some (.int (Int32.ofInt u1_)), some (.int (Int32.ofInt (ze N2_ 1 2))), some (.int (Int32.ofInt v17_))] [.int (Int32.ofInt 0)] _
                    refine zr_if_ne (pc := 76) (tgt := 81) ⟨(by decide), (by decide)⟩ (by decide) (zdal_p dlA_Reader_readMoves_97 (i := 14) rfl) (fun hc_76 => ?_) (fun hc_76 => ?_)
                    · skip
                      exact absurd hc_76 (by decide)
                    · skip
                      refine zw_iconst (pc := 79) (v := Int32.ofInt 0) (by decide) (zdal_p dlA_Reader_readMoves_97 (i := 15) rfl) ?_
                      exact zk_iret (pc := 80) (ty := .boolean) rfl (z_narB (by (decide))) ⟨by (exact hv22_a), by (exact hv22_b)⟩ hf_N21_ ⟨hp0_N21_, (show ((0 = 1 ∧ (∃ mv : List Nat, zRg (zbs b_ n_ P_) (0, (ze Mz 1 2).toNat, []) (1, (ze N21_ 1 2).toNat, mv) ∧ zMvK mv P_ d_ N21_ ∧ zGg mv P_ d_ N21_ ∧ ∀ g ∈ mv, gpm g)) ∨ (0 = 0 ∧ zRg (zbs b_ n_ P_) (0, (ze Mz 1 2).toNat, []) zMf)) from Or.inr (⟨(show 0 = 0 by first | rfl | exact hrt_ | exact hre_.tr (zRg.st (zbs_4 hl0_ (by omega))) | (exfalso; omega)), (show zRg (zbs b_ n_ P_) (0, (ze Mz 1 2).toNat, []) zMf by first | rfl | exact hrt_ | exact hre_.tr (zRg.st (zbs_4 hl0_ (by omega))) | (exfalso; omega))⟩))⟩ (zdal_p dlA_Reader_readMoves_97 (i := 16) rfl)
            · skip
              refine zw_aload_n (pc := 38) (n := 0) (x := 4) rfl (zdal_p dlA_Reader_readMoves_96 (i := 19) rfl) ?_
              refine zw_iconst (pc := 39) (v := Int32.ofInt 5) (by decide) (zdal_p dlA_Reader_readMoves_96 (i := 20) rfl) ?_
              refine zk_callV hf_N2_.x (pc := 40) [.int (Int32.ofInt 5)] [] l_Reader_41 (u_Reader_refuse l d_ N2_ (hf_N2_.w hW) 5 (by decide) (by decide)) rfl rfl ((hf_N2_.w hW).ka (o := 4) (by decide)) (by decide) (by decide) (Nat.le_of_ble_eq_true rfl) (zdal_p dlA_Reader_readMoves_96 (i := 21) rfl) ?_
              rintro _ N34_ ⟨v35_, rfl, ⟨hv35_a, hv35_b⟩, hsN34_, hp0_N34_⟩
              replace hp0_N34_ : ((v35_ = 0)) := hp0_N34_
              have hf_N34_ : zFc d_ [(1, 2), (1, 3), (1, 4), (1, 5), (4, 2), (4, 3)] [] [(1, 6), (1, 7)] [3, 5] Mz N34_ := hf_N2_.tr hsN34_ (by decide) (by decide) (by decide) (by decide)
              have eA1_2_N34_ : ze N34_ 1 2 = ze N2_ 1 2 := hsN34_.ea (hf_N2_.w hW) (by decide)
              have eA1_3_N34_ : ze N34_ 1 3 = ze N2_ 1 3 := hsN34_.ea (hf_N2_.w hW) (by decide)
              have eD1_5_N34_ : ze N34_ (d_ + 1) 5 = ze N2_ (d_ + 1) 5 := hsN34_.e (by decide)
              have eD1_6_N34_ : ze N34_ (d_ + 1) 6 = ze N2_ (d_ + 1) 6 := hsN34_.e (by decide)
              have c36_ : zYb b_ n_ N34_ := zYb.fr (hf_N2_.w hW) hsN34_ c8_ (by decide)
              have c37_ : zYt b_ n_ N34_ := zYt.fr (hf_N2_.w hW) hsN34_ i6_ (by decide)
              have c38_ : zMvK mv_ P_ d_ N34_ := zMvK.fr (hf_N2_.w hW) hsN34_ hmv_ (by decide)
              have c39_ : zGg mv_ P_ d_ N34_ := zGg.fr (hf_N2_.w hW) hsN34_ hgg_ (by decide)
              rcases hp0_N34_ with rfl
              · skip
                show zW l m_Reader_readMoves (zn Mz + 0, zw Mz + 0) N34_ 43 [some (.ref 4), some (.ref (d_ + 0)), some (.int (Int32.ofInt u1_)), some (.int (Int32.ofInt (ze N2_ 1 2))), none] [.int (Int32.ofInt 0)] _
                exact zk_iret (pc := 43) (ty := .boolean) rfl (z_narB (by (decide))) ⟨by (exact hv35_a), by (exact hv35_b)⟩ hf_N34_ ⟨c37_, (show ((0 = 1 ∧ (∃ mv : List Nat, zRg (zbs b_ n_ P_) (0, (ze Mz 1 2).toNat, []) (1, (ze N34_ 1 2).toNat, mv) ∧ zMvK mv P_ d_ N34_ ∧ zGg mv P_ d_ N34_ ∧ ∀ g ∈ mv, gpm g)) ∨ (0 = 0 ∧ zRg (zbs b_ n_ P_) (0, (ze Mz 1 2).toNat, []) zMf)) from Or.inr (⟨(show 0 = 0 by first | rfl | exact hrt_ | exact hre_.tr (zRg.st (zbs_4 hl0_ (by omega))) | (exfalso; omega)), (show zRg (zbs b_ n_ P_) (0, (ze Mz 1 2).toNat, []) zMf by first | rfl | exact hrt_ | exact hre_.tr (zRg.st (zbs_4 hl0_ (by omega))) | (exfalso; omega))⟩))⟩ (zdal_p dlA_Reader_readMoves_96 (i := 22) rfl)
        · skip
          have hl1_ := ha13_0_hp0_N9_
          show zW l m_Reader_readMoves (zn Mz + 0, zw Mz + 0) N2_ 16 [some (.ref 4), some (.ref (d_ + 0)), some (.int (Int32.ofInt u1_)), none, none] [.int (Int32.ofInt 0)] _
          refine zr_if_eq (pc := 16) (tgt := 106) ⟨(by decide), (by decide)⟩ (by decide) (zdal_p dlA_Reader_readMoves_96 (i := 9) rfl) (fun hc_16 => ?_) (fun hc_16 => ?_)
          · skip
            refine zw_iconst (pc := 106) (v := Int32.ofInt 1) (by decide) (zdal_p dlA_Reader_readMoves_98 (i := 5) rfl) ?_
            exact zk_iret (pc := 107) (ty := .boolean) rfl (z_narB (by (decide))) ⟨by (decide), by (decide)⟩ hf_N2_ ⟨i6_, (show ((1 = 1 ∧ (∃ mv : List Nat, zRg (zbs b_ n_ P_) (0, (ze Mz 1 2).toNat, []) (1, (ze N2_ 1 2).toNat, mv) ∧ zMvK mv P_ d_ N2_ ∧ zGg mv P_ d_ N2_ ∧ ∀ g ∈ mv, gpm g)) ∨ (1 = 0 ∧ zRg (zbs b_ n_ P_) (0, (ze Mz 1 2).toNat, []) zMf)) from Or.inl (⟨(show 1 = 1 by first | rfl | exact ⟨mv_, hre_.tr (zRg.st (zbs_e hl1_)), hmv_, hgg_, hpm_⟩ | (exfalso; omega)), (show (∃ mv : List Nat, zRg (zbs b_ n_ P_) (0, (ze Mz 1 2).toNat, []) (1, (ze N2_ 1 2).toNat, mv) ∧ zMvK mv P_ d_ N2_ ∧ zGg mv P_ d_ N2_ ∧ ∀ g ∈ mv, gpm g) by first | rfl | exact ⟨mv_, hre_.tr (zRg.st (zbs_e hl1_)), hmv_, hgg_, hpm_⟩ | (exfalso; omega))⟩))⟩ (zdal_p dlA_Reader_readMoves_98 (i := 6) rfl)
          · skip
            exact absurd hc_16 (by decide)
  exact lp_2 _ 0 (by decide) (by decide) Mz zFc.rf (show 0 ≤ (0 : Int) by first | with_reducible assumption | (decide) | assumption) (show (0 : Int) ≤ ze Mz (d_ + 1) 6 by first | with_reducible assumption | (exact zo_2336 hc1_ r_D1_6.1) | assumption) p1_ (show ∃ mv : List Nat, zRg (zbs b_ n_ P_) (0, (ze Mz 1 2).toNat, []) (0, (ze Mz 1 2).toNat, mv) ∧ zMvK mv P_ d_ Mz ∧ zGg mv P_ d_ Mz ∧ ∀ g ∈ mv, gpm g by exact ⟨[], zRg.rf, p2_, p3_, fun g hg => absurd hg List.not_mem_nil⟩) (Nat.lt_succ_self _)
def gTb (mv : List Nat) (c : Nat → Nat) (T : zGT) : Prop := T ∈ gTabs ∧ (∀ x, gGen mv x ↔ ∃ i, i < gN T ∧ c i = x) ∧ (∀ i j, i < j → j < gN T → c i < c j) ∧ (∀ a b, a < gN T → b < gN T → gm T a b < gN T ∧ c (gm T a b) = gco (c a) (c b)) ∧ ∀ a, a < gN T → gi T a < gN T ∧ gm T a (gi T a) = 0
def zTm (mv : List Nat) (T : zGT) : Prop := ∃ c, gTb mv c T
theorem gTb_i {mv : List Nat} {c : Nat → Nat} {n : Nat} (hp : ∀ g ∈ mv, gpm g) (hF : gFin mv) (hs : ∀ x, gGen mv x ↔ ∃ i, i < n ∧ c i = x) (hc : ∀ i j, i < j → j < n → c i < c j) : ∃ T, gTb mv c T ∧ gN T = n := by
  obtain ⟨e, he, hex⟩ := gcls gGL_w mv hp hF
  obtain ⟨d1, d2, d3, d4, T, hT, t1, t2, t3⟩ := gGL_d e he
  have hset : ∀ y, (∃ i, i < n ∧ c i = y) ↔ (∃ i, i < en e ∧ kL (eL e) i = y) := by
    intro y
    have h1 := hs y
    have h2 := hex y
    constructor
    · intro h
      exact h2.mp (h1.mpr h)
    · intro hy
      exact h1.mp (h2.mpr hy)
  have u1 := gsort_u (a := c) (b := fun i => kL (eL e) i) hc d3 hset
  have u2 := gsort_u (a := fun i => kL (eL e) i) (b := c) d3 hc (fun y => (hset y).symm)
  have hl : n = en e := by
    refine Nat.le_antisymm ?_ ?_
    · rcases Nat.lt_or_ge (en e) n with g | g
      · have := (u1 _ g).1; omega
      · exact g
    · rcases Nat.lt_or_ge n (en e) with g | g
      · have := (u2 _ g).1; omega
      · exact g
  have hn : gN T = n := by omega
  refine ⟨T, ⟨hT, fun x => by rw [hn]; exact hs x, fun i j h1 h2 => hc i j h1 (by omega), fun a b h1 h2 => ?_, fun a h1 => ?_⟩, hn⟩
  · obtain ⟨v1, v2⟩ := t2 a b (by omega) (by omega)
    refine ⟨by omega, ?_⟩
    rw [(u1 _ (by omega : gm T a b < n)).2, (u1 a (by omega)).2, (u1 b (by omega)).2]
    exact v2
  · obtain ⟨v1, v2⟩ := t3 a (by omega)
    exact ⟨by omega, v2⟩
def gdj : List zGT → Bool
  | [] => true
  | T :: l => l.all (fun U => !(Nat.beq T.1 U.1 && Nat.beq T.2.1 U.2.1)) && gdj l
def gnz (T : zGT) : Bool := Nat.ble (gN T) 24 && Nat.blt T.2.1 (2 ^ (120 * gN T)) && (List.range (gN T)).all (fun a => Nat.beq ((T.2.1 >>> (5 * (24 * a + gN T))) % 2 ^ (5 * (24 - gN T))) 0)
theorem gTabs_dj : gdj gTabs = true := by decide +kernel
theorem gTabs_nz : gTabs.all gnz = true := by decide +kernel
theorem gdj_u : ∀ (l : List zGT), gdj l = true → ∀ T ∈ l, ∀ U ∈ l, T.1 = U.1 → T.2.1 = U.2.1 → T = U
  | [], _, T, hT, _, _, _, _ => absurd hT List.not_mem_nil
  | X :: l, h, T, hT, U, hU, e1, e2 => by
    have h' : (l.all (fun U => !(Nat.beq X.1 U.1 && Nat.beq X.2.1 U.2.1)) && gdj l) = true := h
    rw [Bool.and_eq_true, List.all_eq_true] at h'
    obtain ⟨h1, h2⟩ := h'
    have hX : ∀ Y ∈ l, X.1 = Y.1 → X.2.1 = Y.2.1 → False := fun Y hY f1 f2 => by
      have := h1 Y hY
      rw [f1, f2, Nat.beq_refl, Nat.beq_refl] at this
      exact absurd this (by decide)
    rcases List.mem_cons.mp hT with q1 | q1
    · rcases List.mem_cons.mp hU with q2 | q2
      · rw [q1, q2]
      · rw [q1] at e1 e2
        exact (hX U q2 e1 e2).elim
    · rcases List.mem_cons.mp hU with q2 | q2
      · rw [q2] at e1 e2
        exact (hX T q1 e1.symm e2.symm).elim
      · exact gdj_u l h2 T q1 U q2 e1 e2
theorem gdig {x y : Nat} : ∀ k : Nat, (∀ i, i < k → (x >>> (5 * i)) % 32 = (y >>> (5 * i)) % 32) → x % 2 ^ (5 * k) = y % 2 ^ (5 * k)
  | 0, _ => by rw [Nat.mul_zero, Nat.pow_zero, Nat.mod_one, Nat.mod_one]
  | k + 1, h => by
    have ih := gdig k (fun i hi => h i (by omega))
    have hk := h k (by omega)
    rw [Nat.shiftRight_eq_div_pow, Nat.shiftRight_eq_div_pow] at hk
    have e : 2 ^ (5 * (k + 1)) = 2 ^ (5 * k) * 32 := by
      rw [show 5 * (k + 1) = 5 * k + 5 by omega, Nat.pow_add]
    rw [e, Nat.mod_mul, Nat.mod_mul, ih, hk]
theorem gT_uq {T U : zGT} (hT : T ∈ gTabs) (hU : U ∈ gTabs) (hn : gN T = gN U) (hm : ∀ a b, a < gN T → b < gN T → gm T a b = gm U a b) : T = U := by
  have key : ∀ V ∈ gTabs, gN V ≤ 24 ∧ V.2.1 < 2 ^ (5 * (24 * gN V)) ∧ ∀ a, a < gN V → ∀ b, gN V ≤ b → b < 24 → (V.2.1 >>> (5 * (24 * a + b))) % 32 = 0 := by
    intro V hV
    have h := List.all_eq_true.mp gTabs_nz V hV
    unfold gnz at h
    rw [Bool.and_eq_true, Bool.and_eq_true, List.all_eq_true] at h
    obtain ⟨⟨h1, h2⟩, h3⟩ := h
    have h24 : gN V ≤ 24 := Nat.le_of_ble_eq_true h1
    have hlt : V.2.1 < 2 ^ (120 * gN V) := by
      have h4 : Nat.ble (V.2.1 + 1) (2 ^ (120 * gN V)) = true := h2
      exact Nat.le_of_ble_eq_true h4
    refine ⟨h24, by rw [show 5 * (24 * gN V) = 120 * gN V by omega]; exact hlt, fun a ha b hb1 hb2 => ?_⟩
    have h5 := Nat.eq_of_beq_eq_true (h3 a (List.mem_range.mpr ha))
    have e1 : V.2.1 >>> (5 * (24 * a + b)) = (V.2.1 >>> (5 * (24 * a + gN V))) >>> (5 * (b - gN V)) := by
      rw [← Nat.shiftRight_add]
      congr 1
      omega
    rw [e1]
    generalize V.2.1 >>> (5 * (24 * a + gN V)) = z at h5
    have e2 : 2 ^ (5 * (24 - gN V)) = 2 ^ (5 * (b - gN V)) * (32 * 2 ^ (5 * (23 - b))) := by
      rw [show (32 : Nat) = 2 ^ 5 from rfl, ← Nat.pow_add, ← Nat.pow_add]
      congr 1
      omega
    rw [e2] at h5
    rw [Nat.shiftRight_eq_div_pow]
    have h6 := Nat.mod_mul (a := 2 ^ (5 * (b - gN V))) (b := 32 * 2 ^ (5 * (23 - b))) (x := z)
    rw [h5] at h6
    have h7 : z / 2 ^ (5 * (b - gN V)) % (32 * 2 ^ (5 * (23 - b))) = 0 := by
      have hp : 0 < 2 ^ (5 * (b - gN V)) := Nat.two_pow_pos _
      rcases Nat.eq_zero_or_pos (z / 2 ^ (5 * (b - gN V)) % (32 * 2 ^ (5 * (23 - b)))) with g | g
      · exact g
      · have := Nat.mul_pos hp g
        omega
    have h8 := Nat.mod_mul (a := 32) (b := 2 ^ (5 * (23 - b))) (x := z / 2 ^ (5 * (b - gN V)))
    rw [h7] at h8
    omega
  obtain ⟨a1, a2, a3⟩ := key T hT
  obtain ⟨b1, b2, b3⟩ := key U hU
  refine gdj_u gTabs gTabs_dj T hT U hU hn ?_
  have hd := gdig (x := T.2.1) (y := U.2.1) (24 * gN T) (fun i hi => by
    have e : i = 24 * (i / 24) + i % 24 := by omega
    have hb : i % 24 < 24 := Nat.mod_lt _ (by decide)
    have ha : i / 24 < gN T := by omega
    by_cases g : i % 24 < gN T
    · have := hm (i / 24) (i % 24) ha g
      unfold gm at this
      rw [← e] at this
      exact this
    · have h1 := a3 (i / 24) ha (i % 24) (by omega) hb
      have h2 := b3 (i / 24) (by omega) (i % 24) (by omega) hb
      rw [← e] at h1 h2
      rw [h1, h2])
  rw [Nat.mod_eq_of_lt a2, hn, Nat.mod_eq_of_lt b2] at hd
  exact hd
theorem zTm_uq {mv : List Nat} {T U : zGT} (hT : zTm mv T) (hU : zTm mv U) : T = U := by
  obtain ⟨c, a1, a2, a3, a4, a5⟩ := hT
  obtain ⟨e, b1, b2, b3, b4, b5⟩ := hU
  have hset : ∀ y, (∃ i, i < gN T ∧ c i = y) ↔ (∃ i, i < gN U ∧ e i = y) := fun y => (a2 y).symm.trans (b2 y)
  have u1 := gsort_u (a := c) (b := e) a3 b3 hset
  have u2 := gsort_u (a := e) (b := c) b3 a3 (fun y => (hset y).symm)
  have hn : gN T = gN U := by
    refine Nat.le_antisymm ?_ ?_
    · rcases Nat.lt_or_ge (gN U) (gN T) with g | g
      · have := (u1 _ g).1; omega
      · exact g
    · rcases Nat.lt_or_ge (gN T) (gN U) with g | g
      · have := (u2 _ g).1; omega
      · exact g
  refine gT_uq a1 b1 hn (fun a b ha hb => ?_)
  obtain ⟨p1, p2⟩ := a4 a b ha hb
  obtain ⟨q1, q2⟩ := b4 a b (by omega) (by omega)
  rw [(u1 a ha).2, (u1 b hb).2, ← q2, (u1 _ p1).2] at p2
  rcases Nat.lt_trichotomy (gm T a b) (gm U a b) with g | g | g
  · have := b3 _ _ g q1
    omega
  · exact g
  · have := b3 _ _ g (by omega)
    omega
def zst (f : Nat → Int) (t : Nat) (c : Int) : Nat → Int := fun j => if j = t then c else f j
def ziA (f0 g : Nat → Int) (n : Nat) : Prop := ∀ y, (∃ j, j < n ∧ g j = y) ↔ ∃ j, j < n ∧ f0 j = y
def ziB (κ : Int → Int) (g : Nat → Int) (n : Nat) : Prop := ∀ a b, a < n → b < n → a ≠ b → κ (g a) ≠ κ (g b)
def ziS (κ : Int → Int) (f : Nat → Int) (i : Nat) : Prop := ∀ a b, a < b → b < i → κ (f a) < κ (f b)
def zSoK (κ : Int → Int) (f0 f : Nat → Int) (n i : Nat) : Prop := ziA f0 f n ∧ ziB κ f n ∧ ziS κ f i
def zSj (κ : Int → Int) (f0 f : Nat → Int) (n i t : Nat) (c : Int) : Prop := (t ≤ i ∧ i < n) ∧ ziA f0 (zst f t c) n ∧ ziB κ (zst f t c) n ∧ (∀ a b, a < b → b ≤ i → a ≠ t → b ≠ t → κ (f a) < κ (f b)) ∧ ∀ b, t < b → b ≤ i → κ c < κ (f b)
section ZSO
variable {κ : Int → Int} {f0 f f' : Nat → Int} {n i t : Nat} {c : Int}
theorem zst_t : zst f t c t = c := if_pos rfl
theorem zst_o {j : Nat} (h : j ≠ t) : zst f t c j = f j := if_neg h
theorem zSo_0 (hB : ziB κ f n) : zSoK κ f f n 1 := ⟨fun _ => Iff.rfl, hB, fun a b h1 h2 => absurd h2 (by omega)⟩
theorem zSj_0 (h : zSoK κ f0 f n i) (hi : i < n) : zSj κ f0 f n i i (f i) := by
  have e : zst f i (f i) = f := funext fun j => by
    unfold zst
    split
    · rename_i g; rw [g]
    · rfl
  refine ⟨⟨Nat.le_refl _, hi⟩, by rw [e]; exact h.1, by rw [e]; exact h.2.1, fun a b h1 h2 _ h4 => h.2.2 a b h1 (by omega), fun b h1 h2 => absurd h1 (by omega)⟩
theorem zSj_s (h : zSj κ f0 f n i t c) (t1 : 1 ≤ t) (hc : κ c < κ (f (t - 1))) (hf : ∀ j, f' j = zst f t (f (t - 1)) j) : zSj κ f0 f' n i (t - 1) c := by
  obtain ⟨⟨a1, a2⟩, a3, a4, a5, a6⟩ := h
  have g1 : ∀ j, zst f' (t - 1) c j = zst f t c (if j = t - 1 then t else if j = t then t - 1 else j) := by
    intro j
    by_cases e1 : j = t - 1
    · rw [if_pos e1, e1, zst_t, zst_t]
    · rw [if_neg e1, zst_o e1, hf j]
      by_cases e2 : j = t
      · rw [if_pos e2, e2, zst_t, zst_o (by omega)]
      · rw [if_neg e2, zst_o e2, zst_o e2]
  refine ⟨⟨by omega, a2⟩, fun y => ?_, fun a b ha hb hab => ?_, fun a b h1 h2 h3 h4 => ?_, fun b h1 h2 => ?_⟩
  · rw [← a3 y]
    constructor
    · rintro ⟨j, hj, e⟩
      rw [g1] at e
      refine ⟨_, ?_, e⟩
      split
      · omega
      · split <;> omega
    · rintro ⟨j, hj, e⟩
      refine ⟨if j = t - 1 then t else if j = t then t - 1 else j, ?_, ?_⟩
      · split
        · omega
        · split <;> omega
      · rw [g1]
        by_cases e1 : j = t - 1
        · rw [if_pos e1, if_neg (by omega), if_pos rfl, ← e1]
          exact e
        · rw [if_neg e1]
          by_cases e2 : j = t
          · rw [if_pos e2, if_pos rfl]
            rw [e2] at e
            exact e
          · rw [if_neg e2, if_neg e1, if_neg e2]
            exact e
  · rw [g1, g1]
    refine a4 _ _ ?_ ?_ ?_
    · split
      · omega
      · split <;> omega
    · split
      · omega
      · split <;> omega
    · intro e
      split at e
      · split at e
        · omega
        · split at e <;> omega
      · split at e
        · split at e
          · omega
          · split at e <;> omega
        · split at e
          · omega
          · split at e <;> omega
  · rw [hf a, hf b]
    by_cases e1 : b = t
    · rw [e1, zst_t, zst_o (by omega)]
      exact a5 a (t - 1) (by omega) (by omega) (by omega) (by omega)
    · rw [zst_o e1]
      by_cases e2 : a = t
      · rw [e2, zst_t]
        exact a5 (t - 1) b (by omega) h2 (by omega) e1
      · rw [zst_o e2]
        exact a5 a b h1 h2 e2 e1
  · rw [hf b]
    by_cases e1 : b = t
    · rw [e1, zst_t]
      exact hc
    · rw [zst_o e1]
      exact a6 b (by omega) h2
theorem zSj_e (h : zSj κ f0 f n i t c) (hc : t = 0 ∨ ¬ κ c < κ (f (t - 1))) (hf : ∀ j, f' j = zst f t c j) : zSoK κ f0 f' n (i + 1) := by
  obtain ⟨⟨a1, a2⟩, a3, a4, a5, a6⟩ := h
  have e : f' = zst f t c := funext hf
  rw [e]
  refine ⟨a3, a4, fun a b h1 h2 => ?_⟩
  by_cases e1 : a = t
  · rw [e1, zst_t, zst_o (by omega)]
    exact a6 b (by omega) (by omega)
  · rw [zst_o e1]
    by_cases e2 : b = t
    · rw [e2, zst_t]
      have h3 : t ≠ 0 := by omega
      have h4 : ¬ κ c < κ (f (t - 1)) := hc.resolve_left h3
      have h5 := a4 (t - 1) t (by omega) (by omega) (by omega)
      rw [zst_t, zst_o (by omega)] at h5
      by_cases e3 : a = t - 1
      · rw [e3]
        omega
      · have := a5 a (t - 1) (by omega) (by omega) (by omega) (by omega)
        omega
    · rw [zst_o e2]
      exact a5 a b h1 (by omega) e1 e2
end ZSO
def zRw (d o : Nat) (Mz : zMem) : Nat → Int := fun j => ze Mz (d + o) j
theorem zRw_w {d o : Nat} {Mz Nz : zMem} {t v : Int} (h : Nz = zsI Mz (d + o) t.toNat (Int32.ofInt v)) (hv : zn32 v) : ∀ j, zRw d o Nz j = zst (zRw d o Mz) t.toNat v j := fun j => by
  unfold zst zRw
  by_cases g : j = t.toNat
  · rw [if_pos g, g]
    exact zs_get h hv
  · rw [if_neg g]
    exact zs_oth h g
def zGc (mv : List Nat) (P : Nat) (T : zGT) (d : Nat) (Mz : zMem) : Prop := gTb mv (zCo P d Mz) T ∧ ze Mz (d + 1) 7 = (gN T : Int) ∧ ∀ i, i < gN T → zkv P (ze Mz (d + 5) i)
def zTt (T : zGT) (d : Nat) (Mz : zMem) : Prop := ze Mz (d + 1) 7 = (gN T : Int) ∧ (∀ x y, x < gN T → y < gN T → ze Mz (d + 7) (24 * x + y) = ((gm T x y : Nat) : Int)) ∧ ∀ x, x < gN T → ze Mz (d + 9) x = ((gi T x : Nat) : Int)
def zPkK (T : zGT) (d : Nat) (Mz : zMem) (a b : Int) : Prop := (∀ x y : Nat, x < gN T → y < gN T → ((x : Int) < a ∨ ((x : Int) = a ∧ (y : Int) < b)) → ze Mz (d + 7) (24 * x + y) = ((gm T x y : Nat) : Int)) ∧ ∀ x : Nat, x < gN T → (x : Int) < a → ze Mz (d + 9) x = ((gi T x : Nat) : Int)
def zPv (T : zGT) (d : Nat) (Mz : zMem) (a b : Int) : Prop := (∀ y : Nat, (y : Int) < b → gm T a.toNat y ≠ 0) ∨ ze Mz (d + 9) a.toNat = ((gup (giF T a.toNat) 0 b.toNat : Nat) : Int)
section ZKQ
variable {d P : Nat} {T : zGT} {mv : List Nat} {FA : List (Nat × Nat)} {CA : List Nat} {FR : List (Nat × Nat)} {CR : List Nat} {Mz Nz : zMem} {a b : Int}
theorem zGc.fr (_ : zKW d Mz) (hf : zFc d FA CA FR CR Mz Nz) (h : zGc mv P T d Mz) (hd : (1 < 38 ∧ 1 ∉ CR ∧ (1, 7) ∉ FR) ∧ 5 < 38 ∧ 5 ∉ CR ∧ ∀ x ∈ FR, x.1 ≠ 5) : zGc mv P T d Nz := by
  have e : zCo P d Nz = zCo P d Mz := funext fun i => by
    unfold zCo
    rw [hf.r hd.2]
  unfold zGc
  rw [hf.e hd.1, e]
  exact ⟨h.1, h.2.1, fun i hi => by rw [hf.r hd.2]; exact h.2.2 i hi⟩
theorem zTt.fr (_ : zKW d Mz) (hf : zFc d FA CA FR CR Mz Nz) (h : zTt T d Mz) (hd : (1 < 38 ∧ 1 ∉ CR ∧ (1, 7) ∉ FR) ∧ (7 < 38 ∧ 7 ∉ CR ∧ ∀ x ∈ FR, x.1 ≠ 7) ∧ 9 < 38 ∧ 9 ∉ CR ∧ ∀ x ∈ FR, x.1 ≠ 9) : zTt T d Nz := by
  unfold zTt
  rw [hf.e hd.1]
  exact ⟨h.1, fun x y hx hy => by rw [hf.r hd.2.1]; exact h.2.1 x y hx hy, fun x hx => by rw [hf.r hd.2.2]; exact h.2.2 x hx⟩
theorem zGg.s (h : zGg mv P d Mz) : zSoK (fun x => x) (zRw d 5 Mz) (zRw d 5 Mz) (ze Mz (d + 1) 7).toNat 1 := by
  obtain ⟨h1, h2, h3, h4, h5⟩ := h
  have key : ∀ i j : Nat, i < j → (j : Int) < ze Mz (d + 1) 7 → ze Mz (d + 5) i ≠ ze Mz (d + 5) j := fun i j hij hj e => h4 i j hij hj (by unfold zCo; rw [e])
  refine zSo_0 (fun a b ha hb hab => ?_)
  rcases Nat.lt_or_ge a b with g | g
  · exact key a b g (by omega)
  · exact fun e => key b a (by omega) (by omega) e.symm
theorem zGg.t (h : zGg mv P d Mz) (hp : ∀ g ∈ mv, gpm g) {i : Nat} (hs : zSoK (fun x => x) (zRw d 5 Mz) (zRw d 5 Nz) (ze Mz (d + 1) 7).toNat i) (hi : (ze Mz (d + 1) 7).toNat ≤ i) (h7 : ze Nz (d + 1) 7 = ze Mz (d + 1) 7) : ∃ T, zGc mv P T d Nz := by
  obtain ⟨h1, h2, h3, h4, h5⟩ := h
  obtain ⟨a1, a2, a3⟩ := hs
  have hv : ∀ j : Nat, (j : Int) < ze Mz (d + 1) 7 → zkv P (ze Nz (d + 5) j) := fun j hj => by
    obtain ⟨k, hk, e⟩ := (a1 (ze Nz (d + 5) j)).mp ⟨j, by omega, rfl⟩
    have e' : ze Mz (d + 5) k = ze Nz (d + 5) j := e
    rw [← e']
    exact h1 k (by omega)
  have hset : ∀ x, gGen mv x ↔ ∃ j, j < (ze Mz (d + 1) 7).toNat ∧ zCo P d Nz j = x := fun x => by
    rw [h3 x]
    constructor
    · rintro ⟨k, hk, rfl⟩
      obtain ⟨j, hj, e⟩ := (a1 (ze Mz (d + 5) k)).mpr ⟨k, by omega, rfl⟩
      have e' : ze Nz (d + 5) j = ze Mz (d + 5) k := e
      exact ⟨j, hj, by unfold zCo; rw [e']⟩
    · rintro ⟨j, hj, rfl⟩
      obtain ⟨k, hk, e⟩ := (a1 (ze Nz (d + 5) j)).mp ⟨j, hj, rfl⟩
      have e' : ze Mz (d + 5) k = ze Nz (d + 5) j := e
      exact ⟨k, by omega, by unfold zCo; rw [e']⟩
  obtain ⟨T, hT, hn⟩ := gTb_i hp h5 hset (fun x y hxy hy => by
    have := a3 x y hxy (by omega)
    unfold zCo
    exact (zkc_l (hv x (by omega)).1 (hv y (by omega)).1).mpr this)
  exact ⟨T, hT, by omega, fun j hj => hv j (by omega)⟩
theorem zGc.v (h : zGc mv P T d Mz) (hP : P ≤ 6) (ha : 0 ≤ a ∧ a < ze Mz (d + 1) 7) (hb : 0 ≤ b ∧ b < ze Mz (d + 1) 7) {x y z v : Int} (hy : y = ze Mz (d + 5) a.toNat) (hz : z = ze Mz (d + 5) b.toNat) (hx : x = ((zbe P y z : Nat) : Int)) : (0 ≤ v → v < ze Mz (d + 1) 7 → ze Mz (d + 5) v.toNat = x → v = ((gm T a.toNat b.toNat : Nat) : Int)) ∧ ¬ ∀ i : Nat, (i : Int) < ze Mz (d + 1) 7 → ze Mz (d + 5) i ≠ x := by
  obtain ⟨⟨a1, a2, a3, a4, a5⟩, h7, hk⟩ := h
  obtain ⟨p1, p2⟩ := a4 a.toNat b.toNat (by omega) (by omega)
  have ka := hk a.toNat (by omega)
  have kb := hk b.toNat (by omega)
  rw [← hy] at ka
  rw [← hz] at kb
  have e : zkc P x = zCo P d Mz (gm T a.toNat b.toNat) := by
    rw [p2, hx, zbe_c hP ka kb, hy, hz]
    rfl
  have x0 : 0 ≤ x := by omega
  have em : ze Mz (d + 5) (gm T a.toNat b.toNat) = x := ((zkc_i (hk _ p1).1 x0).mp e.symm)
  refine ⟨fun v0 v1 hv => ?_, fun hn => hn _ (by omega) em⟩
  have e2 : zCo P d Mz v.toNat = zCo P d Mz (gm T a.toNat b.toNat) := by
    unfold zCo
    rw [hv, em]
  rcases Nat.lt_trichotomy v.toNat (gm T a.toNat b.toNat) with g | g | g
  · have := a3 _ _ g p1
    omega
  · omega
  · have := a3 _ _ g (by omega)
    omega
theorem zPkK_0 : zPkK T d Mz 0 0 := ⟨fun x y _ _ h => absurd h (by omega), fun x _ h => absurd h (by omega)⟩
theorem zPv_0 : zPv T d Mz a 0 := Or.inl (fun y h => absurd h (by omega))
theorem zPk_s {v : Int} (h24 : gN T ≤ 24) (a0 : 0 ≤ a) (b0 : 0 ≤ b) (bn : b < (gN T : Int)) (an : a < (gN T : Int)) (h : zPkK T d Mz a b) (hu : zPv T d Mz a b) (hv : v = ((gm T a.toNat b.toNat : Nat) : Int)) (v1 : v < 24) (hN : Nz = zsI Mz (d + 7) (a * 24 + b).toNat (Int32.ofInt v)) (h9 : ∀ j : Nat, ze Nz (d + 9) j = ze Mz (d + 9) j) : zPkK T d Nz a (b + 1) ∧ zPv T d Nz a b := by
  refine ⟨⟨fun x y hx hy hd => ?_, fun x hx hxa => ?_⟩, ?_⟩
  · by_cases g : (x : Int) = a ∧ (y : Int) = b
    · rw [show 24 * x + y = (a * 24 + b).toNat by omega, zs_get hN ⟨by omega, by omega⟩, hv, show a.toNat = x by omega, show b.toNat = y by omega]
    · rw [zs_oth hN (by omega)]
      exact h.1 x y hx hy (by omega)
  · rw [h9]
    exact h.2 x hx hxa
  · unfold zPv
    rw [h9]
    exact hu
theorem zPv_n (b0 : 0 ≤ b) (hu : zPv T d Mz a b) (hz : gm T a.toNat b.toNat ≠ 0) : zPv T d Mz a (b + 1) := by
  unfold zPv at hu ⊢
  rw [show (b + 1).toNat = b.toNat + 1 by omega]
  rcases hu with h | h
  · refine Or.inl (fun y hy => ?_)
    by_cases g : (y : Int) = b
    · rw [show y = b.toNat by omega]
      exact hz
    · exact h y (by omega)
  · refine Or.inr ?_
    show _ = ((giF T a.toNat b.toNat (gup (giF T a.toNat) 0 b.toNat) : Nat) : Int)
    unfold giF at h ⊢
    rw [if_neg hz]
    exact h
theorem zPv_s (h24 : gN T ≤ 24) (a0 : 0 ≤ a) (b0 : 0 ≤ b) (b1 : b < 24) (h : zPkK T d Mz a (b + 1)) (hz : gm T a.toNat b.toNat = 0) (hN : Nz = zsI Mz (d + 9) a.toNat (Int32.ofInt b)) (h7 : ∀ j : Nat, ze Nz (d + 7) j = ze Mz (d + 7) j) : zPkK T d Nz a (b + 1) ∧ zPv T d Nz a (b + 1) := by
  refine ⟨⟨fun x y hx hy hd => by rw [h7]; exact h.1 x y hx hy hd, fun x hx hxa => ?_⟩, Or.inr ?_⟩
  · rw [zs_oth hN (by omega)]
    exact h.2 x hx hxa
  · rw [zs_get hN ⟨by omega, by omega⟩, show (b + 1).toNat = b.toNat + 1 by omega]
    show _ = ((giF T a.toNat b.toNat (gup (giF T a.toNat) 0 b.toNat) : Nat) : Int)
    unfold giF
    rw [if_pos hz]
    omega
theorem zPk_n (hi : ∀ x, x < gN T → gi T x < gN T ∧ gm T x (gi T x) = 0) (a0 : 0 ≤ a) (an : a < (gN T : Int)) (h : zPkK T d Mz a b) (hu : zPv T d Mz a b) (hb : b = (gN T : Int)) : zPkK T d Mz (a + 1) 0 := by
  refine ⟨fun x y hx hy hd => h.1 x y hx hy (by omega), fun x hx hxa => ?_⟩
  by_cases g : (x : Int) = a
  · have e : a.toNat = x := by omega
    unfold zPv at hu
    rw [e] at hu
    rcases hu with hu | hu
    · have := hi x hx
      exact absurd this.2 (hu _ (by omega))
    · rw [hu, hb, Int.toNat_natCast]
      rfl
  · exact h.2 x hx (by omega)
theorem zPk_e (h7 : ze Mz (d + 1) 7 = (gN T : Int)) (h : zPkK T d Mz a 0) (ha : (gN T : Int) ≤ a) : zTt T d Mz := ⟨h7, fun x y hx hy => h.1 x y hx hy (by omega), fun x hx => h.2 x hx (by omega)⟩
end ZKQ
noncomputable def kexk (n : Nat) (p : Nat → Bool) : Bool := Nat.rec false (fun k ih => cond (p k) true ih) n
theorem kexk_s {p : Nat → Bool} : ∀ {n : Nat}, kexk n p = true → ∃ k, k < n ∧ p k = true
  | 0, h => by cases h
  | n + 1, h => by
    have h' : cond (p n) true (kexk n p) = true := h
    cases hp : p n with
    | true => exact ⟨n, by omega, hp⟩
    | false =>
      rw [hp] at h'
      obtain ⟨k, h1, h2⟩ := kexk_s (n := n) h'
      exact ⟨k, by omega, h2⟩
noncomputable def ksr (l : List Nat) : Nat → Bool := List.rec (fun _ => true) (fun x _ ih k => cond (Nat.ble (Nat.succ k) (kky x)) (ih (kky x)) false) l
theorem ksr_s : ∀ (l : List Nat) (k : Nat), ksr l k = true → (∀ i, i < l.length → k < kky (l.getD i 0)) ∧ ∀ i j, i < j → j < l.length → kky (l.getD i 0) < kky (l.getD j 0)
  | [], k, _ => ⟨fun i h => absurd h (Nat.not_lt_zero i), fun i j _ h => absurd h (Nat.not_lt_zero j)⟩
  | x :: l, k, h => by
    have h' : cond (Nat.ble (Nat.succ k) (kky x)) (ksr l (kky x)) false = true := h
    obtain ⟨h1, h2⟩ := kcd.mp h'
    have h1 := kbl.mp h1
    obtain ⟨r1, r2⟩ := ksr_s l _ h2
    have g0 : (x :: l).getD 0 0 = x := rfl
    have gs : ∀ i, (x :: l).getD (i + 1) 0 = l.getD i 0 := fun i => rfl
    refine ⟨fun i hi => ?_, fun i j hij hj => ?_⟩
    · cases i with
      | zero => rw [g0]; exact h1
      | succ i =>
        rw [gs]
        have := r1 i (by rw [List.length_cons] at hi; omega)
        omega
    · cases j with
      | zero => omega
      | succ j =>
        rw [List.length_cons] at hj
        cases i with
        | zero =>
          rw [g0, gs]
          exact r1 j (by omega)
        | succ i =>
          rw [gs, gs]
          exact r2 i j (by omega) (by omega)
noncomputable def kct (n P Fp Ip i j : Nat) : Nat := kup (fun g r => cond (Nat.beq (Nat.land (ktr n P Ip (kF Fp j) g) (kF Fp i)) (ktr n P Ip (kF Fp j) g)) (Nat.succ r) r) 0 n
def kbc3 (y : Nat) : Nat := Nat.land (Nat.add y (Nat.shiftRight y 4)) 252645135
def kbc4 (y : Nat) : Nat := Nat.add y (Nat.shiftRight y 8)
def kbc5 (y : Nat) : Nat := Nat.land (Nat.add y (Nat.shiftRight y 16)) 63
def kbc1 (x : Nat) : Nat := Nat.sub x (Nat.land (Nat.shiftRight x 1) 1431655765)
def kbc2 (y : Nat) : Nat := Nat.add (Nat.land y 858993459) (Nat.land (Nat.shiftRight y 2) 858993459)
def kbc (x : Nat) : Nat := kbc5 (kbc4 (kbc3 (kbc2 (kbc1 x))))
noncomputable def kchk2 (n P : Nat) (S L F : List Nat) (Fp Ip Kp : Nat) (KL : List Nat) : Bool := cond (cond (Nat.ble (klen S) 35) (Nat.ble (klen F) 27) false) (cond (cond (kall S (fun s => kmem L s)) (kall L (fun s => kmem S s)) false) (cond (cond (ksr L 0) (kall S (fun s => Nat.beq (kbc s) (kcb s))) false) (cond (kall F (fun f => klt n (fun g => cond (kmem S (ktr n P Ip f g)) (cond (kmem F (ktr n P Ip f g)) (Nat.beq (ktr n P Ip f g) f) true) false))) (cond (kall S (fun s => kexk n (fun g => Nat.beq (ktr n P Ip (kle n P Ip s) g) s))) (cond (klt (klen F) (fun i => klt (klen F) (fun j => Nat.beq (kct n P Fp Ip i j) (Nat.mul (kK Kp i j) (kcb (kF Fp i)))))) (kmem KL (Nat.add (Nat.mul Kp 64) (klen F))) false) false) false) false) false) false
def gct (T : zGT) (F H : Nat) : Nat := gup (fun g r => if gtr T H g &&& F = gtr T H g then r + 1 else r) 0 (gN T)
def gOL (T : zGT) (L : List Nat) (Kp : Nat) (KL : List Nat) : Prop := ((gS T).length ≤ 35 ∧ (gF T).length ≤ 27) ∧ (∀ s, s ∈ gS T ↔ s ∈ L) ∧ (∀ i j, i < j → j < L.length → gky (L.getD i 0) < gky (L.getD j 0)) ∧ (∀ f ∈ gF T, ∀ g, g < gN T → gtr T f g ∈ gS T ∧ (gtr T f g ∈ gF T → gtr T f g = f)) ∧ (∀ s ∈ gS T, ∃ g, g < gN T ∧ gtr T (glt T s) g = s) ∧ (∀ i j, i < (gF T).length → j < (gF T).length → gct T ((gF T).getD i 0) ((gF T).getD j 0) = gmk T ((gF T).getD i 0) ((gF T).getD j 0) * gcb ((gF T).getD i 0)) ∧ (∀ i j, i < (gF T).length → j < (gF T).length → gmk T ((gF T).getD i 0) ((gF T).getD j 0) = kK Kp i j) ∧ Kp * 64 + (gF T).length ∈ KL ∧ (∀ s ∈ gS T, gcb (glt T s) = gcb s) ∧ ∀ s ∈ gS T, kbc s = gcb s
theorem kchk2_s {n P : Nat} {S L F : List Nat} {Fp Ip Cp Kp Qp Dp : Nat} {KL B W E : List Nat} (h0 : kall4 n P S F Fp Ip Cp Kp Qp Dp B W E = true) (h2 : kchk2 n P S L F Fp Ip Kp KL = true) : gOL (n, P, S, F, []) L Kp KL := by
  have h : kchk n P S F Fp Ip Cp Kp Qp Dp = true := (kcd.mp h0).1
  obtain ⟨hA, hr⟩ := kcd.mp h
  obtain ⟨hB, hr⟩ := kcd.mp hr
  obtain ⟨hE, hr⟩ := kcd.mp hr
  obtain ⟨hg, hr⟩ := kcd.mp hr
  clear h hr hB
  generalize eT : ((n, P, S, F, []) : zGT) = T
  have tN : gN T = n := by rw [← eT]; rfl
  have tP : T.2.1 = P := by rw [← eT]
  have tS : gS T = S := by rw [← eT]; rfl
  have tF : gF T = F := by rw [← eT]; rfl
  have hgm : ∀ a b, kgm P a b = gm T a b := fun a b => by rw [← tP]; rfl
  obtain ⟨a1, a2⟩ := kcd.mp hA
  obtain ⟨a2, a3⟩ := kcd.mp a2
  have a1 := kbl.mp a1
  have a2 := kbl.mp a2
  have a3 := klt_s a3
  have hI : ∀ a, a < n → kI Ip a = gi T a := by
    intro a ha
    obtain ⟨-, b2⟩ := kcd.mp (a3 a ha)
    obtain ⟨b2, -⟩ := kcd.mp b2
    rw [← kbq.mp b2]
    unfold gi
    rw [tN]
    exact kup_c 0 n (fun k r _ => by rw [kif, hgm])
  have hG : gGd T := by
    refine ⟨by omega, by omega, fun a ha => ?_, fun a b ha hb => ?_⟩
    · rw [tN] at ha ⊢
      rw [← hI a ha]
      exact kbl.mp (kcd.mp (a3 a ha)).1
    · rw [tN] at ha hb ⊢
      rw [← hgm]
      exact kbl.mp (klt_s (kcd.mp (kcd.mp (a3 a ha)).2).2 b hb)
  have htr : ∀ X g, g < n → ktr n P Ip X g = gtr T X g := by
    intro X g hgn
    rw [gtr_e, tN]
    refine kup_c 0 n (fun k r _ => ?_)
    rw [kib, hgm, hgm, hI g hgn]
    rfl
  have hle : ∀ X, kle n P Ip X = glt T X := by
    intro X
    rw [glt_e, tN]
    refine kup_c X n (fun k r hk => ?_)
    rw [kil, htr X k hk]
    rfl
  have hcb : ∀ X, kcb X = gcb X := fun X => kup_e _ _ _
  have hky : ∀ X, kky X = gky X := fun X => by
    show kcb X * 16777216 + X = _
    rw [hcb]; rfl
  obtain ⟨e1, e2⟩ := kcd.mp hE
  obtain ⟨e2, -⟩ := kcd.mp e2
  have hFi : ∀ i, i < F.length → F.getD i 0 = kF Fp i := fun i hi => by
    have := kfl_s e1 i hi
    rwa [Nat.zero_add] at this
  obtain ⟨g1, g2⟩ := kcd.mp hg
  obtain ⟨g2, g3⟩ := kcd.mp g2
  obtain ⟨g3, -⟩ := kcd.mp g3
  rw [klen_e] at g2 g3
  have hC : ∀ i x, i < F.length → x < n → kC Cp i x = gcos T (F.getD i 0) x := by
    intro i x hi hx
    have := kbq.mp (klt_s (klt_s g2 i hi) x hx)
    rw [← this, gcos_e, tN, hFi i hi]
    refine kup_c x n (fun k r _ => ?_)
    rw [kib, kil, hgm]
    show _ = (if (kF Fp i).testBit k && decide (gm T k x < r) then gm T k x else r)
    cases (kF Fp i).testBit k <;> simp
  have hfx : ∀ i H x, i < F.length → x < n → kfx n P Cp i H x = gfx T (F.getD i 0) H x := by
    intro i H x hi hx
    refine Bool.eq_iff_iff.mpr ?_
    rw [gfx_t]
    unfold kfx
    rw [kcd, kbq, hC i x hi hx, tN]
    refine and_congr Iff.rfl ⟨fun h k hk hb => ?_, fun h => klt_i fun k hk => ?_⟩
    · have := klt_s h k hk
      rw [kib, if_pos hb, kbq, hgm, hC i _ hi (by have := hG.2.2.2 x k (by omega) (by omega); omega)] at this
      exact this
    · rw [kib]
      split
      · rename_i hb
        rw [kbq, hgm, hC i _ hi (by have := hG.2.2.2 x k (by omega) (by omega); omega)]
        exact h k hk hb
      · rfl
  have hmk : ∀ i k, i < F.length → k < F.length → kK Kp i k = gmk T (F.getD i 0) (F.getD k 0) := by
    intro i k hi hk
    rw [← kbq.mp (klt_s (klt_s g3 i hi) k hk), gmk_e, tN, ← hFi k hk]
    refine kup_c 0 n (fun x r hx => ?_)
    rw [hfx i _ x hi hx]
    show _ = r + (gfx T (F.getD i 0) (F.getD k 0) x).toNat
    cases gfx T (F.getD i 0) (F.getD k 0) x <;> rfl
  -- the second check
  obtain ⟨u1, hr⟩ := kcd.mp h2
  obtain ⟨u2, hr⟩ := kcd.mp hr
  obtain ⟨u3, hr⟩ := kcd.mp hr
  obtain ⟨u4, hr⟩ := kcd.mp hr
  obtain ⟨u5, hr⟩ := kcd.mp hr
  obtain ⟨u6, u7⟩ := kcd.mp hr
  have hnt : ∀ s, s ∈ S → ∃ g, g < n ∧ gtr T (glt T s) g = s := fun s hs => by
    obtain ⟨g, hg1, hg2⟩ := kexk_s (kall_s u5 s hs)
    rw [kbq, hle, htr _ _ hg1] at hg2
    exact ⟨g, hg1, hg2⟩
  unfold gOL
  rw [tN, tS, tF]
  obtain ⟨l1, l2⟩ := kcd.mp u1
  rw [klen_e] at l1 l2 u6 u7
  refine ⟨⟨kbl.mp l1, kbl.mp l2⟩, fun s => ⟨fun hs => kmem_s (kall_s (kcd.mp u2).1 s hs), fun hs => kmem_s (kall_s (kcd.mp u2).2 s hs)⟩, fun i j hij hj => ?_, fun f hf g hgn => ?_, hnt, fun i j hi hj => ?_, fun i j hi hj => (hmk i j hi hj).symm, kmem_s u7, fun s hs => ?_, fun s hs => ?_⟩
  · have := (ksr_s L 0 (kcd.mp u3).1).2 i j hij hj
    rwa [hky, hky] at this
  · have h4 := klt_s (kall_s u4 f hf) g hgn
    obtain ⟨h5, h6⟩ := kcd.mp h4
    rw [htr f g hgn] at h5 h6
    refine ⟨kmem_s h5, fun hm => ?_⟩
    cases hmm : kmem F (gtr T f g) with
    | true =>
      rw [hmm] at h6
      exact kbq.mp h6
    | false =>
      exact absurd (kmem_i hm) (by rw [hmm]; decide)
  · have h6 := kbq.mp (klt_s (klt_s u6 i hi) j hj)
    have h7 : kct n P Fp Ip i j = gct T (F.getD i 0) (F.getD j 0) := by
      unfold gct
      rw [tN]
      refine kup_c 0 n (fun g r hgn => ?_)
      rw [kif, htr _ g hgn, hFi i hi, hFi j hj]
      rfl
    rw [← h7, h6, ← hmk i j hi hj, hFi i hi, hcb]
    rfl
  · have h8 := kbq.mp (kcd.mp (kall_s e2 s hs)).2
    rwa [hle, hcb, hcb] at h8
  · have h8 := kbq.mp (kall_s (kcd.mp u3).2 s hs)
    rwa [hcb] at h8
noncomputable def kct5 (n P Fp Ip i j : Nat) : Nat := kup (fun g r => cond (Nat.beq (Nat.land (kt5 n P Ip (kF Fp j) g) (kF Fp i)) (kt5 n P Ip (kF Fp j) g)) (Nat.succ r) r) 0 n
noncomputable def kchk5 (n P : Nat) (S L F : List Nat) (Fp Ip Kp : Nat) (KL : List Nat) : Bool := cond (cond (Nat.ble (klen S) 35) (Nat.ble (klen F) 27) false) (cond (cond (kall S (fun s => kmem L s)) (kall L (fun s => kmem S s)) false) (cond (cond (ksr L 0) (kall S (fun s => Nat.beq (kbc s) (kcb s))) false) (cond (kall F (fun f => klt n (fun g => cond (kmem S (kt5 n P Ip f g)) (cond (kmem F (kt5 n P Ip f g)) (Nat.beq (kt5 n P Ip f g) f) true) false))) (cond (kall S (fun s => cond (Nat.ble (Nat.succ (kle5 n P Ip s)) (Nat.pow 2 n)) (kexk n (fun g => Nat.beq (kt5 n P Ip (kle5 n P Ip s) g) s)) false)) (cond (klt (klen F) (fun i => klt (klen F) (fun j => Nat.beq (kct5 n P Fp Ip i j) (Nat.mul (kK Kp i j) (kcb (kF Fp i)))))) (kmem KL (Nat.add (Nat.mul Kp 64) (klen F))) false) false) false) false) false) false
theorem kexk_i {p : Nat → Bool} : ∀ {n k : Nat}, k < n → p k = true → kexk n p = true
  | 0, k, h, _ => absurd h (Nat.not_lt_zero k)
  | n + 1, k, h, hp => by
    show cond (p n) true (kexk n p) = true
    cases hq : p n with
    | true => rfl
    | false =>
      show kexk n p = true
      refine kexk_i (k := k) ?_ hp
      rcases Nat.lt_or_ge k n with g | g
      · exact g
      · rw [show k = n by omega, hq] at hp
        cases hp
theorem kchk5_s {n P : Nat} {S L F : List Nat} {Fp Ip Cp Kp Qp Dp : Nat} {KL B W E : List Nat} (h0 : kall5 n P S F Fp Ip Cp Kp Qp Dp B W E = true) (h5 : kchk5 n P S L F Fp Ip Kp KL = true) : gOL (n, P, S, F, []) L Kp KL := by
  obtain ⟨h4, hC, hS, hF, hFi⟩ := k5_4 h0
  refine kchk2_s h4 ?_
  obtain ⟨u1, hr⟩ := kcd.mp h5
  obtain ⟨u2, hr⟩ := kcd.mp hr
  obtain ⟨u3, hr⟩ := kcd.mp hr
  obtain ⟨u4, hr⟩ := kcd.mp hr
  obtain ⟨u5, hr⟩ := kcd.mp hr
  obtain ⟨u6, u7⟩ := kcd.mp hr
  have hFk : ∀ i, i < klen F → kF Fp i < 2 ^ n := fun i hi => hFi i (by rw [klen_e] at hi; exact hi)
  refine kcd.mpr ⟨u1, kcd.mpr ⟨u2, kcd.mpr ⟨u3, kcd.mpr ⟨kall5_i fun f hf => klt_i fun g hg => ?_, kcd.mpr ⟨kall5_i fun s hs => ?_, kcd.mpr ⟨klt_i fun i hi => klt_i fun j hj => ?_, u7⟩⟩⟩⟩⟩⟩
  · have h := klt_s (kall_s u4 f hf) g hg
    have h : cond (kmem S (kt5 n P Ip f g)) (cond (kmem F (kt5 n P Ip f g)) (Nat.beq (kt5 n P Ip f g) f) true) false = true := h
    rw [hC f g (hF f hf) hg] at h
    exact h
  · obtain ⟨h1, h2⟩ := kcd.mp (kall_s u5 s hs)
    have h1 : kle5 n P Ip s < 2 ^ n := kbl.mp h1
    obtain ⟨g, hg, h3⟩ := kexk_s h2
    have h3 : Nat.beq (kt5 n P Ip (kle5 n P Ip s) g) s = true := h3
    rw [hC _ g h1 hg, kle5_e hC (hS s hs)] at h3
    exact kexk_i hg h3
  · have h := klt_s (klt_s u6 i hi) j hj
    have h : Nat.beq (kct5 n P Fp Ip i j) (Nat.mul (kK Kp i j) (kcb (kF Fp i))) = true := h
    have e : kct n P Fp Ip i j = kct5 n P Fp Ip i j := kup_q 0 n (fun g r hg => by
      show cond (Nat.beq (Nat.land (ktr n P Ip (kF Fp j) g) (kF Fp i)) (ktr n P Ip (kF Fp j) g)) (Nat.succ r) r = cond (Nat.beq (Nat.land (kt5 n P Ip (kF Fp j) g) (kF Fp i)) (kt5 n P Ip (kF Fp j) g)) (Nat.succ r) r
      rw [hC _ g (hFk j hj) hg])
    show Nat.beq (kct n P Fp Ip i j) (Nat.mul (kK Kp i j) (kcb (kF Fp i))) = true
    rw [e]
    exact h
