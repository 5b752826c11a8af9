set_option maxHeartbeats 4000000 in
theorem u_T_placeIn (l : Launch) (d_ : Nat) (Mz : zMem) (hW : zKW d_ Mz) (a0_ : Int) (ha0_a : -2147483648 ≤ a0_) (ha0_b : a0_ < 2147483648) (a1_ : Int) (ha1_a : -2147483648 ≤ a1_) (ha1_b : a1_ < 2147483648) (p0_ : 0 ≤ a0_) (p1_ : a0_ < 262144) (p2_ : 0 ≤ a1_) (p3_ : a1_ ≤ 5) : zC l m_T_placeIn 0 0 [.int (Int32.ofInt a0_), .int (Int32.ofInt a1_)] Mz (zqcI d_ [] [] [] [] Mz (fun v N => v = (gdg (a0_).toNat (a1_).toNat : Nat))) := by
  refine zC_of (L0 := [some (.int (Int32.ofInt a0_)), some (.int (Int32.ofInt a1_))]) md_T_placeIn (Nat.le_of_ble_eq_true rfl) rfl ?_ zQ0
  have hf : zFc d_ [] [] [] [] Mz Mz := zFc.rf
  refine zw_iload_n (pc := 0) (n := 0) (x := Int32.ofInt a0_) rfl (zdal_p dlA_T_placeIn_25 (i := 0) rfl) ?_
  refine zw_iconst (pc := 1) (v := Int32.ofInt 3) (by decide) (zdal_p dlA_T_placeIn_25 (i := 1) rfl) ?_
  refine zw_iconst (pc := 2) (v := Int32.ofInt 5) (by decide) (zdal_p dlA_T_placeIn_25 (i := 2) rfl) ?_
  refine zw_iload_n (pc := 3) (n := 1) (x := Int32.ofInt a1_) rfl (zdal_p dlA_T_placeIn_25 (i := 3) rfl) ?_
  refine zr_isub (pc := 4) (zdal_p dlA_T_placeIn_25 (i := 4) rfl) ?_
  refine zr_imul (pc := 5) (zdal_p dlA_T_placeIn_25 (i := 5) rfl) ?_
  refine zr_ishr (pc := 6) (zdal_p dlA_T_placeIn_25 (i := 6) rfl) ?_
  have hr1_ := zshr_r a0_ (3 * (5 - a1_))
  refine zw_bipush (pc := 7) (v := Int32.ofInt 7) (by decide) (zdal_p dlA_T_placeIn_25 (i := 7) rfl) ?_
  refine zr_iand (pc := 9) (zdal_p dlA_T_placeIn_25 (i := 8) rfl) ?_
  have hr2_ := zand_r (zshr a0_ (3 * (5 - a1_))) 7
  exact zk_iret (pc := 10) (ty := .int) rfl rfl ⟨by omega, by omega⟩ hf (show (zand (zshr a0_ (3 * (5 - a1_))) 7) = (gdg (a0_).toNat (a1_).toNat : Nat) by exact zpl5 (by omega) (by omega) (by omega) (by omega)) (zdal_p dlA_T_placeIn_25 (i := 9) rfl)
set_option maxHeartbeats 4000000 in
theorem u_T_codeOf (l : Launch) (d_ : Nat) (Mz : zMem) (hW : zKW d_ Mz) (a0_ : Int) (ha0_a : -2147483648 ≤ a0_) (ha0_b : a0_ < 2147483648) (a1_ : Int) (ha1_a : -2147483648 ≤ a1_) (ha1_b : a1_ < 2147483648) (p0_ : 0 ≤ a0_) (p1_ : a0_ ≤ 7) (p2_ : 0 ≤ a1_) (p3_ : a1_ ≤ 5) : zC l m_T_codeOf 0 0 [.int (Int32.ofInt a0_), .int (Int32.ofInt a1_)] Mz (zqcI d_ [] [] [] [] Mz (fun v N => v = ((a0_).toNat * zw5 (a1_).toNat : Nat))) := by
  refine zC_of (L0 := [some (.int (Int32.ofInt a0_)), some (.int (Int32.ofInt a1_))]) md_T_codeOf (Nat.le_of_ble_eq_true rfl) rfl ?_ zQ0
  have hf : zFc d_ [] [] [] [] Mz Mz := zFc.rf
  refine zw_iload_n (pc := 0) (n := 0) (x := Int32.ofInt a0_) rfl (zdal_p dlA_T_codeOf_21 (i := 0) rfl) ?_
  refine zw_iconst (pc := 1) (v := Int32.ofInt 3) (by decide) (zdal_p dlA_T_codeOf_21 (i := 1) rfl) ?_
  refine zw_iconst (pc := 2) (v := Int32.ofInt 5) (by decide) (zdal_p dlA_T_codeOf_21 (i := 2) rfl) ?_
  refine zw_iload_n (pc := 3) (n := 1) (x := Int32.ofInt a1_) rfl (zdal_p dlA_T_codeOf_21 (i := 3) rfl) ?_
  refine zr_isub (pc := 4) (zdal_p dlA_T_codeOf_21 (i := 4) rfl) ?_
  refine zr_imul (pc := 5) (zdal_p dlA_T_codeOf_21 (i := 5) rfl) ?_
  refine zr_ishl (pc := 6) (zdal_p dlA_T_codeOf_21 (i := 6) rfl) ?_
  have hr1_ := zshl_r a0_ (3 * (5 - a1_))
  exact zk_iret (pc := 7) (ty := .int) rfl rfl ⟨by omega, by omega⟩ hf (show (zshl a0_ (3 * (5 - a1_))) = ((a0_).toNat * zw5 (a1_).toNat : Nat) by exact zsh5 (by omega) (by omega) (by omega) (by omega)) (zdal_p dlA_T_codeOf_21 (i := 7) rfl)
set_option maxHeartbeats 4000000 in
theorem u_T_isIn (l : Launch) (d_ : Nat) (Mz : zMem) (hW : zKW d_ Mz) (a0_ : Int) (ha0_a : -2147483648 ≤ a0_) (ha0_b : a0_ < 2147483648) (a1_ : Int) (ha1_a : -2147483648 ≤ a1_) (ha1_b : a1_ < 2147483648) (p0_ : 0 ≤ a0_) (p1_ : a0_ < 2147483648) (p2_ : 0 ≤ a1_) (p3_ : a1_ < 31) : zC l m_T_isIn 0 0 [.int (Int32.ofInt a0_), .int (Int32.ofInt a1_)] Mz (zqcI d_ [] [] [] [] Mz (fun v N => (((v = 1 ∧ zbt a0_ a1_) ∨ (v = 0 ∧ ¬ zbt a0_ a1_))))) := by
  refine zC_of (L0 := [some (.int (Int32.ofInt a0_)), some (.int (Int32.ofInt a1_))]) md_T_isIn (Nat.le_of_ble_eq_true rfl) rfl ?_ zQ0
  have hf : zFc d_ [] [] [] [] Mz Mz := zFc.rf
  have hbb_ := zbit (x := a0_) (k := a1_) (by omega) (by omega) (by omega) (by omega)
  refine zw_iload_n (pc := 0) (n := 0) (x := Int32.ofInt a0_) rfl (zdal_p dlA_T_isIn_35 (i := 0) rfl) ?_
  refine zw_iload_n (pc := 1) (n := 1) (x := Int32.ofInt a1_) rfl (zdal_p dlA_T_isIn_35 (i := 1) rfl) ?_
  refine zr_ishr (pc := 2) (zdal_p dlA_T_isIn_35 (i := 2) rfl) ?_
  have hr1_ := zshr_r a0_ a1_
  refine zw_iconst (pc := 3) (v := Int32.ofInt 1) (by decide) (zdal_p dlA_T_isIn_35 (i := 3) rfl) ?_
  refine zr_iand (pc := 4) (zdal_p dlA_T_isIn_35 (i := 4) rfl) ?_
  have hr2_ := zand_r (zshr a0_ a1_) 1
  refine zr_if_eq (pc := 5) (tgt := 12) ⟨(by omega), (by omega)⟩ (by decide) (zdal_p dlA_T_isIn_35 (i := 5) rfl) (fun hc_5 => ?_) (fun hc_5 => ?_)
  · skip
    refine zw_iconst (pc := 12) (v := Int32.ofInt 0) (by decide) (zdal_p dlA_T_isIn_35 (i := 8) rfl) ?_
    exact zk_iret (pc := 13) (ty := .boolean) rfl (z_narB (by omega)) ⟨by omega, by omega⟩ hf (show ((0 = 1 ∧ zbt a0_ a1_) ∨ (0 = 0 ∧ ¬ zbt a0_ a1_)) from Or.inr (⟨(show 0 = 0 by first | rfl | (rcases hbb_ with ⟨h1_, h2_⟩ | ⟨h1_, h2_⟩; exfalso; omega; exact h1_)), (show ¬ zbt a0_ a1_ by first | rfl | (rcases hbb_ with ⟨h1_, h2_⟩ | ⟨h1_, h2_⟩; exfalso; omega; exact h1_))⟩)) (zdal_p dlA_T_isIn_35 (i := 9) rfl)
  · skip
    refine zw_iconst (pc := 8) (v := Int32.ofInt 1) (by decide) (zdal_p dlA_T_isIn_35 (i := 6) rfl) ?_
    refine zw_goto (pc := 9) (tgt := 13) (by decide) (zdal_p dlA_T_isIn_35 (i := 7) rfl) ?_
    exact zk_iret (pc := 13) (ty := .boolean) rfl (z_narB (by omega)) ⟨by omega, by omega⟩ hf (show ((1 = 1 ∧ zbt a0_ a1_) ∨ (1 = 0 ∧ ¬ zbt a0_ a1_)) from Or.inl (⟨(show 1 = 1 by first | rfl | (rcases hbb_ with ⟨h1_, h2_⟩ | ⟨h1_, h2_⟩; exact h1_; exfalso; omega)), (show zbt a0_ a1_ by first | rfl | (rcases hbb_ with ⟨h1_, h2_⟩ | ⟨h1_, h2_⟩; exact h1_; exfalso; omega))⟩)) (zdal_p dlA_T_isIn_35 (i := 9) rfl)
set_option maxHeartbeats 4000000 in
theorem u_Group_behind (l : Launch) (d_ : Nat) (Mz : zMem) (hW : zKW d_ Mz) (a0_ : Int) (ha0_a : -2147483648 ≤ a0_) (ha0_b : a0_ < 2147483648) (a1_ : Int) (ha1_a : -2147483648 ≤ a1_) (ha1_b : a1_ < 2147483648) (P_ : Nat) (p0_ : ze Mz (d_ + 1) 5 = P_) (p1_ : P_ ≤ 6) (p2_ : zkv P_ a0_) (p3_ : zkv P_ a1_) : zC l m_Group_behind 0 0 [.ref (d_ + 1), .int (Int32.ofInt a0_), .int (Int32.ofInt a1_)] Mz (zqcI d_ [] [] [] [] Mz (fun v N => v = (zbe P_ a0_ a1_ : Nat))) := by
  refine zC_of (L0 := [some (.ref (d_ + 1)), some (.int (Int32.ofInt a0_)), some (.int (Int32.ofInt a1_)), none, none]) md_Group_behind (Nat.le_of_ble_eq_true rfl) rfl ?_ zQ0
  have hf : zFc d_ [] [] [] [] Mz Mz := zFc.rf
  have r_D1_5 := ze_r Mz (d_ + 1) 5
  obtain ⟨c1_, c2_, c3_, c4_⟩ := id p2_
  obtain ⟨l1_, l2_, l3_, l4_⟩ := id p3_
  refine zw_iconst (pc := 0) (v := Int32.ofInt 0) (by decide) (zdal_p dlA_Group_behind_24 (i := 0) rfl) ?_
  refine zw_istore_n (pc := 1) (i := 3) (L2 := [some (.ref (d_ + 1)), some (.int (Int32.ofInt a0_)), some (.int (Int32.ofInt a1_)), some (.int (Int32.ofInt 0)), none]) rfl (by decide) rfl (zdal_p dlA_Group_behind_24 (i := 1) rfl) ?_
  refine zw_iconst (pc := 2) (v := Int32.ofInt 0) (by decide) (zdal_p dlA_Group_behind_24 (i := 2) rfl) ?_
  refine zw_istore (pc := 3) (i := 4) (L2 := [some (.ref (d_ + 1)), some (.int (Int32.ofInt a0_)), some (.int (Int32.ofInt a1_)), some (.int (Int32.ofInt 0)), some (.int (Int32.ofInt 0))]) (by decide) rfl (zdal_p dlA_Group_behind_24 (i := 3) rfl) ?_
  have lp_5 : ∀ (n : Nat) (u1_ : Int) (hu1_a : -2147483648 ≤ u1_) (hu1_b : u1_ < 2147483648) (u2_ : Int) (hu2_a : -2147483648 ≤ u2_) (hu2_b : u2_ < 2147483648) (i3_ : 0 ≤ u2_) (i4_ : u2_ ≤ P_) (i5_ : u1_ = (zdc (fun p_ => gdg (a1_).toNat (gdg (a0_).toNat p_)) (u2_).toNat : Nat)), (P_ - u2_).toNat < n → zW l m_Group_behind (zn Mz + 0, zw Mz + 0) Mz 5 [some (.ref (d_ + 1)), some (.int (Int32.ofInt a0_)), some (.int (Int32.ofInt a1_)), some (.int (Int32.ofInt u1_)), some (.int (Int32.ofInt u2_))] [] (zqcI d_ [] [] [] [] Mz (fun v N => v = (zbe P_ a0_ a1_ : Nat))) := by
    intro n
    induction n with
    | zero =>
      intro u1_ hu1_a hu1_b u2_ hu2_a hu2_b i3_ i4_ i5_ h0
      exact absurd h0 (Nat.not_lt_zero _)
    | succ n ih_5 =>
      intro u1_ hu1_a hu1_b u2_ hu2_a hu2_b i3_ i4_ i5_ hlt_5
      have hd0_ := gdg_lt (a0_).toNat (u2_).toNat
      have hdl_ := (show u1_ = (zdc (fun p_ => gdg (a1_).toNat (gdg (a0_).toNat p_)) (u2_).toNat : Nat) by assumption)
      refine zw_iload (pc := 5) (i := 4) (x := Int32.ofInt u2_) rfl (zdal_p dlA_Group_behind_24 (i := 4) rfl) ?_
      refine zw_aload_n (pc := 7) (n := 0) (x := (d_ + 1)) rfl (zdal_p dlA_Group_behind_24 (i := 5) rfl) ?_
      refine zk_getI (pc := 8) f_Group_32 rfl ((hf.w hW).kr (o := 1) (by decide)) (zdal_p dlA_Group_behind_24 (i := 6) rfl) ?_
      refine zr_icmp_ge (pc := 11) (tgt := 38) ⟨hu2_a, hu2_b⟩ ⟨(ze_r Mz (d_ + 1) 5).1, (ze_r Mz (d_ + 1) 5).2⟩ (by decide) (zdal_p dlA_Group_behind_24 (i := 7) rfl) (fun hc_11 => ?_) (fun hc_11 => ?_)
      · skip
        refine zw_iload_n (pc := 38) (n := 3) (x := Int32.ofInt u1_) rfl (zdal_p dlA_Group_behind_24 (i := 20) rfl) ?_
        exact zk_iret (pc := 39) (ty := .int) rfl rfl ⟨by omega, by omega⟩ hf (show u1_ = (zbe P_ a0_ a1_ : Nat) by rw [hdl_, show (u2_).toNat = P_ by omega]; rfl) (zdal_p dlA_Group_behind_24 (i := 21) rfl)
      · skip
        refine zw_iload_n (pc := 14) (n := 3) (x := Int32.ofInt u1_) rfl (zdal_p dlA_Group_behind_24 (i := 8) rfl) ?_
        refine zw_iload_n (pc := 15) (n := 2) (x := Int32.ofInt a1_) rfl (zdal_p dlA_Group_behind_24 (i := 9) rfl) ?_
        refine zw_iload_n (pc := 16) (n := 1) (x := Int32.ofInt a0_) rfl (zdal_p dlA_Group_behind_24 (i := 10) rfl) ?_
        refine zw_iload (pc := 17) (i := 4) (x := Int32.ofInt u2_) rfl (zdal_p dlA_Group_behind_24 (i := 11) rfl) ?_
        refine zr_callS hf.x (pc := 19) [.int (Int32.ofInt a0_), .int (Int32.ofInt u2_)] [.int (Int32.ofInt a1_), .int (Int32.ofInt u1_)] l_Group_64 (u_T_placeIn l d_ Mz (hf.w hW) a0_ ha0_a ha0_b u2_ hu2_a hu2_b (show 0 ≤ a0_ by first | assumption | omega) (show a0_ < 262144 by omega) (show 0 ≤ u2_ by first | assumption | omega) (show u2_ ≤ 5 by first | assumption | omega)) rfl rfl (by decide) (Nat.le_of_ble_eq_true rfl) (zdal_p dlA_Group_behind_24 (i := 12) rfl) ?_
        rintro _ N6_ ⟨v7_, rfl, ⟨hv7_a, hv7_b⟩, hsN6_, hp0_N6_⟩
        obtain rfl := hsN6_.eq.symm
        replace hp0_N6_ : v7_ = (gdg (a0_).toNat (u2_).toNat : Nat) := hp0_N6_
        show zW l m_Group_behind (zn Mz + 0, zw Mz + 0) Mz 22 [some (.ref (d_ + 1)), some (.int (Int32.ofInt a0_)), some (.int (Int32.ofInt a1_)), some (.int (Int32.ofInt u1_)), some (.int (Int32.ofInt u2_))] [.int (Int32.ofInt v7_), .int (Int32.ofInt a1_), .int (Int32.ofInt u1_)] _
        have hq1_ := hp0_N6_
        have hq2_ := c3_ (u2_).toNat (by omega) (by omega)
        have hd1_ := gdg_lt (a1_).toNat (v7_).toNat
        refine zr_callS hf.x (pc := 22) [.int (Int32.ofInt a1_), .int (Int32.ofInt v7_)] [.int (Int32.ofInt u1_)] l_Group_64 (u_T_placeIn l d_ Mz (hf.w hW) a1_ ha1_a ha1_b v7_ hv7_a hv7_b (show 0 ≤ a1_ by first | assumption | omega) (show a1_ < 262144 by first | assumption | omega) (show 0 ≤ v7_ by omega) (show v7_ ≤ 5 by first | assumption | omega)) rfl rfl (by decide) (Nat.le_of_ble_eq_true rfl) (zdal_p dlA_Group_behind_24 (i := 13) rfl) ?_
        rintro _ N8_ ⟨v9_, rfl, ⟨hv9_a, hv9_b⟩, hsN8_, hp0_N8_⟩
        obtain rfl := hsN8_.eq.symm
        replace hp0_N8_ : v9_ = (gdg (a1_).toNat (v7_).toNat : Nat) := hp0_N8_
        show zW l m_Group_behind (zn Mz + 0, zw Mz + 0) Mz 25 [some (.ref (d_ + 1)), some (.int (Int32.ofInt a0_)), some (.int (Int32.ofInt a1_)), some (.int (Int32.ofInt u1_)), some (.int (Int32.ofInt u2_))] [.int (Int32.ofInt v9_), .int (Int32.ofInt u1_)] _
        have hq3_ := hp0_N8_
        have hd2_ := gdg_lt (a1_).toNat (gdg (a0_).toNat (u2_).toNat)
        refine zw_iload (pc := 25) (i := 4) (x := Int32.ofInt u2_) rfl (zdal_p dlA_Group_behind_24 (i := 14) rfl) ?_
        refine zr_callS hf.x (pc := 27) [.int (Int32.ofInt v9_), .int (Int32.ofInt u2_)] [.int (Int32.ofInt u1_)] l_Group_50 (u_T_codeOf l d_ Mz (hf.w hW) v9_ hv9_a hv9_b u2_ hu2_a hu2_b (show 0 ≤ v9_ by first | assumption | omega) (show v9_ ≤ 7 by first | assumption | omega) (show 0 ≤ u2_ by first | assumption | omega) (show u2_ ≤ 5 by first | assumption | omega)) rfl rfl (by decide) (Nat.le_of_ble_eq_true rfl) (zdal_p dlA_Group_behind_24 (i := 15) rfl) ?_
        rintro _ N10_ ⟨v11_, rfl, ⟨hv11_a, hv11_b⟩, hsN10_, hp0_N10_⟩
        obtain rfl := hsN10_.eq.symm
        replace hp0_N10_ : v11_ = ((v9_).toNat * zw5 (u2_).toNat : Nat) := hp0_N10_
        show zW l m_Group_behind (zn Mz + 0, zw Mz + 0) Mz 30 [some (.ref (d_ + 1)), some (.int (Int32.ofInt a0_)), some (.int (Int32.ofInt a1_)), some (.int (Int32.ofInt u1_)), some (.int (Int32.ofInt u2_))] [.int (Int32.ofInt v11_), .int (Int32.ofInt u1_)] _
        have hq4_ := hp0_N10_
        obtain ⟨hz1_, hz2_, hz3_⟩ := zdc_z (f := (fun p_ => gdg (a1_).toNat (gdg (a0_).toNat p_))) (k := u2_) (v := u1_) (t := v11_) (by omega) (by omega) (fun p hp hk => gdg_lt _ _) hdl_ (hq4_.trans (by rw [hq3_, hq1_, Int.toNat_natCast, Int.toNat_natCast]))
        refine zr_ior (pc := 30) (zdal_p dlA_Group_behind_24 (i := 16) rfl) ?_
        have hr12_ := zor_r u1_ v11_
        refine zw_istore_n (pc := 31) (i := 3) (L2 := [some (.ref (d_ + 1)), some (.int (Int32.ofInt a0_)), some (.int (Int32.ofInt a1_)), some (.int (Int32.ofInt (zor u1_ v11_))), some (.int (Int32.ofInt u2_))]) rfl (by decide) rfl (zdal_p dlA_Group_behind_24 (i := 17) rfl) ?_
        refine zr_iinc (pc := 32) (i := 4) (a := u2_) (n := 1) (L2 := [some (.ref (d_ + 1)), some (.int (Int32.ofInt a0_)), some (.int (Int32.ofInt a1_)), some (.int (Int32.ofInt (zor u1_ v11_))), some (.int (Int32.ofInt (u2_ + 1)))]) rfl (by decide) rfl (zdal_p dlA_Group_behind_24 (i := 18) rfl) ?_
        refine zw_goto (pc := 35) (tgt := 5) (by decide) (zdal_p dlA_Group_behind_24 (i := 19) rfl) ?_
        exact ih_5 (zor u1_ v11_) (by omega) (by omega) (u2_ + 1) (by omega) (by omega) (show 0 ≤ (u2_ + 1) by first | assumption | omega) (show (u2_ + 1) ≤ P_ by first | assumption | omega) (show (zor u1_ v11_) = (zdc (fun p_ => gdg (a1_).toNat (gdg (a0_).toNat p_)) ((u2_ + 1)).toNat : Nat) by exact hz1_) (by omega)
  exact lp_5 _ 0 (by decide) (by decide) 0 (by decide) (by decide) (show 0 ≤ (0 : Int) by first | assumption | omega) (show (0 : Int) ≤ P_ by first | assumption | omega) (show (0 : Int) = (zdc (fun p_ => gdg (a1_).toNat (gdg (a0_).toNat p_)) ((0 : Int)).toNat : Nat) by rw [show (0 : Int).toNat = 0 from rfl, zdc_0]; rfl) (Nat.lt_succ_self _)
set_option maxHeartbeats 4000000 in
theorem u_Group_indexOf (l : Launch) (d_ : Nat) (Mz : zMem) (hW : zKW d_ Mz) (a0_ : Int) (ha0_a : -2147483648 ≤ a0_) (ha0_b : a0_ < 2147483648) (p0_ : 0 ≤ ze Mz (d_ + 1) 7) (p1_ : ze Mz (d_ + 1) 7 ≤ 24) : zC l m_Group_indexOf 0 0 [.ref (d_ + 1), .int (Int32.ofInt a0_)] Mz (zqcI d_ [] [] [] [] Mz (fun v N => (((v = -1 ∧ (∀ i : Nat, (i : Int) < ze Mz (d_ + 1) 7 → ze Mz (d_ + 5) i ≠ a0_)) ∨ (0 ≤ v ∧ v < ze Mz (d_ + 1) 7 ∧ ze Mz (d_ + 5) (v).toNat = a0_))))) := by
  refine zC_of (L0 := [some (.ref (d_ + 1)), some (.int (Int32.ofInt a0_)), none]) md_Group_indexOf (Nat.le_of_ble_eq_true rfl) rfl ?_ zQ0
  have hf : zFc d_ [] [] [] [] Mz Mz := zFc.rf
  have r_D1_7 := ze_r Mz (d_ + 1) 7
  refine zw_iconst (pc := 0) (v := Int32.ofInt 0) (by decide) (zdal_p dlA_Group_indexOf_26 (i := 0) rfl) ?_
  refine zw_istore_n (pc := 1) (i := 2) (L2 := [some (.ref (d_ + 1)), some (.int (Int32.ofInt a0_)), some (.int (Int32.ofInt 0))]) rfl (by decide) rfl (zdal_p dlA_Group_indexOf_26 (i := 1) rfl) ?_
  have lp_2 : ∀ (n : Nat) (u1_ : Int) (hu1_a : -2147483648 ≤ u1_) (hu1_b : u1_ < 2147483648) (i2_ : 0 ≤ u1_) (i3_ : ∀ i : Nat, (i : Int) < u1_ → ze Mz (d_ + 5) i ≠ a0_), (ze Mz (d_ + 1) 7 - u1_).toNat < n → zW l m_Group_indexOf (zn Mz + 0, zw Mz + 0) Mz 2 [some (.ref (d_ + 1)), some (.int (Int32.ofInt a0_)), some (.int (Int32.ofInt u1_))] [] (zqcI d_ [] [] [] [] Mz (fun v N => (((v = -1 ∧ (∀ i : Nat, (i : Int) < ze Mz (d_ + 1) 7 → ze Mz (d_ + 5) i ≠ a0_)) ∨ (0 ≤ v ∧ v < ze Mz (d_ + 1) 7 ∧ ze Mz (d_ + 5) (v).toNat = a0_))))) := by
    intro n
    induction n with
    | zero =>
      intro u1_ hu1_a hu1_b i2_ i3_ h0
      exact absurd h0 (Nat.not_lt_zero _)
    | succ n ih_2 =>
      intro u1_ hu1_a hu1_b i2_ i3_ hlt_2
      have hno_ := (show ∀ i : Nat, (i : Int) < u1_ → ze Mz (d_ + 5) i ≠ a0_ by assumption)
      refine zw_iload_n (pc := 2) (n := 2) (x := Int32.ofInt u1_) rfl (zdal_p dlA_Group_indexOf_26 (i := 2) rfl) ?_
      refine zw_aload_n (pc := 3) (n := 0) (x := (d_ + 1)) rfl (zdal_p dlA_Group_indexOf_26 (i := 3) rfl) ?_
      refine zk_getI (pc := 4) f_Group_39 rfl ((hf.w hW).kr (o := 1) (by decide)) (zdal_p dlA_Group_indexOf_26 (i := 4) rfl) ?_
      refine zr_icmp_ge (pc := 7) (tgt := 30) ⟨hu1_a, hu1_b⟩ ⟨(ze_r Mz (d_ + 1) 7).1, (ze_r Mz (d_ + 1) 7).2⟩ (by decide) (zdal_p dlA_Group_indexOf_26 (i := 5) rfl) (fun hc_7 => ?_) (fun hc_7 => ?_)
      · skip
        refine zw_iconst (pc := 30) (v := Int32.ofInt (-1)) (by decide) (zdal_p dlA_Group_indexOf_26 (i := 16) rfl) ?_
        exact zk_iret (pc := 31) (ty := .int) rfl rfl ⟨by omega, by omega⟩ hf (show ((((-1)) = -1 ∧ (∀ i : Nat, (i : Int) < ze Mz (d_ + 1) 7 → ze Mz (d_ + 5) i ≠ a0_)) ∨ (0 ≤ ((-1)) ∧ ((-1)) < ze Mz (d_ + 1) 7 ∧ ze Mz (d_ + 5) (((-1))).toNat = a0_)) from Or.inl (⟨(show ((-1)) = -1 by first | rfl | exact fun i hi => hno_ i (by omega)), (show (∀ i : Nat, (i : Int) < ze Mz (d_ + 1) 7 → ze Mz (d_ + 5) i ≠ a0_) by first | rfl | exact fun i hi => hno_ i (by omega))⟩)) (zdal_p dlA_Group_indexOf_26 (i := 17) rfl)
      · skip
        refine zw_aload_n (pc := 10) (n := 0) (x := (d_ + 1)) rfl (zdal_p dlA_Group_indexOf_26 (i := 6) rfl) ?_
        refine zw_getF (pc := 11) f_Group_20 rfl ((hf.w hW).kr (o := 1) (by decide)) ((hf.w hW).lr (o := 1) (s := 1) (r := 4) (by decide)) (zdal_p dlA_Group_indexOf_26 (i := 7) rfl) ?_
        refine zw_iload_n (pc := 14) (n := 2) (x := Int32.ofInt u1_) rfl (zdal_p dlA_Group_indexOf_26 (i := 8) rfl) ?_
        refine zk_at hf.x (pc := 15) l_Group_54 ((hf.w hW).kr (o := 4) (by decide)) ((hf.w hW).lr (o := 4) (s := 0) (r := 5) (by decide)) ((hf.w hW).rr (o := 5) (t := 1) (n := 24) (by decide)) (by decide) (by omega) (by omega) (by decide) (Nat.le_of_ble_eq_true rfl) (zdal_p dlA_Group_indexOf_26 (i := 9) rfl) (fun v4_ hv4_ hv4_a hv4_b => ?_)
        have hvv_ := hv4_
        refine zw_iload_n (pc := 18) (n := 1) (x := Int32.ofInt a0_) rfl (zdal_p dlA_Group_indexOf_26 (i := 10) rfl) ?_
        refine zr_icmp_ne (pc := 19) (tgt := 24) ⟨hv4_a, hv4_b⟩ ⟨ha0_a, ha0_b⟩ (by decide) (zdal_p dlA_Group_indexOf_26 (i := 11) rfl) (fun hc_19 => ?_) (fun hc_19 => ?_)
        · skip
          refine zr_iinc (pc := 24) (i := 2) (a := u1_) (n := 1) (L2 := [some (.ref (d_ + 1)), some (.int (Int32.ofInt a0_)), some (.int (Int32.ofInt (u1_ + 1)))]) rfl (by decide) rfl (zdal_p dlA_Group_indexOf_26 (i := 14) rfl) ?_
          refine zw_goto (pc := 27) (tgt := 2) (by decide) (zdal_p dlA_Group_indexOf_26 (i := 15) rfl) ?_
          have hn2_ : ∀ i : Nat, (i : Int) < (u1_ + 1) → ze Mz (d_ + 5) i ≠ a0_ := fun i hi => by by_cases g_ : (i : Int) < (u1_ + 1) - 1; exact hno_ i (by omega); rw [show i = (((u1_ + 1)) - 1).toNat by omega]; intro q_; rw [ Int.add_sub_cancel] at q_; omega
          exact ih_2 (u1_ + 1) (by omega) (by omega) (show 0 ≤ (u1_ + 1) by first | assumption | omega) (show ∀ i : Nat, (i : Int) < (u1_ + 1) → ze Mz (d_ + 5) i ≠ a0_ by exact hn2_) (by omega)
        · skip
          refine zw_iload_n (pc := 22) (n := 2) (x := Int32.ofInt u1_) rfl (zdal_p dlA_Group_indexOf_26 (i := 12) rfl) ?_
          exact zk_iret (pc := 23) (ty := .int) rfl rfl ⟨by omega, by omega⟩ hf (show ((u1_ = -1 ∧ (∀ i : Nat, (i : Int) < ze Mz (d_ + 1) 7 → ze Mz (d_ + 5) i ≠ a0_)) ∨ (0 ≤ u1_ ∧ u1_ < ze Mz (d_ + 1) 7 ∧ ze Mz (d_ + 5) (u1_).toNat = a0_)) from Or.inr (⟨(show 0 ≤ u1_ by omega), (show u1_ < ze Mz (d_ + 1) 7 by omega), (show ze Mz (d_ + 5) (u1_).toNat = a0_ by omega)⟩)) (zdal_p dlA_Group_indexOf_26 (i := 13) rfl)
  exact lp_2 _ 0 (by decide) (by decide) (show 0 ≤ (0 : Int) by first | assumption | omega) (show ∀ i : Nat, (i : Int) < (0 : Int) → ze Mz (d_ + 5) i ≠ a0_ by intro i hi; omega) (Nat.lt_succ_self _)
set_option maxHeartbeats 4000000 in
theorem u_Group_gather (l : Launch) (d_ : Nat) (Mz : zMem) (hW : zKW d_ Mz) (P_ : Nat) (mv_ : List Nat) (p0_ : zMvK mv_ P_ d_ Mz) : zC l m_Group_gather 0 0 [.ref (d_ + 1)] Mz (zqcI d_ [] [] [(1, 7)] [5] Mz (fun v N => zMvK mv_ P_ d_ N ∧ (((v = 1 ∧ zGg mv_ P_ d_ N) ∨ (v = 0 ∧ ¬ gFin mv_))))) := by
  refine zC_of (L0 := [some (.ref (d_ + 1)), none, none, none, none]) md_Group_gather (Nat.le_of_ble_eq_true rfl) rfl ?_ zQ0
  have hf : zFc d_ [] [] [(1, 7)] [5] Mz Mz := zFc.rf
  have r_D1_5 := ze_r Mz (d_ + 1) 5
  have r_D1_6 := ze_r Mz (d_ + 1) 6
  have r_D1_7 := ze_r Mz (d_ + 1) 7
  obtain ⟨⟨hP0_, hP1_, hP6_⟩, hc1_, hc2_, hc3_⟩ := id p0_
  refine zw_iconst (pc := 0) (v := Int32.ofInt 0) (by decide) (zdal_p dlA_Group_gather_17 (i := 0) rfl) ?_
  refine zw_istore_n (pc := 1) (i := 1) (L2 := [some (.ref (d_ + 1)), some (.int (Int32.ofInt 0)), none, none, none]) rfl (by decide) rfl (zdal_p dlA_Group_gather_17 (i := 1) rfl) ?_
  refine zw_iconst (pc := 2) (v := Int32.ofInt 0) (by decide) (zdal_p dlA_Group_gather_17 (i := 2) rfl) ?_
  refine zw_istore_n (pc := 3) (i := 2) (L2 := [some (.ref (d_ + 1)), some (.int (Int32.ofInt 0)), some (.int (Int32.ofInt 0)), none, none]) rfl (by decide) rfl (zdal_p dlA_Group_gather_17 (i := 3) rfl) ?_
  have lp_4 : ∀ (n : Nat) (u1_ : Int) (hu1_a : -2147483648 ≤ u1_) (hu1_b : u1_ < 2147483648) (u2_ : Int) (hu2_a : -2147483648 ≤ u2_) (hu2_b : u2_ < 2147483648) (i3_ : 0 ≤ u2_) (i4_ : u2_ ≤ P_) (i5_ : u1_ = (zdc (fun p_ => p_) (u2_).toNat : Nat)), (P_ - u2_).toNat < n → zW l m_Group_gather (zn Mz + 0, zw Mz + 0) Mz 4 [some (.ref (d_ + 1)), some (.int (Int32.ofInt u1_)), some (.int (Int32.ofInt u2_)), none, none] [] (zqcI d_ [] [] [(1, 7)] [5] Mz (fun v N => zMvK mv_ P_ d_ N ∧ (((v = 1 ∧ zGg mv_ P_ d_ N) ∨ (v = 0 ∧ ¬ gFin mv_))))) := by
    intro n
    induction n with
    | zero =>
      intro u1_ hu1_a hu1_b u2_ hu2_a hu2_b i3_ i4_ i5_ h0
      exact absurd h0 (Nat.not_lt_zero _)
    | succ n ih_4 =>
      intro u1_ hu1_a hu1_b u2_ hu2_a hu2_b i3_ i4_ i5_ hlt_4
      have hdl_ := (show u1_ = (zdc (fun p_ => p_) (u2_).toNat : Nat) by assumption)
      refine zw_iload_n (pc := 4) (n := 2) (x := Int32.ofInt u2_) rfl (zdal_p dlA_Group_gather_17 (i := 4) rfl) ?_
      refine zw_aload_n (pc := 5) (n := 0) (x := (d_ + 1)) rfl (zdal_p dlA_Group_gather_17 (i := 5) rfl) ?_
      refine zk_getI (pc := 6) f_Group_32 rfl ((hf.w hW).kr (o := 1) (by decide)) (zdal_p dlA_Group_gather_17 (i := 6) rfl) ?_
      refine zr_icmp_ge (pc := 9) (tgt := 26) ⟨hu2_a, hu2_b⟩ ⟨(ze_r Mz (d_ + 1) 5).1, (ze_r Mz (d_ + 1) 5).2⟩ (by decide) (zdal_p dlA_Group_gather_17 (i := 7) rfl) (fun hc_9 => ?_) (fun hc_9 => ?_)
      · skip
        refine zw_aload_n (pc := 26) (n := 0) (x := (d_ + 1)) rfl (zdal_p dlA_Group_gather_17 (i := 16) rfl) ?_
        refine zw_getF (pc := 27) f_Group_20 rfl ((hf.w hW).kr (o := 1) (by decide)) ((hf.w hW).lr (o := 1) (s := 1) (r := 4) (by decide)) (zdal_p dlA_Group_gather_17 (i := 17) rfl) ?_
        refine zw_iconst (pc := 30) (v := Int32.ofInt 0) (by decide) (zdal_p dlA_Group_gather_17 (i := 18) rfl) ?_
        refine zw_iload_n (pc := 31) (n := 1) (x := Int32.ofInt u1_) rfl (zdal_p dlA_Group_gather_17 (i := 19) rfl) ?_
        refine zk_st hf.x (pc := 32) (o := 5) (by decide) l_Group_46 ((hf.w hW).kr (o := 4) (by decide)) ((hf.w hW).lr (o := 4) (s := 0) (r := 5) (by decide)) ((hf.w hW).rr (o := 5) (t := 1) (n := 24) (by decide)) (by decide) (by omega) (by omega) (by decide) (Nat.le_of_ble_eq_true rfl) (zdal_p dlA_Group_gather_17 (i := 20) rfl) (fun N6_ hN6_ hsN6_ => ?_)
        have hf_N6_ : zFc d_ [] [] [(1, 7)] [5] Mz N6_ := hf.tr hsN6_ (by decide) (by decide) (by decide) (by decide)
        have eD1_5_N6_ : ze N6_ (d_ + 1) 5 = ze Mz (d_ + 1) 5 := hsN6_.e (by decide)
        have eD1_6_N6_ : ze N6_ (d_ + 1) 6 = ze Mz (d_ + 1) 6 := hsN6_.e (by decide)
        have eD1_7_N6_ : ze N6_ (d_ + 1) 7 = ze Mz (d_ + 1) 7 := hsN6_.e (by decide)
        have c7_ : zMvK mv_ P_ d_ N6_ := zMvK.fr (hf.w hW) hsN6_ p0_ (by decide)
        have hst_ := zs_get hN6_ ⟨by omega, by omega⟩
        refine zw_aload_n (pc := 35) (n := 0) (x := (d_ + 1)) rfl (zdal_p dlA_Group_gather_17 (i := 21) rfl) ?_
        refine zw_iconst (pc := 36) (v := Int32.ofInt 1) (by decide) (zdal_p dlA_Group_gather_17 (i := 22) rfl) ?_
        refine zk_putR (pc := 37) (o := 1) (by decide) f_Group_39 rfl rfl ((hf_N6_.w hW).kr (o := 1) (by decide)) ⟨by omega, by omega⟩ rfl rfl (zdal_p dlA_Group_gather_17 (i := 23) rfl) (fun N8_ hsN8_ hvN8_ => ?_)
        have hf_N8_ : zFc d_ [] [] [(1, 7)] [5] Mz N8_ := hf_N6_.tr hsN8_ (by decide) (by decide) (by decide) (by decide)
        have eD1_5_N8_ : ze N8_ (d_ + 1) 5 = ze N6_ (d_ + 1) 5 := hsN8_.e (by decide)
        have eD1_6_N8_ : ze N8_ (d_ + 1) 6 = ze N6_ (d_ + 1) 6 := hsN8_.e (by decide)
        have rD1_7_N8_ := ze_r N8_ (d_ + 1) 7
        have c9_ : zMvK mv_ P_ d_ N8_ := zMvK.fr (hf_N6_.w hW) hsN8_ c7_ (by decide)
        have hst2_ := (hsN8_.r (by decide) 0).trans hst_
        have hgi0_ : zGI mv_ P_ d_ N8_ 0 0 := zGI_0 (by omega) (by omega) (hst2_.trans (by rw [hdl_, show (u2_).toNat = P_ by omega]))
        refine zw_iconst (pc := 40) (v := Int32.ofInt 0) (by decide) (zdal_p dlA_Group_gather_18 (i := 0) rfl) ?_
        refine zw_istore_n (pc := 41) (i := 2) (L2 := [some (.ref (d_ + 1)), some (.int (Int32.ofInt u1_)), some (.int (Int32.ofInt 0)), none, none]) rfl (by decide) rfl (zdal_p dlA_Group_gather_18 (i := 1) rfl) ?_
        have lp_42 : ∀ (n : Nat) (u10_ : Int) (hu10_a : -2147483648 ≤ u10_) (hu10_b : u10_ < 2147483648) (N11_ : zMem) (hs12_ : zFc d_ [] [] [(1, 7)] [5] N8_ N11_) (i13_ : 0 ≤ u10_) (i14_ : zGI mv_ P_ d_ N11_ u10_ 0) (i15_ : zMvK mv_ P_ d_ N11_), (25 - u10_).toNat < n → zW l m_Group_gather (zn Mz + 0, zw Mz + 0) N11_ 42 [some (.ref (d_ + 1)), some (.int (Int32.ofInt u1_)), some (.int (Int32.ofInt u10_)), none, none] [] (zqcI d_ [] [] [(1, 7)] [5] Mz (fun v N => zMvK mv_ P_ d_ N ∧ (((v = 1 ∧ zGg mv_ P_ d_ N) ∨ (v = 0 ∧ ¬ gFin mv_))))) := by
          intro n
          induction n with
          | zero =>
            intro u10_ hu10_a hu10_b N11_ hs12_ i13_ i14_ i15_ h0
            exact absurd h0 (Nat.not_lt_zero _)
          | succ n ih_42 =>
            intro u10_ hu10_a hu10_b N11_ hs12_ i13_ i14_ i15_ hlt_42
            have hf_N11_ : zFc d_ [] [] [(1, 7)] [5] Mz N11_ := hf_N8_.tr hs12_ (by decide) (by decide) (by decide) (by decide)
            have eD1_5_N11_ : ze N11_ (d_ + 1) 5 = ze N8_ (d_ + 1) 5 := hs12_.e (by decide)
            have eD1_6_N11_ : ze N11_ (d_ + 1) 6 = ze N8_ (d_ + 1) 6 := hs12_.e (by decide)
            have rD1_7_N11_ := ze_r N11_ (d_ + 1) 7
            have hgi_ := (show zGI mv_ P_ d_ N11_ u10_ 0 by assumption)
            have hmv_ := i15_
            have hsz_ := hgi_.2.1.1
            refine zw_iload_n (pc := 42) (n := 2) (x := Int32.ofInt u10_) rfl (zdal_p dlA_Group_gather_18 (i := 2) rfl) ?_
            refine zw_aload_n (pc := 43) (n := 0) (x := (d_ + 1)) rfl (zdal_p dlA_Group_gather_18 (i := 3) rfl) ?_
            refine zk_getI (pc := 44) f_Group_39 rfl ((hf_N11_.w hW).kr (o := 1) (by decide)) (zdal_p dlA_Group_gather_18 (i := 4) rfl) ?_
            refine zr_icmp_ge (pc := 47) (tgt := 147) ⟨hu10_a, hu10_b⟩ ⟨(ze_r N11_ (d_ + 1) 7).1, (ze_r N11_ (d_ + 1) 7).2⟩ (by decide) (zdal_p dlA_Group_gather_18 (i := 5) rfl) (fun hc_47 => ?_) (fun hc_47 => ?_)
            · skip
              refine zw_iconst (pc := 147) (v := Int32.ofInt 1) (by decide) (zdal_p dlA_Group_gather_20 (i := 6) rfl) ?_
              exact zk_iret (pc := 148) (ty := .boolean) rfl (z_narB (by omega)) ⟨by omega, by omega⟩ hf_N11_ ⟨i15_, (show ((1 = 1 ∧ zGg mv_ P_ d_ N11_) ∨ (1 = 0 ∧ ¬ gFin mv_)) from Or.inl (⟨(show 1 = 1 by first | rfl | exact zGI_e hgi_ (by omega)), (show zGg mv_ P_ d_ N11_ by first | rfl | exact zGI_e hgi_ (by omega))⟩))⟩ (zdal_p dlA_Group_gather_20 (i := 7) rfl)
            · skip
              refine zw_iload_n (pc := 50) (n := 2) (x := Int32.ofInt u10_) rfl (zdal_p dlA_Group_gather_18 (i := 6) rfl) ?_
              refine zw_bipush (pc := 51) (v := Int32.ofInt 24) (by decide) (zdal_p dlA_Group_gather_18 (i := 7) rfl) ?_
              refine zr_icmp_ge (pc := 53) (tgt := 147) ⟨hu10_a, hu10_b⟩ ⟨(by decide), (by decide)⟩ (by decide) (zdal_p dlA_Group_gather_18 (i := 8) rfl) (fun hc_53 => ?_) (fun hc_53 => ?_)
              · skip
                refine zw_iconst (pc := 147) (v := Int32.ofInt 1) (by decide) (zdal_p dlA_Group_gather_20 (i := 6) rfl) ?_
                exact zk_iret (pc := 148) (ty := .boolean) rfl (z_narB (by omega)) ⟨by omega, by omega⟩ hf_N11_ ⟨i15_, (show ((1 = 1 ∧ zGg mv_ P_ d_ N11_) ∨ (1 = 0 ∧ ¬ gFin mv_)) from Or.inl (⟨(show 1 = 1 by first | rfl | exact zGI_e hgi_ (by omega)), (show zGg mv_ P_ d_ N11_ by first | rfl | exact zGI_e hgi_ (by omega))⟩))⟩ (zdal_p dlA_Group_gather_20 (i := 7) rfl)
              · skip
                refine zw_iconst (pc := 56) (v := Int32.ofInt 0) (by decide) (zdal_p dlA_Group_gather_18 (i := 9) rfl) ?_
                refine zw_istore_n (pc := 57) (i := 3) (L2 := [some (.ref (d_ + 1)), some (.int (Int32.ofInt u1_)), some (.int (Int32.ofInt u10_)), some (.int (Int32.ofInt 0)), none]) rfl (by decide) rfl (zdal_p dlA_Group_gather_18 (i := 10) rfl) ?_
                have lp_58 : ∀ (n : Nat) (u16_ : Int) (hu16_a : -2147483648 ≤ u16_) (hu16_b : u16_ < 2147483648) (N17_ : zMem) (hs18_ : zFc d_ [] [] [(1, 7)] [5] N11_ N17_) (i19_ : 0 ≤ u16_) (i20_ : u10_ < ze N17_ (d_ + 1) 7) (i21_ : zGI mv_ P_ d_ N17_ u10_ u16_) (i22_ : zMvK mv_ P_ d_ N17_), (5 - u16_).toNat < n → zW l m_Group_gather (zn Mz + 0, zw Mz + 0) N17_ 58 [some (.ref (d_ + 1)), some (.int (Int32.ofInt u1_)), some (.int (Int32.ofInt u10_)), some (.int (Int32.ofInt u16_)), none] [] (zqcI d_ [] [] [(1, 7)] [5] Mz (fun v N => zMvK mv_ P_ d_ N ∧ (((v = 1 ∧ zGg mv_ P_ d_ N) ∨ (v = 0 ∧ ¬ gFin mv_))))) := by
                  intro n
                  induction n with
                  | zero =>
                    intro u16_ hu16_a hu16_b N17_ hs18_ i19_ i20_ i21_ i22_ h0
                    exact absurd h0 (Nat.not_lt_zero _)
                  | succ n ih_58 =>
                    intro u16_ hu16_a hu16_b N17_ hs18_ i19_ i20_ i21_ i22_ hlt_58
                    have hf_N17_ : zFc d_ [] [] [(1, 7)] [5] Mz N17_ := hf_N11_.tr hs18_ (by decide) (by decide) (by decide) (by decide)
                    have hb0_N17_ : zFc d_ [] [] [(1, 7)] [5] N8_ N17_ := hs12_.tr hs18_ (by decide) (by decide) (by decide) (by decide)
                    have eD1_5_N17_ : ze N17_ (d_ + 1) 5 = ze N11_ (d_ + 1) 5 := hs18_.e (by decide)
                    have eD1_6_N17_ : ze N17_ (d_ + 1) 6 = ze N11_ (d_ + 1) 6 := hs18_.e (by decide)
                    have rD1_7_N17_ := ze_r N17_ (d_ + 1) 7
                    have hgj_ := (show zGI mv_ P_ d_ N17_ u10_ u16_ by assumption)
                    have hmw_ := i22_
                    have hsy_ := hgj_.2.1.1
                    have hml_ := hmw_.2.1
                    refine zw_iload_n (pc := 58) (n := 3) (x := Int32.ofInt u16_) rfl (zdal_p dlA_Group_gather_18 (i := 11) rfl) ?_
                    refine zw_aload_n (pc := 59) (n := 0) (x := (d_ + 1)) rfl (zdal_p dlA_Group_gather_18 (i := 12) rfl) ?_
                    refine zk_getI (pc := 60) f_Group_36 rfl ((hf_N17_.w hW).kr (o := 1) (by decide)) (zdal_p dlA_Group_gather_18 (i := 13) rfl) ?_
                    rw [hf_N17_.e (by decide)]
                    refine zr_icmp_ge (pc := 63) (tgt := 141) ⟨hu16_a, hu16_b⟩ ⟨(ze_r Mz (d_ + 1) 6).1, (ze_r Mz (d_ + 1) 6).2⟩ (by decide) (zdal_p dlA_Group_gather_18 (i := 14) rfl) (fun hc_63 => ?_) (fun hc_63 => ?_)
                    · skip
                      refine zr_iinc (pc := 141) (i := 2) (a := u10_) (n := 1) (L2 := [some (.ref (d_ + 1)), some (.int (Int32.ofInt u1_)), some (.int (Int32.ofInt (u10_ + 1))), some (.int (Int32.ofInt u16_)), none]) rfl (by decide) rfl (zdal_p dlA_Group_gather_20 (i := 4) rfl) ?_
                      refine zw_goto (pc := 144) (tgt := 42) (by decide) (zdal_p dlA_Group_gather_20 (i := 5) rfl) ?_
                      refine zW_le [some (.ref (d_ + 1)), some (.int (Int32.ofInt u1_)), some (.int (Int32.ofInt (u10_ + 1))), none, none] (⟨rfl, rfl, rfl, trivial⟩) ?_
                      exact ih_42 (u10_ + 1) (by omega) (by omega) N17_ hb0_N17_ (show 0 ≤ (u10_ + 1) by first | assumption | omega) (show zGI mv_ P_ d_ N17_ (u10_ + 1) 0 by exact zGI_n hgj_ (by omega)) i22_ (by omega)
                    · skip
                      refine zw_aload_n (pc := 66) (n := 0) (x := (d_ + 1)) rfl (zdal_p dlA_Group_gather_18 (i := 15) rfl) ?_
                      refine zw_aload_n (pc := 67) (n := 0) (x := (d_ + 1)) rfl (zdal_p dlA_Group_gather_18 (i := 16) rfl) ?_
                      refine zw_getF (pc := 68) f_Group_20 rfl ((hf_N17_.w hW).kr (o := 1) (by decide)) ((hf_N17_.w hW).lr (o := 1) (s := 1) (r := 4) (by decide)) (zdal_p dlA_Group_gather_18 (i := 17) rfl) ?_
                      refine zw_iload_n (pc := 71) (n := 2) (x := Int32.ofInt u10_) rfl (zdal_p dlA_Group_gather_18 (i := 18) rfl) ?_
                      refine zk_at hf_N17_.x (pc := 72) l_Group_54 ((hf_N17_.w hW).kr (o := 4) (by decide)) ((hf_N17_.w hW).lr (o := 4) (s := 0) (r := 5) (by decide)) ((hf_N17_.w hW).rr (o := 5) (t := 1) (n := 24) (by decide)) (by decide) (by omega) (by omega) (by decide) (Nat.le_of_ble_eq_true rfl) (zdal_p dlA_Group_gather_18 (i := 19) rfl) (fun v23_ hv23_ hv23_a hv23_b => ?_)
                      have hv1_ := hv23_
                      refine zw_aload_n (pc := 75) (n := 0) (x := (d_ + 1)) rfl (zdal_p dlA_Group_gather_18 (i := 20) rfl) ?_
                      refine zw_getF (pc := 76) f_Group_14 rfl ((hf_N17_.w hW).kr (o := 1) (by decide)) ((hf_N17_.w hW).lr (o := 1) (s := 0) (r := 2) (by decide)) (zdal_p dlA_Group_gather_18 (i := 21) rfl) ?_
                      refine zw_iload_n (pc := 79) (n := 3) (x := Int32.ofInt u16_) rfl (zdal_p dlA_Group_gather_18 (i := 22) rfl) ?_
                      refine zk_at hf_N17_.x (pc := 80) l_Group_54 ((hf_N17_.w hW).kr (o := 2) (by decide)) ((hf_N17_.w hW).lr (o := 2) (s := 0) (r := 3) (by decide)) ((hf_N17_.w hW).rr (o := 3) (t := 1) (n := 4) (by decide)) (by decide) (by omega) (by omega) (by decide) (Nat.le_of_ble_eq_true rfl) (zdal_p dlA_Group_gather_18 (i := 23) rfl) (fun v24_ hv24_ hv24_a hv24_b => ?_)
                      rw [hf_N17_.r (by decide)] at hv24_
                      have hv2_ : v24_ = ze N17_ (d_ + 3) (u16_).toNat := hv24_.trans (hf_N17_.r (by decide) _).symm
                      have hb4_ := zGI_b hmw_ hgj_ (by omega) (by omega)
                      refine zk_callV hf_N17_.x (pc := 83) [.int (Int32.ofInt v23_), .int (Int32.ofInt v24_)] [] l_Group_58 (u_Group_behind l d_ N17_ (hf_N17_.w hW) v23_ hv23_a hv23_b v24_ hv24_a hv24_b P_ (show ze N17_ (d_ + 1) 5 = P_ by first | assumption | omega) (show P_ ≤ 6 by first | assumption | omega) (show zkv P_ v23_ by rw [hv1_]; exact hb4_.1) (show zkv P_ v24_ by rw [hv2_]; exact hb4_.2.1)) rfl rfl ((hf_N17_.w hW).kr (o := 1) (by decide)) (by decide) (by decide) (Nat.le_of_ble_eq_true rfl) (zdal_p dlA_Group_gather_19 (i := 0) rfl) ?_
                      rintro _ N25_ ⟨v26_, rfl, ⟨hv26_a, hv26_b⟩, hsN25_, hp0_N25_⟩
                      obtain rfl := hsN25_.eq.symm
                      replace hp0_N25_ : v26_ = (zbe P_ v23_ v24_ : Nat) := hp0_N25_
                      show zW l m_Group_gather (zn Mz + 0, zw Mz + 0) N17_ 86 [some (.ref (d_ + 1)), some (.int (Int32.ofInt u1_)), some (.int (Int32.ofInt u10_)), some (.int (Int32.ofInt u16_)), none] [.int (Int32.ofInt v26_)] _
                      have hx_ := hp0_N25_
                      rw [hv1_, hv2_] at hx_
                      refine zw_istore (pc := 86) (i := 4) (L2 := [some (.ref (d_ + 1)), some (.int (Int32.ofInt u1_)), some (.int (Int32.ofInt u10_)), some (.int (Int32.ofInt u16_)), some (.int (Int32.ofInt v26_))]) (by decide) rfl (zdal_p dlA_Group_gather_19 (i := 1) rfl) ?_
                      refine zw_aload_n (pc := 88) (n := 0) (x := (d_ + 1)) rfl (zdal_p dlA_Group_gather_19 (i := 2) rfl) ?_
                      refine zw_iload (pc := 89) (i := 4) (x := Int32.ofInt v26_) rfl (zdal_p dlA_Group_gather_19 (i := 3) rfl) ?_
                      refine zk_callV hf_N17_.x (pc := 91) [.int (Int32.ofInt v26_)] [] l_Group_61 (u_Group_indexOf l d_ N17_ (hf_N17_.w hW) v26_ hv26_a hv26_b (show 0 ≤ ze N17_ (d_ + 1) 7 by first | assumption | omega) (show ze N17_ (d_ + 1) 7 ≤ 24 by first | assumption | omega)) rfl rfl ((hf_N17_.w hW).kr (o := 1) (by decide)) (by decide) (by decide) (Nat.le_of_ble_eq_true rfl) (zdal_p dlA_Group_gather_19 (i := 4) rfl) ?_
                      rintro _ N27_ ⟨v28_, rfl, ⟨hv28_a, hv28_b⟩, hsN27_, hp0_N27_⟩
                      obtain rfl := hsN27_.eq.symm
                      replace hp0_N27_ : ((v28_ = -1 ∧ (∀ i : Nat, (i : Int) < ze N17_ (d_ + 1) 7 → ze N17_ (d_ + 5) i ≠ v26_)) ∨ (0 ≤ v28_ ∧ v28_ < ze N17_ (d_ + 1) 7 ∧ ze N17_ (d_ + 5) (v28_).toNat = v26_)) := hp0_N27_
                      rcases hp0_N27_ with ⟨rfl, ha91_0_hp0_N27_⟩ | ⟨ha91_0_hp0_N27_, ha91_1_hp0_N27_, ha91_2_hp0_N27_⟩
                      · skip
                        have hno_ := ha91_0_hp0_N27_
                        show zW l m_Group_gather (zn Mz + 0, zw Mz + 0) N17_ 94 [some (.ref (d_ + 1)), some (.int (Int32.ofInt u1_)), some (.int (Int32.ofInt u10_)), some (.int (Int32.ofInt u16_)), some (.int (Int32.ofInt v26_))] [.int (Int32.ofInt ((-1)))] _
                        refine zw_iconst (pc := 94) (v := Int32.ofInt (-1)) (by decide) (zdal_p dlA_Group_gather_19 (i := 5) rfl) ?_
                        refine zr_icmp_eq (pc := 95) (tgt := 101) ⟨(by decide), (by decide)⟩ ⟨(by decide), (by decide)⟩ (by decide) (zdal_p dlA_Group_gather_19 (i := 6) rfl) (fun hc_95 => ?_) (fun hc_95 => ?_)
                        · skip
                          refine zw_aload_n (pc := 101) (n := 0) (x := (d_ + 1)) rfl (zdal_p dlA_Group_gather_19 (i := 8) rfl) ?_
                          refine zk_getI (pc := 102) f_Group_39 rfl ((hf_N17_.w hW).kr (o := 1) (by decide)) (zdal_p dlA_Group_gather_19 (i := 9) rfl) ?_
                          refine zw_bipush (pc := 105) (v := Int32.ofInt 24) (by decide) (zdal_p dlA_Group_gather_19 (i := 10) rfl) ?_
                          refine zr_icmp_lt (pc := 107) (tgt := 112) ⟨(ze_r N17_ (d_ + 1) 7).1, (ze_r N17_ (d_ + 1) 7).2⟩ ⟨(by decide), (by decide)⟩ (by decide) (zdal_p dlA_Group_gather_19 (i := 11) rfl) (fun hc_107 => ?_) (fun hc_107 => ?_)
                          · skip
                            refine zw_aload_n (pc := 112) (n := 0) (x := (d_ + 1)) rfl (zdal_p dlA_Group_gather_19 (i := 14) rfl) ?_
                            refine zw_getF (pc := 113) f_Group_20 rfl ((hf_N17_.w hW).kr (o := 1) (by decide)) ((hf_N17_.w hW).lr (o := 1) (s := 1) (r := 4) (by decide)) (zdal_p dlA_Group_gather_19 (i := 15) rfl) ?_
                            refine zw_aload_n (pc := 116) (n := 0) (x := (d_ + 1)) rfl (zdal_p dlA_Group_gather_19 (i := 16) rfl) ?_
                            refine zk_getI (pc := 117) f_Group_39 rfl ((hf_N17_.w hW).kr (o := 1) (by decide)) (zdal_p dlA_Group_gather_19 (i := 17) rfl) ?_
                            refine zw_iload (pc := 120) (i := 4) (x := Int32.ofInt v26_) rfl (zdal_p dlA_Group_gather_19 (i := 18) rfl) ?_
                            refine zk_st hf_N17_.x (pc := 122) (o := 5) (by decide) l_Group_46 ((hf_N17_.w hW).kr (o := 4) (by decide)) ((hf_N17_.w hW).lr (o := 4) (s := 0) (r := 5) (by decide)) ((hf_N17_.w hW).rr (o := 5) (t := 1) (n := 24) (by decide)) (by decide) (by omega) (by omega) (by decide) (Nat.le_of_ble_eq_true rfl) (zdal_p dlA_Group_gather_19 (i := 19) rfl) (fun N29_ hN29_ hsN29_ => ?_)
                            have hf_N29_ : zFc d_ [] [] [(1, 7)] [5] Mz N29_ := hf_N17_.tr hsN29_ (by decide) (by decide) (by decide) (by decide)
                            have hb0_N29_ : zFc d_ [] [] [(1, 7)] [5] N8_ N29_ := hb0_N17_.tr hsN29_ (by decide) (by decide) (by decide) (by decide)
                            have hb1_N29_ : zFc d_ [] [] [(1, 7)] [5] N11_ N29_ := hs18_.tr hsN29_ (by decide) (by decide) (by decide) (by decide)
                            have eD1_5_N29_ : ze N29_ (d_ + 1) 5 = ze N17_ (d_ + 1) 5 := hsN29_.e (by decide)
                            have eD1_6_N29_ : ze N29_ (d_ + 1) 6 = ze N17_ (d_ + 1) 6 := hsN29_.e (by decide)
                            have eD1_7_N29_ : ze N29_ (d_ + 1) 7 = ze N17_ (d_ + 1) 7 := hsN29_.e (by decide)
                            have c30_ : zMvK mv_ P_ d_ N29_ := zMvK.fr (hf_N17_.w hW) hsN29_ i22_ (by decide)
                            have hst_ := zs_get hN29_ ⟨by omega, by omega⟩
                            have hot_ := fun (i : Nat) (hi : (i : Int) < ze N17_ (d_ + 1) 7) => zs_oth hN29_ (j := i) (by omega)
                            refine zw_aload_n (pc := 125) (n := 0) (x := (d_ + 1)) rfl (zdal_p dlA_Group_gather_19 (i := 20) rfl) ?_
                            refine zw_dup (pc := 126) rfl (zdal_p dlA_Group_gather_19 (i := 21) rfl) ?_
                            refine zk_getI (pc := 127) f_Group_39 rfl ((hf_N29_.w hW).kr (o := 1) (by decide)) (zdal_p dlA_Group_gather_19 (i := 22) rfl) ?_
                            refine zw_iconst (pc := 130) (v := Int32.ofInt 1) (by decide) (zdal_p dlA_Group_gather_19 (i := 23) rfl) ?_
                            refine zr_iadd (pc := 131) (zdal_p dlA_Group_gather_20 (i := 0) rfl) ?_
                            refine zk_putR (pc := 132) (o := 1) (by decide) f_Group_39 rfl rfl ((hf_N29_.w hW).kr (o := 1) (by decide)) ⟨by omega, by omega⟩ rfl rfl (zdal_p dlA_Group_gather_20 (i := 1) rfl) (fun N31_ hsN31_ hvN31_ => ?_)
                            have hf_N31_ : zFc d_ [] [] [(1, 7)] [5] Mz N31_ := hf_N29_.tr hsN31_ (by decide) (by decide) (by decide) (by decide)
                            have hb0_N31_ : zFc d_ [] [] [(1, 7)] [5] N8_ N31_ := hb0_N29_.tr hsN31_ (by decide) (by decide) (by decide) (by decide)
                            have hb1_N31_ : zFc d_ [] [] [(1, 7)] [5] N11_ N31_ := hb1_N29_.tr hsN31_ (by decide) (by decide) (by decide) (by decide)
                            have eD1_5_N31_ : ze N31_ (d_ + 1) 5 = ze N29_ (d_ + 1) 5 := hsN31_.e (by decide)
                            have eD1_6_N31_ : ze N31_ (d_ + 1) 6 = ze N29_ (d_ + 1) 6 := hsN31_.e (by decide)
                            have rD1_7_N31_ := ze_r N31_ (d_ + 1) 7
                            have c32_ : zMvK mv_ P_ d_ N31_ := zMvK.fr (hf_N29_.w hW) hsN31_ c30_ (by decide)
                            have hga_ := zGI_a (Nz := N31_) hmw_ hgj_ (by omega) (by omega) hx_ hno_ (by omega) (by omega) (fun i hi => (hsN31_.r (by decide) i).trans (hot_ i hi)) ((hsN31_.r (by decide) _).trans hst_)
                            refine zr_iinc (pc := 135) (i := 3) (a := u16_) (n := 1) (L2 := [some (.ref (d_ + 1)), some (.int (Int32.ofInt u1_)), some (.int (Int32.ofInt u10_)), some (.int (Int32.ofInt (u16_ + 1))), some (.int (Int32.ofInt v26_))]) rfl (by decide) rfl (zdal_p dlA_Group_gather_20 (i := 2) rfl) ?_
                            refine zw_goto (pc := 138) (tgt := 58) (by decide) (zdal_p dlA_Group_gather_20 (i := 3) rfl) ?_
                            refine zW_le [some (.ref (d_ + 1)), some (.int (Int32.ofInt u1_)), some (.int (Int32.ofInt u10_)), some (.int (Int32.ofInt (u16_ + 1))), none] (⟨rfl, rfl, rfl, rfl, trivial⟩) ?_
                            exact ih_58 (u16_ + 1) (by omega) (by omega) N31_ hb1_N31_ (show 0 ≤ (u16_ + 1) by first | assumption | omega) (show u10_ < ze N31_ (d_ + 1) 7 by first | assumption | omega) (show zGI mv_ P_ d_ N31_ u10_ (u16_ + 1) by first | exact hgf_ | exact hga_) c32_ (by omega)
                          · skip
                            refine zw_iconst (pc := 110) (v := Int32.ofInt 0) (by decide) (zdal_p dlA_Group_gather_19 (i := 12) rfl) ?_
                            exact zk_iret (pc := 111) (ty := .boolean) rfl (z_narB (by omega)) ⟨by omega, by omega⟩ hf_N17_ ⟨i22_, (show ((0 = 1 ∧ zGg mv_ P_ d_ N17_) ∨ (0 = 0 ∧ ¬ gFin mv_)) from Or.inr (⟨(show 0 = 0 by first | rfl | exact zGI_24 hmw_ hgj_ (by omega) (by omega) hx_ hno_ (by omega)), (show ¬ gFin mv_ by first | rfl | exact zGI_24 hmw_ hgj_ (by omega) (by omega) hx_ hno_ (by omega))⟩))⟩ (zdal_p dlA_Group_gather_19 (i := 13) rfl)
                        · skip
                          exact absurd hc_95 (by decide)
                      · skip
                        have hv0_ := ha91_0_hp0_N27_
                        have hgf_ := zGI_f hmw_ hgj_ (by omega) (by omega) ha91_0_hp0_N27_ ha91_1_hp0_N27_ hx_ ha91_2_hp0_N27_
                        show zW l m_Group_gather (zn Mz + 0, zw Mz + 0) N17_ 94 [some (.ref (d_ + 1)), some (.int (Int32.ofInt u1_)), some (.int (Int32.ofInt u10_)), some (.int (Int32.ofInt u16_)), some (.int (Int32.ofInt v26_))] [.int (Int32.ofInt v28_)] _
                        refine zw_iconst (pc := 94) (v := Int32.ofInt (-1)) (by decide) (zdal_p dlA_Group_gather_19 (i := 5) rfl) ?_
                        refine zr_icmp_eq (pc := 95) (tgt := 101) ⟨hv28_a, hv28_b⟩ ⟨(by decide), (by decide)⟩ (by decide) (zdal_p dlA_Group_gather_19 (i := 6) rfl) (fun hc_95 => ?_) (fun hc_95 => ?_)
                        · skip
                          exfalso; omega
                        · skip
                          refine zw_goto (pc := 98) (tgt := 135) (by decide) (zdal_p dlA_Group_gather_19 (i := 7) rfl) ?_
                          refine zr_iinc (pc := 135) (i := 3) (a := u16_) (n := 1) (L2 := [some (.ref (d_ + 1)), some (.int (Int32.ofInt u1_)), some (.int (Int32.ofInt u10_)), some (.int (Int32.ofInt (u16_ + 1))), some (.int (Int32.ofInt v26_))]) rfl (by decide) rfl (zdal_p dlA_Group_gather_20 (i := 2) rfl) ?_
                          refine zw_goto (pc := 138) (tgt := 58) (by decide) (zdal_p dlA_Group_gather_20 (i := 3) rfl) ?_
                          refine zW_le [some (.ref (d_ + 1)), some (.int (Int32.ofInt u1_)), some (.int (Int32.ofInt u10_)), some (.int (Int32.ofInt (u16_ + 1))), none] (⟨rfl, rfl, rfl, rfl, trivial⟩) ?_
                          exact ih_58 (u16_ + 1) (by omega) (by omega) N17_ hs18_ (show 0 ≤ (u16_ + 1) by first | assumption | omega) (show u10_ < ze N17_ (d_ + 1) 7 by first | assumption | omega) (show zGI mv_ P_ d_ N17_ u10_ (u16_ + 1) by first | exact hgf_ | exact hga_) i22_ (by omega)
                exact lp_58 _ 0 (by decide) (by decide) N11_ zFc.rf (show 0 ≤ (0 : Int) by first | assumption | omega) (show u10_ < ze N11_ (d_ + 1) 7 by first | assumption | omega) (show zGI mv_ P_ d_ N11_ u10_ (0 : Int) by exact hgi_) i15_ (Nat.lt_succ_self _)
        exact lp_42 _ 0 (by decide) (by decide) N8_ zFc.rf (show 0 ≤ (0 : Int) by first | assumption | omega) (show zGI mv_ P_ d_ N8_ (0 : Int) 0 by exact hgi0_) c9_ (Nat.lt_succ_self _)
      · skip
        refine zw_iload_n (pc := 12) (n := 1) (x := Int32.ofInt u1_) rfl (zdal_p dlA_Group_gather_17 (i := 8) rfl) ?_
        refine zw_iload_n (pc := 13) (n := 2) (x := Int32.ofInt u2_) rfl (zdal_p dlA_Group_gather_17 (i := 9) rfl) ?_
        refine zw_iload_n (pc := 14) (n := 2) (x := Int32.ofInt u2_) rfl (zdal_p dlA_Group_gather_17 (i := 10) rfl) ?_
        refine zr_callS hf.x (pc := 15) [.int (Int32.ofInt u2_), .int (Int32.ofInt u2_)] [.int (Int32.ofInt u1_)] l_Group_50 (u_T_codeOf l d_ Mz (hf.w hW) u2_ hu2_a hu2_b u2_ hu2_a hu2_b (show 0 ≤ u2_ by first | assumption | omega) (show u2_ ≤ 7 by first | assumption | omega) (show 0 ≤ u2_ by first | assumption | omega) (show u2_ ≤ 5 by first | assumption | omega)) rfl rfl (by decide) (Nat.le_of_ble_eq_true rfl) (zdal_p dlA_Group_gather_17 (i := 11) rfl) ?_
        rintro _ N33_ ⟨v34_, rfl, ⟨hv34_a, hv34_b⟩, hsN33_, hp0_N33_⟩
        obtain rfl := hsN33_.eq.symm
        replace hp0_N33_ : v34_ = ((u2_).toNat * zw5 (u2_).toNat : Nat) := hp0_N33_
        show zW l m_Group_gather (zn Mz + 0, zw Mz + 0) Mz 18 [some (.ref (d_ + 1)), some (.int (Int32.ofInt u1_)), some (.int (Int32.ofInt u2_)), none, none] [.int (Int32.ofInt v34_), .int (Int32.ofInt u1_)] _
        have hq0_ := hp0_N33_
        obtain ⟨hz1_, hz2_, hz3_⟩ := zdc_z (f := fun p_ => p_) (k := u2_) (v := u1_) (t := v34_) (by omega) (by omega) (fun p hp hk => by show p < 8; omega) hdl_ hq0_
        refine zr_ior (pc := 18) (zdal_p dlA_Group_gather_17 (i := 12) rfl) ?_
        have hr35_ := zor_r u1_ v34_
        refine zw_istore_n (pc := 19) (i := 1) (L2 := [some (.ref (d_ + 1)), some (.int (Int32.ofInt (zor u1_ v34_))), some (.int (Int32.ofInt u2_)), none, none]) rfl (by decide) rfl (zdal_p dlA_Group_gather_17 (i := 13) rfl) ?_
        refine zr_iinc (pc := 20) (i := 2) (a := u2_) (n := 1) (L2 := [some (.ref (d_ + 1)), some (.int (Int32.ofInt (zor u1_ v34_))), some (.int (Int32.ofInt (u2_ + 1))), none, none]) rfl (by decide) rfl (zdal_p dlA_Group_gather_17 (i := 14) rfl) ?_
        refine zw_goto (pc := 23) (tgt := 4) (by decide) (zdal_p dlA_Group_gather_17 (i := 15) rfl) ?_
        exact ih_4 (zor u1_ v34_) (by omega) (by omega) (u2_ + 1) (by omega) (by omega) (show 0 ≤ (u2_ + 1) by first | assumption | omega) (show (u2_ + 1) ≤ P_ by first | assumption | omega) (show (zor u1_ v34_) = (zdc (fun p_ => p_) ((u2_ + 1)).toNat : Nat) by exact hz1_) (by omega)
  exact lp_4 _ 0 (by decide) (by decide) 0 (by decide) (by decide) (show 0 ≤ (0 : Int) by first | assumption | omega) (show (0 : Int) ≤ P_ by first | assumption | omega) (show (0 : Int) = (zdc (fun p_ => p_) ((0 : Int)).toNat : Nat) by rw [show (0 : Int).toNat = 0 from rfl, zdc_0]; rfl) (Nat.lt_succ_self _)
