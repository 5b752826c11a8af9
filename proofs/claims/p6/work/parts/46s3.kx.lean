set_option maxHeartbeats 4000000 in
theorem u_Sorts_isPowerApartX (l : Launch) (d_ : Nat) (Mz : zMem) (hW : zKW d_ Mz) (a0_ : Int) (ha0_a : -2147483648 ≤ a0_) (ha0_b : a0_ < 2147483648) (a1_ : Int) (ha1_a : -2147483648 ≤ a1_) (ha1_b : a1_ < 2147483648) (a2_ : Int) (ha2_a : -2147483648 ≤ a2_) (ha2_b : a2_ < 2147483648) (p0_ : a1_ ≤ 63) (p1_ : (a2_ = 2 ∨ a2_ = 3 ∨ a2_ = 5)) : zC l m_Sorts_isPowerApart 0 0 [.int (Int32.ofInt a0_), .int (Int32.ofInt a1_), .int (Int32.ofInt a2_)] Mz (zqcI d_ [] [] [] [] Mz (fun v N => ((v = 0 ∨ v = 1)))) := by
  refine zC_of (L0 := [some (.int (Int32.ofInt a0_)), some (.int (Int32.ofInt a1_)), some (.int (Int32.ofInt a2_)), none]) md_Sorts_isPowerApart (Nat.le_of_ble_eq_true rfl) rfl ?_ zQ0
  have hf : zFc d_ [] [] [] [] Mz Mz := zFc.rf
  refine zw_iload_n (pc := 0) (n := 0) (x := Int32.ofInt a0_) rfl (zdal_p dlB_Sorts_isPowerApart_33 (i := 0) rfl) ?_
  refine zw_istore_n (pc := 1) (i := 3) (L2 := [some (.int (Int32.ofInt a0_)), some (.int (Int32.ofInt a1_)), some (.int (Int32.ofInt a2_)), some (.int (Int32.ofInt a0_))]) rfl (by decide) rfl (zdal_p dlB_Sorts_isPowerApart_33 (i := 1) rfl) ?_
  have lp_2 : ∀ (n : Nat) (u1_ : Int) (hu1_a : -2147483648 ≤ u1_) (hu1_b : u1_ < 2147483648), (a1_ - u1_).toNat < n → zW l m_Sorts_isPowerApart (zn Mz + 0, zw Mz + 0) Mz 2 [some (.int (Int32.ofInt a0_)), some (.int (Int32.ofInt a1_)), some (.int (Int32.ofInt a2_)), some (.int (Int32.ofInt u1_))] [] (zqcI d_ [] [] [] [] Mz (fun v N => ((v = 0 ∨ v = 1)))) := by
    intro n
    induction n with
    | zero =>
      intro u1_ hu1_a hu1_b h0
      exact absurd h0 (Nat.not_lt_zero _)
    | succ n ih_2 =>
      intro u1_ hu1_a hu1_b hlt_2
      refine zw_iload_n (pc := 2) (n := 3) (x := Int32.ofInt u1_) rfl (zdal_p dlB_Sorts_isPowerApart_33 (i := 2) rfl) ?_
      refine zr_if_le (pc := 3) (tgt := 23) ⟨hu1_a, hu1_b⟩ (by decide) (zdal_p dlB_Sorts_isPowerApart_33 (i := 3) rfl) (fun hc_3 => ?_) (fun hc_3 => ?_)
      · skip
        refine zw_iload_n (pc := 23) (n := 3) (x := Int32.ofInt u1_) rfl (zdal_p dlB_Sorts_isPowerApart_33 (i := 15) rfl) ?_
        refine zw_iload_n (pc := 24) (n := 1) (x := Int32.ofInt a1_) rfl (zdal_p dlB_Sorts_isPowerApart_33 (i := 16) rfl) ?_
        refine zr_icmp_ne (pc := 25) (tgt := 32) ⟨hu1_a, hu1_b⟩ ⟨ha1_a, ha1_b⟩ (by decide) (zdal_p dlB_Sorts_isPowerApart_33 (i := 17) rfl) (fun hc_25 => ?_) (fun hc_25 => ?_)
        · skip
          refine zw_iconst (pc := 32) (v := Int32.ofInt 0) (by decide) (zdal_p dlB_Sorts_isPowerApart_33 (i := 20) rfl) ?_
          exact zk_iret (pc := 33) (ty := .boolean) rfl (z_narB (by omega)) ⟨by omega, by omega⟩ hf (show (((0 : Int)) = 0 ∨ ((0 : Int)) = 1) by first | with_reducible assumption | assumption | omega) d_Sorts_isPowerApart_33
        · skip
          refine zw_iconst (pc := 28) (v := Int32.ofInt 1) (by decide) (zdal_p dlB_Sorts_isPowerApart_33 (i := 18) rfl) ?_
          refine zw_goto (pc := 29) (tgt := 33) (by decide) (zdal_p dlB_Sorts_isPowerApart_33 (i := 19) rfl) ?_
          exact zk_iret (pc := 33) (ty := .boolean) rfl (z_narB (by omega)) ⟨by omega, by omega⟩ hf (show (((1 : Int)) = 0 ∨ ((1 : Int)) = 1) by first | with_reducible assumption | assumption | omega) d_Sorts_isPowerApart_33
      · skip
        refine zw_iload_n (pc := 6) (n := 3) (x := Int32.ofInt u1_) rfl (zdal_p dlB_Sorts_isPowerApart_33 (i := 4) rfl) ?_
        refine zw_iload_n (pc := 7) (n := 1) (x := Int32.ofInt a1_) rfl (zdal_p dlB_Sorts_isPowerApart_33 (i := 5) rfl) ?_
        refine zr_icmp_ge (pc := 8) (tgt := 23) ⟨hu1_a, hu1_b⟩ ⟨ha1_a, ha1_b⟩ (by decide) (zdal_p dlB_Sorts_isPowerApart_33 (i := 6) rfl) (fun hc_8 => ?_) (fun hc_8 => ?_)
        · skip
          refine zw_iload_n (pc := 23) (n := 3) (x := Int32.ofInt u1_) rfl (zdal_p dlB_Sorts_isPowerApart_33 (i := 15) rfl) ?_
          refine zw_iload_n (pc := 24) (n := 1) (x := Int32.ofInt a1_) rfl (zdal_p dlB_Sorts_isPowerApart_33 (i := 16) rfl) ?_
          refine zr_icmp_ne (pc := 25) (tgt := 32) ⟨hu1_a, hu1_b⟩ ⟨ha1_a, ha1_b⟩ (by decide) (zdal_p dlB_Sorts_isPowerApart_33 (i := 17) rfl) (fun hc_25 => ?_) (fun hc_25 => ?_)
          · skip
            refine zw_iconst (pc := 32) (v := Int32.ofInt 0) (by decide) (zdal_p dlB_Sorts_isPowerApart_33 (i := 20) rfl) ?_
            exact zk_iret (pc := 33) (ty := .boolean) rfl (z_narB (by omega)) ⟨by omega, by omega⟩ hf (show (((0 : Int)) = 0 ∨ ((0 : Int)) = 1) by first | with_reducible assumption | assumption | omega) d_Sorts_isPowerApart_33
          · skip
            refine zw_iconst (pc := 28) (v := Int32.ofInt 1) (by decide) (zdal_p dlB_Sorts_isPowerApart_33 (i := 18) rfl) ?_
            refine zw_goto (pc := 29) (tgt := 33) (by decide) (zdal_p dlB_Sorts_isPowerApart_33 (i := 19) rfl) ?_
            exact zk_iret (pc := 33) (ty := .boolean) rfl (z_narB (by omega)) ⟨by omega, by omega⟩ hf (show (((1 : Int)) = 0 ∨ ((1 : Int)) = 1) by first | with_reducible assumption | assumption | omega) d_Sorts_isPowerApart_33
        · skip
          refine zw_iload_n (pc := 11) (n := 2) (x := Int32.ofInt a2_) rfl (zdal_p dlB_Sorts_isPowerApart_33 (i := 7) rfl) ?_
          refine zw_iconst (pc := 12) (v := Int32.ofInt 1) (by decide) (zdal_p dlB_Sorts_isPowerApart_33 (i := 8) rfl) ?_
          refine zr_icmp_le (pc := 13) (tgt := 23) ⟨ha2_a, ha2_b⟩ ⟨(by decide), (by decide)⟩ (by decide) (zdal_p dlB_Sorts_isPowerApart_33 (i := 9) rfl) (fun hc_13 => ?_) (fun hc_13 => ?_)
          · skip
            refine zw_iload_n (pc := 23) (n := 3) (x := Int32.ofInt u1_) rfl (zdal_p dlB_Sorts_isPowerApart_33 (i := 15) rfl) ?_
            refine zw_iload_n (pc := 24) (n := 1) (x := Int32.ofInt a1_) rfl (zdal_p dlB_Sorts_isPowerApart_33 (i := 16) rfl) ?_
            refine zr_icmp_ne (pc := 25) (tgt := 32) ⟨hu1_a, hu1_b⟩ ⟨ha1_a, ha1_b⟩ (by decide) (zdal_p dlB_Sorts_isPowerApart_33 (i := 17) rfl) (fun hc_25 => ?_) (fun hc_25 => ?_)
            · skip
              refine zw_iconst (pc := 32) (v := Int32.ofInt 0) (by decide) (zdal_p dlB_Sorts_isPowerApart_33 (i := 20) rfl) ?_
              exact zk_iret (pc := 33) (ty := .boolean) rfl (z_narB (by omega)) ⟨by omega, by omega⟩ hf (show (((0 : Int)) = 0 ∨ ((0 : Int)) = 1) by first | with_reducible assumption | assumption | omega) d_Sorts_isPowerApart_33
            · skip
              refine zw_iconst (pc := 28) (v := Int32.ofInt 1) (by decide) (zdal_p dlB_Sorts_isPowerApart_33 (i := 18) rfl) ?_
              refine zw_goto (pc := 29) (tgt := 33) (by decide) (zdal_p dlB_Sorts_isPowerApart_33 (i := 19) rfl) ?_
              exact zk_iret (pc := 33) (ty := .boolean) rfl (z_narB (by omega)) ⟨by omega, by omega⟩ hf (show (((1 : Int)) = 0 ∨ ((1 : Int)) = 1) by first | with_reducible assumption | assumption | omega) d_Sorts_isPowerApart_33
          · skip
            refine zw_iload_n (pc := 16) (n := 3) (x := Int32.ofInt u1_) rfl (zdal_p dlB_Sorts_isPowerApart_33 (i := 10) rfl) ?_
            refine zw_iload_n (pc := 17) (n := 2) (x := Int32.ofInt a2_) rfl (zdal_p dlB_Sorts_isPowerApart_33 (i := 11) rfl) ?_
            refine zr_imul (pc := 18) (zdal_p dlB_Sorts_isPowerApart_33 (i := 12) rfl) ?_
            refine zk_nmI (fun v2_ hv2_ hv2_e => ?_)
            obtain ⟨hv2_a, hv2_b⟩ := hv2_
            have hm_ : u1_ < v2_ := by have hx_ := hv2_e; rcases p1_ with q_ | q_ | q_ <;> (rw [q_] at hx_; have h2_ := hx_ ⟨by omega, by omega⟩; omega)
            refine zw_istore_n (pc := 19) (i := 3) (L2 := [some (.int (Int32.ofInt a0_)), some (.int (Int32.ofInt a1_)), some (.int (Int32.ofInt a2_)), some (.int (Int32.ofInt v2_))]) rfl (by decide) rfl (zdal_p dlB_Sorts_isPowerApart_33 (i := 13) rfl) ?_
            refine zw_goto (pc := 20) (tgt := 2) (by decide) (zdal_p dlB_Sorts_isPowerApart_33 (i := 14) rfl) ?_
            exact ih_2 v2_ hv2_a hv2_b (by omega)
  exact lp_2 _ a0_ ha0_a ha0_b (Nat.lt_succ_self _)
set_option maxHeartbeats 4000000 in
theorem u_Sorts_residueOfX (l : Launch) (d_ : Nat) (Mz : zMem) (hW : zKW d_ Mz) (a0_ : Int) (ha0_a : -2147483648 ≤ a0_) (ha0_b : a0_ < 2147483648) (a1_ : Int) (ha1_a : -2147483648 ≤ a1_) (ha1_b : a1_ < 2147483648) (p0_ : (a1_ = 2 ∨ a1_ = 3 ∨ a1_ = 5)) : zC l m_Sorts_residueOf 0 0 [.ref (d_ + 12), .int (Int32.ofInt a0_), .int (Int32.ofInt a1_)] Mz (zqcI d_ [] [] [] [] Mz (fun v N => True)) := by
  refine zC_of (L0 := [some (.ref (d_ + 12)), some (.int (Int32.ofInt a0_)), some (.int (Int32.ofInt a1_)), none, none, none]) md_Sorts_residueOf (Nat.le_of_ble_eq_true rfl) rfl ?_ zQ0
  have hf : zFc d_ [] [] [] [] Mz Mz := zFc.rf
  refine zw_aload_n (pc := 0) (n := 0) (x := (d_ + 12)) rfl (zdal_p dlB_Sorts_residueOf_31 (i := 0) rfl) ?_
  refine zw_getF (pc := 1) f_Sorts_26 rfl ((hf.w hW).kr (o := 12) (by decide)) ((hf.w hW).lr (o := 12) (s := 4) (r := 19) (by decide)) (zdal_p dlB_Sorts_residueOf_31 (i := 1) rfl) ?_
  refine zw_iload_n (pc := 4) (n := 1) (x := Int32.ofInt a0_) rfl (zdal_p dlB_Sorts_residueOf_31 (i := 2) rfl) ?_
  refine zk_atG hf.x (pc := 5) l_Sorts_49 ((hf.w hW).kr (o := 19) (by decide)) ((hf.w hW).lr (o := 19) (s := 0) (r := 20) (by decide)) ((hf.w hW).rr (o := 20) (t := 1) (n := 27) (by decide)) (by decide) ⟨by omega, by omega⟩ (by decide) (Nat.le_of_ble_eq_true rfl) (zdal_p dlB_Sorts_residueOf_31 (i := 3) rfl) (fun v1_ hv1_ hv1_a hv1_b => ?_)
  clear hv1_
  refine zw_istore_n (pc := 8) (i := 3) (L2 := [some (.ref (d_ + 12)), some (.int (Int32.ofInt a0_)), some (.int (Int32.ofInt a1_)), some (.int (Int32.ofInt v1_)), none, none]) rfl (by decide) rfl (zdal_p dlB_Sorts_residueOf_31 (i := 4) rfl) ?_
  refine zw_iconst (pc := 9) (v := Int32.ofInt 0) (by decide) (zdal_p dlB_Sorts_residueOf_31 (i := 5) rfl) ?_
  refine zw_istore (pc := 10) (i := 4) (L2 := [some (.ref (d_ + 12)), some (.int (Int32.ofInt a0_)), some (.int (Int32.ofInt a1_)), some (.int (Int32.ofInt v1_)), some (.int (Int32.ofInt 0)), none]) (by decide) rfl (zdal_p dlB_Sorts_residueOf_31 (i := 6) rfl) ?_
  have lp_12 : ∀ (n : Nat) (u2_ : Int) (hu2_a : -2147483648 ≤ u2_) (hu2_b : u2_ < 2147483648) (i3_ : 0 ≤ u2_), (ze Mz (d_ + 12) 6 - u2_).toNat < n → zW l m_Sorts_residueOf (zn Mz + 0, zw Mz + 0) Mz 12 [some (.ref (d_ + 12)), some (.int (Int32.ofInt a0_)), some (.int (Int32.ofInt a1_)), some (.int (Int32.ofInt v1_)), some (.int (Int32.ofInt u2_)), none] [] (zqcI d_ [] [] [] [] Mz (fun v N => True)) := by
    intro n
    induction n with
    | zero =>
      intro u2_ hu2_a hu2_b i3_ h0
      exact absurd h0 (Nat.not_lt_zero _)
    | succ n ih_12 =>
      intro u2_ hu2_a hu2_b i3_ hlt_12
      refine zw_iload (pc := 12) (i := 4) (x := Int32.ofInt u2_) rfl (zdal_p dlB_Sorts_residueOf_31 (i := 7) rfl) ?_
      refine zw_aload_n (pc := 14) (n := 0) (x := (d_ + 12)) rfl (zdal_p dlB_Sorts_residueOf_31 (i := 8) rfl) ?_
      refine zk_getI (pc := 15) f_Sorts_36 rfl ((hf.w hW).kr (o := 12) (by decide)) (zdal_p dlB_Sorts_residueOf_31 (i := 9) rfl) ?_
      have hr4_ := ze_r Mz (d_ + 12) 6
      refine zr_icmp_ge (pc := 18) (tgt := 89) ⟨hu2_a, hu2_b⟩ ⟨(ze_r Mz (d_ + 12) 6).1, (ze_r Mz (d_ + 12) 6).2⟩ (by decide) (zdal_p dlB_Sorts_residueOf_31 (i := 10) rfl) (fun hc_18 => ?_) (fun hc_18 => ?_)
      · skip
        refine zw_iload_n (pc := 89) (n := 1) (x := Int32.ofInt a0_) rfl (zdal_p dlB_Sorts_residueOf_32 (i := 17) rfl) ?_
        exact zk_iret (pc := 90) (ty := .int) rfl rfl ⟨by omega, by omega⟩ hf trivial (zdal_p dlB_Sorts_residueOf_32 (i := 18) rfl)
      · skip
        refine zw_aload_n (pc := 21) (n := 0) (x := (d_ + 12)) rfl (zdal_p dlB_Sorts_residueOf_31 (i := 11) rfl) ?_
        refine zw_getF (pc := 22) f_Sorts_14 rfl ((hf.w hW).kr (o := 12) (by decide)) ((hf.w hW).lr (o := 12) (s := 1) (r := 13) (by decide)) (zdal_p dlB_Sorts_residueOf_31 (i := 12) rfl) ?_
        refine zw_iload (pc := 25) (i := 4) (x := Int32.ofInt u2_) rfl (zdal_p dlB_Sorts_residueOf_31 (i := 13) rfl) ?_
        refine zk_atG hf.x (pc := 27) l_Sorts_49 ((hf.w hW).kr (o := 13) (by decide)) ((hf.w hW).lr (o := 13) (s := 0) (r := 14) (by decide)) ((hf.w hW).rr (o := 14) (t := 1) (n := 35) (by decide)) (by decide) ⟨by omega, by omega⟩ (by decide) (Nat.le_of_ble_eq_true rfl) (zdal_p dlB_Sorts_residueOf_31 (i := 14) rfl) (fun v5_ hv5_ hv5_a hv5_b => ?_)
        clear hv5_
        refine zw_istore (pc := 30) (i := 5) (L2 := [some (.ref (d_ + 12)), some (.int (Int32.ofInt a0_)), some (.int (Int32.ofInt a1_)), some (.int (Int32.ofInt v1_)), some (.int (Int32.ofInt u2_)), some (.int (Int32.ofInt v5_))]) (by decide) rfl (zdal_p dlB_Sorts_residueOf_31 (i := 15) rfl) ?_
        refine zw_iload (pc := 32) (i := 5) (x := Int32.ofInt v5_) rfl (zdal_p dlB_Sorts_residueOf_31 (i := 16) rfl) ?_
        refine zw_iload_n (pc := 34) (n := 3) (x := Int32.ofInt v1_) rfl (zdal_p dlB_Sorts_residueOf_31 (i := 17) rfl) ?_
        refine zr_callS hf.x (pc := 35) [.int (Int32.ofInt v5_), .int (Int32.ofInt v1_)] [] l_Sorts_96 (u_T_isPartX l d_ Mz (hf.w hW) v5_ hv5_a hv5_b v1_ hv1_a hv1_b) rfl rfl (by decide) (Nat.le_of_ble_eq_true rfl) (zdal_p dlB_Sorts_residueOf_31 (i := 18) rfl) ?_
        rintro _ N6_ ⟨v7_, rfl, ⟨hv7_a, hv7_b⟩, hsN6_, hp0_N6_⟩
        obtain rfl := hsN6_.eq.symm
        replace hp0_N6_ : (v7_ = 0 ∨ v7_ = 1) := hp0_N6_
        show zW l m_Sorts_residueOf (zn Mz + 0, zw Mz + 0) Mz 38 [some (.ref (d_ + 12)), some (.int (Int32.ofInt a0_)), some (.int (Int32.ofInt a1_)), some (.int (Int32.ofInt v1_)), some (.int (Int32.ofInt u2_)), some (.int (Int32.ofInt v5_))] [.int (Int32.ofInt v7_)] _
        refine zr_if_eq (pc := 38) (tgt := 83) ⟨hv7_a, hv7_b⟩ (by decide) (zdal_p dlB_Sorts_residueOf_31 (i := 19) rfl) (fun hc_38 => ?_) (fun hc_38 => ?_)
        · skip
          refine zr_iinc (pc := 83) (i := 4) (a := u2_) (n := 1) (L2 := [some (.ref (d_ + 12)), some (.int (Int32.ofInt a0_)), some (.int (Int32.ofInt a1_)), some (.int (Int32.ofInt v1_)), some (.int (Int32.ofInt (u2_ + 1))), some (.int (Int32.ofInt v5_))]) rfl (by decide) rfl (zdal_p dlB_Sorts_residueOf_32 (i := 15) rfl) ?_
          obtain ⟨v8_, hv8_a, hv8_b, hv8_e, hv8_d⟩ := zk_gen (u2_ + 1)
          rw [hv8_e]
          refine zw_goto (pc := 86) (tgt := 12) (by decide) (zdal_p dlB_Sorts_residueOf_32 (i := 16) rfl) ?_
          refine zW_le [some (.ref (d_ + 12)), some (.int (Int32.ofInt a0_)), some (.int (Int32.ofInt a1_)), some (.int (Int32.ofInt v1_)), some (.int (Int32.ofInt v8_)), none] (⟨rfl, rfl, rfl, rfl, rfl, trivial⟩) ?_
          exact ih_12 v8_ hv8_a hv8_b (show 0 ≤ v8_ by first | with_reducible assumption | assumption | omega) (by omega)
        · skip
          refine zw_iload_n (pc := 41) (n := 3) (x := Int32.ofInt v1_) rfl (zdal_p dlB_Sorts_residueOf_31 (i := 20) rfl) ?_
          refine zw_aload_n (pc := 42) (n := 0) (x := (d_ + 12)) rfl (zdal_p dlB_Sorts_residueOf_31 (i := 21) rfl) ?_
          refine zw_getF (pc := 43) f_Sorts_32 rfl ((hf.w hW).kr (o := 12) (by decide)) ((hf.w hW).lr (o := 12) (s := 0) (r := 1) (by decide)) (zdal_p dlB_Sorts_residueOf_31 (i := 22) rfl) ?_
          refine zw_iload (pc := 46) (i := 5) (x := Int32.ofInt v5_) rfl (zdal_p dlB_Sorts_residueOf_31 (i := 23) rfl) ?_
          refine zk_callV hf.x (pc := 48) [.int (Int32.ofInt v5_)] [.int (Int32.ofInt v1_)] l_Sorts_102 (u_Group_normOfX l d_ Mz (hf.w hW) v5_ hv5_a hv5_b) rfl rfl ((hf.w hW).kr (o := 1) (by decide)) (by decide) (by decide) (Nat.le_of_ble_eq_true rfl) (zdal_p dlB_Sorts_residueOf_32 (i := 0) rfl) ?_
          rintro _ N9_ ⟨v10_, rfl, ⟨hv10_a, hv10_b⟩, hsN9_, -⟩
          obtain rfl := hsN9_.eq.symm
          show zW l m_Sorts_residueOf (zn Mz + 0, zw Mz + 0) Mz 51 [some (.ref (d_ + 12)), some (.int (Int32.ofInt a0_)), some (.int (Int32.ofInt a1_)), some (.int (Int32.ofInt v1_)), some (.int (Int32.ofInt u2_)), some (.int (Int32.ofInt v5_))] [.int (Int32.ofInt v10_), .int (Int32.ofInt v1_)] _
          refine zr_callS hf.x (pc := 51) [.int (Int32.ofInt v1_), .int (Int32.ofInt v10_)] [] l_Sorts_96 (u_T_isPartX l d_ Mz (hf.w hW) v1_ hv1_a hv1_b v10_ hv10_a hv10_b) rfl rfl (by decide) (Nat.le_of_ble_eq_true rfl) (zdal_p dlB_Sorts_residueOf_32 (i := 1) rfl) ?_
          rintro _ N11_ ⟨v12_, rfl, ⟨hv12_a, hv12_b⟩, hsN11_, hp0_N11_⟩
          obtain rfl := hsN11_.eq.symm
          replace hp0_N11_ : (v12_ = 0 ∨ v12_ = 1) := hp0_N11_
          show zW l m_Sorts_residueOf (zn Mz + 0, zw Mz + 0) Mz 54 [some (.ref (d_ + 12)), some (.int (Int32.ofInt a0_)), some (.int (Int32.ofInt a1_)), some (.int (Int32.ofInt v1_)), some (.int (Int32.ofInt u2_)), some (.int (Int32.ofInt v5_))] [.int (Int32.ofInt v12_)] _
          refine zr_if_eq (pc := 54) (tgt := 83) ⟨hv12_a, hv12_b⟩ (by decide) (zdal_p dlB_Sorts_residueOf_32 (i := 2) rfl) (fun hc_54 => ?_) (fun hc_54 => ?_)
          · skip
            refine zr_iinc (pc := 83) (i := 4) (a := u2_) (n := 1) (L2 := [some (.ref (d_ + 12)), some (.int (Int32.ofInt a0_)), some (.int (Int32.ofInt a1_)), some (.int (Int32.ofInt v1_)), some (.int (Int32.ofInt (u2_ + 1))), some (.int (Int32.ofInt v5_))]) rfl (by decide) rfl (zdal_p dlB_Sorts_residueOf_32 (i := 15) rfl) ?_
            obtain ⟨v13_, hv13_a, hv13_b, hv13_e, hv13_d⟩ := zk_gen (u2_ + 1)
            rw [hv13_e]
            refine zw_goto (pc := 86) (tgt := 12) (by decide) (zdal_p dlB_Sorts_residueOf_32 (i := 16) rfl) ?_
            refine zW_le [some (.ref (d_ + 12)), some (.int (Int32.ofInt a0_)), some (.int (Int32.ofInt a1_)), some (.int (Int32.ofInt v1_)), some (.int (Int32.ofInt v13_)), none] (⟨rfl, rfl, rfl, rfl, rfl, trivial⟩) ?_
            exact ih_12 v13_ hv13_a hv13_b (show 0 ≤ v13_ by first | with_reducible assumption | assumption | omega) (by omega)
          · skip
            refine zw_iload (pc := 57) (i := 5) (x := Int32.ofInt v5_) rfl (zdal_p dlB_Sorts_residueOf_32 (i := 3) rfl) ?_
            refine zr_callS hf.x (pc := 59) [.int (Int32.ofInt v5_)] [] l_Sorts_78 (u_Integer_bitCountX l d_ Mz (hf.w hW) v5_ hv5_a hv5_b) rfl rfl (by decide) (Nat.le_of_ble_eq_true rfl) (zdal_p dlB_Sorts_residueOf_32 (i := 4) rfl) ?_
            rintro _ N14_ ⟨v15_, rfl, ⟨hv15_a, hv15_b⟩, hsN14_, ⟨hp0_N14_, hp1_N14_⟩⟩
            obtain rfl := hsN14_.eq.symm
            show zW l m_Sorts_residueOf (zn Mz + 0, zw Mz + 0) Mz 62 [some (.ref (d_ + 12)), some (.int (Int32.ofInt a0_)), some (.int (Int32.ofInt a1_)), some (.int (Int32.ofInt v1_)), some (.int (Int32.ofInt u2_)), some (.int (Int32.ofInt v5_))] [.int (Int32.ofInt v15_)] _
            refine zw_iload_n (pc := 62) (n := 3) (x := Int32.ofInt v1_) rfl (zdal_p dlB_Sorts_residueOf_32 (i := 5) rfl) ?_
            refine zr_callS hf.x (pc := 63) [.int (Int32.ofInt v1_)] [.int (Int32.ofInt v15_)] l_Sorts_78 (u_Integer_bitCountX l d_ Mz (hf.w hW) v1_ hv1_a hv1_b) rfl rfl (by decide) (Nat.le_of_ble_eq_true rfl) (zdal_p dlB_Sorts_residueOf_32 (i := 6) rfl) ?_
            rintro _ N16_ ⟨v17_, rfl, ⟨hv17_a, hv17_b⟩, hsN16_, ⟨hp0_N16_, hp1_N16_⟩⟩
            obtain rfl := hsN16_.eq.symm
            show zW l m_Sorts_residueOf (zn Mz + 0, zw Mz + 0) Mz 66 [some (.ref (d_ + 12)), some (.int (Int32.ofInt a0_)), some (.int (Int32.ofInt a1_)), some (.int (Int32.ofInt v1_)), some (.int (Int32.ofInt u2_)), some (.int (Int32.ofInt v5_))] [.int (Int32.ofInt v17_), .int (Int32.ofInt v15_)] _
            refine zw_iload_n (pc := 66) (n := 2) (x := Int32.ofInt a1_) rfl (zdal_p dlB_Sorts_residueOf_32 (i := 7) rfl) ?_
            refine zr_callS hf.x (pc := 67) [.int (Int32.ofInt v15_), .int (Int32.ofInt v17_), .int (Int32.ofInt a1_)] [] l_Sorts_105 (u_Sorts_isPowerApartX l d_ Mz (hf.w hW) v15_ hv15_a hv15_b v17_ hv17_a hv17_b a1_ ha1_a ha1_b (show v17_ ≤ 63 by first | with_reducible assumption | assumption | omega) (show (a1_ = 2 ∨ a1_ = 3 ∨ a1_ = 5) by first | with_reducible assumption | assumption | omega)) rfl rfl (by decide) (Nat.le_of_ble_eq_true rfl) (zdal_p dlB_Sorts_residueOf_32 (i := 8) rfl) ?_
            rintro _ N18_ ⟨v19_, rfl, ⟨hv19_a, hv19_b⟩, hsN18_, hp0_N18_⟩
            obtain rfl := hsN18_.eq.symm
            replace hp0_N18_ : (v19_ = 0 ∨ v19_ = 1) := hp0_N18_
            show zW l m_Sorts_residueOf (zn Mz + 0, zw Mz + 0) Mz 70 [some (.ref (d_ + 12)), some (.int (Int32.ofInt a0_)), some (.int (Int32.ofInt a1_)), some (.int (Int32.ofInt v1_)), some (.int (Int32.ofInt u2_)), some (.int (Int32.ofInt v5_))] [.int (Int32.ofInt v19_)] _
            refine zr_if_eq (pc := 70) (tgt := 83) ⟨hv19_a, hv19_b⟩ (by decide) (zdal_p dlB_Sorts_residueOf_32 (i := 9) rfl) (fun hc_70 => ?_) (fun hc_70 => ?_)
            · skip
              refine zr_iinc (pc := 83) (i := 4) (a := u2_) (n := 1) (L2 := [some (.ref (d_ + 12)), some (.int (Int32.ofInt a0_)), some (.int (Int32.ofInt a1_)), some (.int (Int32.ofInt v1_)), some (.int (Int32.ofInt (u2_ + 1))), some (.int (Int32.ofInt v5_))]) rfl (by decide) rfl (zdal_p dlB_Sorts_residueOf_32 (i := 15) rfl) ?_
              obtain ⟨v20_, hv20_a, hv20_b, hv20_e, hv20_d⟩ := zk_gen (u2_ + 1)
              rw [hv20_e]
              refine zw_goto (pc := 86) (tgt := 12) (by decide) (zdal_p dlB_Sorts_residueOf_32 (i := 16) rfl) ?_
              refine zW_le [some (.ref (d_ + 12)), some (.int (Int32.ofInt a0_)), some (.int (Int32.ofInt a1_)), some (.int (Int32.ofInt v1_)), some (.int (Int32.ofInt v20_)), none] (⟨rfl, rfl, rfl, rfl, rfl, trivial⟩) ?_
              exact ih_12 v20_ hv20_a hv20_b (show 0 ≤ v20_ by first | with_reducible assumption | assumption | omega) (by omega)
            · skip
              refine zw_aload_n (pc := 73) (n := 0) (x := (d_ + 12)) rfl (zdal_p dlB_Sorts_residueOf_32 (i := 10) rfl) ?_
              refine zw_getF (pc := 74) f_Sorts_20 rfl ((hf.w hW).kr (o := 12) (by decide)) ((hf.w hW).lr (o := 12) (s := 2) (r := 15) (by decide)) (zdal_p dlB_Sorts_residueOf_32 (i := 11) rfl) ?_
              refine zw_iload (pc := 77) (i := 4) (x := Int32.ofInt u2_) rfl (zdal_p dlB_Sorts_residueOf_32 (i := 12) rfl) ?_
              refine zk_atG hf.x (pc := 79) l_Sorts_49 ((hf.w hW).kr (o := 15) (by decide)) ((hf.w hW).lr (o := 15) (s := 0) (r := 16) (by decide)) ((hf.w hW).rr (o := 16) (t := 1) (n := 35) (by decide)) (by decide) ⟨by omega, by omega⟩ (by decide) (Nat.le_of_ble_eq_true rfl) (zdal_p dlB_Sorts_residueOf_32 (i := 13) rfl) (fun v21_ hv21_ hv21_a hv21_b => ?_)
              clear hv21_
              exact zk_iret (pc := 82) (ty := .int) rfl rfl ⟨by omega, by omega⟩ hf trivial (zdal_p dlB_Sorts_residueOf_32 (i := 14) rfl)
  exact lp_12 _ 0 (by decide) (by decide) (show 0 ≤ (0 : Int) by first | with_reducible assumption | assumption | omega) (Nat.lt_succ_self _)
set_option maxHeartbeats 4000000 in
theorem u_T_isPrimeX (l : Launch) (d_ : Nat) (Mz : zMem) (hW : zKW d_ Mz) (a0_ : Int) (ha0_a : -2147483648 ≤ a0_) (ha0_b : a0_ < 2147483648) : zC l m_T_isPrime 0 0 [.int (Int32.ofInt a0_)] Mz (zqcI d_ [] [] [] [] Mz (fun v N => ((v = 0 ∨ v = 1)) ∧ ((v = 1 → (a0_ = 2 ∨ a0_ = 3 ∨ a0_ = 5))))) := by
  refine zC_of (L0 := [some (.int (Int32.ofInt a0_))]) md_T_isPrime (Nat.le_of_ble_eq_true rfl) rfl ?_ zQ0
  have hf : zFc d_ [] [] [] [] Mz Mz := zFc.rf
  refine zw_iload_n (pc := 0) (n := 0) (x := Int32.ofInt a0_) rfl (zdal_p dlB_T_isPrime_30 (i := 0) rfl) ?_
  refine zw_iconst (pc := 1) (v := Int32.ofInt 2) (by decide) (zdal_p dlB_T_isPrime_30 (i := 1) rfl) ?_
  refine zr_icmp_eq (pc := 2) (tgt := 15) ⟨ha0_a, ha0_b⟩ ⟨(by decide), (by decide)⟩ (by decide) (zdal_p dlB_T_isPrime_30 (i := 2) rfl) (fun hc_2 => ?_) (fun hc_2 => ?_)
  · skip
    refine zw_iconst (pc := 15) (v := Int32.ofInt 1) (by decide) (zdal_p dlB_T_isPrime_30 (i := 9) rfl) ?_
    refine zw_goto (pc := 16) (tgt := 20) (by decide) (zdal_p dlB_T_isPrime_30 (i := 10) rfl) ?_
    exact zk_iret (pc := 20) (ty := .boolean) rfl (z_narB (by omega)) ⟨by omega, by omega⟩ hf ⟨(show (((1 : Int)) = 0 ∨ ((1 : Int)) = 1) by first | with_reducible assumption | assumption | omega), (show (((1 : Int)) = 1 → (a0_ = 2 ∨ a0_ = 3 ∨ a0_ = 5)) by first | with_reducible assumption | assumption | omega)⟩ (zdal_p dlB_T_isPrime_30 (i := 12) rfl)
  · skip
    refine zw_iload_n (pc := 5) (n := 0) (x := Int32.ofInt a0_) rfl (zdal_p dlB_T_isPrime_30 (i := 3) rfl) ?_
    refine zw_iconst (pc := 6) (v := Int32.ofInt 3) (by decide) (zdal_p dlB_T_isPrime_30 (i := 4) rfl) ?_
    refine zr_icmp_eq (pc := 7) (tgt := 15) ⟨ha0_a, ha0_b⟩ ⟨(by decide), (by decide)⟩ (by decide) (zdal_p dlB_T_isPrime_30 (i := 5) rfl) (fun hc_7 => ?_) (fun hc_7 => ?_)
    · skip
      refine zw_iconst (pc := 15) (v := Int32.ofInt 1) (by decide) (zdal_p dlB_T_isPrime_30 (i := 9) rfl) ?_
      refine zw_goto (pc := 16) (tgt := 20) (by decide) (zdal_p dlB_T_isPrime_30 (i := 10) rfl) ?_
      exact zk_iret (pc := 20) (ty := .boolean) rfl (z_narB (by omega)) ⟨by omega, by omega⟩ hf ⟨(show (((1 : Int)) = 0 ∨ ((1 : Int)) = 1) by first | with_reducible assumption | assumption | omega), (show (((1 : Int)) = 1 → (a0_ = 2 ∨ a0_ = 3 ∨ a0_ = 5)) by first | with_reducible assumption | assumption | omega)⟩ (zdal_p dlB_T_isPrime_30 (i := 12) rfl)
    · skip
      refine zw_iload_n (pc := 10) (n := 0) (x := Int32.ofInt a0_) rfl (zdal_p dlB_T_isPrime_30 (i := 6) rfl) ?_
      refine zw_iconst (pc := 11) (v := Int32.ofInt 5) (by decide) (zdal_p dlB_T_isPrime_30 (i := 7) rfl) ?_
      refine zr_icmp_ne (pc := 12) (tgt := 19) ⟨ha0_a, ha0_b⟩ ⟨(by decide), (by decide)⟩ (by decide) (zdal_p dlB_T_isPrime_30 (i := 8) rfl) (fun hc_12 => ?_) (fun hc_12 => ?_)
      · skip
        refine zw_iconst (pc := 19) (v := Int32.ofInt 0) (by decide) (zdal_p dlB_T_isPrime_30 (i := 11) rfl) ?_
        exact zk_iret (pc := 20) (ty := .boolean) rfl (z_narB (by omega)) ⟨by omega, by omega⟩ hf ⟨(show (((0 : Int)) = 0 ∨ ((0 : Int)) = 1) by first | with_reducible assumption | assumption | omega), (show (((0 : Int)) = 1 → (a0_ = 2 ∨ a0_ = 3 ∨ a0_ = 5)) by first | with_reducible assumption | assumption | omega)⟩ (zdal_p dlB_T_isPrime_30 (i := 12) rfl)
      · skip
        refine zw_iconst (pc := 15) (v := Int32.ofInt 1) (by decide) (zdal_p dlB_T_isPrime_30 (i := 9) rfl) ?_
        refine zw_goto (pc := 16) (tgt := 20) (by decide) (zdal_p dlB_T_isPrime_30 (i := 10) rfl) ?_
        exact zk_iret (pc := 20) (ty := .boolean) rfl (z_narB (by omega)) ⟨by omega, by omega⟩ hf ⟨(show (((1 : Int)) = 0 ∨ ((1 : Int)) = 1) by first | with_reducible assumption | assumption | omega), (show (((1 : Int)) = 1 → (a0_ = 2 ∨ a0_ = 3 ∨ a0_ = 5)) by first | with_reducible assumption | assumption | omega)⟩ (zdal_p dlB_T_isPrime_30 (i := 12) rfl)
set_option maxHeartbeats 4000000 in
theorem u_T_residueX (l : Launch) (d_ : Nat) (Mz : zMem) (hW : zKW d_ Mz) (hnow : zf Mz 0 2 = some (d_ + 0)) (a0_ : Int) (ha0_a : -2147483648 ≤ a0_) (ha0_b : a0_ < 2147483648) (a1_ : Int) (ha1_a : -2147483648 ≤ a1_) (ha1_b : a1_ < 2147483648) : zC l m_T_residue 0 0 [.ref 0, .int (Int32.ofInt a0_), .int (Int32.ofInt a1_)] Mz (zqcI d_ [] [] [] [] Mz (fun v N => True)) := by
  refine zC_of (L0 := [some (.ref 0), some (.int (Int32.ofInt a0_)), some (.int (Int32.ofInt a1_))]) md_T_residue (Nat.le_of_ble_eq_true rfl) rfl ?_ zQ0
  have hf : zFc d_ [] [] [] [] Mz Mz := zFc.rf
  refine zw_aload_n (pc := 0) (n := 0) (x := 0) rfl (zdal_p dlB_T_residue_29 (i := 0) rfl) ?_
  refine zw_getF (pc := 1) f_T_28 rfl ((hf.w hW).ka (o := 0) (by decide)) (hf.now hnow) (zdal_p dlB_T_residue_29 (i := 1) rfl) ?_
  refine zw_getF (pc := 4) f_T_85 rfl ((hf.w hW).kr (o := 0) (by decide)) ((hf.w hW).lr (o := 0) (s := 1) (r := 12) (by decide)) (zdal_p dlB_T_residue_29 (i := 2) rfl) ?_
  refine zw_iload_n (pc := 7) (n := 1) (x := Int32.ofInt a0_) rfl (zdal_p dlB_T_residue_29 (i := 3) rfl) ?_
  refine zk_callV hf.x (pc := 8) [.int (Int32.ofInt a0_)] [] l_T_143 (u_Sorts_hasSortX l d_ Mz (hf.w hW) a0_ ha0_a ha0_b) rfl rfl ((hf.w hW).kr (o := 12) (by decide)) (by decide) (by decide) (Nat.le_of_ble_eq_true rfl) (zdal_p dlB_T_residue_29 (i := 4) rfl) ?_
  rintro _ N1_ ⟨v2_, rfl, ⟨hv2_a, hv2_b⟩, hsN1_, hp0_N1_⟩
  obtain rfl := hsN1_.eq.symm
  replace hp0_N1_ : (v2_ = 0 ∨ v2_ = 1) := hp0_N1_
  show zW l m_T_residue (zn Mz + 0, zw Mz + 0) Mz 11 [some (.ref 0), some (.int (Int32.ofInt a0_)), some (.int (Int32.ofInt a1_))] [.int (Int32.ofInt v2_)] _
  refine zr_if_eq (pc := 11) (tgt := 36) ⟨hv2_a, hv2_b⟩ (by decide) (zdal_p dlB_T_residue_29 (i := 5) rfl) (fun hc_11 => ?_) (fun hc_11 => ?_)
  · skip
    refine zw_iconst (pc := 36) (v := Int32.ofInt (-1)) (by decide) (zdal_p dlB_T_residue_29 (i := 16) rfl) ?_
    exact zk_iret (pc := 37) (ty := .int) rfl rfl ⟨by omega, by omega⟩ hf trivial (zdal_p dlB_T_residue_29 (i := 17) rfl)
  · skip
    refine zw_iload_n (pc := 14) (n := 2) (x := Int32.ofInt a1_) rfl (zdal_p dlB_T_residue_29 (i := 6) rfl) ?_
    refine zr_callS hf.x (pc := 15) [.int (Int32.ofInt a1_)] [] l_T_183 (u_T_isPrimeX l d_ Mz (hf.w hW) a1_ ha1_a ha1_b) rfl rfl (by decide) (Nat.le_of_ble_eq_true rfl) (zdal_p dlB_T_residue_29 (i := 7) rfl) ?_
    rintro _ N3_ ⟨v4_, rfl, ⟨hv4_a, hv4_b⟩, hsN3_, ⟨hp0_N3_, hp1_N3_⟩⟩
    obtain rfl := hsN3_.eq.symm
    show zW l m_T_residue (zn Mz + 0, zw Mz + 0) Mz 18 [some (.ref 0), some (.int (Int32.ofInt a0_)), some (.int (Int32.ofInt a1_))] [.int (Int32.ofInt v4_)] _
    refine zr_if_eq (pc := 18) (tgt := 36) ⟨hv4_a, hv4_b⟩ (by decide) (zdal_p dlB_T_residue_29 (i := 8) rfl) (fun hc_18 => ?_) (fun hc_18 => ?_)
    · skip
      refine zw_iconst (pc := 36) (v := Int32.ofInt (-1)) (by decide) (zdal_p dlB_T_residue_29 (i := 16) rfl) ?_
      exact zk_iret (pc := 37) (ty := .int) rfl rfl ⟨by omega, by omega⟩ hf trivial (zdal_p dlB_T_residue_29 (i := 17) rfl)
    · skip
      refine zw_aload_n (pc := 21) (n := 0) (x := 0) rfl (zdal_p dlB_T_residue_29 (i := 9) rfl) ?_
      refine zw_getF (pc := 22) f_T_28 rfl ((hf.w hW).ka (o := 0) (by decide)) (hf.now hnow) (zdal_p dlB_T_residue_29 (i := 10) rfl) ?_
      refine zw_getF (pc := 25) f_T_85 rfl ((hf.w hW).kr (o := 0) (by decide)) ((hf.w hW).lr (o := 0) (s := 1) (r := 12) (by decide)) (zdal_p dlB_T_residue_29 (i := 11) rfl) ?_
      refine zw_iload_n (pc := 28) (n := 1) (x := Int32.ofInt a0_) rfl (zdal_p dlB_T_residue_29 (i := 12) rfl) ?_
      refine zw_iload_n (pc := 29) (n := 2) (x := Int32.ofInt a1_) rfl (zdal_p dlB_T_residue_29 (i := 13) rfl) ?_
      refine zk_callV hf.x (pc := 30) [.int (Int32.ofInt a0_), .int (Int32.ofInt a1_)] [] l_T_186 (u_Sorts_residueOfX l d_ Mz (hf.w hW) a0_ ha0_a ha0_b a1_ ha1_a ha1_b (show (a1_ = 2 ∨ a1_ = 3 ∨ a1_ = 5) by first | with_reducible assumption | assumption | omega)) rfl rfl ((hf.w hW).kr (o := 12) (by decide)) (by decide) (by decide) (Nat.le_of_ble_eq_true rfl) (zdal_p dlB_T_residue_29 (i := 14) rfl) ?_
      rintro _ N5_ ⟨v6_, rfl, ⟨hv6_a, hv6_b⟩, hsN5_, -⟩
      obtain rfl := hsN5_.eq.symm
      show zW l m_T_residue (zn Mz + 0, zw Mz + 0) Mz 33 [some (.ref 0), some (.int (Int32.ofInt a0_)), some (.int (Int32.ofInt a1_))] [.int (Int32.ofInt v6_)] _
      refine zw_goto (pc := 33) (tgt := 37) (by decide) (zdal_p dlB_T_residue_29 (i := 15) rfl) ?_
      exact zk_iret (pc := 37) (ty := .int) rfl rfl ⟨by omega, by omega⟩ hf trivial (zdal_p dlB_T_residue_29 (i := 17) rfl)
set_option maxHeartbeats 4000000 in
theorem u_Sorts_blockOfX (l : Launch) (d_ : Nat) (Mz : zMem) (hW : zKW d_ Mz) (a0_ : Int) (ha0_a : -2147483648 ≤ a0_) (ha0_b : a0_ < 2147483648) (a1_ : Int) (ha1_a : -2147483648 ≤ a1_) (ha1_b : a1_ < 2147483648) (p0_ : (a1_ = 2 ∨ a1_ = 3 ∨ a1_ = 5)) : zC l m_Sorts_blockOf 0 0 [.ref (d_ + 12), .int (Int32.ofInt a0_), .int (Int32.ofInt a1_)] Mz (zqcI d_ [] [] [] [] Mz (fun v N => True)) := by
  refine zC_of (L0 := [some (.ref (d_ + 12)), some (.int (Int32.ofInt a0_)), some (.int (Int32.ofInt a1_)), none, none, none]) md_Sorts_blockOf (Nat.le_of_ble_eq_true rfl) rfl ?_ zQ0
  have hf : zFc d_ [] [] [] [] Mz Mz := zFc.rf
  refine zw_aload_n (pc := 0) (n := 0) (x := (d_ + 12)) rfl (zdal_p dlB_Sorts_blockOf_35 (i := 0) rfl) ?_
  refine zw_iload_n (pc := 1) (n := 1) (x := Int32.ofInt a0_) rfl (zdal_p dlB_Sorts_blockOf_35 (i := 1) rfl) ?_
  refine zw_iload_n (pc := 2) (n := 2) (x := Int32.ofInt a1_) rfl (zdal_p dlB_Sorts_blockOf_35 (i := 2) rfl) ?_
  refine zk_callV hf.x (pc := 3) [.int (Int32.ofInt a0_), .int (Int32.ofInt a1_)] [] l_Sorts_109 (u_Sorts_residueOfX l d_ Mz (hf.w hW) a0_ ha0_a ha0_b a1_ ha1_a ha1_b (show (a1_ = 2 ∨ a1_ = 3 ∨ a1_ = 5) by first | with_reducible assumption | assumption | omega)) rfl rfl ((hf.w hW).kr (o := 12) (by decide)) (by decide) (by decide) (Nat.le_of_ble_eq_true rfl) (zdal_p dlB_Sorts_blockOf_35 (i := 3) rfl) ?_
  rintro _ N1_ ⟨v2_, rfl, ⟨hv2_a, hv2_b⟩, hsN1_, -⟩
  obtain rfl := hsN1_.eq.symm
  show zW l m_Sorts_blockOf (zn Mz + 0, zw Mz + 0) Mz 6 [some (.ref (d_ + 12)), some (.int (Int32.ofInt a0_)), some (.int (Int32.ofInt a1_)), none, none, none] [.int (Int32.ofInt v2_)] _
  refine zw_istore_n (pc := 6) (i := 3) (L2 := [some (.ref (d_ + 12)), some (.int (Int32.ofInt a0_)), some (.int (Int32.ofInt a1_)), some (.int (Int32.ofInt v2_)), none, none]) rfl (by decide) rfl (zdal_p dlB_Sorts_blockOf_35 (i := 4) rfl) ?_
  refine zw_iconst (pc := 7) (v := Int32.ofInt 0) (by decide) (zdal_p dlB_Sorts_blockOf_35 (i := 5) rfl) ?_
  refine zw_istore (pc := 8) (i := 4) (L2 := [some (.ref (d_ + 12)), some (.int (Int32.ofInt a0_)), some (.int (Int32.ofInt a1_)), some (.int (Int32.ofInt v2_)), some (.int (Int32.ofInt 0)), none]) (by decide) rfl (zdal_p dlB_Sorts_blockOf_35 (i := 6) rfl) ?_
  refine zw_iconst (pc := 10) (v := Int32.ofInt 0) (by decide) (zdal_p dlB_Sorts_blockOf_35 (i := 7) rfl) ?_
  refine zw_istore (pc := 11) (i := 5) (L2 := [some (.ref (d_ + 12)), some (.int (Int32.ofInt a0_)), some (.int (Int32.ofInt a1_)), some (.int (Int32.ofInt v2_)), some (.int (Int32.ofInt 0)), some (.int (Int32.ofInt 0))]) (by decide) rfl (zdal_p dlB_Sorts_blockOf_35 (i := 8) rfl) ?_
  have lp_13 : ∀ (n : Nat) (u3_ : Int) (hu3_a : -2147483648 ≤ u3_) (hu3_b : u3_ < 2147483648) (u4_ : Int) (hu4_a : -2147483648 ≤ u4_) (hu4_b : u4_ < 2147483648) (i5_ : 0 ≤ u4_), (ze Mz (d_ + 12) 7 - u4_).toNat < n → zW l m_Sorts_blockOf (zn Mz + 0, zw Mz + 0) Mz 13 [some (.ref (d_ + 12)), some (.int (Int32.ofInt a0_)), some (.int (Int32.ofInt a1_)), some (.int (Int32.ofInt v2_)), some (.int (Int32.ofInt u3_)), some (.int (Int32.ofInt u4_))] [] (zqcI d_ [] [] [] [] Mz (fun v N => True)) := by
    intro n
    induction n with
    | zero =>
      intro u3_ hu3_a hu3_b u4_ hu4_a hu4_b i5_ h0
      exact absurd h0 (Nat.not_lt_zero _)
    | succ n ih_13 =>
      intro u3_ hu3_a hu3_b u4_ hu4_a hu4_b i5_ hlt_13
      refine zw_iload (pc := 13) (i := 5) (x := Int32.ofInt u4_) rfl (zdal_p dlB_Sorts_blockOf_35 (i := 9) rfl) ?_
      refine zw_aload_n (pc := 15) (n := 0) (x := (d_ + 12)) rfl (zdal_p dlB_Sorts_blockOf_35 (i := 10) rfl) ?_
      refine zk_getI (pc := 16) f_Sorts_83 rfl ((hf.w hW).kr (o := 12) (by decide)) (zdal_p dlB_Sorts_blockOf_35 (i := 11) rfl) ?_
      have hr6_ := ze_r Mz (d_ + 12) 7
      refine zr_icmp_ge (pc := 19) (tgt := 48) ⟨hu4_a, hu4_b⟩ ⟨(ze_r Mz (d_ + 12) 7).1, (ze_r Mz (d_ + 12) 7).2⟩ (by decide) (zdal_p dlB_Sorts_blockOf_35 (i := 12) rfl) (fun hc_19 => ?_) (fun hc_19 => ?_)
      · skip
        refine zw_iload (pc := 48) (i := 4) (x := Int32.ofInt u3_) rfl (zdal_p dlB_Sorts_blockOf_36 (i := 3) rfl) ?_
        exact zk_iret (pc := 50) (ty := .int) rfl rfl ⟨by omega, by omega⟩ hf trivial (zdal_p dlB_Sorts_blockOf_36 (i := 4) rfl)
      · skip
        refine zw_aload_n (pc := 22) (n := 0) (x := (d_ + 12)) rfl (zdal_p dlB_Sorts_blockOf_35 (i := 13) rfl) ?_
        refine zw_iload (pc := 23) (i := 5) (x := Int32.ofInt u4_) rfl (zdal_p dlB_Sorts_blockOf_35 (i := 14) rfl) ?_
        refine zw_iload_n (pc := 25) (n := 2) (x := Int32.ofInt a1_) rfl (zdal_p dlB_Sorts_blockOf_35 (i := 15) rfl) ?_
        refine zk_callV hf.x (pc := 26) [.int (Int32.ofInt u4_), .int (Int32.ofInt a1_)] [] l_Sorts_109 (u_Sorts_residueOfX l d_ Mz (hf.w hW) u4_ hu4_a hu4_b a1_ ha1_a ha1_b (show (a1_ = 2 ∨ a1_ = 3 ∨ a1_ = 5) by first | with_reducible assumption | assumption | omega)) rfl rfl ((hf.w hW).kr (o := 12) (by decide)) (by decide) (by decide) (Nat.le_of_ble_eq_true rfl) (zdal_p dlB_Sorts_blockOf_35 (i := 16) rfl) ?_
        rintro _ N7_ ⟨v8_, rfl, ⟨hv8_a, hv8_b⟩, hsN7_, -⟩
        obtain rfl := hsN7_.eq.symm
        show zW l m_Sorts_blockOf (zn Mz + 0, zw Mz + 0) Mz 29 [some (.ref (d_ + 12)), some (.int (Int32.ofInt a0_)), some (.int (Int32.ofInt a1_)), some (.int (Int32.ofInt v2_)), some (.int (Int32.ofInt u3_)), some (.int (Int32.ofInt u4_))] [.int (Int32.ofInt v8_)] _
        refine zw_iload_n (pc := 29) (n := 3) (x := Int32.ofInt v2_) rfl (zdal_p dlB_Sorts_blockOf_35 (i := 17) rfl) ?_
        refine zr_icmp_ne (pc := 30) (tgt := 42) ⟨hv8_a, hv8_b⟩ ⟨hv2_a, hv2_b⟩ (by decide) (zdal_p dlB_Sorts_blockOf_35 (i := 18) rfl) (fun hc_30 => ?_) (fun hc_30 => ?_)
        · skip
          refine zr_iinc (pc := 42) (i := 5) (a := u4_) (n := 1) (L2 := [some (.ref (d_ + 12)), some (.int (Int32.ofInt a0_)), some (.int (Int32.ofInt a1_)), some (.int (Int32.ofInt v2_)), some (.int (Int32.ofInt u3_)), some (.int (Int32.ofInt (u4_ + 1)))]) rfl (by decide) rfl (zdal_p dlB_Sorts_blockOf_36 (i := 1) rfl) ?_
          obtain ⟨v9_, hv9_a, hv9_b, hv9_e, hv9_d⟩ := zk_gen (u4_ + 1)
          rw [hv9_e]
          refine zw_goto (pc := 45) (tgt := 13) (by decide) (zdal_p dlB_Sorts_blockOf_36 (i := 2) rfl) ?_
          exact ih_13 u3_ hu3_a hu3_b v9_ hv9_a hv9_b (show 0 ≤ v9_ by first | with_reducible assumption | assumption | omega) (by omega)
        · skip
          refine zw_iload (pc := 33) (i := 4) (x := Int32.ofInt u3_) rfl (zdal_p dlB_Sorts_blockOf_35 (i := 19) rfl) ?_
          refine zw_iconst (pc := 35) (v := Int32.ofInt 1) (by decide) (zdal_p dlB_Sorts_blockOf_35 (i := 20) rfl) ?_
          refine zw_iload (pc := 36) (i := 5) (x := Int32.ofInt u4_) rfl (zdal_p dlB_Sorts_blockOf_35 (i := 21) rfl) ?_
          refine zr_ishl (pc := 38) (zdal_p dlB_Sorts_blockOf_35 (i := 22) rfl) ?_
          have hr10_ := zshl_r 1 u4_
          refine zr_nmI (fun v11_ hv11_ => ?_)
          obtain ⟨hv11_a, hv11_b⟩ := hv11_
          refine zr_ior (pc := 39) (zdal_p dlB_Sorts_blockOf_35 (i := 23) rfl) ?_
          have hr12_ := zor_r u3_ v11_
          refine zr_nmI (fun v13_ hv13_ => ?_)
          obtain ⟨hv13_a, hv13_b⟩ := hv13_
          refine zw_istore (pc := 40) (i := 4) (L2 := [some (.ref (d_ + 12)), some (.int (Int32.ofInt a0_)), some (.int (Int32.ofInt a1_)), some (.int (Int32.ofInt v2_)), some (.int (Int32.ofInt v13_)), some (.int (Int32.ofInt u4_))]) (by decide) rfl (zdal_p dlB_Sorts_blockOf_36 (i := 0) rfl) ?_
          refine zr_iinc (pc := 42) (i := 5) (a := u4_) (n := 1) (L2 := [some (.ref (d_ + 12)), some (.int (Int32.ofInt a0_)), some (.int (Int32.ofInt a1_)), some (.int (Int32.ofInt v2_)), some (.int (Int32.ofInt v13_)), some (.int (Int32.ofInt (u4_ + 1)))]) rfl (by decide) rfl (zdal_p dlB_Sorts_blockOf_36 (i := 1) rfl) ?_
          obtain ⟨v14_, hv14_a, hv14_b, hv14_e, hv14_d⟩ := zk_gen (u4_ + 1)
          rw [hv14_e]
          refine zw_goto (pc := 45) (tgt := 13) (by decide) (zdal_p dlB_Sorts_blockOf_36 (i := 2) rfl) ?_
          exact ih_13 v13_ hv13_a hv13_b v14_ hv14_a hv14_b (show 0 ≤ v14_ by first | with_reducible assumption | assumption | omega) (by omega)
  exact lp_13 _ 0 (by decide) (by decide) 0 (by decide) (by decide) (show 0 ≤ (0 : Int) by first | with_reducible assumption | assumption | omega) (Nat.lt_succ_self _)
set_option maxHeartbeats 4000000 in
theorem u_T_blockX (l : Launch) (d_ : Nat) (Mz : zMem) (hW : zKW d_ Mz) (hnow : zf Mz 0 2 = some (d_ + 0)) (a0_ : Int) (ha0_a : -2147483648 ≤ a0_) (ha0_b : a0_ < 2147483648) (a1_ : Int) (ha1_a : -2147483648 ≤ a1_) (ha1_b : a1_ < 2147483648) : zC l m_T_block 0 0 [.ref 0, .int (Int32.ofInt a0_), .int (Int32.ofInt a1_)] Mz (zqcI d_ [] [] [] [] Mz (fun v N => True)) := by
  refine zC_of (L0 := [some (.ref 0), some (.int (Int32.ofInt a0_)), some (.int (Int32.ofInt a1_))]) md_T_block (Nat.le_of_ble_eq_true rfl) rfl ?_ zQ0
  have hf : zFc d_ [] [] [] [] Mz Mz := zFc.rf
  refine zw_aload_n (pc := 0) (n := 0) (x := 0) rfl (zdal_p dlB_T_block_34 (i := 0) rfl) ?_
  refine zw_getF (pc := 1) f_T_28 rfl ((hf.w hW).ka (o := 0) (by decide)) (hf.now hnow) (zdal_p dlB_T_block_34 (i := 1) rfl) ?_
  refine zw_getF (pc := 4) f_T_85 rfl ((hf.w hW).kr (o := 0) (by decide)) ((hf.w hW).lr (o := 0) (s := 1) (r := 12) (by decide)) (zdal_p dlB_T_block_34 (i := 2) rfl) ?_
  refine zw_iload_n (pc := 7) (n := 1) (x := Int32.ofInt a0_) rfl (zdal_p dlB_T_block_34 (i := 3) rfl) ?_
  refine zk_callV hf.x (pc := 8) [.int (Int32.ofInt a0_)] [] l_T_143 (u_Sorts_hasSortX l d_ Mz (hf.w hW) a0_ ha0_a ha0_b) rfl rfl ((hf.w hW).kr (o := 12) (by decide)) (by decide) (by decide) (Nat.le_of_ble_eq_true rfl) (zdal_p dlB_T_block_34 (i := 4) rfl) ?_
  rintro _ N1_ ⟨v2_, rfl, ⟨hv2_a, hv2_b⟩, hsN1_, hp0_N1_⟩
  obtain rfl := hsN1_.eq.symm
  replace hp0_N1_ : (v2_ = 0 ∨ v2_ = 1) := hp0_N1_
  show zW l m_T_block (zn Mz + 0, zw Mz + 0) Mz 11 [some (.ref 0), some (.int (Int32.ofInt a0_)), some (.int (Int32.ofInt a1_))] [.int (Int32.ofInt v2_)] _
  refine zr_if_eq (pc := 11) (tgt := 36) ⟨hv2_a, hv2_b⟩ (by decide) (zdal_p dlB_T_block_34 (i := 5) rfl) (fun hc_11 => ?_) (fun hc_11 => ?_)
  · skip
    refine zw_iconst (pc := 36) (v := Int32.ofInt (-1)) (by decide) (zdal_p dlB_T_block_34 (i := 16) rfl) ?_
    exact zk_iret (pc := 37) (ty := .int) rfl rfl ⟨by omega, by omega⟩ hf trivial (zdal_p dlB_T_block_34 (i := 17) rfl)
  · skip
    refine zw_iload_n (pc := 14) (n := 2) (x := Int32.ofInt a1_) rfl (zdal_p dlB_T_block_34 (i := 6) rfl) ?_
    refine zr_callS hf.x (pc := 15) [.int (Int32.ofInt a1_)] [] l_T_183 (u_T_isPrimeX l d_ Mz (hf.w hW) a1_ ha1_a ha1_b) rfl rfl (by decide) (Nat.le_of_ble_eq_true rfl) (zdal_p dlB_T_block_34 (i := 7) rfl) ?_
    rintro _ N3_ ⟨v4_, rfl, ⟨hv4_a, hv4_b⟩, hsN3_, ⟨hp0_N3_, hp1_N3_⟩⟩
    obtain rfl := hsN3_.eq.symm
    show zW l m_T_block (zn Mz + 0, zw Mz + 0) Mz 18 [some (.ref 0), some (.int (Int32.ofInt a0_)), some (.int (Int32.ofInt a1_))] [.int (Int32.ofInt v4_)] _
    refine zr_if_eq (pc := 18) (tgt := 36) ⟨hv4_a, hv4_b⟩ (by decide) (zdal_p dlB_T_block_34 (i := 8) rfl) (fun hc_18 => ?_) (fun hc_18 => ?_)
    · skip
      refine zw_iconst (pc := 36) (v := Int32.ofInt (-1)) (by decide) (zdal_p dlB_T_block_34 (i := 16) rfl) ?_
      exact zk_iret (pc := 37) (ty := .int) rfl rfl ⟨by omega, by omega⟩ hf trivial (zdal_p dlB_T_block_34 (i := 17) rfl)
    · skip
      refine zw_aload_n (pc := 21) (n := 0) (x := 0) rfl (zdal_p dlB_T_block_34 (i := 9) rfl) ?_
      refine zw_getF (pc := 22) f_T_28 rfl ((hf.w hW).ka (o := 0) (by decide)) (hf.now hnow) (zdal_p dlB_T_block_34 (i := 10) rfl) ?_
      refine zw_getF (pc := 25) f_T_85 rfl ((hf.w hW).kr (o := 0) (by decide)) ((hf.w hW).lr (o := 0) (s := 1) (r := 12) (by decide)) (zdal_p dlB_T_block_34 (i := 11) rfl) ?_
      refine zw_iload_n (pc := 28) (n := 1) (x := Int32.ofInt a0_) rfl (zdal_p dlB_T_block_34 (i := 12) rfl) ?_
      refine zw_iload_n (pc := 29) (n := 2) (x := Int32.ofInt a1_) rfl (zdal_p dlB_T_block_34 (i := 13) rfl) ?_
      refine zk_callV hf.x (pc := 30) [.int (Int32.ofInt a0_), .int (Int32.ofInt a1_)] [] l_T_189 (u_Sorts_blockOfX l d_ Mz (hf.w hW) a0_ ha0_a ha0_b a1_ ha1_a ha1_b (show (a1_ = 2 ∨ a1_ = 3 ∨ a1_ = 5) by first | with_reducible assumption | assumption | omega)) rfl rfl ((hf.w hW).kr (o := 12) (by decide)) (by decide) (by decide) (Nat.le_of_ble_eq_true rfl) (zdal_p dlB_T_block_34 (i := 14) rfl) ?_
      rintro _ N5_ ⟨v6_, rfl, ⟨hv6_a, hv6_b⟩, hsN5_, -⟩
      obtain rfl := hsN5_.eq.symm
      show zW l m_T_block (zn Mz + 0, zw Mz + 0) Mz 33 [some (.ref 0), some (.int (Int32.ofInt a0_)), some (.int (Int32.ofInt a1_))] [.int (Int32.ofInt v6_)] _
      refine zw_goto (pc := 33) (tgt := 37) (by decide) (zdal_p dlB_T_block_34 (i := 15) rfl) ?_
      exact zk_iret (pc := 37) (ty := .int) rfl rfl ⟨by omega, by omega⟩ hf trivial (zdal_p dlB_T_block_34 (i := 17) rfl)
set_option maxHeartbeats 4000000 in
theorem u_Group_keepersOfX (l : Launch) (d_ : Nat) (Mz : zMem) (hW : zKW d_ Mz) (a0_ : Int) (ha0_a : -2147483648 ≤ a0_) (ha0_b : a0_ < 2147483648) : zC l m_Group_keepersOf 0 0 [.ref (d_ + 1), .int (Int32.ofInt a0_)] Mz (zqcI d_ [] [] [] [] Mz (fun v N => True)) := by
  refine zC_of (L0 := [some (.ref (d_ + 1)), some (.int (Int32.ofInt a0_)), none, none]) md_Group_keepersOf (Nat.le_of_ble_eq_true rfl) rfl ?_ zQ0
  have hf : zFc d_ [] [] [] [] Mz Mz := zFc.rf
  refine zw_iconst (pc := 0) (v := Int32.ofInt 0) (by decide) (zdal_p dlB_Group_keepersOf_38 (i := 0) rfl) ?_
  refine zw_istore_n (pc := 1) (i := 2) (L2 := [some (.ref (d_ + 1)), some (.int (Int32.ofInt a0_)), some (.int (Int32.ofInt 0)), none]) rfl (by decide) rfl (zdal_p dlB_Group_keepersOf_38 (i := 1) rfl) ?_
  refine zw_iconst (pc := 2) (v := Int32.ofInt 0) (by decide) (zdal_p dlB_Group_keepersOf_38 (i := 2) rfl) ?_
  refine zw_istore_n (pc := 3) (i := 3) (L2 := [some (.ref (d_ + 1)), some (.int (Int32.ofInt a0_)), some (.int (Int32.ofInt 0)), some (.int (Int32.ofInt 0))]) rfl (by decide) rfl (zdal_p dlB_Group_keepersOf_38 (i := 3) rfl) ?_
  have lp_4 : ∀ (n : Nat) (u1_ : Int) (hu1_a : -2147483648 ≤ u1_) (hu1_b : u1_ < 2147483648) (u2_ : Int) (hu2_a : -2147483648 ≤ u2_) (hu2_b : u2_ < 2147483648) (i3_ : 0 ≤ u2_), (ze Mz (d_ + 1) 7 - u2_).toNat < n → zW l m_Group_keepersOf (zn Mz + 0, zw Mz + 0) Mz 4 [some (.ref (d_ + 1)), some (.int (Int32.ofInt a0_)), some (.int (Int32.ofInt u1_)), some (.int (Int32.ofInt u2_))] [] (zqcI d_ [] [] [] [] Mz (fun v N => True)) := by
    intro n
    induction n with
    | zero =>
      intro u1_ hu1_a hu1_b u2_ hu2_a hu2_b i3_ h0
      exact absurd h0 (Nat.not_lt_zero _)
    | succ n ih_4 =>
      intro u1_ hu1_a hu1_b u2_ hu2_a hu2_b i3_ hlt_4
      refine zw_iload_n (pc := 4) (n := 3) (x := Int32.ofInt u2_) rfl (zdal_p dlB_Group_keepersOf_38 (i := 4) rfl) ?_
      refine zw_aload_n (pc := 5) (n := 0) (x := (d_ + 1)) rfl (zdal_p dlB_Group_keepersOf_38 (i := 5) rfl) ?_
      refine zk_getI (pc := 6) f_Group_39 rfl ((hf.w hW).kr (o := 1) (by decide)) (zdal_p dlB_Group_keepersOf_38 (i := 6) rfl) ?_
      have hr4_ := ze_r Mz (d_ + 1) 7
      refine zr_icmp_ge (pc := 9) (tgt := 40) ⟨hu2_a, hu2_b⟩ ⟨(ze_r Mz (d_ + 1) 7).1, (ze_r Mz (d_ + 1) 7).2⟩ (by decide) (zdal_p dlB_Group_keepersOf_38 (i := 7) rfl) (fun hc_9 => ?_) (fun hc_9 => ?_)
      · skip
        refine zw_iload_n (pc := 40) (n := 2) (x := Int32.ofInt u1_) rfl (zdal_p dlB_Group_keepersOf_39 (i := 0) rfl) ?_
        exact zk_iret (pc := 41) (ty := .int) rfl rfl ⟨by omega, by omega⟩ hf trivial (zdal_p dlB_Group_keepersOf_39 (i := 1) rfl)
      · skip
        refine zw_aload_n (pc := 12) (n := 0) (x := (d_ + 1)) rfl (zdal_p dlB_Group_keepersOf_38 (i := 8) rfl) ?_
        refine zw_getF (pc := 13) f_Group_20 rfl ((hf.w hW).kr (o := 1) (by decide)) ((hf.w hW).lr (o := 1) (s := 1) (r := 4) (by decide)) (zdal_p dlB_Group_keepersOf_38 (i := 9) rfl) ?_
        refine zw_iload_n (pc := 16) (n := 3) (x := Int32.ofInt u2_) rfl (zdal_p dlB_Group_keepersOf_38 (i := 10) rfl) ?_
        refine zk_atG hf.x (pc := 17) l_Group_54 ((hf.w hW).kr (o := 4) (by decide)) ((hf.w hW).lr (o := 4) (s := 0) (r := 5) (by decide)) ((hf.w hW).rr (o := 5) (t := 1) (n := 24) (by decide)) (by decide) ⟨by omega, by omega⟩ (by decide) (Nat.le_of_ble_eq_true rfl) (zdal_p dlB_Group_keepersOf_38 (i := 11) rfl) (fun v5_ hv5_ hv5_a hv5_b => ?_)
        clear hv5_
        refine zw_iload_n (pc := 20) (n := 1) (x := Int32.ofInt a0_) rfl (zdal_p dlB_Group_keepersOf_38 (i := 12) rfl) ?_
        refine zr_callS hf.x (pc := 21) [.int (Int32.ofInt v5_), .int (Int32.ofInt a0_)] [] l_Group_64 (u_T_placeInX l d_ Mz (hf.w hW) v5_ hv5_a hv5_b a0_ ha0_a ha0_b) rfl rfl (by decide) (Nat.le_of_ble_eq_true rfl) (zdal_p dlB_Group_keepersOf_38 (i := 13) rfl) ?_
        rintro _ N6_ ⟨v7_, rfl, ⟨hv7_a, hv7_b⟩, hsN6_, -⟩
        obtain rfl := hsN6_.eq.symm
        show zW l m_Group_keepersOf (zn Mz + 0, zw Mz + 0) Mz 24 [some (.ref (d_ + 1)), some (.int (Int32.ofInt a0_)), some (.int (Int32.ofInt u1_)), some (.int (Int32.ofInt u2_))] [.int (Int32.ofInt v7_)] _
        refine zw_iload_n (pc := 24) (n := 1) (x := Int32.ofInt a0_) rfl (zdal_p dlB_Group_keepersOf_38 (i := 14) rfl) ?_
        refine zr_icmp_ne (pc := 25) (tgt := 34) ⟨hv7_a, hv7_b⟩ ⟨ha0_a, ha0_b⟩ (by decide) (zdal_p dlB_Group_keepersOf_38 (i := 15) rfl) (fun hc_25 => ?_) (fun hc_25 => ?_)
        · skip
          refine zr_iinc (pc := 34) (i := 3) (a := u2_) (n := 1) (L2 := [some (.ref (d_ + 1)), some (.int (Int32.ofInt a0_)), some (.int (Int32.ofInt u1_)), some (.int (Int32.ofInt (u2_ + 1)))]) rfl (by decide) rfl (zdal_p dlB_Group_keepersOf_38 (i := 22) rfl) ?_
          obtain ⟨v8_, hv8_a, hv8_b, hv8_e, hv8_d⟩ := zk_gen (u2_ + 1)
          rw [hv8_e]
          refine zw_goto (pc := 37) (tgt := 4) (by decide) (zdal_p dlB_Group_keepersOf_38 (i := 23) rfl) ?_
          exact ih_4 u1_ hu1_a hu1_b v8_ hv8_a hv8_b (show 0 ≤ v8_ by first | with_reducible assumption | assumption | omega) (by omega)
        · skip
          refine zw_iload_n (pc := 28) (n := 2) (x := Int32.ofInt u1_) rfl (zdal_p dlB_Group_keepersOf_38 (i := 16) rfl) ?_
          refine zw_iconst (pc := 29) (v := Int32.ofInt 1) (by decide) (zdal_p dlB_Group_keepersOf_38 (i := 17) rfl) ?_
          refine zw_iload_n (pc := 30) (n := 3) (x := Int32.ofInt u2_) rfl (zdal_p dlB_Group_keepersOf_38 (i := 18) rfl) ?_
          refine zr_ishl (pc := 31) (zdal_p dlB_Group_keepersOf_38 (i := 19) rfl) ?_
          have hr9_ := zshl_r 1 u2_
          refine zr_nmI (fun v10_ hv10_ => ?_)
          obtain ⟨hv10_a, hv10_b⟩ := hv10_
          refine zr_ior (pc := 32) (zdal_p dlB_Group_keepersOf_38 (i := 20) rfl) ?_
          have hr11_ := zor_r u1_ v10_
          refine zr_nmI (fun v12_ hv12_ => ?_)
          obtain ⟨hv12_a, hv12_b⟩ := hv12_
          refine zw_istore_n (pc := 33) (i := 2) (L2 := [some (.ref (d_ + 1)), some (.int (Int32.ofInt a0_)), some (.int (Int32.ofInt v12_)), some (.int (Int32.ofInt u2_))]) rfl (by decide) rfl (zdal_p dlB_Group_keepersOf_38 (i := 21) rfl) ?_
          refine zr_iinc (pc := 34) (i := 3) (a := u2_) (n := 1) (L2 := [some (.ref (d_ + 1)), some (.int (Int32.ofInt a0_)), some (.int (Int32.ofInt v12_)), some (.int (Int32.ofInt (u2_ + 1)))]) rfl (by decide) rfl (zdal_p dlB_Group_keepersOf_38 (i := 22) rfl) ?_
          obtain ⟨v13_, hv13_a, hv13_b, hv13_e, hv13_d⟩ := zk_gen (u2_ + 1)
          rw [hv13_e]
          refine zw_goto (pc := 37) (tgt := 4) (by decide) (zdal_p dlB_Group_keepersOf_38 (i := 23) rfl) ?_
          exact ih_4 v12_ hv12_a hv12_b v13_ hv13_a hv13_b (show 0 ≤ v13_ by first | with_reducible assumption | assumption | omega) (by omega)
  exact lp_4 _ 0 (by decide) (by decide) 0 (by decide) (by decide) (show 0 ≤ (0 : Int) by first | with_reducible assumption | assumption | omega) (Nat.lt_succ_self _)
set_option maxHeartbeats 4000000 in
theorem u_T_keeperX (l : Launch) (d_ : Nat) (Mz : zMem) (hW : zKW d_ Mz) (hnow : zf Mz 0 2 = some (d_ + 0)) (a0_ : Int) (ha0_a : -2147483648 ≤ a0_) (ha0_b : a0_ < 2147483648) : zC l m_T_keeper 0 0 [.ref 0, .int (Int32.ofInt a0_)] Mz (zqcI d_ [] [] [] [] Mz (fun v N => True)) := by
  refine zC_of (L0 := [some (.ref 0), some (.int (Int32.ofInt a0_))]) md_T_keeper (Nat.le_of_ble_eq_true rfl) rfl ?_ zQ0
  have hf : zFc d_ [] [] [] [] Mz Mz := zFc.rf
  refine zw_aload_n (pc := 0) (n := 0) (x := 0) rfl (zdal_p dlB_T_keeper_37 (i := 0) rfl) ?_
  refine zw_getF (pc := 1) f_T_28 rfl ((hf.w hW).ka (o := 0) (by decide)) (hf.now hnow) (zdal_p dlB_T_keeper_37 (i := 1) rfl) ?_
  refine zw_getF (pc := 4) f_T_61 rfl ((hf.w hW).kr (o := 0) (by decide)) ((hf.w hW).lr (o := 0) (s := 0) (r := 1) (by decide)) (zdal_p dlB_T_keeper_37 (i := 2) rfl) ?_
  refine zw_iload_n (pc := 7) (n := 1) (x := Int32.ofInt a0_) rfl (zdal_p dlB_T_keeper_37 (i := 3) rfl) ?_
  refine zk_callV hf.x (pc := 8) [.int (Int32.ofInt a0_)] [] l_T_111 (u_Group_hasPlaceX l d_ Mz (hf.w hW) a0_ ha0_a ha0_b) rfl rfl ((hf.w hW).kr (o := 1) (by decide)) (by decide) (by decide) (Nat.le_of_ble_eq_true rfl) (zdal_p dlB_T_keeper_37 (i := 4) rfl) ?_
  rintro _ N1_ ⟨v2_, rfl, ⟨hv2_a, hv2_b⟩, hsN1_, hp0_N1_⟩
  obtain rfl := hsN1_.eq.symm
  replace hp0_N1_ : (v2_ = 0 ∨ v2_ = 1) := hp0_N1_
  show zW l m_T_keeper (zn Mz + 0, zw Mz + 0) Mz 11 [some (.ref 0), some (.int (Int32.ofInt a0_))] [.int (Int32.ofInt v2_)] _
  refine zr_if_eq (pc := 11) (tgt := 28) ⟨hv2_a, hv2_b⟩ (by decide) (zdal_p dlB_T_keeper_37 (i := 5) rfl) (fun hc_11 => ?_) (fun hc_11 => ?_)
  · skip
    refine zw_iconst (pc := 28) (v := Int32.ofInt (-1)) (by decide) (zdal_p dlB_T_keeper_37 (i := 12) rfl) ?_
    exact zk_iret (pc := 29) (ty := .int) rfl rfl ⟨by omega, by omega⟩ hf trivial (zdal_p dlB_T_keeper_37 (i := 13) rfl)
  · skip
    refine zw_aload_n (pc := 14) (n := 0) (x := 0) rfl (zdal_p dlB_T_keeper_37 (i := 6) rfl) ?_
    refine zw_getF (pc := 15) f_T_28 rfl ((hf.w hW).ka (o := 0) (by decide)) (hf.now hnow) (zdal_p dlB_T_keeper_37 (i := 7) rfl) ?_
    refine zw_getF (pc := 18) f_T_61 rfl ((hf.w hW).kr (o := 0) (by decide)) ((hf.w hW).lr (o := 0) (s := 0) (r := 1) (by decide)) (zdal_p dlB_T_keeper_37 (i := 8) rfl) ?_
    refine zw_iload_n (pc := 21) (n := 1) (x := Int32.ofInt a0_) rfl (zdal_p dlB_T_keeper_37 (i := 9) rfl) ?_
    refine zk_callV hf.x (pc := 22) [.int (Int32.ofInt a0_)] [] l_T_192 (u_Group_keepersOfX l d_ Mz (hf.w hW) a0_ ha0_a ha0_b) rfl rfl ((hf.w hW).kr (o := 1) (by decide)) (by decide) (by decide) (Nat.le_of_ble_eq_true rfl) (zdal_p dlB_T_keeper_37 (i := 10) rfl) ?_
    rintro _ N3_ ⟨v4_, rfl, ⟨hv4_a, hv4_b⟩, hsN3_, -⟩
    obtain rfl := hsN3_.eq.symm
    show zW l m_T_keeper (zn Mz + 0, zw Mz + 0) Mz 25 [some (.ref 0), some (.int (Int32.ofInt a0_))] [.int (Int32.ofInt v4_)] _
    refine zw_goto (pc := 25) (tgt := 29) (by decide) (zdal_p dlB_T_keeper_37 (i := 11) rfl) ?_
    exact zk_iret (pc := 29) (ty := .int) rfl rfl ⟨by omega, by omega⟩ hf trivial (zdal_p dlB_T_keeper_37 (i := 13) rfl)
set_option maxHeartbeats 4000000 in
theorem u_Group_placesReachedX (l : Launch) (d_ : Nat) (Mz : zMem) (hW : zKW d_ Mz) (a0_ : Int) (ha0_a : -2147483648 ≤ a0_) (ha0_b : a0_ < 2147483648) (a1_ : Int) (ha1_a : -2147483648 ≤ a1_) (ha1_b : a1_ < 2147483648) : zC l m_Group_placesReached 0 0 [.ref (d_ + 1), .int (Int32.ofInt a0_), .int (Int32.ofInt a1_)] Mz (zqcI d_ [] [] [] [] Mz (fun v N => True)) := by
  refine zC_of (L0 := [some (.ref (d_ + 1)), some (.int (Int32.ofInt a0_)), some (.int (Int32.ofInt a1_)), none, none]) md_Group_placesReached (Nat.le_of_ble_eq_true rfl) rfl ?_ zQ0
  have hf : zFc d_ [] [] [] [] Mz Mz := zFc.rf
  refine zw_iconst (pc := 0) (v := Int32.ofInt 0) (by decide) (zdal_p dlB_Group_placesReached_42 (i := 0) rfl) ?_
  refine zw_istore_n (pc := 1) (i := 3) (L2 := [some (.ref (d_ + 1)), some (.int (Int32.ofInt a0_)), some (.int (Int32.ofInt a1_)), some (.int (Int32.ofInt 0)), none]) rfl (by decide) rfl (zdal_p dlB_Group_placesReached_42 (i := 1) rfl) ?_
  refine zw_iconst (pc := 2) (v := Int32.ofInt 0) (by decide) (zdal_p dlB_Group_placesReached_42 (i := 2) rfl) ?_
  refine zw_istore (pc := 3) (i := 4) (L2 := [some (.ref (d_ + 1)), some (.int (Int32.ofInt a0_)), some (.int (Int32.ofInt a1_)), some (.int (Int32.ofInt 0)), some (.int (Int32.ofInt 0))]) (by decide) rfl (zdal_p dlB_Group_placesReached_42 (i := 3) rfl) ?_
  have lp_5 : ∀ (n : Nat) (u1_ : Int) (hu1_a : -2147483648 ≤ u1_) (hu1_b : u1_ < 2147483648) (u2_ : Int) (hu2_a : -2147483648 ≤ u2_) (hu2_b : u2_ < 2147483648) (i3_ : 0 ≤ u2_), (ze Mz (d_ + 1) 7 - u2_).toNat < n → zW l m_Group_placesReached (zn Mz + 0, zw Mz + 0) Mz 5 [some (.ref (d_ + 1)), some (.int (Int32.ofInt a0_)), some (.int (Int32.ofInt a1_)), some (.int (Int32.ofInt u1_)), some (.int (Int32.ofInt u2_))] [] (zqcI d_ [] [] [] [] Mz (fun v N => True)) := by
    intro n
    induction n with
    | zero =>
      intro u1_ hu1_a hu1_b u2_ hu2_a hu2_b i3_ h0
      exact absurd h0 (Nat.not_lt_zero _)
    | succ n ih_5 =>
      intro u1_ hu1_a hu1_b u2_ hu2_a hu2_b i3_ hlt_5
      refine zw_iload (pc := 5) (i := 4) (x := Int32.ofInt u2_) rfl (zdal_p dlB_Group_placesReached_42 (i := 4) rfl) ?_
      refine zw_aload_n (pc := 7) (n := 0) (x := (d_ + 1)) rfl (zdal_p dlB_Group_placesReached_42 (i := 5) rfl) ?_
      refine zk_getI (pc := 8) f_Group_39 rfl ((hf.w hW).kr (o := 1) (by decide)) (zdal_p dlB_Group_placesReached_42 (i := 6) rfl) ?_
      have hr4_ := ze_r Mz (d_ + 1) 7
      refine zr_icmp_ge (pc := 11) (tgt := 47) ⟨hu2_a, hu2_b⟩ ⟨(ze_r Mz (d_ + 1) 7).1, (ze_r Mz (d_ + 1) 7).2⟩ (by decide) (zdal_p dlB_Group_placesReached_42 (i := 7) rfl) (fun hc_11 => ?_) (fun hc_11 => ?_)
      · skip
        refine zw_iload_n (pc := 47) (n := 3) (x := Int32.ofInt u1_) rfl (zdal_p dlB_Group_placesReached_43 (i := 1) rfl) ?_
        exact zk_iret (pc := 48) (ty := .int) rfl rfl ⟨by omega, by omega⟩ hf trivial (zdal_p dlB_Group_placesReached_43 (i := 2) rfl)
      · skip
        refine zw_iload_n (pc := 14) (n := 2) (x := Int32.ofInt a1_) rfl (zdal_p dlB_Group_placesReached_42 (i := 8) rfl) ?_
        refine zw_iload (pc := 15) (i := 4) (x := Int32.ofInt u2_) rfl (zdal_p dlB_Group_placesReached_42 (i := 9) rfl) ?_
        refine zr_callS hf.x (pc := 17) [.int (Int32.ofInt a1_), .int (Int32.ofInt u2_)] [] l_Group_73 (u_T_isInX l d_ Mz (hf.w hW) a1_ ha1_a ha1_b u2_ hu2_a hu2_b) rfl rfl (by decide) (Nat.le_of_ble_eq_true rfl) (zdal_p dlB_Group_placesReached_42 (i := 10) rfl) ?_
        rintro _ N5_ ⟨v6_, rfl, ⟨hv6_a, hv6_b⟩, hsN5_, hp0_N5_⟩
        obtain rfl := hsN5_.eq.symm
        replace hp0_N5_ : (v6_ = 0 ∨ v6_ = 1) := hp0_N5_
        show zW l m_Group_placesReached (zn Mz + 0, zw Mz + 0) Mz 20 [some (.ref (d_ + 1)), some (.int (Int32.ofInt a0_)), some (.int (Int32.ofInt a1_)), some (.int (Int32.ofInt u1_)), some (.int (Int32.ofInt u2_))] [.int (Int32.ofInt v6_)] _
        refine zr_if_eq (pc := 20) (tgt := 41) ⟨hv6_a, hv6_b⟩ (by decide) (zdal_p dlB_Group_placesReached_42 (i := 11) rfl) (fun hc_20 => ?_) (fun hc_20 => ?_)
        · skip
          refine zr_iinc (pc := 41) (i := 4) (a := u2_) (n := 1) (L2 := [some (.ref (d_ + 1)), some (.int (Int32.ofInt a0_)), some (.int (Int32.ofInt a1_)), some (.int (Int32.ofInt u1_)), some (.int (Int32.ofInt (u2_ + 1)))]) rfl (by decide) rfl (zdal_p dlB_Group_placesReached_42 (i := 23) rfl) ?_
          obtain ⟨v7_, hv7_a, hv7_b, hv7_e, hv7_d⟩ := zk_gen (u2_ + 1)
          rw [hv7_e]
          refine zw_goto (pc := 44) (tgt := 5) (by decide) (zdal_p dlB_Group_placesReached_43 (i := 0) rfl) ?_
          exact ih_5 u1_ hu1_a hu1_b v7_ hv7_a hv7_b (show 0 ≤ v7_ by first | with_reducible assumption | assumption | omega) (by omega)
        · skip
          refine zw_iload_n (pc := 23) (n := 3) (x := Int32.ofInt u1_) rfl (zdal_p dlB_Group_placesReached_42 (i := 12) rfl) ?_
          refine zw_iconst (pc := 24) (v := Int32.ofInt 1) (by decide) (zdal_p dlB_Group_placesReached_42 (i := 13) rfl) ?_
          refine zw_aload_n (pc := 25) (n := 0) (x := (d_ + 1)) rfl (zdal_p dlB_Group_placesReached_42 (i := 14) rfl) ?_
          refine zw_getF (pc := 26) f_Group_20 rfl ((hf.w hW).kr (o := 1) (by decide)) ((hf.w hW).lr (o := 1) (s := 1) (r := 4) (by decide)) (zdal_p dlB_Group_placesReached_42 (i := 15) rfl) ?_
          refine zw_iload (pc := 29) (i := 4) (x := Int32.ofInt u2_) rfl (zdal_p dlB_Group_placesReached_42 (i := 16) rfl) ?_
          refine zk_atG hf.x (pc := 31) l_Group_54 ((hf.w hW).kr (o := 4) (by decide)) ((hf.w hW).lr (o := 4) (s := 0) (r := 5) (by decide)) ((hf.w hW).rr (o := 5) (t := 1) (n := 24) (by decide)) (by decide) ⟨by omega, by omega⟩ (by decide) (Nat.le_of_ble_eq_true rfl) (zdal_p dlB_Group_placesReached_42 (i := 17) rfl) (fun v8_ hv8_ hv8_a hv8_b => ?_)
          clear hv8_
          refine zw_iload_n (pc := 34) (n := 1) (x := Int32.ofInt a0_) rfl (zdal_p dlB_Group_placesReached_42 (i := 18) rfl) ?_
          refine zr_callS hf.x (pc := 35) [.int (Int32.ofInt v8_), .int (Int32.ofInt a0_)] [.int (Int32.ofInt 1), .int (Int32.ofInt u1_)] l_Group_64 (u_T_placeInX l d_ Mz (hf.w hW) v8_ hv8_a hv8_b a0_ ha0_a ha0_b) rfl rfl (by decide) (Nat.le_of_ble_eq_true rfl) (zdal_p dlB_Group_placesReached_42 (i := 19) rfl) ?_
          rintro _ N9_ ⟨v10_, rfl, ⟨hv10_a, hv10_b⟩, hsN9_, -⟩
          obtain rfl := hsN9_.eq.symm
          show zW l m_Group_placesReached (zn Mz + 0, zw Mz + 0) Mz 38 [some (.ref (d_ + 1)), some (.int (Int32.ofInt a0_)), some (.int (Int32.ofInt a1_)), some (.int (Int32.ofInt u1_)), some (.int (Int32.ofInt u2_))] [.int (Int32.ofInt v10_), .int (Int32.ofInt 1), .int (Int32.ofInt u1_)] _
          refine zr_ishl (pc := 38) (zdal_p dlB_Group_placesReached_42 (i := 20) rfl) ?_
          have hr11_ := zshl_r 1 v10_
          refine zr_nmI (fun v12_ hv12_ => ?_)
          obtain ⟨hv12_a, hv12_b⟩ := hv12_
          refine zr_ior (pc := 39) (zdal_p dlB_Group_placesReached_42 (i := 21) rfl) ?_
          have hr13_ := zor_r u1_ v12_
          refine zr_nmI (fun v14_ hv14_ => ?_)
          obtain ⟨hv14_a, hv14_b⟩ := hv14_
          refine zw_istore_n (pc := 40) (i := 3) (L2 := [some (.ref (d_ + 1)), some (.int (Int32.ofInt a0_)), some (.int (Int32.ofInt a1_)), some (.int (Int32.ofInt v14_)), some (.int (Int32.ofInt u2_))]) rfl (by decide) rfl (zdal_p dlB_Group_placesReached_42 (i := 22) rfl) ?_
          refine zr_iinc (pc := 41) (i := 4) (a := u2_) (n := 1) (L2 := [some (.ref (d_ + 1)), some (.int (Int32.ofInt a0_)), some (.int (Int32.ofInt a1_)), some (.int (Int32.ofInt v14_)), some (.int (Int32.ofInt (u2_ + 1)))]) rfl (by decide) rfl (zdal_p dlB_Group_placesReached_42 (i := 23) rfl) ?_
          obtain ⟨v15_, hv15_a, hv15_b, hv15_e, hv15_d⟩ := zk_gen (u2_ + 1)
          rw [hv15_e]
          refine zw_goto (pc := 44) (tgt := 5) (by decide) (zdal_p dlB_Group_placesReached_43 (i := 0) rfl) ?_
          exact ih_5 v14_ hv14_a hv14_b v15_ hv15_a hv15_b (show 0 ≤ v15_ by first | with_reducible assumption | assumption | omega) (by omega)
  exact lp_5 _ 0 (by decide) (by decide) 0 (by decide) (by decide) (show 0 ≤ (0 : Int) by first | with_reducible assumption | assumption | omega) (Nat.lt_succ_self _)
set_option maxHeartbeats 4000000 in
theorem u_Group_reachOfX (l : Launch) (d_ : Nat) (Mz : zMem) (hW : zKW d_ Mz) (a0_ : Int) (ha0_a : -2147483648 ≤ a0_) (ha0_b : a0_ < 2147483648) : zC l m_Group_reachOf 0 0 [.ref (d_ + 1), .int (Int32.ofInt a0_)] Mz (zqcI d_ [] [] [] [] Mz (fun v N => True)) := by
  refine zC_of (L0 := [some (.ref (d_ + 1)), some (.int (Int32.ofInt a0_))]) md_Group_reachOf (Nat.le_of_ble_eq_true rfl) rfl ?_ zQ0
  have hf : zFc d_ [] [] [] [] Mz Mz := zFc.rf
  refine zw_aload_n (pc := 0) (n := 0) (x := (d_ + 1)) rfl (zdal_p dlB_Group_reachOf_41 (i := 0) rfl) ?_
  refine zw_iload_n (pc := 1) (n := 1) (x := Int32.ofInt a0_) rfl (zdal_p dlB_Group_reachOf_41 (i := 1) rfl) ?_
  refine zw_aload_n (pc := 2) (n := 0) (x := (d_ + 1)) rfl (zdal_p dlB_Group_reachOf_41 (i := 2) rfl) ?_
  refine zk_callV hf.x (pc := 3) [] [.int (Int32.ofInt a0_), .ref (d_ + 1)] l_Group_93 (u_Group_everyoneX l d_ Mz (hf.w hW) ) rfl rfl ((hf.w hW).kr (o := 1) (by decide)) (by decide) (by decide) (Nat.le_of_ble_eq_true rfl) (zdal_p dlB_Group_reachOf_41 (i := 3) rfl) ?_
  rintro _ N1_ ⟨v2_, rfl, ⟨hv2_a, hv2_b⟩, hsN1_, -⟩
  obtain rfl := hsN1_.eq.symm
  show zW l m_Group_reachOf (zn Mz + 0, zw Mz + 0) Mz 6 [some (.ref (d_ + 1)), some (.int (Int32.ofInt a0_))] [.int (Int32.ofInt v2_), .int (Int32.ofInt a0_), .ref (d_ + 1)] _
  refine zk_callV hf.x (pc := 6) [.int (Int32.ofInt a0_), .int (Int32.ofInt v2_)] [] l_Group_103 (u_Group_placesReachedX l d_ Mz (hf.w hW) a0_ ha0_a ha0_b v2_ hv2_a hv2_b) rfl rfl ((hf.w hW).kr (o := 1) (by decide)) (by decide) (by decide) (Nat.le_of_ble_eq_true rfl) (zdal_p dlB_Group_reachOf_41 (i := 4) rfl) ?_
  rintro _ N3_ ⟨v4_, rfl, ⟨hv4_a, hv4_b⟩, hsN3_, -⟩
  obtain rfl := hsN3_.eq.symm
  show zW l m_Group_reachOf (zn Mz + 0, zw Mz + 0) Mz 9 [some (.ref (d_ + 1)), some (.int (Int32.ofInt a0_))] [.int (Int32.ofInt v4_)] _
  exact zk_iret (pc := 9) (ty := .int) rfl rfl ⟨by omega, by omega⟩ hf trivial (zdal_p dlB_Group_reachOf_41 (i := 5) rfl)
set_option maxHeartbeats 4000000 in
theorem u_T_orbitX (l : Launch) (d_ : Nat) (Mz : zMem) (hW : zKW d_ Mz) (hnow : zf Mz 0 2 = some (d_ + 0)) (a0_ : Int) (ha0_a : -2147483648 ≤ a0_) (ha0_b : a0_ < 2147483648) : zC l m_T_orbit 0 0 [.ref 0, .int (Int32.ofInt a0_)] Mz (zqcI d_ [] [] [] [] Mz (fun v N => True)) := by
  refine zC_of (L0 := [some (.ref 0), some (.int (Int32.ofInt a0_))]) md_T_orbit (Nat.le_of_ble_eq_true rfl) rfl ?_ zQ0
  have hf : zFc d_ [] [] [] [] Mz Mz := zFc.rf
  refine zw_aload_n (pc := 0) (n := 0) (x := 0) rfl (zdal_p dlB_T_orbit_40 (i := 0) rfl) ?_
  refine zw_getF (pc := 1) f_T_28 rfl ((hf.w hW).ka (o := 0) (by decide)) (hf.now hnow) (zdal_p dlB_T_orbit_40 (i := 1) rfl) ?_
  refine zw_getF (pc := 4) f_T_61 rfl ((hf.w hW).kr (o := 0) (by decide)) ((hf.w hW).lr (o := 0) (s := 0) (r := 1) (by decide)) (zdal_p dlB_T_orbit_40 (i := 2) rfl) ?_
  refine zw_iload_n (pc := 7) (n := 1) (x := Int32.ofInt a0_) rfl (zdal_p dlB_T_orbit_40 (i := 3) rfl) ?_
  refine zk_callV hf.x (pc := 8) [.int (Int32.ofInt a0_)] [] l_T_111 (u_Group_hasPlaceX l d_ Mz (hf.w hW) a0_ ha0_a ha0_b) rfl rfl ((hf.w hW).kr (o := 1) (by decide)) (by decide) (by decide) (Nat.le_of_ble_eq_true rfl) (zdal_p dlB_T_orbit_40 (i := 4) rfl) ?_
  rintro _ N1_ ⟨v2_, rfl, ⟨hv2_a, hv2_b⟩, hsN1_, hp0_N1_⟩
  obtain rfl := hsN1_.eq.symm
  replace hp0_N1_ : (v2_ = 0 ∨ v2_ = 1) := hp0_N1_
  show zW l m_T_orbit (zn Mz + 0, zw Mz + 0) Mz 11 [some (.ref 0), some (.int (Int32.ofInt a0_))] [.int (Int32.ofInt v2_)] _
  refine zr_if_eq (pc := 11) (tgt := 28) ⟨hv2_a, hv2_b⟩ (by decide) (zdal_p dlB_T_orbit_40 (i := 5) rfl) (fun hc_11 => ?_) (fun hc_11 => ?_)
  · skip
    refine zw_iconst (pc := 28) (v := Int32.ofInt (-1)) (by decide) (zdal_p dlB_T_orbit_40 (i := 12) rfl) ?_
    exact zk_iret (pc := 29) (ty := .int) rfl rfl ⟨by omega, by omega⟩ hf trivial (zdal_p dlB_T_orbit_40 (i := 13) rfl)
  · skip
    refine zw_aload_n (pc := 14) (n := 0) (x := 0) rfl (zdal_p dlB_T_orbit_40 (i := 6) rfl) ?_
    refine zw_getF (pc := 15) f_T_28 rfl ((hf.w hW).ka (o := 0) (by decide)) (hf.now hnow) (zdal_p dlB_T_orbit_40 (i := 7) rfl) ?_
    refine zw_getF (pc := 18) f_T_61 rfl ((hf.w hW).kr (o := 0) (by decide)) ((hf.w hW).lr (o := 0) (s := 0) (r := 1) (by decide)) (zdal_p dlB_T_orbit_40 (i := 8) rfl) ?_
    refine zw_iload_n (pc := 21) (n := 1) (x := Int32.ofInt a0_) rfl (zdal_p dlB_T_orbit_40 (i := 9) rfl) ?_
    refine zk_callV hf.x (pc := 22) [.int (Int32.ofInt a0_)] [] l_T_195 (u_Group_reachOfX l d_ Mz (hf.w hW) a0_ ha0_a ha0_b) rfl rfl ((hf.w hW).kr (o := 1) (by decide)) (by decide) (by decide) (Nat.le_of_ble_eq_true rfl) (zdal_p dlB_T_orbit_40 (i := 10) rfl) ?_
    rintro _ N3_ ⟨v4_, rfl, ⟨hv4_a, hv4_b⟩, hsN3_, -⟩
    obtain rfl := hsN3_.eq.symm
    show zW l m_T_orbit (zn Mz + 0, zw Mz + 0) Mz 25 [some (.ref 0), some (.int (Int32.ofInt a0_))] [.int (Int32.ofInt v4_)] _
    refine zw_goto (pc := 25) (tgt := 29) (by decide) (zdal_p dlB_T_orbit_40 (i := 11) rfl) ?_
    exact zk_iret (pc := 29) (ty := .int) rfl rfl ⟨by omega, by omega⟩ hf trivial (zdal_p dlB_T_orbit_40 (i := 13) rfl)
set_option maxHeartbeats 4000000 in
theorem u_Group_leastOfCosetX (l : Launch) (d_ : Nat) (Mz : zMem) (hW : zKW d_ Mz) (a0_ : Int) (ha0_a : -2147483648 ≤ a0_) (ha0_b : a0_ < 2147483648) (a1_ : Int) (ha1_a : -2147483648 ≤ a1_) (ha1_b : a1_ < 2147483648) : zC l m_Group_leastOfCoset 0 0 [.ref (d_ + 1), .int (Int32.ofInt a0_), .int (Int32.ofInt a1_)] Mz (zqcI d_ [] [] [] [] Mz (fun v N => True)) := by
  refine zC_of (L0 := [some (.ref (d_ + 1)), some (.int (Int32.ofInt a0_)), some (.int (Int32.ofInt a1_)), none, none]) md_Group_leastOfCoset (Nat.le_of_ble_eq_true rfl) rfl ?_ zQ0
  have hf : zFc d_ [] [] [] [] Mz Mz := zFc.rf
  refine zw_iload_n (pc := 0) (n := 2) (x := Int32.ofInt a1_) rfl (zdal_p dlB_Group_leastOfCoset_46 (i := 0) rfl) ?_
  refine zw_istore_n (pc := 1) (i := 3) (L2 := [some (.ref (d_ + 1)), some (.int (Int32.ofInt a0_)), some (.int (Int32.ofInt a1_)), some (.int (Int32.ofInt a1_)), none]) rfl (by decide) rfl (zdal_p dlB_Group_leastOfCoset_46 (i := 1) rfl) ?_
  refine zw_iconst (pc := 2) (v := Int32.ofInt 0) (by decide) (zdal_p dlB_Group_leastOfCoset_46 (i := 2) rfl) ?_
  refine zw_istore (pc := 3) (i := 4) (L2 := [some (.ref (d_ + 1)), some (.int (Int32.ofInt a0_)), some (.int (Int32.ofInt a1_)), some (.int (Int32.ofInt a1_)), some (.int (Int32.ofInt 0))]) (by decide) rfl (zdal_p dlB_Group_leastOfCoset_46 (i := 3) rfl) ?_
  have lp_5 : ∀ (n : Nat) (u1_ : Int) (hu1_a : -2147483648 ≤ u1_) (hu1_b : u1_ < 2147483648) (u2_ : Int) (hu2_a : -2147483648 ≤ u2_) (hu2_b : u2_ < 2147483648) (i3_ : 0 ≤ u2_), (ze Mz (d_ + 1) 7 - u2_).toNat < n → zW l m_Group_leastOfCoset (zn Mz + 0, zw Mz + 0) Mz 5 [some (.ref (d_ + 1)), some (.int (Int32.ofInt a0_)), some (.int (Int32.ofInt a1_)), some (.int (Int32.ofInt u1_)), some (.int (Int32.ofInt u2_))] [] (zqcI d_ [] [] [] [] Mz (fun v N => True)) := by
    intro n
    induction n with
    | zero =>
      intro u1_ hu1_a hu1_b u2_ hu2_a hu2_b i3_ h0
      exact absurd h0 (Nat.not_lt_zero _)
    | succ n ih_5 =>
      intro u1_ hu1_a hu1_b u2_ hu2_a hu2_b i3_ hlt_5
      refine zw_iload (pc := 5) (i := 4) (x := Int32.ofInt u2_) rfl (zdal_p dlB_Group_leastOfCoset_46 (i := 4) rfl) ?_
      refine zw_aload_n (pc := 7) (n := 0) (x := (d_ + 1)) rfl (zdal_p dlB_Group_leastOfCoset_46 (i := 5) rfl) ?_
      refine zk_getI (pc := 8) f_Group_39 rfl ((hf.w hW).kr (o := 1) (by decide)) (zdal_p dlB_Group_leastOfCoset_46 (i := 6) rfl) ?_
      have hr4_ := ze_r Mz (d_ + 1) 7
      refine zr_icmp_ge (pc := 11) (tgt := 41) ⟨hu2_a, hu2_b⟩ ⟨(ze_r Mz (d_ + 1) 7).1, (ze_r Mz (d_ + 1) 7).2⟩ (by decide) (zdal_p dlB_Group_leastOfCoset_46 (i := 7) rfl) (fun hc_11 => ?_) (fun hc_11 => ?_)
      · skip
        refine zw_iload_n (pc := 41) (n := 3) (x := Int32.ofInt u1_) rfl (zdal_p dlB_Group_leastOfCoset_46 (i := 21) rfl) ?_
        exact zk_iret (pc := 42) (ty := .int) rfl rfl ⟨by omega, by omega⟩ hf trivial (zdal_p dlB_Group_leastOfCoset_46 (i := 22) rfl)
      · skip
        refine zw_iload_n (pc := 14) (n := 1) (x := Int32.ofInt a0_) rfl (zdal_p dlB_Group_leastOfCoset_46 (i := 8) rfl) ?_
        refine zw_iload (pc := 15) (i := 4) (x := Int32.ofInt u2_) rfl (zdal_p dlB_Group_leastOfCoset_46 (i := 9) rfl) ?_
        refine zr_callS hf.x (pc := 17) [.int (Int32.ofInt a0_), .int (Int32.ofInt u2_)] [] l_Group_73 (u_T_isInX l d_ Mz (hf.w hW) a0_ ha0_a ha0_b u2_ hu2_a hu2_b) rfl rfl (by decide) (Nat.le_of_ble_eq_true rfl) (zdal_p dlB_Group_leastOfCoset_46 (i := 10) rfl) ?_
        rintro _ N5_ ⟨v6_, rfl, ⟨hv6_a, hv6_b⟩, hsN5_, hp0_N5_⟩
        obtain rfl := hsN5_.eq.symm
        replace hp0_N5_ : (v6_ = 0 ∨ v6_ = 1) := hp0_N5_
        show zW l m_Group_leastOfCoset (zn Mz + 0, zw Mz + 0) Mz 20 [some (.ref (d_ + 1)), some (.int (Int32.ofInt a0_)), some (.int (Int32.ofInt a1_)), some (.int (Int32.ofInt u1_)), some (.int (Int32.ofInt u2_))] [.int (Int32.ofInt v6_)] _
        refine zr_if_eq (pc := 20) (tgt := 35) ⟨hv6_a, hv6_b⟩ (by decide) (zdal_p dlB_Group_leastOfCoset_46 (i := 11) rfl) (fun hc_20 => ?_) (fun hc_20 => ?_)
        · skip
          refine zr_iinc (pc := 35) (i := 4) (a := u2_) (n := 1) (L2 := [some (.ref (d_ + 1)), some (.int (Int32.ofInt a0_)), some (.int (Int32.ofInt a1_)), some (.int (Int32.ofInt u1_)), some (.int (Int32.ofInt (u2_ + 1)))]) rfl (by decide) rfl (zdal_p dlB_Group_leastOfCoset_46 (i := 19) rfl) ?_
          obtain ⟨v7_, hv7_a, hv7_b, hv7_e, hv7_d⟩ := zk_gen (u2_ + 1)
          rw [hv7_e]
          refine zw_goto (pc := 38) (tgt := 5) (by decide) (zdal_p dlB_Group_leastOfCoset_46 (i := 20) rfl) ?_
          exact ih_5 u1_ hu1_a hu1_b v7_ hv7_a hv7_b (show 0 ≤ v7_ by first | with_reducible assumption | assumption | omega) (by omega)
        · skip
          refine zw_iload_n (pc := 23) (n := 3) (x := Int32.ofInt u1_) rfl (zdal_p dlB_Group_leastOfCoset_46 (i := 12) rfl) ?_
          refine zw_aload_n (pc := 24) (n := 0) (x := (d_ + 1)) rfl (zdal_p dlB_Group_leastOfCoset_46 (i := 13) rfl) ?_
          refine zw_iload (pc := 25) (i := 4) (x := Int32.ofInt u2_) rfl (zdal_p dlB_Group_leastOfCoset_46 (i := 14) rfl) ?_
          refine zw_iload_n (pc := 27) (n := 2) (x := Int32.ofInt a1_) rfl (zdal_p dlB_Group_leastOfCoset_46 (i := 15) rfl) ?_
          refine zk_callV hf.x (pc := 28) [.int (Int32.ofInt u2_), .int (Int32.ofInt a1_)] [.int (Int32.ofInt u1_)] l_Group_67 (u_Group_bothX l d_ Mz (hf.w hW) u2_ hu2_a hu2_b a1_ ha1_a ha1_b) rfl rfl ((hf.w hW).kr (o := 1) (by decide)) (by decide) (by decide) (Nat.le_of_ble_eq_true rfl) (zdal_p dlB_Group_leastOfCoset_46 (i := 16) rfl) ?_
          rintro _ N8_ ⟨v9_, rfl, ⟨hv9_a, hv9_b⟩, hsN8_, -⟩
          obtain rfl := hsN8_.eq.symm
          show zW l m_Group_leastOfCoset (zn Mz + 0, zw Mz + 0) Mz 31 [some (.ref (d_ + 1)), some (.int (Int32.ofInt a0_)), some (.int (Int32.ofInt a1_)), some (.int (Int32.ofInt u1_)), some (.int (Int32.ofInt u2_))] [.int (Int32.ofInt v9_), .int (Int32.ofInt u1_)] _
          refine zk_mmin (pc := 31) x_Group_88 (by decide) (Nat.le_of_ble_eq_true rfl) (zdal_p dlB_Group_leastOfCoset_46 (i := 17) rfl) ⟨hu1_a, hu1_b⟩ ⟨hv9_a, hv9_b⟩ (fun v10_ hv10_ => ?_)
          have hv10_a : -2147483648 ≤ v10_ := by omega
          have hv10_b : v10_ < 2147483648 := by omega
          clear hv10_
          refine zw_istore_n (pc := 34) (i := 3) (L2 := [some (.ref (d_ + 1)), some (.int (Int32.ofInt a0_)), some (.int (Int32.ofInt a1_)), some (.int (Int32.ofInt v10_)), some (.int (Int32.ofInt u2_))]) rfl (by decide) rfl (zdal_p dlB_Group_leastOfCoset_46 (i := 18) rfl) ?_
          refine zr_iinc (pc := 35) (i := 4) (a := u2_) (n := 1) (L2 := [some (.ref (d_ + 1)), some (.int (Int32.ofInt a0_)), some (.int (Int32.ofInt a1_)), some (.int (Int32.ofInt v10_)), some (.int (Int32.ofInt (u2_ + 1)))]) rfl (by decide) rfl (zdal_p dlB_Group_leastOfCoset_46 (i := 19) rfl) ?_
          obtain ⟨v11_, hv11_a, hv11_b, hv11_e, hv11_d⟩ := zk_gen (u2_ + 1)
          rw [hv11_e]
          refine zw_goto (pc := 38) (tgt := 5) (by decide) (zdal_p dlB_Group_leastOfCoset_46 (i := 20) rfl) ?_
          exact ih_5 v10_ hv10_a hv10_b v11_ hv11_a hv11_b (show 0 ≤ v11_ by first | with_reducible assumption | assumption | omega) (by omega)
  exact lp_5 _ a1_ ha1_a ha1_b 0 (by decide) (by decide) (show 0 ≤ (0 : Int) by first | with_reducible assumption | assumption | omega) (Nat.lt_succ_self _)
set_option maxHeartbeats 4000000 in
theorem u_T_cosetX (l : Launch) (d_ : Nat) (Mz : zMem) (hW : zKW d_ Mz) (hnow : zf Mz 0 2 = some (d_ + 0)) (a0_ : Int) (ha0_a : -2147483648 ≤ a0_) (ha0_b : a0_ < 2147483648) (a1_ : Int) (ha1_a : -2147483648 ≤ a1_) (ha1_b : a1_ < 2147483648) : zC l m_T_coset 0 0 [.ref 0, .int (Int32.ofInt a0_), .int (Int32.ofInt a1_)] Mz (zqcI d_ [] [] [] [] Mz (fun v N => True)) := by
  refine zC_of (L0 := [some (.ref 0), some (.int (Int32.ofInt a0_)), some (.int (Int32.ofInt a1_))]) md_T_coset (Nat.le_of_ble_eq_true rfl) rfl ?_ zQ0
  have hf : zFc d_ [] [] [] [] Mz Mz := zFc.rf
  refine zw_aload_n (pc := 0) (n := 0) (x := 0) rfl (zdal_p dlB_T_coset_44 (i := 0) rfl) ?_
  refine zw_getF (pc := 1) f_T_28 rfl ((hf.w hW).ka (o := 0) (by decide)) (hf.now hnow) (zdal_p dlB_T_coset_44 (i := 1) rfl) ?_
  refine zw_getF (pc := 4) f_T_85 rfl ((hf.w hW).kr (o := 0) (by decide)) ((hf.w hW).lr (o := 0) (s := 1) (r := 12) (by decide)) (zdal_p dlB_T_coset_44 (i := 2) rfl) ?_
  refine zw_iload_n (pc := 7) (n := 1) (x := Int32.ofInt a0_) rfl (zdal_p dlB_T_coset_44 (i := 3) rfl) ?_
  refine zk_callV hf.x (pc := 8) [.int (Int32.ofInt a0_)] [] l_T_143 (u_Sorts_hasSortX l d_ Mz (hf.w hW) a0_ ha0_a ha0_b) rfl rfl ((hf.w hW).kr (o := 12) (by decide)) (by decide) (by decide) (Nat.le_of_ble_eq_true rfl) (zdal_p dlB_T_coset_44 (i := 4) rfl) ?_
  rintro _ N1_ ⟨v2_, rfl, ⟨hv2_a, hv2_b⟩, hsN1_, hp0_N1_⟩
  obtain rfl := hsN1_.eq.symm
  replace hp0_N1_ : (v2_ = 0 ∨ v2_ = 1) := hp0_N1_
  show zW l m_T_coset (zn Mz + 0, zw Mz + 0) Mz 11 [some (.ref 0), some (.int (Int32.ofInt a0_)), some (.int (Int32.ofInt a1_))] [.int (Int32.ofInt v2_)] _
  refine zr_if_eq (pc := 11) (tgt := 28) ⟨hv2_a, hv2_b⟩ (by decide) (zdal_p dlB_T_coset_44 (i := 5) rfl) (fun hc_11 => ?_) (fun hc_11 => ?_)
  · skip
    refine zw_iconst (pc := 28) (v := Int32.ofInt (-1)) (by decide) (zdal_p dlB_T_coset_44 (i := 12) rfl) ?_
    exact zk_iret (pc := 29) (ty := .int) rfl rfl ⟨by omega, by omega⟩ hf trivial (zdal_p dlB_T_coset_44 (i := 13) rfl)
  · skip
    refine zw_aload_n (pc := 14) (n := 0) (x := 0) rfl (zdal_p dlB_T_coset_44 (i := 6) rfl) ?_
    refine zw_getF (pc := 15) f_T_28 rfl ((hf.w hW).ka (o := 0) (by decide)) (hf.now hnow) (zdal_p dlB_T_coset_44 (i := 7) rfl) ?_
    refine zw_getF (pc := 18) f_T_61 rfl ((hf.w hW).kr (o := 0) (by decide)) ((hf.w hW).lr (o := 0) (s := 0) (r := 1) (by decide)) (zdal_p dlB_T_coset_44 (i := 8) rfl) ?_
    refine zw_iload_n (pc := 21) (n := 2) (x := Int32.ofInt a1_) rfl (zdal_p dlB_T_coset_44 (i := 9) rfl) ?_
    refine zk_callV hf.x (pc := 22) [.int (Int32.ofInt a1_)] [] l_T_108 (u_Group_hasMemberX l d_ Mz (hf.w hW) a1_ ha1_a ha1_b) rfl rfl ((hf.w hW).kr (o := 1) (by decide)) (by decide) (by decide) (Nat.le_of_ble_eq_true rfl) (zdal_p dlB_T_coset_44 (i := 10) rfl) ?_
    rintro _ N3_ ⟨v4_, rfl, ⟨hv4_a, hv4_b⟩, hsN3_, hp0_N3_⟩
    obtain rfl := hsN3_.eq.symm
    replace hp0_N3_ : (v4_ = 0 ∨ v4_ = 1) := hp0_N3_
    show zW l m_T_coset (zn Mz + 0, zw Mz + 0) Mz 25 [some (.ref 0), some (.int (Int32.ofInt a0_)), some (.int (Int32.ofInt a1_))] [.int (Int32.ofInt v4_)] _
    refine zr_if_ne (pc := 25) (tgt := 30) ⟨hv4_a, hv4_b⟩ (by decide) (zdal_p dlB_T_coset_44 (i := 11) rfl) (fun hc_25 => ?_) (fun hc_25 => ?_)
    · skip
      refine zw_aload_n (pc := 30) (n := 0) (x := 0) rfl (zdal_p dlB_T_coset_44 (i := 14) rfl) ?_
      refine zw_getF (pc := 31) f_T_28 rfl ((hf.w hW).ka (o := 0) (by decide)) (hf.now hnow) (zdal_p dlB_T_coset_44 (i := 15) rfl) ?_
      refine zw_getF (pc := 34) f_T_61 rfl ((hf.w hW).kr (o := 0) (by decide)) ((hf.w hW).lr (o := 0) (s := 0) (r := 1) (by decide)) (zdal_p dlB_T_coset_44 (i := 16) rfl) ?_
      refine zw_aload_n (pc := 37) (n := 0) (x := 0) rfl (zdal_p dlB_T_coset_44 (i := 17) rfl) ?_
      refine zw_getF (pc := 38) f_T_28 rfl ((hf.w hW).ka (o := 0) (by decide)) (hf.now hnow) (zdal_p dlB_T_coset_44 (i := 18) rfl) ?_
      refine zw_getF (pc := 41) f_T_85 rfl ((hf.w hW).kr (o := 0) (by decide)) ((hf.w hW).lr (o := 0) (s := 1) (r := 12) (by decide)) (zdal_p dlB_T_coset_44 (i := 19) rfl) ?_
      refine zw_getF (pc := 44) f_T_146 rfl ((hf.w hW).kr (o := 12) (by decide)) ((hf.w hW).lr (o := 12) (s := 4) (r := 19) (by decide)) (zdal_p dlB_T_coset_44 (i := 20) rfl) ?_
      refine zw_iload_n (pc := 47) (n := 1) (x := Int32.ofInt a0_) rfl (zdal_p dlB_T_coset_44 (i := 21) rfl) ?_
      refine zk_atG hf.x (pc := 48) l_T_118 ((hf.w hW).kr (o := 19) (by decide)) ((hf.w hW).lr (o := 19) (s := 0) (r := 20) (by decide)) ((hf.w hW).rr (o := 20) (t := 1) (n := 27) (by decide)) (by decide) ⟨by omega, by omega⟩ (by decide) (Nat.le_of_ble_eq_true rfl) (zdal_p dlB_T_coset_44 (i := 22) rfl) (fun v5_ hv5_ hv5_a hv5_b => ?_)
      clear hv5_
      refine zw_iload_n (pc := 51) (n := 2) (x := Int32.ofInt a1_) rfl (zdal_p dlB_T_coset_44 (i := 23) rfl) ?_
      refine zk_callV hf.x (pc := 52) [.int (Int32.ofInt v5_), .int (Int32.ofInt a1_)] [] l_T_198 (u_Group_leastOfCosetX l d_ Mz (hf.w hW) v5_ hv5_a hv5_b a1_ ha1_a ha1_b) rfl rfl ((hf.w hW).kr (o := 1) (by decide)) (by decide) (by decide) (Nat.le_of_ble_eq_true rfl) (zdal_p dlB_T_coset_45 (i := 0) rfl) ?_
      rintro _ N6_ ⟨v7_, rfl, ⟨hv7_a, hv7_b⟩, hsN6_, -⟩
      obtain rfl := hsN6_.eq.symm
      show zW l m_T_coset (zn Mz + 0, zw Mz + 0) Mz 55 [some (.ref 0), some (.int (Int32.ofInt a0_)), some (.int (Int32.ofInt a1_))] [.int (Int32.ofInt v7_)] _
      exact zk_iret (pc := 55) (ty := .int) rfl rfl ⟨by omega, by omega⟩ hf trivial (zdal_p dlB_T_coset_45 (i := 1) rfl)
    · skip
      refine zw_iconst (pc := 28) (v := Int32.ofInt (-1)) (by decide) (zdal_p dlB_T_coset_44 (i := 12) rfl) ?_
      exact zk_iret (pc := 29) (ty := .int) rfl rfl ⟨by omega, by omega⟩ hf trivial (zdal_p dlB_T_coset_44 (i := 13) rfl)
set_option maxHeartbeats 4000000 in
theorem u_T_takesX (l : Launch) (d_ : Nat) (Mz : zMem) (hW : zKW d_ Mz) (hnow : zf Mz 0 2 = some (d_ + 0)) (a0_ : Int) (ha0_a : -2147483648 ≤ a0_) (ha0_b : a0_ < 2147483648) (a1_ : Int) (ha1_a : -2147483648 ≤ a1_) (ha1_b : a1_ < 2147483648) (a2_ : Int) (ha2_a : -2147483648 ≤ a2_) (ha2_b : a2_ < 2147483648) : zC l m_T_takes 0 0 [.ref 0, .int (Int32.ofInt a0_), .int (Int32.ofInt a1_), .int (Int32.ofInt a2_)] Mz (zqcI d_ [] [] [] [] Mz (fun v N => True)) := by
  refine zC_of (L0 := [some (.ref 0), some (.int (Int32.ofInt a0_)), some (.int (Int32.ofInt a1_)), some (.int (Int32.ofInt a2_))]) md_T_takes (Nat.le_of_ble_eq_true rfl) rfl ?_ zQ0
  have hf : zFc d_ [] [] [] [] Mz Mz := zFc.rf
  refine zw_aload_n (pc := 0) (n := 0) (x := 0) rfl (zdal_p dlB_T_takes_47 (i := 0) rfl) ?_
  refine zw_getF (pc := 1) f_T_28 rfl ((hf.w hW).ka (o := 0) (by decide)) (hf.now hnow) (zdal_p dlB_T_takes_47 (i := 1) rfl) ?_
  refine zw_getF (pc := 4) f_T_85 rfl ((hf.w hW).kr (o := 0) (by decide)) ((hf.w hW).lr (o := 0) (s := 1) (r := 12) (by decide)) (zdal_p dlB_T_takes_47 (i := 2) rfl) ?_
  refine zw_iload_n (pc := 7) (n := 1) (x := Int32.ofInt a0_) rfl (zdal_p dlB_T_takes_47 (i := 3) rfl) ?_
  refine zk_callV hf.x (pc := 8) [.int (Int32.ofInt a0_)] [] l_T_143 (u_Sorts_hasSortX l d_ Mz (hf.w hW) a0_ ha0_a ha0_b) rfl rfl ((hf.w hW).kr (o := 12) (by decide)) (by decide) (by decide) (Nat.le_of_ble_eq_true rfl) (zdal_p dlB_T_takes_47 (i := 4) rfl) ?_
  rintro _ N1_ ⟨v2_, rfl, ⟨hv2_a, hv2_b⟩, hsN1_, hp0_N1_⟩
  obtain rfl := hsN1_.eq.symm
  replace hp0_N1_ : (v2_ = 0 ∨ v2_ = 1) := hp0_N1_
  show zW l m_T_takes (zn Mz + 0, zw Mz + 0) Mz 11 [some (.ref 0), some (.int (Int32.ofInt a0_)), some (.int (Int32.ofInt a1_)), some (.int (Int32.ofInt a2_))] [.int (Int32.ofInt v2_)] _
  refine zr_if_eq (pc := 11) (tgt := 42) ⟨hv2_a, hv2_b⟩ (by decide) (zdal_p dlB_T_takes_47 (i := 5) rfl) (fun hc_11 => ?_) (fun hc_11 => ?_)
  · skip
    refine zw_iconst (pc := 42) (v := Int32.ofInt (-1)) (by decide) (zdal_p dlB_T_takes_47 (i := 18) rfl) ?_
    exact zk_iret (pc := 43) (ty := .int) rfl rfl ⟨by omega, by omega⟩ hf trivial (zdal_p dlB_T_takes_47 (i := 19) rfl)
  · skip
    refine zw_aload_n (pc := 14) (n := 0) (x := 0) rfl (zdal_p dlB_T_takes_47 (i := 6) rfl) ?_
    refine zw_getF (pc := 15) f_T_28 rfl ((hf.w hW).ka (o := 0) (by decide)) (hf.now hnow) (zdal_p dlB_T_takes_47 (i := 7) rfl) ?_
    refine zw_getF (pc := 18) f_T_61 rfl ((hf.w hW).kr (o := 0) (by decide)) ((hf.w hW).lr (o := 0) (s := 0) (r := 1) (by decide)) (zdal_p dlB_T_takes_47 (i := 8) rfl) ?_
    refine zw_iload_n (pc := 21) (n := 2) (x := Int32.ofInt a1_) rfl (zdal_p dlB_T_takes_47 (i := 9) rfl) ?_
    refine zk_callV hf.x (pc := 22) [.int (Int32.ofInt a1_)] [] l_T_108 (u_Group_hasMemberX l d_ Mz (hf.w hW) a1_ ha1_a ha1_b) rfl rfl ((hf.w hW).kr (o := 1) (by decide)) (by decide) (by decide) (Nat.le_of_ble_eq_true rfl) (zdal_p dlB_T_takes_47 (i := 10) rfl) ?_
    rintro _ N3_ ⟨v4_, rfl, ⟨hv4_a, hv4_b⟩, hsN3_, hp0_N3_⟩
    obtain rfl := hsN3_.eq.symm
    replace hp0_N3_ : (v4_ = 0 ∨ v4_ = 1) := hp0_N3_
    show zW l m_T_takes (zn Mz + 0, zw Mz + 0) Mz 25 [some (.ref 0), some (.int (Int32.ofInt a0_)), some (.int (Int32.ofInt a1_)), some (.int (Int32.ofInt a2_))] [.int (Int32.ofInt v4_)] _
    refine zr_if_eq (pc := 25) (tgt := 42) ⟨hv4_a, hv4_b⟩ (by decide) (zdal_p dlB_T_takes_47 (i := 11) rfl) (fun hc_25 => ?_) (fun hc_25 => ?_)
    · skip
      refine zw_iconst (pc := 42) (v := Int32.ofInt (-1)) (by decide) (zdal_p dlB_T_takes_47 (i := 18) rfl) ?_
      exact zk_iret (pc := 43) (ty := .int) rfl rfl ⟨by omega, by omega⟩ hf trivial (zdal_p dlB_T_takes_47 (i := 19) rfl)
    · skip
      refine zw_aload_n (pc := 28) (n := 0) (x := 0) rfl (zdal_p dlB_T_takes_47 (i := 12) rfl) ?_
      refine zw_getF (pc := 29) f_T_28 rfl ((hf.w hW).ka (o := 0) (by decide)) (hf.now hnow) (zdal_p dlB_T_takes_47 (i := 13) rfl) ?_
      refine zw_getF (pc := 32) f_T_61 rfl ((hf.w hW).kr (o := 0) (by decide)) ((hf.w hW).lr (o := 0) (s := 0) (r := 1) (by decide)) (zdal_p dlB_T_takes_47 (i := 14) rfl) ?_
      refine zw_iload_n (pc := 35) (n := 3) (x := Int32.ofInt a2_) rfl (zdal_p dlB_T_takes_47 (i := 15) rfl) ?_
      refine zk_callV hf.x (pc := 36) [.int (Int32.ofInt a2_)] [] l_T_108 (u_Group_hasMemberX l d_ Mz (hf.w hW) a2_ ha2_a ha2_b) rfl rfl ((hf.w hW).kr (o := 1) (by decide)) (by decide) (by decide) (Nat.le_of_ble_eq_true rfl) (zdal_p dlB_T_takes_47 (i := 16) rfl) ?_
      rintro _ N5_ ⟨v6_, rfl, ⟨hv6_a, hv6_b⟩, hsN5_, hp0_N5_⟩
      obtain rfl := hsN5_.eq.symm
      replace hp0_N5_ : (v6_ = 0 ∨ v6_ = 1) := hp0_N5_
      show zW l m_T_takes (zn Mz + 0, zw Mz + 0) Mz 39 [some (.ref 0), some (.int (Int32.ofInt a0_)), some (.int (Int32.ofInt a1_)), some (.int (Int32.ofInt a2_))] [.int (Int32.ofInt v6_)] _
      refine zr_if_ne (pc := 39) (tgt := 44) ⟨hv6_a, hv6_b⟩ (by decide) (zdal_p dlB_T_takes_47 (i := 17) rfl) (fun hc_39 => ?_) (fun hc_39 => ?_)
      · skip
        refine zw_aload_n (pc := 44) (n := 0) (x := 0) rfl (zdal_p dlB_T_takes_47 (i := 20) rfl) ?_
        refine zw_getF (pc := 45) f_T_28 rfl ((hf.w hW).ka (o := 0) (by decide)) (hf.now hnow) (zdal_p dlB_T_takes_47 (i := 21) rfl) ?_
        refine zw_getF (pc := 48) f_T_61 rfl ((hf.w hW).kr (o := 0) (by decide)) ((hf.w hW).lr (o := 0) (s := 0) (r := 1) (by decide)) (zdal_p dlB_T_takes_47 (i := 22) rfl) ?_
        refine zw_aload_n (pc := 51) (n := 0) (x := 0) rfl (zdal_p dlB_T_takes_47 (i := 23) rfl) ?_
        refine zw_getF (pc := 52) f_T_28 rfl ((hf.w hW).ka (o := 0) (by decide)) (hf.now hnow) (zdal_p dlB_T_takes_48 (i := 0) rfl) ?_
        refine zw_getF (pc := 55) f_T_85 rfl ((hf.w hW).kr (o := 0) (by decide)) ((hf.w hW).lr (o := 0) (s := 1) (r := 12) (by decide)) (zdal_p dlB_T_takes_48 (i := 1) rfl) ?_
        refine zw_getF (pc := 58) f_T_146 rfl ((hf.w hW).kr (o := 12) (by decide)) ((hf.w hW).lr (o := 12) (s := 4) (r := 19) (by decide)) (zdal_p dlB_T_takes_48 (i := 2) rfl) ?_
        refine zw_iload_n (pc := 61) (n := 1) (x := Int32.ofInt a0_) rfl (zdal_p dlB_T_takes_48 (i := 3) rfl) ?_
        refine zk_atG hf.x (pc := 62) l_T_118 ((hf.w hW).kr (o := 19) (by decide)) ((hf.w hW).lr (o := 19) (s := 0) (r := 20) (by decide)) ((hf.w hW).rr (o := 20) (t := 1) (n := 27) (by decide)) (by decide) ⟨by omega, by omega⟩ (by decide) (Nat.le_of_ble_eq_true rfl) (zdal_p dlB_T_takes_48 (i := 4) rfl) (fun v7_ hv7_ hv7_a hv7_b => ?_)
        clear hv7_
        refine zw_aload_n (pc := 65) (n := 0) (x := 0) rfl (zdal_p dlB_T_takes_48 (i := 5) rfl) ?_
        refine zw_getF (pc := 66) f_T_28 rfl ((hf.w hW).ka (o := 0) (by decide)) (hf.now hnow) (zdal_p dlB_T_takes_48 (i := 6) rfl) ?_
        refine zw_getF (pc := 69) f_T_61 rfl ((hf.w hW).kr (o := 0) (by decide)) ((hf.w hW).lr (o := 0) (s := 0) (r := 1) (by decide)) (zdal_p dlB_T_takes_48 (i := 7) rfl) ?_
        refine zw_iload_n (pc := 72) (n := 2) (x := Int32.ofInt a1_) rfl (zdal_p dlB_T_takes_48 (i := 8) rfl) ?_
        refine zw_iload_n (pc := 73) (n := 3) (x := Int32.ofInt a2_) rfl (zdal_p dlB_T_takes_48 (i := 9) rfl) ?_
        refine zk_callV hf.x (pc := 74) [.int (Int32.ofInt a1_), .int (Int32.ofInt a2_)] [.int (Int32.ofInt v7_), .ref (d_ + 1)] l_T_128 (u_Group_bothX l d_ Mz (hf.w hW) a1_ ha1_a ha1_b a2_ ha2_a ha2_b) rfl rfl ((hf.w hW).kr (o := 1) (by decide)) (by decide) (by decide) (Nat.le_of_ble_eq_true rfl) (zdal_p dlB_T_takes_48 (i := 10) rfl) ?_
        rintro _ N8_ ⟨v9_, rfl, ⟨hv9_a, hv9_b⟩, hsN8_, -⟩
        obtain rfl := hsN8_.eq.symm
        show zW l m_T_takes (zn Mz + 0, zw Mz + 0) Mz 77 [some (.ref 0), some (.int (Int32.ofInt a0_)), some (.int (Int32.ofInt a1_)), some (.int (Int32.ofInt a2_))] [.int (Int32.ofInt v9_), .int (Int32.ofInt v7_), .ref (d_ + 1)] _
        refine zk_callV hf.x (pc := 77) [.int (Int32.ofInt v7_), .int (Int32.ofInt v9_)] [] l_T_198 (u_Group_leastOfCosetX l d_ Mz (hf.w hW) v7_ hv7_a hv7_b v9_ hv9_a hv9_b) rfl rfl ((hf.w hW).kr (o := 1) (by decide)) (by decide) (by decide) (Nat.le_of_ble_eq_true rfl) (zdal_p dlB_T_takes_48 (i := 11) rfl) ?_
        rintro _ N10_ ⟨v11_, rfl, ⟨hv11_a, hv11_b⟩, hsN10_, -⟩
        obtain rfl := hsN10_.eq.symm
        show zW l m_T_takes (zn Mz + 0, zw Mz + 0) Mz 80 [some (.ref 0), some (.int (Int32.ofInt a0_)), some (.int (Int32.ofInt a1_)), some (.int (Int32.ofInt a2_))] [.int (Int32.ofInt v11_)] _
        exact zk_iret (pc := 80) (ty := .int) rfl rfl ⟨by omega, by omega⟩ hf trivial (zdal_p dlB_T_takes_48 (i := 12) rfl)
      · skip
        refine zw_iconst (pc := 42) (v := Int32.ofInt (-1)) (by decide) (zdal_p dlB_T_takes_47 (i := 18) rfl) ?_
        exact zk_iret (pc := 43) (ty := .int) rfl rfl ⟨by omega, by omega⟩ hf trivial (zdal_p dlB_T_takes_47 (i := 19) rfl)
set_option maxHeartbeats 4000000 in
theorem u_Sorts_moebiusOfX (l : Launch) (d_ : Nat) (Mz : zMem) (hW : zKW d_ Mz) (a0_ : Int) (ha0_a : -2147483648 ≤ a0_) (ha0_b : a0_ < 2147483648) : zC l m_Sorts_moebiusOf 0 0 [.ref (d_ + 12), .int (Int32.ofInt a0_)] Mz (zqcI d_ [] [] [] [18] Mz (fun v N => True)) := by
  refine zC_of (L0 := [some (.ref (d_ + 12)), some (.int (Int32.ofInt a0_)), none, none, none, none]) md_Sorts_moebiusOf (Nat.le_of_ble_eq_true rfl) rfl ?_ zQ0
  have hf : zFc d_ [] [] [] [18] Mz Mz := zFc.rf
  refine zw_iconst (pc := 0) (v := Int32.ofInt 0) (by decide) (zdal_p dlB_Sorts_moebiusOf_50 (i := 0) rfl) ?_
  refine zw_istore_n (pc := 1) (i := 2) (L2 := [some (.ref (d_ + 12)), some (.int (Int32.ofInt a0_)), some (.int (Int32.ofInt 0)), none, none, none]) rfl (by decide) rfl (zdal_p dlB_Sorts_moebiusOf_50 (i := 1) rfl) ?_
  refine zw_aload_n (pc := 2) (n := 0) (x := (d_ + 12)) rfl (zdal_p dlB_Sorts_moebiusOf_50 (i := 2) rfl) ?_
  refine zk_getI (pc := 3) f_Sorts_36 rfl ((hf.w hW).kr (o := 12) (by decide)) (zdal_p dlB_Sorts_moebiusOf_50 (i := 3) rfl) ?_
  have hr1_ := ze_r Mz (d_ + 12) 6
  refine zw_iconst (pc := 6) (v := Int32.ofInt 1) (by decide) (zdal_p dlB_Sorts_moebiusOf_50 (i := 4) rfl) ?_
  refine zr_isub (pc := 7) (zdal_p dlB_Sorts_moebiusOf_50 (i := 5) rfl) ?_
  refine zr_nmI (fun v2_ hv2_ => ?_)
  obtain ⟨hv2_a, hv2_b⟩ := hv2_
  refine zw_istore_n (pc := 8) (i := 3) (L2 := [some (.ref (d_ + 12)), some (.int (Int32.ofInt a0_)), some (.int (Int32.ofInt 0)), some (.int (Int32.ofInt v2_)), none, none]) rfl (by decide) rfl (zdal_p dlB_Sorts_moebiusOf_50 (i := 6) rfl) ?_
  have lp_9 : ∀ (n : Nat) (u3_ : Int) (hu3_a : -2147483648 ≤ u3_) (hu3_b : u3_ < 2147483648) (u4_ : Int) (hu4_a : -2147483648 ≤ u4_) (hu4_b : u4_ < 2147483648) (N5_ : zMem) (hs6_ : zFc d_ [] [] [] [18] Mz N5_) (i7_ : u4_ ≤ v2_), (u4_ + 1).toNat < n → zW l m_Sorts_moebiusOf (zn Mz + 0, zw Mz + 0) N5_ 9 [some (.ref (d_ + 12)), some (.int (Int32.ofInt a0_)), some (.int (Int32.ofInt u3_)), some (.int (Int32.ofInt u4_)), none, none] [] (zqcI d_ [] [] [] [18] Mz (fun v N => True)) := by
    intro n
    induction n with
    | zero =>
      intro u3_ hu3_a hu3_b u4_ hu4_a hu4_b N5_ hs6_ i7_ h0
      exact absurd h0 (Nat.not_lt_zero _)
    | succ n ih_9 =>
      intro u3_ hu3_a hu3_b u4_ hu4_a hu4_b N5_ hs6_ i7_ hlt_9
      have hf_N5_ : zFc d_ [] [] [] [18] Mz N5_ := hf.tr hs6_ (by decide) (by decide) (by decide) (by decide)
      refine zw_iload_n (pc := 9) (n := 3) (x := Int32.ofInt u4_) rfl (zdal_p dlB_Sorts_moebiusOf_50 (i := 7) rfl) ?_
      refine zr_if_lt (pc := 10) (tgt := 118) ⟨hu4_a, hu4_b⟩ (by decide) (zdal_p dlB_Sorts_moebiusOf_50 (i := 8) rfl) (fun hc_10 => ?_) (fun hc_10 => ?_)
      · skip
        refine zw_iload_n (pc := 118) (n := 2) (x := Int32.ofInt u3_) rfl (zdal_p dlB_Sorts_moebiusOf_52 (i := 13) rfl) ?_
        exact zk_iret (pc := 119) (ty := .int) rfl rfl ⟨by omega, by omega⟩ hf_N5_ trivial (zdal_p dlB_Sorts_moebiusOf_52 (i := 14) rfl)
      · skip
        refine zw_iload_n (pc := 13) (n := 3) (x := Int32.ofInt u4_) rfl (zdal_p dlB_Sorts_moebiusOf_50 (i := 9) rfl) ?_
        refine zw_aload_n (pc := 14) (n := 0) (x := (d_ + 12)) rfl (zdal_p dlB_Sorts_moebiusOf_50 (i := 10) rfl) ?_
        refine zk_getI (pc := 15) f_Sorts_36 rfl ((hf_N5_.w hW).kr (o := 12) (by decide)) (zdal_p dlB_Sorts_moebiusOf_50 (i := 11) rfl) ?_
        rw [hf_N5_.e (by decide)]
        refine zw_iconst (pc := 18) (v := Int32.ofInt 1) (by decide) (zdal_p dlB_Sorts_moebiusOf_50 (i := 12) rfl) ?_
        refine zr_isub (pc := 19) (zdal_p dlB_Sorts_moebiusOf_50 (i := 13) rfl) ?_
        refine zr_nmI (fun v8_ hv8_ => ?_)
        obtain ⟨hv8_a, hv8_b⟩ := hv8_
        refine zr_icmp_ne (pc := 20) (tgt := 27) ⟨hu4_a, hu4_b⟩ ⟨hv8_a, hv8_b⟩ (by decide) (zdal_p dlB_Sorts_moebiusOf_50 (i := 14) rfl) (fun hc_20 => ?_) (fun hc_20 => ?_)
        · skip
          refine zw_iconst (pc := 27) (v := Int32.ofInt 0) (by decide) (zdal_p dlB_Sorts_moebiusOf_50 (i := 17) rfl) ?_
          refine zw_istore (pc := 28) (i := 4) (L2 := [some (.ref (d_ + 12)), some (.int (Int32.ofInt a0_)), some (.int (Int32.ofInt u3_)), some (.int (Int32.ofInt u4_)), some (.int (Int32.ofInt 0)), none]) (by decide) rfl (zdal_p dlB_Sorts_moebiusOf_50 (i := 18) rfl) ?_
          refine zw_iload_n (pc := 30) (n := 3) (x := Int32.ofInt u4_) rfl (zdal_p dlB_Sorts_moebiusOf_50 (i := 19) rfl) ?_
          refine zw_iconst (pc := 31) (v := Int32.ofInt 1) (by decide) (zdal_p dlB_Sorts_moebiusOf_50 (i := 20) rfl) ?_
          refine zr_iadd (pc := 32) (zdal_p dlB_Sorts_moebiusOf_50 (i := 21) rfl) ?_
          refine zr_nmI (fun v9_ hv9_ => ?_)
          obtain ⟨hv9_a, hv9_b⟩ := hv9_
          refine zw_istore (pc := 33) (i := 5) (L2 := [some (.ref (d_ + 12)), some (.int (Int32.ofInt a0_)), some (.int (Int32.ofInt u3_)), some (.int (Int32.ofInt u4_)), some (.int (Int32.ofInt 0)), some (.int (Int32.ofInt v9_))]) (by decide) rfl (zdal_p dlB_Sorts_moebiusOf_50 (i := 22) rfl) ?_
          have lp_35 : ∀ (n : Nat) (u10_ : Int) (hu10_a : -2147483648 ≤ u10_) (hu10_b : u10_ < 2147483648) (u11_ : Int) (hu11_a : -2147483648 ≤ u11_) (hu11_b : u11_ < 2147483648) (i12_ : v9_ ≤ u11_), (ze Mz (d_ + 12) 6 - u11_).toNat < n → zW l m_Sorts_moebiusOf (zn Mz + 0, zw Mz + 0) N5_ 35 [some (.ref (d_ + 12)), some (.int (Int32.ofInt a0_)), some (.int (Int32.ofInt u3_)), some (.int (Int32.ofInt u4_)), some (.int (Int32.ofInt u10_)), some (.int (Int32.ofInt u11_))] [] (zqcI d_ [] [] [] [18] Mz (fun v N => True)) := by
            intro n
            induction n with
            | zero =>
              intro u10_ hu10_a hu10_b u11_ hu11_a hu11_b i12_ h0
              exact absurd h0 (Nat.not_lt_zero _)
            | succ n ih_35 =>
              intro u10_ hu10_a hu10_b u11_ hu11_a hu11_b i12_ hlt_35
              refine zw_iload (pc := 35) (i := 5) (x := Int32.ofInt u11_) rfl (zdal_p dlB_Sorts_moebiusOf_50 (i := 23) rfl) ?_
              refine zw_aload_n (pc := 37) (n := 0) (x := (d_ + 12)) rfl (zdal_p dlB_Sorts_moebiusOf_51 (i := 0) rfl) ?_
              refine zk_getI (pc := 38) f_Sorts_36 rfl ((hf_N5_.w hW).kr (o := 12) (by decide)) (zdal_p dlB_Sorts_moebiusOf_51 (i := 1) rfl) ?_
              rw [hf_N5_.e (by decide)]
              refine zr_icmp_ge (pc := 41) (tgt := 87) ⟨hu11_a, hu11_b⟩ ⟨(ze_r Mz (d_ + 12) 6).1, (ze_r Mz (d_ + 12) 6).2⟩ (by decide) (zdal_p dlB_Sorts_moebiusOf_51 (i := 2) rfl) (fun hc_41 => ?_) (fun hc_41 => ?_)
              · skip
                refine zw_aload_n (pc := 87) (n := 0) (x := (d_ + 12)) rfl (zdal_p dlB_Sorts_moebiusOf_51 (i := 22) rfl) ?_
                refine zw_getF (pc := 88) f_Sorts_23 rfl ((hf_N5_.w hW).kr (o := 12) (by decide)) ((hf_N5_.w hW).lr (o := 12) (s := 3) (r := 17) (by decide)) (zdal_p dlB_Sorts_moebiusOf_51 (i := 23) rfl) ?_
                refine zw_iload_n (pc := 91) (n := 3) (x := Int32.ofInt u4_) rfl (zdal_p dlB_Sorts_moebiusOf_52 (i := 0) rfl) ?_
                refine zw_iload (pc := 92) (i := 4) (x := Int32.ofInt u10_) rfl (zdal_p dlB_Sorts_moebiusOf_52 (i := 1) rfl) ?_
                refine zk_stG hf_N5_.x (pc := 94) (o := 18) (by decide) l_Sorts_40 ((hf_N5_.w hW).kr (o := 17) (by decide)) ((hf_N5_.w hW).lr (o := 17) (s := 0) (r := 18) (by decide)) ((hf_N5_.w hW).rr (o := 18) (t := 1) (n := 35) (by decide)) (by decide) ⟨by omega, by omega⟩ (by decide) (Nat.le_of_ble_eq_true rfl) (zdal_p dlB_Sorts_moebiusOf_52 (i := 2) rfl) (fun N13_ hsN13_ => ?_)
                have hf_N13_ : zFc d_ [] [] [] [18] Mz N13_ := hf_N5_.tr hsN13_ (by decide) (by decide) (by decide) (by decide)
                have hb0_N13_ : zFc d_ [] [] [] [18] Mz N13_ := hs6_.tr hsN13_ (by decide) (by decide) (by decide) (by decide)
                refine zw_aload_n (pc := 97) (n := 0) (x := (d_ + 12)) rfl (zdal_p dlB_Sorts_moebiusOf_52 (i := 3) rfl) ?_
                refine zw_getF (pc := 98) f_Sorts_20 rfl ((hf_N13_.w hW).kr (o := 12) (by decide)) ((hf_N13_.w hW).lr (o := 12) (s := 2) (r := 15) (by decide)) (zdal_p dlB_Sorts_moebiusOf_52 (i := 4) rfl) ?_
                refine zw_iload_n (pc := 101) (n := 3) (x := Int32.ofInt u4_) rfl (zdal_p dlB_Sorts_moebiusOf_52 (i := 5) rfl) ?_
                refine zk_atG hf_N13_.x (pc := 102) l_Sorts_49 ((hf_N13_.w hW).kr (o := 15) (by decide)) ((hf_N13_.w hW).lr (o := 15) (s := 0) (r := 16) (by decide)) ((hf_N13_.w hW).rr (o := 16) (t := 1) (n := 35) (by decide)) (by decide) ⟨by omega, by omega⟩ (by decide) (Nat.le_of_ble_eq_true rfl) (zdal_p dlB_Sorts_moebiusOf_52 (i := 6) rfl) (fun v14_ hv14_ hv14_a hv14_b => ?_)
                clear hv14_
                refine zw_iload_n (pc := 105) (n := 1) (x := Int32.ofInt a0_) rfl (zdal_p dlB_Sorts_moebiusOf_52 (i := 7) rfl) ?_
                refine zr_icmp_ne (pc := 106) (tgt := 112) ⟨hv14_a, hv14_b⟩ ⟨ha0_a, ha0_b⟩ (by decide) (zdal_p dlB_Sorts_moebiusOf_52 (i := 8) rfl) (fun hc_106 => ?_) (fun hc_106 => ?_)
                · skip
                  refine zr_iinc (pc := 112) (i := 3) (a := u4_) (n := -1) (L2 := [some (.ref (d_ + 12)), some (.int (Int32.ofInt a0_)), some (.int (Int32.ofInt u3_)), some (.int (Int32.ofInt (u4_ + (-1)))), some (.int (Int32.ofInt u10_)), some (.int (Int32.ofInt u11_))]) rfl (by decide) rfl (zdal_p dlB_Sorts_moebiusOf_52 (i := 11) rfl) ?_
                  obtain ⟨v15_, hv15_a, hv15_b, hv15_e, hv15_d⟩ := zk_gen (u4_ + (-1))
                  rw [hv15_e]
                  refine zw_goto (pc := 115) (tgt := 9) (by decide) (zdal_p dlB_Sorts_moebiusOf_52 (i := 12) rfl) ?_
                  refine zW_le [some (.ref (d_ + 12)), some (.int (Int32.ofInt a0_)), some (.int (Int32.ofInt u3_)), some (.int (Int32.ofInt v15_)), none, none] (⟨rfl, rfl, rfl, rfl, trivial⟩) ?_
                  exact ih_9 u3_ hu3_a hu3_b v15_ hv15_a hv15_b N13_ hb0_N13_ (show v15_ ≤ v2_ by first | with_reducible assumption | assumption | omega) (by omega)
                · skip
                  refine zw_iload (pc := 109) (i := 4) (x := Int32.ofInt u10_) rfl (zdal_p dlB_Sorts_moebiusOf_52 (i := 9) rfl) ?_
                  refine zw_istore_n (pc := 111) (i := 2) (L2 := [some (.ref (d_ + 12)), some (.int (Int32.ofInt a0_)), some (.int (Int32.ofInt u10_)), some (.int (Int32.ofInt u4_)), some (.int (Int32.ofInt u10_)), some (.int (Int32.ofInt u11_))]) rfl (by decide) rfl (zdal_p dlB_Sorts_moebiusOf_52 (i := 10) rfl) ?_
                  refine zr_iinc (pc := 112) (i := 3) (a := u4_) (n := -1) (L2 := [some (.ref (d_ + 12)), some (.int (Int32.ofInt a0_)), some (.int (Int32.ofInt u10_)), some (.int (Int32.ofInt (u4_ + (-1)))), some (.int (Int32.ofInt u10_)), some (.int (Int32.ofInt u11_))]) rfl (by decide) rfl (zdal_p dlB_Sorts_moebiusOf_52 (i := 11) rfl) ?_
                  obtain ⟨v16_, hv16_a, hv16_b, hv16_e, hv16_d⟩ := zk_gen (u4_ + (-1))
                  rw [hv16_e]
                  refine zw_goto (pc := 115) (tgt := 9) (by decide) (zdal_p dlB_Sorts_moebiusOf_52 (i := 12) rfl) ?_
                  refine zW_le [some (.ref (d_ + 12)), some (.int (Int32.ofInt a0_)), some (.int (Int32.ofInt u10_)), some (.int (Int32.ofInt v16_)), none, none] (⟨rfl, rfl, rfl, rfl, trivial⟩) ?_
                  exact ih_9 u10_ hu10_a hu10_b v16_ hv16_a hv16_b N13_ hb0_N13_ (show v16_ ≤ v2_ by first | with_reducible assumption | assumption | omega) (by omega)
              · skip
                refine zw_aload_n (pc := 44) (n := 0) (x := (d_ + 12)) rfl (zdal_p dlB_Sorts_moebiusOf_51 (i := 3) rfl) ?_
                refine zw_getF (pc := 45) f_Sorts_14 rfl ((hf_N5_.w hW).kr (o := 12) (by decide)) ((hf_N5_.w hW).lr (o := 12) (s := 1) (r := 13) (by decide)) (zdal_p dlB_Sorts_moebiusOf_51 (i := 4) rfl) ?_
                refine zw_iload_n (pc := 48) (n := 3) (x := Int32.ofInt u4_) rfl (zdal_p dlB_Sorts_moebiusOf_51 (i := 5) rfl) ?_
                refine zk_atG hf_N5_.x (pc := 49) l_Sorts_49 ((hf_N5_.w hW).kr (o := 13) (by decide)) ((hf_N5_.w hW).lr (o := 13) (s := 0) (r := 14) (by decide)) ((hf_N5_.w hW).rr (o := 14) (t := 1) (n := 35) (by decide)) (by decide) ⟨by omega, by omega⟩ (by decide) (Nat.le_of_ble_eq_true rfl) (zdal_p dlB_Sorts_moebiusOf_51 (i := 6) rfl) (fun v17_ hv17_ hv17_a hv17_b => ?_)
                clear hv17_
                refine zw_aload_n (pc := 52) (n := 0) (x := (d_ + 12)) rfl (zdal_p dlB_Sorts_moebiusOf_51 (i := 7) rfl) ?_
                refine zw_getF (pc := 53) f_Sorts_14 rfl ((hf_N5_.w hW).kr (o := 12) (by decide)) ((hf_N5_.w hW).lr (o := 12) (s := 1) (r := 13) (by decide)) (zdal_p dlB_Sorts_moebiusOf_51 (i := 8) rfl) ?_
                refine zw_iload (pc := 56) (i := 5) (x := Int32.ofInt u11_) rfl (zdal_p dlB_Sorts_moebiusOf_51 (i := 9) rfl) ?_
                refine zk_atG hf_N5_.x (pc := 58) l_Sorts_49 ((hf_N5_.w hW).kr (o := 13) (by decide)) ((hf_N5_.w hW).lr (o := 13) (s := 0) (r := 14) (by decide)) ((hf_N5_.w hW).rr (o := 14) (t := 1) (n := 35) (by decide)) (by decide) ⟨by omega, by omega⟩ (by decide) (Nat.le_of_ble_eq_true rfl) (zdal_p dlB_Sorts_moebiusOf_51 (i := 10) rfl) (fun v18_ hv18_ hv18_a hv18_b => ?_)
                clear hv18_
                refine zr_callS hf_N5_.x (pc := 61) [.int (Int32.ofInt v17_), .int (Int32.ofInt v18_)] [] l_Sorts_96 (u_T_isPartX l d_ N5_ (hf_N5_.w hW) v17_ hv17_a hv17_b v18_ hv18_a hv18_b) rfl rfl (by decide) (Nat.le_of_ble_eq_true rfl) (zdal_p dlB_Sorts_moebiusOf_51 (i := 11) rfl) ?_
                rintro _ N19_ ⟨v20_, rfl, ⟨hv20_a, hv20_b⟩, hsN19_, hp0_N19_⟩
                obtain rfl := hsN19_.eq.symm
                replace hp0_N19_ : (v20_ = 0 ∨ v20_ = 1) := hp0_N19_
                show zW l m_Sorts_moebiusOf (zn Mz + 0, zw Mz + 0) N5_ 64 [some (.ref (d_ + 12)), some (.int (Int32.ofInt a0_)), some (.int (Int32.ofInt u3_)), some (.int (Int32.ofInt u4_)), some (.int (Int32.ofInt u10_)), some (.int (Int32.ofInt u11_))] [.int (Int32.ofInt v20_)] _
                refine zr_if_eq (pc := 64) (tgt := 81) ⟨hv20_a, hv20_b⟩ (by decide) (zdal_p dlB_Sorts_moebiusOf_51 (i := 12) rfl) (fun hc_64 => ?_) (fun hc_64 => ?_)
                · skip
                  refine zr_iinc (pc := 81) (i := 5) (a := u11_) (n := 1) (L2 := [some (.ref (d_ + 12)), some (.int (Int32.ofInt a0_)), some (.int (Int32.ofInt u3_)), some (.int (Int32.ofInt u4_)), some (.int (Int32.ofInt u10_)), some (.int (Int32.ofInt (u11_ + 1)))]) rfl (by decide) rfl (zdal_p dlB_Sorts_moebiusOf_51 (i := 20) rfl) ?_
                  obtain ⟨v21_, hv21_a, hv21_b, hv21_e, hv21_d⟩ := zk_gen (u11_ + 1)
                  rw [hv21_e]
                  refine zw_goto (pc := 84) (tgt := 35) (by decide) (zdal_p dlB_Sorts_moebiusOf_51 (i := 21) rfl) ?_
                  exact ih_35 u10_ hu10_a hu10_b v21_ hv21_a hv21_b (show v9_ ≤ v21_ by first | with_reducible assumption | assumption | omega) (by omega)
                · skip
                  refine zw_iload (pc := 67) (i := 4) (x := Int32.ofInt u10_) rfl (zdal_p dlB_Sorts_moebiusOf_51 (i := 13) rfl) ?_
                  refine zw_aload_n (pc := 69) (n := 0) (x := (d_ + 12)) rfl (zdal_p dlB_Sorts_moebiusOf_51 (i := 14) rfl) ?_
                  refine zw_getF (pc := 70) f_Sorts_23 rfl ((hf_N5_.w hW).kr (o := 12) (by decide)) ((hf_N5_.w hW).lr (o := 12) (s := 3) (r := 17) (by decide)) (zdal_p dlB_Sorts_moebiusOf_51 (i := 15) rfl) ?_
                  refine zw_iload (pc := 73) (i := 5) (x := Int32.ofInt u11_) rfl (zdal_p dlB_Sorts_moebiusOf_51 (i := 16) rfl) ?_
                  refine zk_atG hf_N5_.x (pc := 75) l_Sorts_49 ((hf_N5_.w hW).kr (o := 17) (by decide)) ((hf_N5_.w hW).lr (o := 17) (s := 0) (r := 18) (by decide)) ((hf_N5_.w hW).rr (o := 18) (t := 1) (n := 35) (by decide)) (by decide) ⟨by omega, by omega⟩ (by decide) (Nat.le_of_ble_eq_true rfl) (zdal_p dlB_Sorts_moebiusOf_51 (i := 17) rfl) (fun v22_ hv22_ hv22_a hv22_b => ?_)
                  clear hv22_
                  refine zr_isub (pc := 78) (zdal_p dlB_Sorts_moebiusOf_51 (i := 18) rfl) ?_
                  refine zr_nmI (fun v23_ hv23_ => ?_)
                  obtain ⟨hv23_a, hv23_b⟩ := hv23_
                  refine zw_istore (pc := 79) (i := 4) (L2 := [some (.ref (d_ + 12)), some (.int (Int32.ofInt a0_)), some (.int (Int32.ofInt u3_)), some (.int (Int32.ofInt u4_)), some (.int (Int32.ofInt v23_)), some (.int (Int32.ofInt u11_))]) (by decide) rfl (zdal_p dlB_Sorts_moebiusOf_51 (i := 19) rfl) ?_
                  refine zr_iinc (pc := 81) (i := 5) (a := u11_) (n := 1) (L2 := [some (.ref (d_ + 12)), some (.int (Int32.ofInt a0_)), some (.int (Int32.ofInt u3_)), some (.int (Int32.ofInt u4_)), some (.int (Int32.ofInt v23_)), some (.int (Int32.ofInt (u11_ + 1)))]) rfl (by decide) rfl (zdal_p dlB_Sorts_moebiusOf_51 (i := 20) rfl) ?_
                  obtain ⟨v24_, hv24_a, hv24_b, hv24_e, hv24_d⟩ := zk_gen (u11_ + 1)
                  rw [hv24_e]
                  refine zw_goto (pc := 84) (tgt := 35) (by decide) (zdal_p dlB_Sorts_moebiusOf_51 (i := 21) rfl) ?_
                  exact ih_35 v23_ hv23_a hv23_b v24_ hv24_a hv24_b (show v9_ ≤ v24_ by first | with_reducible assumption | assumption | omega) (by omega)
          exact lp_35 _ 0 (by decide) (by decide) v9_ hv9_a hv9_b (show v9_ ≤ v9_ by first | with_reducible assumption | assumption | omega) (Nat.lt_succ_self _)
        · skip
          refine zw_iconst (pc := 23) (v := Int32.ofInt 1) (by decide) (zdal_p dlB_Sorts_moebiusOf_50 (i := 15) rfl) ?_
          refine zw_goto (pc := 24) (tgt := 28) (by decide) (zdal_p dlB_Sorts_moebiusOf_50 (i := 16) rfl) ?_
          refine zw_istore (pc := 28) (i := 4) (L2 := [some (.ref (d_ + 12)), some (.int (Int32.ofInt a0_)), some (.int (Int32.ofInt u3_)), some (.int (Int32.ofInt u4_)), some (.int (Int32.ofInt 1)), none]) (by decide) rfl (zdal_p dlB_Sorts_moebiusOf_50 (i := 18) rfl) ?_
          refine zw_iload_n (pc := 30) (n := 3) (x := Int32.ofInt u4_) rfl (zdal_p dlB_Sorts_moebiusOf_50 (i := 19) rfl) ?_
          refine zw_iconst (pc := 31) (v := Int32.ofInt 1) (by decide) (zdal_p dlB_Sorts_moebiusOf_50 (i := 20) rfl) ?_
          refine zr_iadd (pc := 32) (zdal_p dlB_Sorts_moebiusOf_50 (i := 21) rfl) ?_
          refine zr_nmI (fun v25_ hv25_ => ?_)
          obtain ⟨hv25_a, hv25_b⟩ := hv25_
          refine zw_istore (pc := 33) (i := 5) (L2 := [some (.ref (d_ + 12)), some (.int (Int32.ofInt a0_)), some (.int (Int32.ofInt u3_)), some (.int (Int32.ofInt u4_)), some (.int (Int32.ofInt 1)), some (.int (Int32.ofInt v25_))]) (by decide) rfl (zdal_p dlB_Sorts_moebiusOf_50 (i := 22) rfl) ?_
          have lp_35 : ∀ (n : Nat) (u26_ : Int) (hu26_a : -2147483648 ≤ u26_) (hu26_b : u26_ < 2147483648) (u27_ : Int) (hu27_a : -2147483648 ≤ u27_) (hu27_b : u27_ < 2147483648) (i28_ : v25_ ≤ u27_), (ze Mz (d_ + 12) 6 - u27_).toNat < n → zW l m_Sorts_moebiusOf (zn Mz + 0, zw Mz + 0) N5_ 35 [some (.ref (d_ + 12)), some (.int (Int32.ofInt a0_)), some (.int (Int32.ofInt u3_)), some (.int (Int32.ofInt u4_)), some (.int (Int32.ofInt u26_)), some (.int (Int32.ofInt u27_))] [] (zqcI d_ [] [] [] [18] Mz (fun v N => True)) := by
            intro n
            induction n with
            | zero =>
              intro u26_ hu26_a hu26_b u27_ hu27_a hu27_b i28_ h0
              exact absurd h0 (Nat.not_lt_zero _)
            | succ n ih_35 =>
              intro u26_ hu26_a hu26_b u27_ hu27_a hu27_b i28_ hlt_35
              refine zw_iload (pc := 35) (i := 5) (x := Int32.ofInt u27_) rfl (zdal_p dlB_Sorts_moebiusOf_50 (i := 23) rfl) ?_
              refine zw_aload_n (pc := 37) (n := 0) (x := (d_ + 12)) rfl (zdal_p dlB_Sorts_moebiusOf_51 (i := 0) rfl) ?_
              refine zk_getI (pc := 38) f_Sorts_36 rfl ((hf_N5_.w hW).kr (o := 12) (by decide)) (zdal_p dlB_Sorts_moebiusOf_51 (i := 1) rfl) ?_
              rw [hf_N5_.e (by decide)]
              refine zr_icmp_ge (pc := 41) (tgt := 87) ⟨hu27_a, hu27_b⟩ ⟨(ze_r Mz (d_ + 12) 6).1, (ze_r Mz (d_ + 12) 6).2⟩ (by decide) (zdal_p dlB_Sorts_moebiusOf_51 (i := 2) rfl) (fun hc_41 => ?_) (fun hc_41 => ?_)
              · skip
                refine zw_aload_n (pc := 87) (n := 0) (x := (d_ + 12)) rfl (zdal_p dlB_Sorts_moebiusOf_51 (i := 22) rfl) ?_
                refine zw_getF (pc := 88) f_Sorts_23 rfl ((hf_N5_.w hW).kr (o := 12) (by decide)) ((hf_N5_.w hW).lr (o := 12) (s := 3) (r := 17) (by decide)) (zdal_p dlB_Sorts_moebiusOf_51 (i := 23) rfl) ?_
                refine zw_iload_n (pc := 91) (n := 3) (x := Int32.ofInt u4_) rfl (zdal_p dlB_Sorts_moebiusOf_52 (i := 0) rfl) ?_
                refine zw_iload (pc := 92) (i := 4) (x := Int32.ofInt u26_) rfl (zdal_p dlB_Sorts_moebiusOf_52 (i := 1) rfl) ?_
                refine zk_stG hf_N5_.x (pc := 94) (o := 18) (by decide) l_Sorts_40 ((hf_N5_.w hW).kr (o := 17) (by decide)) ((hf_N5_.w hW).lr (o := 17) (s := 0) (r := 18) (by decide)) ((hf_N5_.w hW).rr (o := 18) (t := 1) (n := 35) (by decide)) (by decide) ⟨by omega, by omega⟩ (by decide) (Nat.le_of_ble_eq_true rfl) (zdal_p dlB_Sorts_moebiusOf_52 (i := 2) rfl) (fun N29_ hsN29_ => ?_)
                have hf_N29_ : zFc d_ [] [] [] [18] Mz N29_ := hf_N5_.tr hsN29_ (by decide) (by decide) (by decide) (by decide)
                have hb0_N29_ : zFc d_ [] [] [] [18] Mz N29_ := hs6_.tr hsN29_ (by decide) (by decide) (by decide) (by decide)
                refine zw_aload_n (pc := 97) (n := 0) (x := (d_ + 12)) rfl (zdal_p dlB_Sorts_moebiusOf_52 (i := 3) rfl) ?_
                refine zw_getF (pc := 98) f_Sorts_20 rfl ((hf_N29_.w hW).kr (o := 12) (by decide)) ((hf_N29_.w hW).lr (o := 12) (s := 2) (r := 15) (by decide)) (zdal_p dlB_Sorts_moebiusOf_52 (i := 4) rfl) ?_
                refine zw_iload_n (pc := 101) (n := 3) (x := Int32.ofInt u4_) rfl (zdal_p dlB_Sorts_moebiusOf_52 (i := 5) rfl) ?_
                refine zk_atG hf_N29_.x (pc := 102) l_Sorts_49 ((hf_N29_.w hW).kr (o := 15) (by decide)) ((hf_N29_.w hW).lr (o := 15) (s := 0) (r := 16) (by decide)) ((hf_N29_.w hW).rr (o := 16) (t := 1) (n := 35) (by decide)) (by decide) ⟨by omega, by omega⟩ (by decide) (Nat.le_of_ble_eq_true rfl) (zdal_p dlB_Sorts_moebiusOf_52 (i := 6) rfl) (fun v30_ hv30_ hv30_a hv30_b => ?_)
                clear hv30_
                refine zw_iload_n (pc := 105) (n := 1) (x := Int32.ofInt a0_) rfl (zdal_p dlB_Sorts_moebiusOf_52 (i := 7) rfl) ?_
                refine zr_icmp_ne (pc := 106) (tgt := 112) ⟨hv30_a, hv30_b⟩ ⟨ha0_a, ha0_b⟩ (by decide) (zdal_p dlB_Sorts_moebiusOf_52 (i := 8) rfl) (fun hc_106 => ?_) (fun hc_106 => ?_)
                · skip
                  refine zr_iinc (pc := 112) (i := 3) (a := u4_) (n := -1) (L2 := [some (.ref (d_ + 12)), some (.int (Int32.ofInt a0_)), some (.int (Int32.ofInt u3_)), some (.int (Int32.ofInt (u4_ + (-1)))), some (.int (Int32.ofInt u26_)), some (.int (Int32.ofInt u27_))]) rfl (by decide) rfl (zdal_p dlB_Sorts_moebiusOf_52 (i := 11) rfl) ?_
                  obtain ⟨v31_, hv31_a, hv31_b, hv31_e, hv31_d⟩ := zk_gen (u4_ + (-1))
                  rw [hv31_e]
                  refine zw_goto (pc := 115) (tgt := 9) (by decide) (zdal_p dlB_Sorts_moebiusOf_52 (i := 12) rfl) ?_
                  refine zW_le [some (.ref (d_ + 12)), some (.int (Int32.ofInt a0_)), some (.int (Int32.ofInt u3_)), some (.int (Int32.ofInt v31_)), none, none] (⟨rfl, rfl, rfl, rfl, trivial⟩) ?_
                  exact ih_9 u3_ hu3_a hu3_b v31_ hv31_a hv31_b N29_ hb0_N29_ (show v31_ ≤ v2_ by first | with_reducible assumption | assumption | omega) (by omega)
                · skip
                  refine zw_iload (pc := 109) (i := 4) (x := Int32.ofInt u26_) rfl (zdal_p dlB_Sorts_moebiusOf_52 (i := 9) rfl) ?_
                  refine zw_istore_n (pc := 111) (i := 2) (L2 := [some (.ref (d_ + 12)), some (.int (Int32.ofInt a0_)), some (.int (Int32.ofInt u26_)), some (.int (Int32.ofInt u4_)), some (.int (Int32.ofInt u26_)), some (.int (Int32.ofInt u27_))]) rfl (by decide) rfl (zdal_p dlB_Sorts_moebiusOf_52 (i := 10) rfl) ?_
                  refine zr_iinc (pc := 112) (i := 3) (a := u4_) (n := -1) (L2 := [some (.ref (d_ + 12)), some (.int (Int32.ofInt a0_)), some (.int (Int32.ofInt u26_)), some (.int (Int32.ofInt (u4_ + (-1)))), some (.int (Int32.ofInt u26_)), some (.int (Int32.ofInt u27_))]) rfl (by decide) rfl (zdal_p dlB_Sorts_moebiusOf_52 (i := 11) rfl) ?_
                  obtain ⟨v32_, hv32_a, hv32_b, hv32_e, hv32_d⟩ := zk_gen (u4_ + (-1))
                  rw [hv32_e]
                  refine zw_goto (pc := 115) (tgt := 9) (by decide) (zdal_p dlB_Sorts_moebiusOf_52 (i := 12) rfl) ?_
                  refine zW_le [some (.ref (d_ + 12)), some (.int (Int32.ofInt a0_)), some (.int (Int32.ofInt u26_)), some (.int (Int32.ofInt v32_)), none, none] (⟨rfl, rfl, rfl, rfl, trivial⟩) ?_
                  exact ih_9 u26_ hu26_a hu26_b v32_ hv32_a hv32_b N29_ hb0_N29_ (show v32_ ≤ v2_ by first | with_reducible assumption | assumption | omega) (by omega)
              · skip
                refine zw_aload_n (pc := 44) (n := 0) (x := (d_ + 12)) rfl (zdal_p dlB_Sorts_moebiusOf_51 (i := 3) rfl) ?_
                refine zw_getF (pc := 45) f_Sorts_14 rfl ((hf_N5_.w hW).kr (o := 12) (by decide)) ((hf_N5_.w hW).lr (o := 12) (s := 1) (r := 13) (by decide)) (zdal_p dlB_Sorts_moebiusOf_51 (i := 4) rfl) ?_
                refine zw_iload_n (pc := 48) (n := 3) (x := Int32.ofInt u4_) rfl (zdal_p dlB_Sorts_moebiusOf_51 (i := 5) rfl) ?_
                refine zk_atG hf_N5_.x (pc := 49) l_Sorts_49 ((hf_N5_.w hW).kr (o := 13) (by decide)) ((hf_N5_.w hW).lr (o := 13) (s := 0) (r := 14) (by decide)) ((hf_N5_.w hW).rr (o := 14) (t := 1) (n := 35) (by decide)) (by decide) ⟨by omega, by omega⟩ (by decide) (Nat.le_of_ble_eq_true rfl) (zdal_p dlB_Sorts_moebiusOf_51 (i := 6) rfl) (fun v33_ hv33_ hv33_a hv33_b => ?_)
                clear hv33_
                refine zw_aload_n (pc := 52) (n := 0) (x := (d_ + 12)) rfl (zdal_p dlB_Sorts_moebiusOf_51 (i := 7) rfl) ?_
                refine zw_getF (pc := 53) f_Sorts_14 rfl ((hf_N5_.w hW).kr (o := 12) (by decide)) ((hf_N5_.w hW).lr (o := 12) (s := 1) (r := 13) (by decide)) (zdal_p dlB_Sorts_moebiusOf_51 (i := 8) rfl) ?_
                refine zw_iload (pc := 56) (i := 5) (x := Int32.ofInt u27_) rfl (zdal_p dlB_Sorts_moebiusOf_51 (i := 9) rfl) ?_
                refine zk_atG hf_N5_.x (pc := 58) l_Sorts_49 ((hf_N5_.w hW).kr (o := 13) (by decide)) ((hf_N5_.w hW).lr (o := 13) (s := 0) (r := 14) (by decide)) ((hf_N5_.w hW).rr (o := 14) (t := 1) (n := 35) (by decide)) (by decide) ⟨by omega, by omega⟩ (by decide) (Nat.le_of_ble_eq_true rfl) (zdal_p dlB_Sorts_moebiusOf_51 (i := 10) rfl) (fun v34_ hv34_ hv34_a hv34_b => ?_)
                clear hv34_
                refine zr_callS hf_N5_.x (pc := 61) [.int (Int32.ofInt v33_), .int (Int32.ofInt v34_)] [] l_Sorts_96 (u_T_isPartX l d_ N5_ (hf_N5_.w hW) v33_ hv33_a hv33_b v34_ hv34_a hv34_b) rfl rfl (by decide) (Nat.le_of_ble_eq_true rfl) (zdal_p dlB_Sorts_moebiusOf_51 (i := 11) rfl) ?_
                rintro _ N35_ ⟨v36_, rfl, ⟨hv36_a, hv36_b⟩, hsN35_, hp0_N35_⟩
                obtain rfl := hsN35_.eq.symm
                replace hp0_N35_ : (v36_ = 0 ∨ v36_ = 1) := hp0_N35_
                show zW l m_Sorts_moebiusOf (zn Mz + 0, zw Mz + 0) N5_ 64 [some (.ref (d_ + 12)), some (.int (Int32.ofInt a0_)), some (.int (Int32.ofInt u3_)), some (.int (Int32.ofInt u4_)), some (.int (Int32.ofInt u26_)), some (.int (Int32.ofInt u27_))] [.int (Int32.ofInt v36_)] _
                refine zr_if_eq (pc := 64) (tgt := 81) ⟨hv36_a, hv36_b⟩ (by decide) (zdal_p dlB_Sorts_moebiusOf_51 (i := 12) rfl) (fun hc_64 => ?_) (fun hc_64 => ?_)
                · skip
                  refine zr_iinc (pc := 81) (i := 5) (a := u27_) (n := 1) (L2 := [some (.ref (d_ + 12)), some (.int (Int32.ofInt a0_)), some (.int (Int32.ofInt u3_)), some (.int (Int32.ofInt u4_)), some (.int (Int32.ofInt u26_)), some (.int (Int32.ofInt (u27_ + 1)))]) rfl (by decide) rfl (zdal_p dlB_Sorts_moebiusOf_51 (i := 20) rfl) ?_
                  obtain ⟨v37_, hv37_a, hv37_b, hv37_e, hv37_d⟩ := zk_gen (u27_ + 1)
                  rw [hv37_e]
                  refine zw_goto (pc := 84) (tgt := 35) (by decide) (zdal_p dlB_Sorts_moebiusOf_51 (i := 21) rfl) ?_
                  exact ih_35 u26_ hu26_a hu26_b v37_ hv37_a hv37_b (show v25_ ≤ v37_ by first | with_reducible assumption | assumption | omega) (by omega)
                · skip
                  refine zw_iload (pc := 67) (i := 4) (x := Int32.ofInt u26_) rfl (zdal_p dlB_Sorts_moebiusOf_51 (i := 13) rfl) ?_
                  refine zw_aload_n (pc := 69) (n := 0) (x := (d_ + 12)) rfl (zdal_p dlB_Sorts_moebiusOf_51 (i := 14) rfl) ?_
                  refine zw_getF (pc := 70) f_Sorts_23 rfl ((hf_N5_.w hW).kr (o := 12) (by decide)) ((hf_N5_.w hW).lr (o := 12) (s := 3) (r := 17) (by decide)) (zdal_p dlB_Sorts_moebiusOf_51 (i := 15) rfl) ?_
                  refine zw_iload (pc := 73) (i := 5) (x := Int32.ofInt u27_) rfl (zdal_p dlB_Sorts_moebiusOf_51 (i := 16) rfl) ?_
                  refine zk_atG hf_N5_.x (pc := 75) l_Sorts_49 ((hf_N5_.w hW).kr (o := 17) (by decide)) ((hf_N5_.w hW).lr (o := 17) (s := 0) (r := 18) (by decide)) ((hf_N5_.w hW).rr (o := 18) (t := 1) (n := 35) (by decide)) (by decide) ⟨by omega, by omega⟩ (by decide) (Nat.le_of_ble_eq_true rfl) (zdal_p dlB_Sorts_moebiusOf_51 (i := 17) rfl) (fun v38_ hv38_ hv38_a hv38_b => ?_)
                  clear hv38_
                  refine zr_isub (pc := 78) (zdal_p dlB_Sorts_moebiusOf_51 (i := 18) rfl) ?_
                  refine zr_nmI (fun v39_ hv39_ => ?_)
                  obtain ⟨hv39_a, hv39_b⟩ := hv39_
                  refine zw_istore (pc := 79) (i := 4) (L2 := [some (.ref (d_ + 12)), some (.int (Int32.ofInt a0_)), some (.int (Int32.ofInt u3_)), some (.int (Int32.ofInt u4_)), some (.int (Int32.ofInt v39_)), some (.int (Int32.ofInt u27_))]) (by decide) rfl (zdal_p dlB_Sorts_moebiusOf_51 (i := 19) rfl) ?_
                  refine zr_iinc (pc := 81) (i := 5) (a := u27_) (n := 1) (L2 := [some (.ref (d_ + 12)), some (.int (Int32.ofInt a0_)), some (.int (Int32.ofInt u3_)), some (.int (Int32.ofInt u4_)), some (.int (Int32.ofInt v39_)), some (.int (Int32.ofInt (u27_ + 1)))]) rfl (by decide) rfl (zdal_p dlB_Sorts_moebiusOf_51 (i := 20) rfl) ?_
                  obtain ⟨v40_, hv40_a, hv40_b, hv40_e, hv40_d⟩ := zk_gen (u27_ + 1)
                  rw [hv40_e]
                  refine zw_goto (pc := 84) (tgt := 35) (by decide) (zdal_p dlB_Sorts_moebiusOf_51 (i := 21) rfl) ?_
                  exact ih_35 v39_ hv39_a hv39_b v40_ hv40_a hv40_b (show v25_ ≤ v40_ by first | with_reducible assumption | assumption | omega) (by omega)
          exact lp_35 _ 1 (by decide) (by decide) v25_ hv25_a hv25_b (show v25_ ≤ v25_ by first | with_reducible assumption | assumption | omega) (Nat.lt_succ_self _)
  exact lp_9 _ 0 (by decide) (by decide) v2_ hv2_a hv2_b Mz zFc.rf (show v2_ ≤ v2_ by first | with_reducible assumption | assumption | omega) (Nat.lt_succ_self _)
set_option maxHeartbeats 4000000 in
theorem u_T_moebiusX (l : Launch) (d_ : Nat) (Mz : zMem) (hW : zKW d_ Mz) (hnow : zf Mz 0 2 = some (d_ + 0)) (a0_ : Int) (ha0_a : -2147483648 ≤ a0_) (ha0_b : a0_ < 2147483648) : zC l m_T_moebius 0 0 [.ref 0, .int (Int32.ofInt a0_)] Mz (zqcI d_ [] [] [] [18] Mz (fun v N => True)) := by
  refine zC_of (L0 := [some (.ref 0), some (.int (Int32.ofInt a0_))]) md_T_moebius (Nat.le_of_ble_eq_true rfl) rfl ?_ zQ0
  have hf : zFc d_ [] [] [] [18] Mz Mz := zFc.rf
  refine zw_aload_n (pc := 0) (n := 0) (x := 0) rfl (zdal_p dlB_T_moebius_49 (i := 0) rfl) ?_
  refine zw_getF (pc := 1) f_T_28 rfl ((hf.w hW).ka (o := 0) (by decide)) (hf.now hnow) (zdal_p dlB_T_moebius_49 (i := 1) rfl) ?_
  refine zw_getF (pc := 4) f_T_85 rfl ((hf.w hW).kr (o := 0) (by decide)) ((hf.w hW).lr (o := 0) (s := 1) (r := 12) (by decide)) (zdal_p dlB_T_moebius_49 (i := 2) rfl) ?_
  refine zw_iload_n (pc := 7) (n := 1) (x := Int32.ofInt a0_) rfl (zdal_p dlB_T_moebius_49 (i := 3) rfl) ?_
  refine zk_callV hf.x (pc := 8) [.int (Int32.ofInt a0_)] [] l_T_143 (u_Sorts_hasSortX l d_ Mz (hf.w hW) a0_ ha0_a ha0_b) rfl rfl ((hf.w hW).kr (o := 12) (by decide)) (by decide) (by decide) (Nat.le_of_ble_eq_true rfl) (zdal_p dlB_T_moebius_49 (i := 4) rfl) ?_
  rintro _ N1_ ⟨v2_, rfl, ⟨hv2_a, hv2_b⟩, hsN1_, hp0_N1_⟩
  obtain rfl := hsN1_.eq.symm
  replace hp0_N1_ : (v2_ = 0 ∨ v2_ = 1) := hp0_N1_
  show zW l m_T_moebius (zn Mz + 0, zw Mz + 0) Mz 11 [some (.ref 0), some (.int (Int32.ofInt a0_))] [.int (Int32.ofInt v2_)] _
  refine zr_if_eq (pc := 11) (tgt := 28) ⟨hv2_a, hv2_b⟩ (by decide) (zdal_p dlB_T_moebius_49 (i := 5) rfl) (fun hc_11 => ?_) (fun hc_11 => ?_)
  · skip
    refine zw_ldc (pc := 28) (v := Int32.ofInt (-1000000)) (by rw [show Int32.ofInt (-1000000) = ((-1000000) : Int32) by decide]; exact k_T_204) (zdal_p dlB_T_moebius_49 (i := 12) rfl) ?_
    exact zk_iret (pc := 30) (ty := .int) rfl rfl ⟨by omega, by omega⟩ hf trivial (zdal_p dlB_T_moebius_49 (i := 13) rfl)
  · skip
    refine zw_aload_n (pc := 14) (n := 0) (x := 0) rfl (zdal_p dlB_T_moebius_49 (i := 6) rfl) ?_
    refine zw_getF (pc := 15) f_T_28 rfl ((hf.w hW).ka (o := 0) (by decide)) (hf.now hnow) (zdal_p dlB_T_moebius_49 (i := 7) rfl) ?_
    refine zw_getF (pc := 18) f_T_85 rfl ((hf.w hW).kr (o := 0) (by decide)) ((hf.w hW).lr (o := 0) (s := 1) (r := 12) (by decide)) (zdal_p dlB_T_moebius_49 (i := 8) rfl) ?_
    refine zw_iload_n (pc := 21) (n := 1) (x := Int32.ofInt a0_) rfl (zdal_p dlB_T_moebius_49 (i := 9) rfl) ?_
    refine zk_callV hf.x (pc := 22) [.int (Int32.ofInt a0_)] [] l_T_201 (u_Sorts_moebiusOfX l d_ Mz (hf.w hW) a0_ ha0_a ha0_b) rfl rfl ((hf.w hW).kr (o := 12) (by decide)) (by decide) (by decide) (Nat.le_of_ble_eq_true rfl) (zdal_p dlB_T_moebius_49 (i := 10) rfl) ?_
    rintro _ N3_ ⟨v4_, rfl, ⟨hv4_a, hv4_b⟩, hsN3_, -⟩
    have hf_N3_ : zFc d_ [] [] [] [18] Mz N3_ := hf.tr hsN3_ (by decide) (by decide) (by decide) (by decide)
    show zW l m_T_moebius (zn Mz + 0, zw Mz + 0) N3_ 25 [some (.ref 0), some (.int (Int32.ofInt a0_))] [.int (Int32.ofInt v4_)] _
    refine zw_goto (pc := 25) (tgt := 30) (by decide) (zdal_p dlB_T_moebius_49 (i := 11) rfl) ?_
    exact zk_iret (pc := 30) (ty := .int) rfl rfl ⟨by omega, by omega⟩ hf_N3_ trivial (zdal_p dlB_T_moebius_49 (i := 13) rfl)
set_option maxHeartbeats 4000000 in
theorem u_Group_mixturesOfX (l : Launch) (d_ : Nat) (Mz : zMem) (hW : zKW d_ Mz) (a0_ : Int) (ha0_a : -2147483648 ≤ a0_) (ha0_b : a0_ < 2147483648) : zC l m_Group_mixturesOf 0 0 [.ref (d_ + 1), .int (Int32.ofInt a0_)] Mz (zqcI d_ [] [] [] [] Mz (fun v N => True)) := by
  refine zC_of (L0 := [some (.ref (d_ + 1)), some (.int (Int32.ofInt a0_)), none, none, none, none]) md_Group_mixturesOf (Nat.le_of_ble_eq_true rfl) rfl ?_ zQ0
  have hf : zFc d_ [] [] [] [] Mz Mz := zFc.rf
  refine zw_iconst (pc := 0) (v := Int32.ofInt 0) (by decide) (zdal_p dlB_Group_mixturesOf_54 (i := 0) rfl) ?_
  refine zw_istore_n (pc := 1) (i := 2) (L2 := [some (.ref (d_ + 1)), some (.int (Int32.ofInt a0_)), some (.int (Int32.ofInt 0)), none, none, none]) rfl (by decide) rfl (zdal_p dlB_Group_mixturesOf_54 (i := 1) rfl) ?_
  refine zw_iconst (pc := 2) (v := Int32.ofInt 0) (by decide) (zdal_p dlB_Group_mixturesOf_54 (i := 2) rfl) ?_
  refine zw_istore_n (pc := 3) (i := 3) (L2 := [some (.ref (d_ + 1)), some (.int (Int32.ofInt a0_)), some (.int (Int32.ofInt 0)), some (.int (Int32.ofInt 0)), none, none]) rfl (by decide) rfl (zdal_p dlB_Group_mixturesOf_54 (i := 3) rfl) ?_
  have lp_4 : ∀ (n : Nat) (u1_ : Int) (hu1_a : -2147483648 ≤ u1_) (hu1_b : u1_ < 2147483648) (u2_ : Int) (hu2_a : -2147483648 ≤ u2_) (hu2_b : u2_ < 2147483648) (i3_ : 0 ≤ u2_), (ze Mz (d_ + 1) 7 - u2_).toNat < n → zW l m_Group_mixturesOf (zn Mz + 0, zw Mz + 0) Mz 4 [some (.ref (d_ + 1)), some (.int (Int32.ofInt a0_)), some (.int (Int32.ofInt u1_)), some (.int (Int32.ofInt u2_)), none, none] [] (zqcI d_ [] [] [] [] Mz (fun v N => True)) := by
    intro n
    induction n with
    | zero =>
      intro u1_ hu1_a hu1_b u2_ hu2_a hu2_b i3_ h0
      exact absurd h0 (Nat.not_lt_zero _)
    | succ n ih_4 =>
      intro u1_ hu1_a hu1_b u2_ hu2_a hu2_b i3_ hlt_4
      refine zw_iload_n (pc := 4) (n := 3) (x := Int32.ofInt u2_) rfl (zdal_p dlB_Group_mixturesOf_54 (i := 4) rfl) ?_
      refine zw_aload_n (pc := 5) (n := 0) (x := (d_ + 1)) rfl (zdal_p dlB_Group_mixturesOf_54 (i := 5) rfl) ?_
      refine zk_getI (pc := 6) f_Group_39 rfl ((hf.w hW).kr (o := 1) (by decide)) (zdal_p dlB_Group_mixturesOf_54 (i := 6) rfl) ?_
      have hr4_ := ze_r Mz (d_ + 1) 7
      refine zr_icmp_ge (pc := 9) (tgt := 94) ⟨hu2_a, hu2_b⟩ ⟨(ze_r Mz (d_ + 1) 7).1, (ze_r Mz (d_ + 1) 7).2⟩ (by decide) (zdal_p dlB_Group_mixturesOf_54 (i := 7) rfl) (fun hc_9 => ?_) (fun hc_9 => ?_)
      · skip
        refine zw_iload_n (pc := 94) (n := 2) (x := Int32.ofInt u1_) rfl (zdal_p dlB_Group_mixturesOf_56 (i := 1) rfl) ?_
        exact zk_iret (pc := 95) (ty := .int) rfl rfl ⟨by omega, by omega⟩ hf trivial (zdal_p dlB_Group_mixturesOf_56 (i := 2) rfl)
      · skip
        refine zw_iconst (pc := 12) (v := Int32.ofInt 0) (by decide) (zdal_p dlB_Group_mixturesOf_54 (i := 8) rfl) ?_
        refine zw_istore (pc := 13) (i := 4) (L2 := [some (.ref (d_ + 1)), some (.int (Int32.ofInt a0_)), some (.int (Int32.ofInt u1_)), some (.int (Int32.ofInt u2_)), some (.int (Int32.ofInt 0)), none]) (by decide) rfl (zdal_p dlB_Group_mixturesOf_54 (i := 9) rfl) ?_
        have lp_15 : ∀ (n : Nat) (u5_ : Int) (hu5_a : -2147483648 ≤ u5_) (hu5_b : u5_ < 2147483648) (u6_ : Int) (hu6_a : -2147483648 ≤ u6_) (hu6_b : u6_ < 2147483648) (i7_ : 0 ≤ u6_), (ze Mz (d_ + 1) 7 - u6_).toNat < n → zW l m_Group_mixturesOf (zn Mz + 0, zw Mz + 0) Mz 15 [some (.ref (d_ + 1)), some (.int (Int32.ofInt a0_)), some (.int (Int32.ofInt u5_)), some (.int (Int32.ofInt u2_)), some (.int (Int32.ofInt u6_)), none] [] (zqcI d_ [] [] [] [] Mz (fun v N => True)) := by
          intro n
          induction n with
          | zero =>
            intro u5_ hu5_a hu5_b u6_ hu6_a hu6_b i7_ h0
            exact absurd h0 (Nat.not_lt_zero _)
          | succ n ih_15 =>
            intro u5_ hu5_a hu5_b u6_ hu6_a hu6_b i7_ hlt_15
            refine zw_iload (pc := 15) (i := 4) (x := Int32.ofInt u6_) rfl (zdal_p dlB_Group_mixturesOf_54 (i := 10) rfl) ?_
            refine zw_aload_n (pc := 17) (n := 0) (x := (d_ + 1)) rfl (zdal_p dlB_Group_mixturesOf_54 (i := 11) rfl) ?_
            refine zk_getI (pc := 18) f_Group_39 rfl ((hf.w hW).kr (o := 1) (by decide)) (zdal_p dlB_Group_mixturesOf_54 (i := 12) rfl) ?_
            refine zr_icmp_ge (pc := 21) (tgt := 88) ⟨hu6_a, hu6_b⟩ ⟨(ze_r Mz (d_ + 1) 7).1, (ze_r Mz (d_ + 1) 7).2⟩ (by decide) (zdal_p dlB_Group_mixturesOf_54 (i := 13) rfl) (fun hc_21 => ?_) (fun hc_21 => ?_)
            · skip
              refine zr_iinc (pc := 88) (i := 3) (a := u2_) (n := 1) (L2 := [some (.ref (d_ + 1)), some (.int (Int32.ofInt a0_)), some (.int (Int32.ofInt u5_)), some (.int (Int32.ofInt (u2_ + 1))), some (.int (Int32.ofInt u6_)), none]) rfl (by decide) rfl (zdal_p dlB_Group_mixturesOf_55 (i := 23) rfl) ?_
              obtain ⟨v8_, hv8_a, hv8_b, hv8_e, hv8_d⟩ := zk_gen (u2_ + 1)
              rw [hv8_e]
              refine zw_goto (pc := 91) (tgt := 4) (by decide) (zdal_p dlB_Group_mixturesOf_56 (i := 0) rfl) ?_
              refine zW_le [some (.ref (d_ + 1)), some (.int (Int32.ofInt a0_)), some (.int (Int32.ofInt u5_)), some (.int (Int32.ofInt v8_)), none, none] (⟨rfl, rfl, rfl, rfl, trivial⟩) ?_
              exact ih_4 u5_ hu5_a hu5_b v8_ hv8_a hv8_b (show 0 ≤ v8_ by first | with_reducible assumption | assumption | omega) (by omega)
            · skip
              refine zw_iload_n (pc := 24) (n := 1) (x := Int32.ofInt a0_) rfl (zdal_p dlB_Group_mixturesOf_54 (i := 14) rfl) ?_
              refine zw_iload_n (pc := 25) (n := 3) (x := Int32.ofInt u2_) rfl (zdal_p dlB_Group_mixturesOf_54 (i := 15) rfl) ?_
              refine zr_callS hf.x (pc := 26) [.int (Int32.ofInt a0_), .int (Int32.ofInt u2_)] [] l_Group_73 (u_T_isInX l d_ Mz (hf.w hW) a0_ ha0_a ha0_b u2_ hu2_a hu2_b) rfl rfl (by decide) (Nat.le_of_ble_eq_true rfl) (zdal_p dlB_Group_mixturesOf_54 (i := 16) rfl) ?_
              rintro _ N9_ ⟨v10_, rfl, ⟨hv10_a, hv10_b⟩, hsN9_, hp0_N9_⟩
              obtain rfl := hsN9_.eq.symm
              replace hp0_N9_ : (v10_ = 0 ∨ v10_ = 1) := hp0_N9_
              show zW l m_Group_mixturesOf (zn Mz + 0, zw Mz + 0) Mz 29 [some (.ref (d_ + 1)), some (.int (Int32.ofInt a0_)), some (.int (Int32.ofInt u5_)), some (.int (Int32.ofInt u2_)), some (.int (Int32.ofInt u6_)), none] [.int (Int32.ofInt v10_)] _
              refine zr_if_eq (pc := 29) (tgt := 82) ⟨hv10_a, hv10_b⟩ (by decide) (zdal_p dlB_Group_mixturesOf_54 (i := 17) rfl) (fun hc_29 => ?_) (fun hc_29 => ?_)
              · skip
                refine zr_iinc (pc := 82) (i := 4) (a := u6_) (n := 1) (L2 := [some (.ref (d_ + 1)), some (.int (Int32.ofInt a0_)), some (.int (Int32.ofInt u5_)), some (.int (Int32.ofInt u2_)), some (.int (Int32.ofInt (u6_ + 1))), none]) rfl (by decide) rfl (zdal_p dlB_Group_mixturesOf_55 (i := 21) rfl) ?_
                obtain ⟨v11_, hv11_a, hv11_b, hv11_e, hv11_d⟩ := zk_gen (u6_ + 1)
                rw [hv11_e]
                refine zw_goto (pc := 85) (tgt := 15) (by decide) (zdal_p dlB_Group_mixturesOf_55 (i := 22) rfl) ?_
                exact ih_15 u5_ hu5_a hu5_b v11_ hv11_a hv11_b (show 0 ≤ v11_ by first | with_reducible assumption | assumption | omega) (by omega)
              · skip
                refine zw_iload_n (pc := 32) (n := 1) (x := Int32.ofInt a0_) rfl (zdal_p dlB_Group_mixturesOf_54 (i := 18) rfl) ?_
                refine zw_iload (pc := 33) (i := 4) (x := Int32.ofInt u6_) rfl (zdal_p dlB_Group_mixturesOf_54 (i := 19) rfl) ?_
                refine zr_callS hf.x (pc := 35) [.int (Int32.ofInt a0_), .int (Int32.ofInt u6_)] [] l_Group_73 (u_T_isInX l d_ Mz (hf.w hW) a0_ ha0_a ha0_b u6_ hu6_a hu6_b) rfl rfl (by decide) (Nat.le_of_ble_eq_true rfl) (zdal_p dlB_Group_mixturesOf_54 (i := 20) rfl) ?_
                rintro _ N12_ ⟨v13_, rfl, ⟨hv13_a, hv13_b⟩, hsN12_, hp0_N12_⟩
                obtain rfl := hsN12_.eq.symm
                replace hp0_N12_ : (v13_ = 0 ∨ v13_ = 1) := hp0_N12_
                show zW l m_Group_mixturesOf (zn Mz + 0, zw Mz + 0) Mz 38 [some (.ref (d_ + 1)), some (.int (Int32.ofInt a0_)), some (.int (Int32.ofInt u5_)), some (.int (Int32.ofInt u2_)), some (.int (Int32.ofInt u6_)), none] [.int (Int32.ofInt v13_)] _
                refine zr_if_eq (pc := 38) (tgt := 82) ⟨hv13_a, hv13_b⟩ (by decide) (zdal_p dlB_Group_mixturesOf_54 (i := 21) rfl) (fun hc_38 => ?_) (fun hc_38 => ?_)
                · skip
                  refine zr_iinc (pc := 82) (i := 4) (a := u6_) (n := 1) (L2 := [some (.ref (d_ + 1)), some (.int (Int32.ofInt a0_)), some (.int (Int32.ofInt u5_)), some (.int (Int32.ofInt u2_)), some (.int (Int32.ofInt (u6_ + 1))), none]) rfl (by decide) rfl (zdal_p dlB_Group_mixturesOf_55 (i := 21) rfl) ?_
                  obtain ⟨v14_, hv14_a, hv14_b, hv14_e, hv14_d⟩ := zk_gen (u6_ + 1)
                  rw [hv14_e]
                  refine zw_goto (pc := 85) (tgt := 15) (by decide) (zdal_p dlB_Group_mixturesOf_55 (i := 22) rfl) ?_
                  exact ih_15 u5_ hu5_a hu5_b v14_ hv14_a hv14_b (show 0 ≤ v14_ by first | with_reducible assumption | assumption | omega) (by omega)
                · skip
                  refine zw_aload_n (pc := 41) (n := 0) (x := (d_ + 1)) rfl (zdal_p dlB_Group_mixturesOf_54 (i := 22) rfl) ?_
                  refine zw_aload_n (pc := 42) (n := 0) (x := (d_ + 1)) rfl (zdal_p dlB_Group_mixturesOf_54 (i := 23) rfl) ?_
                  refine zw_getF (pc := 43) f_Group_26 rfl ((hf.w hW).kr (o := 1) (by decide)) ((hf.w hW).lr (o := 1) (s := 3) (r := 8) (by decide)) (zdal_p dlB_Group_mixturesOf_55 (i := 0) rfl) ?_
                  refine zw_iload_n (pc := 46) (n := 3) (x := Int32.ofInt u2_) rfl (zdal_p dlB_Group_mixturesOf_55 (i := 1) rfl) ?_
                  refine zk_atG hf.x (pc := 47) l_Group_54 ((hf.w hW).kr (o := 8) (by decide)) ((hf.w hW).lr (o := 8) (s := 0) (r := 9) (by decide)) ((hf.w hW).rr (o := 9) (t := 1) (n := 24) (by decide)) (by decide) ⟨by omega, by omega⟩ (by decide) (Nat.le_of_ble_eq_true rfl) (zdal_p dlB_Group_mixturesOf_55 (i := 2) rfl) (fun v15_ hv15_ hv15_a hv15_b => ?_)
                  clear hv15_
                  refine zw_aload_n (pc := 50) (n := 0) (x := (d_ + 1)) rfl (zdal_p dlB_Group_mixturesOf_55 (i := 3) rfl) ?_
                  refine zw_getF (pc := 51) f_Group_26 rfl ((hf.w hW).kr (o := 1) (by decide)) ((hf.w hW).lr (o := 1) (s := 3) (r := 8) (by decide)) (zdal_p dlB_Group_mixturesOf_55 (i := 4) rfl) ?_
                  refine zw_iload (pc := 54) (i := 4) (x := Int32.ofInt u6_) rfl (zdal_p dlB_Group_mixturesOf_55 (i := 5) rfl) ?_
                  refine zk_atG hf.x (pc := 56) l_Group_54 ((hf.w hW).kr (o := 8) (by decide)) ((hf.w hW).lr (o := 8) (s := 0) (r := 9) (by decide)) ((hf.w hW).rr (o := 9) (t := 1) (n := 24) (by decide)) (by decide) ⟨by omega, by omega⟩ (by decide) (Nat.le_of_ble_eq_true rfl) (zdal_p dlB_Group_mixturesOf_55 (i := 6) rfl) (fun v16_ hv16_ hv16_a hv16_b => ?_)
                  clear hv16_
                  refine zk_callV hf.x (pc := 59) [.int (Int32.ofInt v15_), .int (Int32.ofInt v16_)] [] l_Group_67 (u_Group_bothX l d_ Mz (hf.w hW) v15_ hv15_a hv15_b v16_ hv16_a hv16_b) rfl rfl ((hf.w hW).kr (o := 1) (by decide)) (by decide) (by decide) (Nat.le_of_ble_eq_true rfl) (zdal_p dlB_Group_mixturesOf_55 (i := 7) rfl) ?_
                  rintro _ N17_ ⟨v18_, rfl, ⟨hv18_a, hv18_b⟩, hsN17_, -⟩
                  obtain rfl := hsN17_.eq.symm
                  show zW l m_Group_mixturesOf (zn Mz + 0, zw Mz + 0) Mz 62 [some (.ref (d_ + 1)), some (.int (Int32.ofInt a0_)), some (.int (Int32.ofInt u5_)), some (.int (Int32.ofInt u2_)), some (.int (Int32.ofInt u6_)), none] [.int (Int32.ofInt v18_)] _
                  refine zw_istore (pc := 62) (i := 5) (L2 := [some (.ref (d_ + 1)), some (.int (Int32.ofInt a0_)), some (.int (Int32.ofInt u5_)), some (.int (Int32.ofInt u2_)), some (.int (Int32.ofInt u6_)), some (.int (Int32.ofInt v18_))]) (by decide) rfl (zdal_p dlB_Group_mixturesOf_55 (i := 8) rfl) ?_
                  refine zw_iload_n (pc := 64) (n := 2) (x := Int32.ofInt u5_) rfl (zdal_p dlB_Group_mixturesOf_55 (i := 9) rfl) ?_
                  refine zw_iconst (pc := 65) (v := Int32.ofInt 1) (by decide) (zdal_p dlB_Group_mixturesOf_55 (i := 10) rfl) ?_
                  refine zw_aload_n (pc := 66) (n := 0) (x := (d_ + 1)) rfl (zdal_p dlB_Group_mixturesOf_55 (i := 11) rfl) ?_
                  refine zw_iload (pc := 67) (i := 5) (x := Int32.ofInt v18_) rfl (zdal_p dlB_Group_mixturesOf_55 (i := 12) rfl) ?_
                  refine zw_aload_n (pc := 69) (n := 0) (x := (d_ + 1)) rfl (zdal_p dlB_Group_mixturesOf_55 (i := 13) rfl) ?_
                  refine zw_iload_n (pc := 70) (n := 3) (x := Int32.ofInt u2_) rfl (zdal_p dlB_Group_mixturesOf_55 (i := 14) rfl) ?_
                  refine zw_iload (pc := 71) (i := 4) (x := Int32.ofInt u6_) rfl (zdal_p dlB_Group_mixturesOf_55 (i := 15) rfl) ?_
                  refine zk_callV hf.x (pc := 73) [.int (Int32.ofInt u2_), .int (Int32.ofInt u6_)] [.int (Int32.ofInt v18_), .ref (d_ + 1), .int (Int32.ofInt 1), .int (Int32.ofInt u5_)] l_Group_67 (u_Group_bothX l d_ Mz (hf.w hW) u2_ hu2_a hu2_b u6_ hu6_a hu6_b) rfl rfl ((hf.w hW).kr (o := 1) (by decide)) (by decide) (by decide) (Nat.le_of_ble_eq_true rfl) (zdal_p dlB_Group_mixturesOf_55 (i := 16) rfl) ?_
                  rintro _ N19_ ⟨v20_, rfl, ⟨hv20_a, hv20_b⟩, hsN19_, -⟩
                  obtain rfl := hsN19_.eq.symm
                  show zW l m_Group_mixturesOf (zn Mz + 0, zw Mz + 0) Mz 76 [some (.ref (d_ + 1)), some (.int (Int32.ofInt a0_)), some (.int (Int32.ofInt u5_)), some (.int (Int32.ofInt u2_)), some (.int (Int32.ofInt u6_)), some (.int (Int32.ofInt v18_))] [.int (Int32.ofInt v20_), .int (Int32.ofInt v18_), .ref (d_ + 1), .int (Int32.ofInt 1), .int (Int32.ofInt u5_)] _
                  refine zk_callV hf.x (pc := 76) [.int (Int32.ofInt v18_), .int (Int32.ofInt v20_)] [.int (Int32.ofInt 1), .int (Int32.ofInt u5_)] l_Group_67 (u_Group_bothX l d_ Mz (hf.w hW) v18_ hv18_a hv18_b v20_ hv20_a hv20_b) rfl rfl ((hf.w hW).kr (o := 1) (by decide)) (by decide) (by decide) (Nat.le_of_ble_eq_true rfl) (zdal_p dlB_Group_mixturesOf_55 (i := 17) rfl) ?_
                  rintro _ N21_ ⟨v22_, rfl, ⟨hv22_a, hv22_b⟩, hsN21_, -⟩
                  obtain rfl := hsN21_.eq.symm
                  show zW l m_Group_mixturesOf (zn Mz + 0, zw Mz + 0) Mz 79 [some (.ref (d_ + 1)), some (.int (Int32.ofInt a0_)), some (.int (Int32.ofInt u5_)), some (.int (Int32.ofInt u2_)), some (.int (Int32.ofInt u6_)), some (.int (Int32.ofInt v18_))] [.int (Int32.ofInt v22_), .int (Int32.ofInt 1), .int (Int32.ofInt u5_)] _
                  refine zr_ishl (pc := 79) (zdal_p dlB_Group_mixturesOf_55 (i := 18) rfl) ?_
                  have hr23_ := zshl_r 1 v22_
                  refine zr_nmI (fun v24_ hv24_ => ?_)
                  obtain ⟨hv24_a, hv24_b⟩ := hv24_
                  refine zr_ior (pc := 80) (zdal_p dlB_Group_mixturesOf_55 (i := 19) rfl) ?_
                  have hr25_ := zor_r u5_ v24_
                  refine zr_nmI (fun v26_ hv26_ => ?_)
                  obtain ⟨hv26_a, hv26_b⟩ := hv26_
                  refine zw_istore_n (pc := 81) (i := 2) (L2 := [some (.ref (d_ + 1)), some (.int (Int32.ofInt a0_)), some (.int (Int32.ofInt v26_)), some (.int (Int32.ofInt u2_)), some (.int (Int32.ofInt u6_)), some (.int (Int32.ofInt v18_))]) rfl (by decide) rfl (zdal_p dlB_Group_mixturesOf_55 (i := 20) rfl) ?_
                  refine zr_iinc (pc := 82) (i := 4) (a := u6_) (n := 1) (L2 := [some (.ref (d_ + 1)), some (.int (Int32.ofInt a0_)), some (.int (Int32.ofInt v26_)), some (.int (Int32.ofInt u2_)), some (.int (Int32.ofInt (u6_ + 1))), some (.int (Int32.ofInt v18_))]) rfl (by decide) rfl (zdal_p dlB_Group_mixturesOf_55 (i := 21) rfl) ?_
                  obtain ⟨v27_, hv27_a, hv27_b, hv27_e, hv27_d⟩ := zk_gen (u6_ + 1)
                  rw [hv27_e]
                  refine zw_goto (pc := 85) (tgt := 15) (by decide) (zdal_p dlB_Group_mixturesOf_55 (i := 22) rfl) ?_
                  refine zW_le [some (.ref (d_ + 1)), some (.int (Int32.ofInt a0_)), some (.int (Int32.ofInt v26_)), some (.int (Int32.ofInt u2_)), some (.int (Int32.ofInt v27_)), none] (⟨rfl, rfl, rfl, rfl, rfl, trivial⟩) ?_
                  exact ih_15 v26_ hv26_a hv26_b v27_ hv27_a hv27_b (show 0 ≤ v27_ by first | with_reducible assumption | assumption | omega) (by omega)
        exact lp_15 _ u1_ hu1_a hu1_b 0 (by decide) (by decide) (show 0 ≤ (0 : Int) by first | with_reducible assumption | assumption | omega) (Nat.lt_succ_self _)
  exact lp_4 _ 0 (by decide) (by decide) 0 (by decide) (by decide) (show 0 ≤ (0 : Int) by first | with_reducible assumption | assumption | omega) (Nat.lt_succ_self _)
set_option maxHeartbeats 4000000 in
theorem u_T_mixedX (l : Launch) (d_ : Nat) (Mz : zMem) (hW : zKW d_ Mz) (hnow : zf Mz 0 2 = some (d_ + 0)) (a0_ : Int) (ha0_a : -2147483648 ≤ a0_) (ha0_b : a0_ < 2147483648) : zC l m_T_mixed 0 0 [.ref 0, .int (Int32.ofInt a0_)] Mz (zqcI d_ [] [] [] [11] Mz (fun v N => True)) := by
  refine zC_of (L0 := [some (.ref 0), some (.int (Int32.ofInt a0_))]) md_T_mixed (Nat.le_of_ble_eq_true rfl) rfl ?_ zQ0
  have hf : zFc d_ [] [] [] [11] Mz Mz := zFc.rf
  refine zw_aload_n (pc := 0) (n := 0) (x := 0) rfl (zdal_p dlB_T_mixed_53 (i := 0) rfl) ?_
  refine zw_getF (pc := 1) f_T_28 rfl ((hf.w hW).ka (o := 0) (by decide)) (hf.now hnow) (zdal_p dlB_T_mixed_53 (i := 1) rfl) ?_
  refine zw_getF (pc := 4) f_T_85 rfl ((hf.w hW).kr (o := 0) (by decide)) ((hf.w hW).lr (o := 0) (s := 1) (r := 12) (by decide)) (zdal_p dlB_T_mixed_53 (i := 2) rfl) ?_
  refine zw_iload_n (pc := 7) (n := 1) (x := Int32.ofInt a0_) rfl (zdal_p dlB_T_mixed_53 (i := 3) rfl) ?_
  refine zk_callV hf.x (pc := 8) [.int (Int32.ofInt a0_)] [] l_T_143 (u_Sorts_hasSortX l d_ Mz (hf.w hW) a0_ ha0_a ha0_b) rfl rfl ((hf.w hW).kr (o := 12) (by decide)) (by decide) (by decide) (Nat.le_of_ble_eq_true rfl) (zdal_p dlB_T_mixed_53 (i := 4) rfl) ?_
  rintro _ N1_ ⟨v2_, rfl, ⟨hv2_a, hv2_b⟩, hsN1_, hp0_N1_⟩
  obtain rfl := hsN1_.eq.symm
  replace hp0_N1_ : (v2_ = 0 ∨ v2_ = 1) := hp0_N1_
  show zW l m_T_mixed (zn Mz + 0, zw Mz + 0) Mz 11 [some (.ref 0), some (.int (Int32.ofInt a0_))] [.int (Int32.ofInt v2_)] _
  refine zr_if_ne (pc := 11) (tgt := 16) ⟨hv2_a, hv2_b⟩ (by decide) (zdal_p dlB_T_mixed_53 (i := 5) rfl) (fun hc_11 => ?_) (fun hc_11 => ?_)
  · skip
    refine zw_aload_n (pc := 16) (n := 0) (x := 0) rfl (zdal_p dlB_T_mixed_53 (i := 8) rfl) ?_
    refine zw_getF (pc := 17) f_T_28 rfl ((hf.w hW).ka (o := 0) (by decide)) (hf.now hnow) (zdal_p dlB_T_mixed_53 (i := 9) rfl) ?_
    refine zw_getF (pc := 20) f_T_85 rfl ((hf.w hW).kr (o := 0) (by decide)) ((hf.w hW).lr (o := 0) (s := 1) (r := 12) (by decide)) (zdal_p dlB_T_mixed_53 (i := 10) rfl) ?_
    refine zw_aload_n (pc := 23) (n := 0) (x := 0) rfl (zdal_p dlB_T_mixed_53 (i := 11) rfl) ?_
    refine zw_getF (pc := 24) f_T_28 rfl ((hf.w hW).ka (o := 0) (by decide)) (hf.now hnow) (zdal_p dlB_T_mixed_53 (i := 12) rfl) ?_
    refine zw_getF (pc := 27) f_T_61 rfl ((hf.w hW).kr (o := 0) (by decide)) ((hf.w hW).lr (o := 0) (s := 0) (r := 1) (by decide)) (zdal_p dlB_T_mixed_53 (i := 13) rfl) ?_
    refine zw_aload_n (pc := 30) (n := 0) (x := 0) rfl (zdal_p dlB_T_mixed_53 (i := 14) rfl) ?_
    refine zw_getF (pc := 31) f_T_28 rfl ((hf.w hW).ka (o := 0) (by decide)) (hf.now hnow) (zdal_p dlB_T_mixed_53 (i := 15) rfl) ?_
    refine zw_getF (pc := 34) f_T_85 rfl ((hf.w hW).kr (o := 0) (by decide)) ((hf.w hW).lr (o := 0) (s := 1) (r := 12) (by decide)) (zdal_p dlB_T_mixed_53 (i := 16) rfl) ?_
    refine zw_getF (pc := 37) f_T_146 rfl ((hf.w hW).kr (o := 12) (by decide)) ((hf.w hW).lr (o := 12) (s := 4) (r := 19) (by decide)) (zdal_p dlB_T_mixed_53 (i := 17) rfl) ?_
    refine zw_iload_n (pc := 40) (n := 1) (x := Int32.ofInt a0_) rfl (zdal_p dlB_T_mixed_53 (i := 18) rfl) ?_
    refine zk_atG hf.x (pc := 41) l_T_118 ((hf.w hW).kr (o := 19) (by decide)) ((hf.w hW).lr (o := 19) (s := 0) (r := 20) (by decide)) ((hf.w hW).rr (o := 20) (t := 1) (n := 27) (by decide)) (by decide) ⟨by omega, by omega⟩ (by decide) (Nat.le_of_ble_eq_true rfl) (zdal_p dlB_T_mixed_53 (i := 19) rfl) (fun v3_ hv3_ hv3_a hv3_b => ?_)
    clear hv3_
    refine zk_callV hf.x (pc := 44) [.int (Int32.ofInt v3_)] [.ref (d_ + 12)] l_T_205 (u_Group_mixturesOfX l d_ Mz (hf.w hW) v3_ hv3_a hv3_b) rfl rfl ((hf.w hW).kr (o := 1) (by decide)) (by decide) (by decide) (Nat.le_of_ble_eq_true rfl) (zdal_p dlB_T_mixed_53 (i := 20) rfl) ?_
    rintro _ N4_ ⟨v5_, rfl, ⟨hv5_a, hv5_b⟩, hsN4_, -⟩
    obtain rfl := hsN4_.eq.symm
    show zW l m_T_mixed (zn Mz + 0, zw Mz + 0) Mz 47 [some (.ref 0), some (.int (Int32.ofInt a0_))] [.int (Int32.ofInt v5_), .ref (d_ + 12)] _
    refine zk_callV hf.x (pc := 47) [.int (Int32.ofInt v5_)] [] l_T_140 (u_Sorts_spannedSortX l d_ Mz (hf.w hW) v5_ hv5_a hv5_b) rfl rfl ((hf.w hW).kr (o := 12) (by decide)) (by decide) (by decide) (Nat.le_of_ble_eq_true rfl) (zdal_p dlB_T_mixed_53 (i := 21) rfl) ?_
    rintro _ N6_ ⟨v7_, rfl, ⟨hv7_a, hv7_b⟩, hsN6_, -⟩
    have hf_N6_ : zFc d_ [] [] [] [11] Mz N6_ := hf.tr hsN6_ (by decide) (by decide) (by decide) (by decide)
    show zW l m_T_mixed (zn Mz + 0, zw Mz + 0) N6_ 50 [some (.ref 0), some (.int (Int32.ofInt a0_))] [.int (Int32.ofInt v7_)] _
    exact zk_iret (pc := 50) (ty := .int) rfl rfl ⟨by omega, by omega⟩ hf_N6_ trivial (zdal_p dlB_T_mixed_53 (i := 22) rfl)
  · skip
    refine zw_iconst (pc := 14) (v := Int32.ofInt (-1)) (by decide) (zdal_p dlB_T_mixed_53 (i := 6) rfl) ?_
    exact zk_iret (pc := 15) (ty := .int) rfl rfl ⟨by omega, by omega⟩ hf trivial (zdal_p dlB_T_mixed_53 (i := 7) rfl)
set_option maxHeartbeats 4000000 in
theorem u_T_centreX (l : Launch) (d_ : Nat) (Mz : zMem) (hW : zKW d_ Mz) (hnow : zf Mz 0 2 = some (d_ + 0)) (a0_ : Int) (ha0_a : -2147483648 ≤ a0_) (ha0_b : a0_ < 2147483648) : zC l m_T_centre 0 0 [.ref 0, .int (Int32.ofInt a0_)] Mz (zqcI d_ [] [] [] [] Mz (fun v N => True)) := by
  refine zC_of (L0 := [some (.ref 0), some (.int (Int32.ofInt a0_))]) md_T_centre (Nat.le_of_ble_eq_true rfl) rfl ?_ zQ0
  have hf : zFc d_ [] [] [] [] Mz Mz := zFc.rf
  refine zw_aload_n (pc := 0) (n := 0) (x := 0) rfl (zdal_p dlB_T_centre_57 (i := 0) rfl) ?_
  refine zw_getF (pc := 1) f_T_28 rfl ((hf.w hW).ka (o := 0) (by decide)) (hf.now hnow) (zdal_p dlB_T_centre_57 (i := 1) rfl) ?_
  refine zw_getF (pc := 4) f_T_85 rfl ((hf.w hW).kr (o := 0) (by decide)) ((hf.w hW).lr (o := 0) (s := 1) (r := 12) (by decide)) (zdal_p dlB_T_centre_57 (i := 2) rfl) ?_
  refine zw_iload_n (pc := 7) (n := 1) (x := Int32.ofInt a0_) rfl (zdal_p dlB_T_centre_57 (i := 3) rfl) ?_
  refine zk_callV hf.x (pc := 8) [.int (Int32.ofInt a0_)] [] l_T_143 (u_Sorts_hasSortX l d_ Mz (hf.w hW) a0_ ha0_a ha0_b) rfl rfl ((hf.w hW).kr (o := 12) (by decide)) (by decide) (by decide) (Nat.le_of_ble_eq_true rfl) (zdal_p dlB_T_centre_57 (i := 4) rfl) ?_
  rintro _ N1_ ⟨v2_, rfl, ⟨hv2_a, hv2_b⟩, hsN1_, hp0_N1_⟩
  obtain rfl := hsN1_.eq.symm
  replace hp0_N1_ : (v2_ = 0 ∨ v2_ = 1) := hp0_N1_
  show zW l m_T_centre (zn Mz + 0, zw Mz + 0) Mz 11 [some (.ref 0), some (.int (Int32.ofInt a0_))] [.int (Int32.ofInt v2_)] _
  refine zr_if_eq (pc := 11) (tgt := 41) ⟨hv2_a, hv2_b⟩ (by decide) (zdal_p dlB_T_centre_57 (i := 5) rfl) (fun hc_11 => ?_) (fun hc_11 => ?_)
  · skip
    refine zw_iconst (pc := 41) (v := Int32.ofInt (-1)) (by decide) (zdal_p dlB_T_centre_57 (i := 17) rfl) ?_
    exact zk_iret (pc := 42) (ty := .int) rfl rfl ⟨by omega, by omega⟩ hf trivial (zdal_p dlB_T_centre_57 (i := 18) rfl)
  · skip
    refine zw_aload_n (pc := 14) (n := 0) (x := 0) rfl (zdal_p dlB_T_centre_57 (i := 6) rfl) ?_
    refine zw_getF (pc := 15) f_T_28 rfl ((hf.w hW).ka (o := 0) (by decide)) (hf.now hnow) (zdal_p dlB_T_centre_57 (i := 7) rfl) ?_
    refine zw_getF (pc := 18) f_T_61 rfl ((hf.w hW).kr (o := 0) (by decide)) ((hf.w hW).lr (o := 0) (s := 0) (r := 1) (by decide)) (zdal_p dlB_T_centre_57 (i := 8) rfl) ?_
    refine zw_aload_n (pc := 21) (n := 0) (x := 0) rfl (zdal_p dlB_T_centre_57 (i := 9) rfl) ?_
    refine zw_getF (pc := 22) f_T_28 rfl ((hf.w hW).ka (o := 0) (by decide)) (hf.now hnow) (zdal_p dlB_T_centre_57 (i := 10) rfl) ?_
    refine zw_getF (pc := 25) f_T_85 rfl ((hf.w hW).kr (o := 0) (by decide)) ((hf.w hW).lr (o := 0) (s := 1) (r := 12) (by decide)) (zdal_p dlB_T_centre_57 (i := 11) rfl) ?_
    refine zw_getF (pc := 28) f_T_146 rfl ((hf.w hW).kr (o := 12) (by decide)) ((hf.w hW).lr (o := 12) (s := 4) (r := 19) (by decide)) (zdal_p dlB_T_centre_57 (i := 12) rfl) ?_
    refine zw_iload_n (pc := 31) (n := 1) (x := Int32.ofInt a0_) rfl (zdal_p dlB_T_centre_57 (i := 13) rfl) ?_
    refine zk_atG hf.x (pc := 32) l_T_118 ((hf.w hW).kr (o := 19) (by decide)) ((hf.w hW).lr (o := 19) (s := 0) (r := 20) (by decide)) ((hf.w hW).rr (o := 20) (t := 1) (n := 27) (by decide)) (by decide) ⟨by omega, by omega⟩ (by decide) (Nat.le_of_ble_eq_true rfl) (zdal_p dlB_T_centre_57 (i := 14) rfl) (fun v3_ hv3_ hv3_a hv3_b => ?_)
    clear hv3_
    refine zk_callV hf.x (pc := 35) [.int (Int32.ofInt v3_)] [] l_T_208 (u_Group_centreOfX l d_ Mz (hf.w hW) v3_ hv3_a hv3_b) rfl rfl ((hf.w hW).kr (o := 1) (by decide)) (by decide) (by decide) (Nat.le_of_ble_eq_true rfl) (zdal_p dlB_T_centre_57 (i := 15) rfl) ?_
    rintro _ N4_ ⟨v5_, rfl, ⟨hv5_a, hv5_b⟩, hsN4_, -⟩
    obtain rfl := hsN4_.eq.symm
    show zW l m_T_centre (zn Mz + 0, zw Mz + 0) Mz 38 [some (.ref 0), some (.int (Int32.ofInt a0_))] [.int (Int32.ofInt v5_)] _
    refine zw_goto (pc := 38) (tgt := 42) (by decide) (zdal_p dlB_T_centre_57 (i := 16) rfl) ?_
    exact zk_iret (pc := 42) (ty := .int) rfl rfl ⟨by omega, by omega⟩ hf trivial (zdal_p dlB_T_centre_57 (i := 18) rfl)
set_option maxHeartbeats 4000000 in
theorem u_Sums_totalOfWorkX (l : Launch) (d_ : Nat) (Mz : zMem) (hW : zKW d_ Mz) : zC l m_Sums_totalOfWork 0 0 [.ref (d_ + 23)] Mz (zqcI d_ [] [] [] [] Mz (fun v N => True)) := by
  refine zC_of (L0 := [some (.ref (d_ + 23)), none, none, none]) md_Sums_totalOfWork (Nat.le_of_ble_eq_true rfl) rfl ?_ zQ0
  have hf : zFc d_ [] [] [] [] Mz Mz := zFc.rf
  refine zw_lconst (pc := 0) (v := Int64.ofInt 0) (by decide) (zdal_p dlB_Sums_totalOfWork_60 (i := 0) rfl) ?_
  refine zw_lstore_n (pc := 1) (i := 1) (L2 := [some (.ref (d_ + 23)), some (.long (Int64.ofInt 0)), none, none]) rfl (by decide) rfl (zdal_p dlB_Sums_totalOfWork_60 (i := 1) rfl) ?_
  refine zw_iconst (pc := 2) (v := Int32.ofInt 0) (by decide) (zdal_p dlB_Sums_totalOfWork_60 (i := 2) rfl) ?_
  refine zw_istore_n (pc := 3) (i := 3) (L2 := [some (.ref (d_ + 23)), some (.long (Int64.ofInt 0)), none, some (.int (Int32.ofInt 0))]) rfl (by decide) rfl (zdal_p dlB_Sums_totalOfWork_60 (i := 3) rfl) ?_
  have lp_4 : ∀ (n : Nat) (u1_ : Int) (hu1_a : -9223372036854775808 ≤ u1_) (hu1_b : u1_ < 9223372036854775808) (u2_ : Int) (hu2_a : -2147483648 ≤ u2_) (hu2_b : u2_ < 2147483648) (i3_ : 0 ≤ u2_), (ze Mz (d_ + 12) 7 - u2_).toNat < n → zW l m_Sums_totalOfWork (zn Mz + 0, zw Mz + 0) Mz 4 [some (.ref (d_ + 23)), some (.long (Int64.ofInt u1_)), none, some (.int (Int32.ofInt u2_))] [] (zqcI d_ [] [] [] [] Mz (fun v N => True)) := by
    intro n
    induction n with
    | zero =>
      intro u1_ hu1_a hu1_b u2_ hu2_a hu2_b i3_ h0
      exact absurd h0 (Nat.not_lt_zero _)
    | succ n ih_4 =>
      intro u1_ hu1_a hu1_b u2_ hu2_a hu2_b i3_ hlt_4
      refine zw_iload_n (pc := 4) (n := 3) (x := Int32.ofInt u2_) rfl (zdal_p dlB_Sums_totalOfWork_60 (i := 4) rfl) ?_
      refine zw_aload_n (pc := 5) (n := 0) (x := (d_ + 23)) rfl (zdal_p dlB_Sums_totalOfWork_60 (i := 5) rfl) ?_
      refine zw_getF (pc := 6) f_Sums_23 rfl ((hf.w hW).kr (o := 23) (by decide)) ((hf.w hW).lr (o := 23) (s := 0) (r := 12) (by decide)) (zdal_p dlB_Sums_totalOfWork_60 (i := 6) rfl) ?_
      refine zk_getI (pc := 9) f_Sums_35 rfl ((hf.w hW).kr (o := 12) (by decide)) (zdal_p dlB_Sums_totalOfWork_60 (i := 7) rfl) ?_
      have hr4_ := ze_r Mz (d_ + 12) 7
      refine zr_icmp_ge (pc := 12) (tgt := 31) ⟨hu2_a, hu2_b⟩ ⟨(ze_r Mz (d_ + 12) 7).1, (ze_r Mz (d_ + 12) 7).2⟩ (by decide) (zdal_p dlB_Sums_totalOfWork_60 (i := 8) rfl) (fun hc_12 => ?_) (fun hc_12 => ?_)
      · skip
        refine zw_lload_n (pc := 31) (n := 1) (x := Int64.ofInt u1_) rfl (zdal_p dlB_Sums_totalOfWork_60 (i := 18) rfl) ?_
        refine zr_l2i (pc := 32) (zdal_p dlB_Sums_totalOfWork_60 (i := 19) rfl) ?_
        refine zr_nmI (fun v5_ hv5_ => ?_)
        obtain ⟨hv5_a, hv5_b⟩ := hv5_
        exact zk_iret (pc := 33) (ty := .int) rfl rfl ⟨by omega, by omega⟩ hf trivial (zdal_p dlB_Sums_totalOfWork_60 (i := 20) rfl)
      · skip
        refine zw_lload_n (pc := 15) (n := 1) (x := Int64.ofInt u1_) rfl (zdal_p dlB_Sums_totalOfWork_60 (i := 9) rfl) ?_
        refine zw_aload_n (pc := 16) (n := 0) (x := (d_ + 23)) rfl (zdal_p dlB_Sums_totalOfWork_60 (i := 10) rfl) ?_
        refine zw_bipush (pc := 17) (v := Int32.ofInt 39) (by decide) (zdal_p dlB_Sums_totalOfWork_60 (i := 11) rfl) ?_
        refine zw_iload_n (pc := 19) (n := 3) (x := Int32.ofInt u2_) rfl (zdal_p dlB_Sums_totalOfWork_60 (i := 12) rfl) ?_
        refine zk_callV hf.x (pc := 20) [.int (Int32.ofInt 39), .int (Int32.ofInt u2_)] [.long (Int64.ofInt u1_)] l_Sums_67 (u_Sums_numberAtX l d_ Mz (hf.w hW) 39 (by decide) (by decide) u2_ hu2_a hu2_b) rfl rfl ((hf.w hW).kr (o := 23) (by decide)) (by decide) (by decide) (Nat.le_of_ble_eq_true rfl) (zdal_p dlB_Sums_totalOfWork_60 (i := 13) rfl) ?_
        rintro _ N6_ ⟨v7_, rfl, ⟨hv7_a, hv7_b⟩, hsN6_, -⟩
        obtain rfl := hsN6_.eq.symm
        show zW l m_Sums_totalOfWork (zn Mz + 0, zw Mz + 0) Mz 23 [some (.ref (d_ + 23)), some (.long (Int64.ofInt u1_)), none, some (.int (Int32.ofInt u2_))] [.long (Int64.ofInt v7_), .long (Int64.ofInt u1_)] _
        refine zr_ladd (pc := 23) (zdal_p dlB_Sums_totalOfWork_60 (i := 14) rfl) ?_
        refine zr_nmJ (fun v8_ hv8_ => ?_)
        obtain ⟨hv8_a, hv8_b⟩ := hv8_
        refine zw_lstore_n (pc := 24) (i := 1) (L2 := [some (.ref (d_ + 23)), some (.long (Int64.ofInt v8_)), none, some (.int (Int32.ofInt u2_))]) rfl (by decide) rfl (zdal_p dlB_Sums_totalOfWork_60 (i := 15) rfl) ?_
        refine zr_iinc (pc := 25) (i := 3) (a := u2_) (n := 1) (L2 := [some (.ref (d_ + 23)), some (.long (Int64.ofInt v8_)), none, some (.int (Int32.ofInt (u2_ + 1)))]) rfl (by decide) rfl (zdal_p dlB_Sums_totalOfWork_60 (i := 16) rfl) ?_
        obtain ⟨v9_, hv9_a, hv9_b, hv9_e, hv9_d⟩ := zk_gen (u2_ + 1)
        rw [hv9_e]
        refine zw_goto (pc := 28) (tgt := 4) (by decide) (zdal_p dlB_Sums_totalOfWork_60 (i := 17) rfl) ?_
        exact ih_4 v8_ hv8_a hv8_b v9_ hv9_a hv9_b (show 0 ≤ v9_ by first | with_reducible assumption | assumption | omega) (by omega)
  exact lp_4 _ 0 (by decide) (by decide) 0 (by decide) (by decide) (show 0 ≤ (0 : Int) by first | with_reducible assumption | assumption | omega) (Nat.lt_succ_self _)
set_option maxHeartbeats 4000000 in
theorem u_Group_commutingPairsX (l : Launch) (d_ : Nat) (Mz : zMem) (hW : zKW d_ Mz) : zC l m_Group_commutingPairs 0 0 [.ref (d_ + 1)] Mz (zqcI d_ [] [] [] [] Mz (fun v N => True)) := by
  refine zC_of (L0 := [some (.ref (d_ + 1)), none, none]) md_Group_commutingPairs (Nat.le_of_ble_eq_true rfl) rfl ?_ zQ0
  have hf : zFc d_ [] [] [] [] Mz Mz := zFc.rf
  refine zw_iconst (pc := 0) (v := Int32.ofInt 0) (by decide) (zdal_p dlB_Group_commutingPairs_62 (i := 0) rfl) ?_
  refine zw_istore_n (pc := 1) (i := 1) (L2 := [some (.ref (d_ + 1)), some (.int (Int32.ofInt 0)), none]) rfl (by decide) rfl (zdal_p dlB_Group_commutingPairs_62 (i := 1) rfl) ?_
  refine zw_iconst (pc := 2) (v := Int32.ofInt 0) (by decide) (zdal_p dlB_Group_commutingPairs_62 (i := 2) rfl) ?_
  refine zw_istore_n (pc := 3) (i := 2) (L2 := [some (.ref (d_ + 1)), some (.int (Int32.ofInt 0)), some (.int (Int32.ofInt 0))]) rfl (by decide) rfl (zdal_p dlB_Group_commutingPairs_62 (i := 3) rfl) ?_
  have lp_4 : ∀ (n : Nat) (u1_ : Int) (hu1_a : -2147483648 ≤ u1_) (hu1_b : u1_ < 2147483648) (u2_ : Int) (hu2_a : -2147483648 ≤ u2_) (hu2_b : u2_ < 2147483648) (i3_ : 0 ≤ u2_), (ze Mz (d_ + 1) 7 - u2_).toNat < n → zW l m_Group_commutingPairs (zn Mz + 0, zw Mz + 0) Mz 4 [some (.ref (d_ + 1)), some (.int (Int32.ofInt u1_)), some (.int (Int32.ofInt u2_))] [] (zqcI d_ [] [] [] [] Mz (fun v N => True)) := by
    intro n
    induction n with
    | zero =>
      intro u1_ hu1_a hu1_b u2_ hu2_a hu2_b i3_ h0
      exact absurd h0 (Nat.not_lt_zero _)
    | succ n ih_4 =>
      intro u1_ hu1_a hu1_b u2_ hu2_a hu2_b i3_ hlt_4
      refine zw_iload_n (pc := 4) (n := 2) (x := Int32.ofInt u2_) rfl (zdal_p dlB_Group_commutingPairs_62 (i := 4) rfl) ?_
      refine zw_aload_n (pc := 5) (n := 0) (x := (d_ + 1)) rfl (zdal_p dlB_Group_commutingPairs_62 (i := 5) rfl) ?_
      refine zk_getI (pc := 6) f_Group_39 rfl ((hf.w hW).kr (o := 1) (by decide)) (zdal_p dlB_Group_commutingPairs_62 (i := 6) rfl) ?_
      have hr4_ := ze_r Mz (d_ + 1) 7
      refine zr_icmp_ge (pc := 9) (tgt := 33) ⟨hu2_a, hu2_b⟩ ⟨(ze_r Mz (d_ + 1) 7).1, (ze_r Mz (d_ + 1) 7).2⟩ (by decide) (zdal_p dlB_Group_commutingPairs_62 (i := 7) rfl) (fun hc_9 => ?_) (fun hc_9 => ?_)
      · skip
        refine zw_iload_n (pc := 33) (n := 1) (x := Int32.ofInt u1_) rfl (zdal_p dlB_Group_commutingPairs_62 (i := 19) rfl) ?_
        exact zk_iret (pc := 34) (ty := .int) rfl rfl ⟨by omega, by omega⟩ hf trivial (zdal_p dlB_Group_commutingPairs_62 (i := 20) rfl)
      · skip
        refine zw_iload_n (pc := 12) (n := 1) (x := Int32.ofInt u1_) rfl (zdal_p dlB_Group_commutingPairs_62 (i := 8) rfl) ?_
        refine zw_aload_n (pc := 13) (n := 0) (x := (d_ + 1)) rfl (zdal_p dlB_Group_commutingPairs_62 (i := 9) rfl) ?_
        refine zw_iload_n (pc := 14) (n := 2) (x := Int32.ofInt u2_) rfl (zdal_p dlB_Group_commutingPairs_62 (i := 10) rfl) ?_
        refine zw_aload_n (pc := 15) (n := 0) (x := (d_ + 1)) rfl (zdal_p dlB_Group_commutingPairs_62 (i := 11) rfl) ?_
        refine zk_callV hf.x (pc := 16) [] [.int (Int32.ofInt u2_), .ref (d_ + 1), .int (Int32.ofInt u1_)] l_Group_93 (u_Group_everyoneX l d_ Mz (hf.w hW) ) rfl rfl ((hf.w hW).kr (o := 1) (by decide)) (by decide) (by decide) (Nat.le_of_ble_eq_true rfl) (zdal_p dlB_Group_commutingPairs_62 (i := 12) rfl) ?_
        rintro _ N5_ ⟨v6_, rfl, ⟨hv6_a, hv6_b⟩, hsN5_, -⟩
        obtain rfl := hsN5_.eq.symm
        show zW l m_Group_commutingPairs (zn Mz + 0, zw Mz + 0) Mz 19 [some (.ref (d_ + 1)), some (.int (Int32.ofInt u1_)), some (.int (Int32.ofInt u2_))] [.int (Int32.ofInt v6_), .int (Int32.ofInt u2_), .ref (d_ + 1), .int (Int32.ofInt u1_)] _
        refine zk_callV hf.x (pc := 19) [.int (Int32.ofInt u2_), .int (Int32.ofInt v6_)] [.int (Int32.ofInt u1_)] l_Group_97 (u_Group_commutingWithX l d_ Mz (hf.w hW) u2_ hu2_a hu2_b v6_ hv6_a hv6_b) rfl rfl ((hf.w hW).kr (o := 1) (by decide)) (by decide) (by decide) (Nat.le_of_ble_eq_true rfl) (zdal_p dlB_Group_commutingPairs_62 (i := 13) rfl) ?_
        rintro _ N7_ ⟨v8_, rfl, ⟨hv8_a, hv8_b⟩, hsN7_, -⟩
        obtain rfl := hsN7_.eq.symm
        show zW l m_Group_commutingPairs (zn Mz + 0, zw Mz + 0) Mz 22 [some (.ref (d_ + 1)), some (.int (Int32.ofInt u1_)), some (.int (Int32.ofInt u2_))] [.int (Int32.ofInt v8_), .int (Int32.ofInt u1_)] _
        refine zr_callS hf.x (pc := 22) [.int (Int32.ofInt v8_)] [.int (Int32.ofInt u1_)] l_Group_83 (u_Integer_bitCountX l d_ Mz (hf.w hW) v8_ hv8_a hv8_b) rfl rfl (by decide) (Nat.le_of_ble_eq_true rfl) (zdal_p dlB_Group_commutingPairs_62 (i := 14) rfl) ?_
        rintro _ N9_ ⟨v10_, rfl, ⟨hv10_a, hv10_b⟩, hsN9_, ⟨hp0_N9_, hp1_N9_⟩⟩
        obtain rfl := hsN9_.eq.symm
        show zW l m_Group_commutingPairs (zn Mz + 0, zw Mz + 0) Mz 25 [some (.ref (d_ + 1)), some (.int (Int32.ofInt u1_)), some (.int (Int32.ofInt u2_))] [.int (Int32.ofInt v10_), .int (Int32.ofInt u1_)] _
        refine zr_iadd (pc := 25) (zdal_p dlB_Group_commutingPairs_62 (i := 15) rfl) ?_
        refine zr_nmI (fun v11_ hv11_ => ?_)
        obtain ⟨hv11_a, hv11_b⟩ := hv11_
        refine zw_istore_n (pc := 26) (i := 1) (L2 := [some (.ref (d_ + 1)), some (.int (Int32.ofInt v11_)), some (.int (Int32.ofInt u2_))]) rfl (by decide) rfl (zdal_p dlB_Group_commutingPairs_62 (i := 16) rfl) ?_
        refine zr_iinc (pc := 27) (i := 2) (a := u2_) (n := 1) (L2 := [some (.ref (d_ + 1)), some (.int (Int32.ofInt v11_)), some (.int (Int32.ofInt (u2_ + 1)))]) rfl (by decide) rfl (zdal_p dlB_Group_commutingPairs_62 (i := 17) rfl) ?_
        obtain ⟨v12_, hv12_a, hv12_b, hv12_e, hv12_d⟩ := zk_gen (u2_ + 1)
        rw [hv12_e]
        refine zw_goto (pc := 30) (tgt := 4) (by decide) (zdal_p dlB_Group_commutingPairs_62 (i := 18) rfl) ?_
        exact ih_4 v11_ hv11_a hv11_b v12_ hv12_a hv12_b (show 0 ≤ v12_ by first | with_reducible assumption | assumption | omega) (by omega)
  exact lp_4 _ 0 (by decide) (by decide) 0 (by decide) (by decide) (show 0 ≤ (0 : Int) by first | with_reducible assumption | assumption | omega) (Nat.lt_succ_self _)
set_option maxHeartbeats 4000000 in
theorem u_T_alikeX (l : Launch) (d_ : Nat) (Mz : zMem) (hW : zKW d_ Mz) (hnow : zf Mz 0 2 = some (d_ + 0)) : zC l m_T_alike 0 0 [.ref 0] Mz (zqcI d_ [] [] [] [] Mz (fun v N => True)) := by
  refine zC_of (L0 := [some (.ref 0)]) md_T_alike (Nat.le_of_ble_eq_true rfl) rfl ?_ zQ0
  have hf : zFc d_ [] [] [] [] Mz Mz := zFc.rf
  refine zw_aload_n (pc := 0) (n := 0) (x := 0) rfl (zdal_p dlB_T_alike_61 (i := 0) rfl) ?_
  refine zw_getF (pc := 1) f_T_28 rfl ((hf.w hW).ka (o := 0) (by decide)) (hf.now hnow) (zdal_p dlB_T_alike_61 (i := 1) rfl) ?_
  refine zw_getF (pc := 4) f_T_61 rfl ((hf.w hW).kr (o := 0) (by decide)) ((hf.w hW).lr (o := 0) (s := 0) (r := 1) (by decide)) (zdal_p dlB_T_alike_61 (i := 2) rfl) ?_
  refine zk_callV hf.x (pc := 7) [] [] l_T_214 (u_Group_commutingPairsX l d_ Mz (hf.w hW) ) rfl rfl ((hf.w hW).kr (o := 1) (by decide)) (by decide) (by decide) (Nat.le_of_ble_eq_true rfl) (zdal_p dlB_T_alike_61 (i := 3) rfl) ?_
  rintro _ N1_ ⟨v2_, rfl, ⟨hv2_a, hv2_b⟩, hsN1_, -⟩
  obtain rfl := hsN1_.eq.symm
  show zW l m_T_alike (zn Mz + 0, zw Mz + 0) Mz 10 [some (.ref 0)] [.int (Int32.ofInt v2_)] _
  exact zk_iret (pc := 10) (ty := .int) rfl rfl ⟨by omega, by omega⟩ hf trivial (zdal_p dlB_T_alike_61 (i := 4) rfl)
set_option maxHeartbeats 4000000 in
theorem u_T_meetX (l : Launch) (d_ : Nat) (Mz : zMem) (hW : zKW d_ Mz) (hnow : zf Mz 0 2 = some (d_ + 0)) (a0_ : Int) (ha0_a : -2147483648 ≤ a0_) (ha0_b : a0_ < 2147483648) (a1_ : Int) (ha1_a : -2147483648 ≤ a1_) (ha1_b : a1_ < 2147483648) : zC l m_T_meet 0 0 [.ref 0, .int (Int32.ofInt a0_), .int (Int32.ofInt a1_)] Mz (zqcI d_ [] [] [] [11] Mz (fun v N => True)) := by
  refine zC_of (L0 := [some (.ref 0), some (.int (Int32.ofInt a0_)), some (.int (Int32.ofInt a1_)), none]) md_T_meet (Nat.le_of_ble_eq_true rfl) rfl ?_ zQ0
  have hf : zFc d_ [] [] [] [11] Mz Mz := zFc.rf
  refine zw_aload_n (pc := 0) (n := 0) (x := 0) rfl (zdal_p dlB_T_meet_63 (i := 0) rfl) ?_
  refine zw_getF (pc := 1) f_T_28 rfl ((hf.w hW).ka (o := 0) (by decide)) (hf.now hnow) (zdal_p dlB_T_meet_63 (i := 1) rfl) ?_
  refine zw_getF (pc := 4) f_T_85 rfl ((hf.w hW).kr (o := 0) (by decide)) ((hf.w hW).lr (o := 0) (s := 1) (r := 12) (by decide)) (zdal_p dlB_T_meet_63 (i := 2) rfl) ?_
  refine zw_astore_n (pc := 7) (i := 3) (L2 := [some (.ref 0), some (.int (Int32.ofInt a0_)), some (.int (Int32.ofInt a1_)), some (.ref (d_ + 12))]) rfl (by decide) rfl (zdal_p dlB_T_meet_63 (i := 3) rfl) ?_
  refine zw_aload_n (pc := 8) (n := 3) (x := (d_ + 12)) rfl (zdal_p dlB_T_meet_63 (i := 4) rfl) ?_
  refine zw_iload_n (pc := 9) (n := 1) (x := Int32.ofInt a0_) rfl (zdal_p dlB_T_meet_63 (i := 5) rfl) ?_
  refine zk_callV hf.x (pc := 10) [.int (Int32.ofInt a0_)] [] l_T_143 (u_Sorts_hasSortX l d_ Mz (hf.w hW) a0_ ha0_a ha0_b) rfl rfl ((hf.w hW).kr (o := 12) (by decide)) (by decide) (by decide) (Nat.le_of_ble_eq_true rfl) (zdal_p dlB_T_meet_63 (i := 6) rfl) ?_
  rintro _ N1_ ⟨v2_, rfl, ⟨hv2_a, hv2_b⟩, hsN1_, hp0_N1_⟩
  obtain rfl := hsN1_.eq.symm
  replace hp0_N1_ : (v2_ = 0 ∨ v2_ = 1) := hp0_N1_
  show zW l m_T_meet (zn Mz + 0, zw Mz + 0) Mz 13 [some (.ref 0), some (.int (Int32.ofInt a0_)), some (.int (Int32.ofInt a1_)), some (.ref (d_ + 12))] [.int (Int32.ofInt v2_)] _
  refine zr_if_eq (pc := 13) (tgt := 24) ⟨hv2_a, hv2_b⟩ (by decide) (zdal_p dlB_T_meet_63 (i := 7) rfl) (fun hc_13 => ?_) (fun hc_13 => ?_)
  · skip
    refine zw_iconst (pc := 24) (v := Int32.ofInt (-1)) (by decide) (zdal_p dlB_T_meet_63 (i := 12) rfl) ?_
    exact zk_iret (pc := 25) (ty := .int) rfl rfl ⟨by omega, by omega⟩ hf trivial (zdal_p dlB_T_meet_63 (i := 13) rfl)
  · skip
    refine zw_aload_n (pc := 16) (n := 3) (x := (d_ + 12)) rfl (zdal_p dlB_T_meet_63 (i := 8) rfl) ?_
    refine zw_iload_n (pc := 17) (n := 2) (x := Int32.ofInt a1_) rfl (zdal_p dlB_T_meet_63 (i := 9) rfl) ?_
    refine zk_callV hf.x (pc := 18) [.int (Int32.ofInt a1_)] [] l_T_143 (u_Sorts_hasSortX l d_ Mz (hf.w hW) a1_ ha1_a ha1_b) rfl rfl ((hf.w hW).kr (o := 12) (by decide)) (by decide) (by decide) (Nat.le_of_ble_eq_true rfl) (zdal_p dlB_T_meet_63 (i := 10) rfl) ?_
    rintro _ N3_ ⟨v4_, rfl, ⟨hv4_a, hv4_b⟩, hsN3_, hp0_N3_⟩
    obtain rfl := hsN3_.eq.symm
    replace hp0_N3_ : (v4_ = 0 ∨ v4_ = 1) := hp0_N3_
    show zW l m_T_meet (zn Mz + 0, zw Mz + 0) Mz 21 [some (.ref 0), some (.int (Int32.ofInt a0_)), some (.int (Int32.ofInt a1_)), some (.ref (d_ + 12))] [.int (Int32.ofInt v4_)] _
    refine zr_if_ne (pc := 21) (tgt := 26) ⟨hv4_a, hv4_b⟩ (by decide) (zdal_p dlB_T_meet_63 (i := 11) rfl) (fun hc_21 => ?_) (fun hc_21 => ?_)
    · skip
      refine zw_aload_n (pc := 26) (n := 3) (x := (d_ + 12)) rfl (zdal_p dlB_T_meet_63 (i := 14) rfl) ?_
      refine zw_aload_n (pc := 27) (n := 3) (x := (d_ + 12)) rfl (zdal_p dlB_T_meet_63 (i := 15) rfl) ?_
      refine zw_getF (pc := 28) f_T_146 rfl ((hf.w hW).kr (o := 12) (by decide)) ((hf.w hW).lr (o := 12) (s := 4) (r := 19) (by decide)) (zdal_p dlB_T_meet_63 (i := 16) rfl) ?_
      refine zw_iload_n (pc := 31) (n := 1) (x := Int32.ofInt a0_) rfl (zdal_p dlB_T_meet_63 (i := 17) rfl) ?_
      refine zk_atG hf.x (pc := 32) l_T_118 ((hf.w hW).kr (o := 19) (by decide)) ((hf.w hW).lr (o := 19) (s := 0) (r := 20) (by decide)) ((hf.w hW).rr (o := 20) (t := 1) (n := 27) (by decide)) (by decide) ⟨by omega, by omega⟩ (by decide) (Nat.le_of_ble_eq_true rfl) (zdal_p dlB_T_meet_63 (i := 18) rfl) (fun v5_ hv5_ hv5_a hv5_b => ?_)
      clear hv5_
      refine zw_aload_n (pc := 35) (n := 3) (x := (d_ + 12)) rfl (zdal_p dlB_T_meet_63 (i := 19) rfl) ?_
      refine zw_getF (pc := 36) f_T_146 rfl ((hf.w hW).kr (o := 12) (by decide)) ((hf.w hW).lr (o := 12) (s := 4) (r := 19) (by decide)) (zdal_p dlB_T_meet_63 (i := 20) rfl) ?_
      refine zw_iload_n (pc := 39) (n := 2) (x := Int32.ofInt a1_) rfl (zdal_p dlB_T_meet_63 (i := 21) rfl) ?_
      refine zk_atG hf.x (pc := 40) l_T_118 ((hf.w hW).kr (o := 19) (by decide)) ((hf.w hW).lr (o := 19) (s := 0) (r := 20) (by decide)) ((hf.w hW).rr (o := 20) (t := 1) (n := 27) (by decide)) (by decide) ⟨by omega, by omega⟩ (by decide) (Nat.le_of_ble_eq_true rfl) (zdal_p dlB_T_meet_63 (i := 22) rfl) (fun v6_ hv6_ hv6_a hv6_b => ?_)
      clear hv6_
      refine zr_iand (pc := 43) (zdal_p dlB_T_meet_63 (i := 23) rfl) ?_
      have hr7_ := zand_r v5_ v6_
      refine zr_nmI (fun v8_ hv8_ => ?_)
      obtain ⟨hv8_a, hv8_b⟩ := hv8_
      refine zk_callV hf.x (pc := 44) [.int (Int32.ofInt v8_)] [] l_T_140 (u_Sorts_spannedSortX l d_ Mz (hf.w hW) v8_ hv8_a hv8_b) rfl rfl ((hf.w hW).kr (o := 12) (by decide)) (by decide) (by decide) (Nat.le_of_ble_eq_true rfl) (zdal_p dlB_T_meet_64 (i := 0) rfl) ?_
      rintro _ N9_ ⟨v10_, rfl, ⟨hv10_a, hv10_b⟩, hsN9_, -⟩
      have hf_N9_ : zFc d_ [] [] [] [11] Mz N9_ := hf.tr hsN9_ (by decide) (by decide) (by decide) (by decide)
      show zW l m_T_meet (zn Mz + 0, zw Mz + 0) N9_ 47 [some (.ref 0), some (.int (Int32.ofInt a0_)), some (.int (Int32.ofInt a1_)), some (.ref (d_ + 12))] [.int (Int32.ofInt v10_)] _
      exact zk_iret (pc := 47) (ty := .int) rfl rfl ⟨by omega, by omega⟩ hf_N9_ trivial (zdal_p dlB_T_meet_64 (i := 1) rfl)
    · skip
      refine zw_iconst (pc := 24) (v := Int32.ofInt (-1)) (by decide) (zdal_p dlB_T_meet_63 (i := 12) rfl) ?_
      exact zk_iret (pc := 25) (ty := .int) rfl rfl ⟨by omega, by omega⟩ hf trivial (zdal_p dlB_T_meet_63 (i := 13) rfl)
set_option maxHeartbeats 4000000 in
theorem u_T_joinX (l : Launch) (d_ : Nat) (Mz : zMem) (hW : zKW d_ Mz) (hnow : zf Mz 0 2 = some (d_ + 0)) (a0_ : Int) (ha0_a : -2147483648 ≤ a0_) (ha0_b : a0_ < 2147483648) (a1_ : Int) (ha1_a : -2147483648 ≤ a1_) (ha1_b : a1_ < 2147483648) : zC l m_T_join 0 0 [.ref 0, .int (Int32.ofInt a0_), .int (Int32.ofInt a1_)] Mz (zqcI d_ [] [] [] [11] Mz (fun v N => True)) := by
  refine zC_of (L0 := [some (.ref 0), some (.int (Int32.ofInt a0_)), some (.int (Int32.ofInt a1_)), none]) md_T_join (Nat.le_of_ble_eq_true rfl) rfl ?_ zQ0
  have hf : zFc d_ [] [] [] [11] Mz Mz := zFc.rf
  refine zw_aload_n (pc := 0) (n := 0) (x := 0) rfl (zdal_p dlB_T_join_65 (i := 0) rfl) ?_
  refine zw_getF (pc := 1) f_T_28 rfl ((hf.w hW).ka (o := 0) (by decide)) (hf.now hnow) (zdal_p dlB_T_join_65 (i := 1) rfl) ?_
  refine zw_getF (pc := 4) f_T_85 rfl ((hf.w hW).kr (o := 0) (by decide)) ((hf.w hW).lr (o := 0) (s := 1) (r := 12) (by decide)) (zdal_p dlB_T_join_65 (i := 2) rfl) ?_
  refine zw_astore_n (pc := 7) (i := 3) (L2 := [some (.ref 0), some (.int (Int32.ofInt a0_)), some (.int (Int32.ofInt a1_)), some (.ref (d_ + 12))]) rfl (by decide) rfl (zdal_p dlB_T_join_65 (i := 3) rfl) ?_
  refine zw_aload_n (pc := 8) (n := 3) (x := (d_ + 12)) rfl (zdal_p dlB_T_join_65 (i := 4) rfl) ?_
  refine zw_iload_n (pc := 9) (n := 1) (x := Int32.ofInt a0_) rfl (zdal_p dlB_T_join_65 (i := 5) rfl) ?_
  refine zk_callV hf.x (pc := 10) [.int (Int32.ofInt a0_)] [] l_T_143 (u_Sorts_hasSortX l d_ Mz (hf.w hW) a0_ ha0_a ha0_b) rfl rfl ((hf.w hW).kr (o := 12) (by decide)) (by decide) (by decide) (Nat.le_of_ble_eq_true rfl) (zdal_p dlB_T_join_65 (i := 6) rfl) ?_
  rintro _ N1_ ⟨v2_, rfl, ⟨hv2_a, hv2_b⟩, hsN1_, hp0_N1_⟩
  obtain rfl := hsN1_.eq.symm
  replace hp0_N1_ : (v2_ = 0 ∨ v2_ = 1) := hp0_N1_
  show zW l m_T_join (zn Mz + 0, zw Mz + 0) Mz 13 [some (.ref 0), some (.int (Int32.ofInt a0_)), some (.int (Int32.ofInt a1_)), some (.ref (d_ + 12))] [.int (Int32.ofInt v2_)] _
  refine zr_if_eq (pc := 13) (tgt := 24) ⟨hv2_a, hv2_b⟩ (by decide) (zdal_p dlB_T_join_65 (i := 7) rfl) (fun hc_13 => ?_) (fun hc_13 => ?_)
  · skip
    refine zw_iconst (pc := 24) (v := Int32.ofInt (-1)) (by decide) (zdal_p dlB_T_join_65 (i := 12) rfl) ?_
    exact zk_iret (pc := 25) (ty := .int) rfl rfl ⟨by omega, by omega⟩ hf trivial (zdal_p dlB_T_join_65 (i := 13) rfl)
  · skip
    refine zw_aload_n (pc := 16) (n := 3) (x := (d_ + 12)) rfl (zdal_p dlB_T_join_65 (i := 8) rfl) ?_
    refine zw_iload_n (pc := 17) (n := 2) (x := Int32.ofInt a1_) rfl (zdal_p dlB_T_join_65 (i := 9) rfl) ?_
    refine zk_callV hf.x (pc := 18) [.int (Int32.ofInt a1_)] [] l_T_143 (u_Sorts_hasSortX l d_ Mz (hf.w hW) a1_ ha1_a ha1_b) rfl rfl ((hf.w hW).kr (o := 12) (by decide)) (by decide) (by decide) (Nat.le_of_ble_eq_true rfl) (zdal_p dlB_T_join_65 (i := 10) rfl) ?_
    rintro _ N3_ ⟨v4_, rfl, ⟨hv4_a, hv4_b⟩, hsN3_, hp0_N3_⟩
    obtain rfl := hsN3_.eq.symm
    replace hp0_N3_ : (v4_ = 0 ∨ v4_ = 1) := hp0_N3_
    show zW l m_T_join (zn Mz + 0, zw Mz + 0) Mz 21 [some (.ref 0), some (.int (Int32.ofInt a0_)), some (.int (Int32.ofInt a1_)), some (.ref (d_ + 12))] [.int (Int32.ofInt v4_)] _
    refine zr_if_ne (pc := 21) (tgt := 26) ⟨hv4_a, hv4_b⟩ (by decide) (zdal_p dlB_T_join_65 (i := 11) rfl) (fun hc_21 => ?_) (fun hc_21 => ?_)
    · skip
      refine zw_aload_n (pc := 26) (n := 3) (x := (d_ + 12)) rfl (zdal_p dlB_T_join_65 (i := 14) rfl) ?_
      refine zw_aload_n (pc := 27) (n := 3) (x := (d_ + 12)) rfl (zdal_p dlB_T_join_65 (i := 15) rfl) ?_
      refine zw_getF (pc := 28) f_T_146 rfl ((hf.w hW).kr (o := 12) (by decide)) ((hf.w hW).lr (o := 12) (s := 4) (r := 19) (by decide)) (zdal_p dlB_T_join_65 (i := 16) rfl) ?_
      refine zw_iload_n (pc := 31) (n := 1) (x := Int32.ofInt a0_) rfl (zdal_p dlB_T_join_65 (i := 17) rfl) ?_
      refine zk_atG hf.x (pc := 32) l_T_118 ((hf.w hW).kr (o := 19) (by decide)) ((hf.w hW).lr (o := 19) (s := 0) (r := 20) (by decide)) ((hf.w hW).rr (o := 20) (t := 1) (n := 27) (by decide)) (by decide) ⟨by omega, by omega⟩ (by decide) (Nat.le_of_ble_eq_true rfl) (zdal_p dlB_T_join_65 (i := 18) rfl) (fun v5_ hv5_ hv5_a hv5_b => ?_)
      clear hv5_
      refine zw_aload_n (pc := 35) (n := 3) (x := (d_ + 12)) rfl (zdal_p dlB_T_join_65 (i := 19) rfl) ?_
      refine zw_getF (pc := 36) f_T_146 rfl ((hf.w hW).kr (o := 12) (by decide)) ((hf.w hW).lr (o := 12) (s := 4) (r := 19) (by decide)) (zdal_p dlB_T_join_65 (i := 20) rfl) ?_
      refine zw_iload_n (pc := 39) (n := 2) (x := Int32.ofInt a1_) rfl (zdal_p dlB_T_join_65 (i := 21) rfl) ?_
      refine zk_atG hf.x (pc := 40) l_T_118 ((hf.w hW).kr (o := 19) (by decide)) ((hf.w hW).lr (o := 19) (s := 0) (r := 20) (by decide)) ((hf.w hW).rr (o := 20) (t := 1) (n := 27) (by decide)) (by decide) ⟨by omega, by omega⟩ (by decide) (Nat.le_of_ble_eq_true rfl) (zdal_p dlB_T_join_65 (i := 22) rfl) (fun v6_ hv6_ hv6_a hv6_b => ?_)
      clear hv6_
      refine zr_ior (pc := 43) (zdal_p dlB_T_join_65 (i := 23) rfl) ?_
      have hr7_ := zor_r v5_ v6_
      refine zr_nmI (fun v8_ hv8_ => ?_)
      obtain ⟨hv8_a, hv8_b⟩ := hv8_
      refine zk_callV hf.x (pc := 44) [.int (Int32.ofInt v8_)] [] l_T_140 (u_Sorts_spannedSortX l d_ Mz (hf.w hW) v8_ hv8_a hv8_b) rfl rfl ((hf.w hW).kr (o := 12) (by decide)) (by decide) (by decide) (Nat.le_of_ble_eq_true rfl) (zdal_p dlB_T_join_66 (i := 0) rfl) ?_
      rintro _ N9_ ⟨v10_, rfl, ⟨hv10_a, hv10_b⟩, hsN9_, -⟩
      have hf_N9_ : zFc d_ [] [] [] [11] Mz N9_ := hf.tr hsN9_ (by decide) (by decide) (by decide) (by decide)
      show zW l m_T_join (zn Mz + 0, zw Mz + 0) N9_ 47 [some (.ref 0), some (.int (Int32.ofInt a0_)), some (.int (Int32.ofInt a1_)), some (.ref (d_ + 12))] [.int (Int32.ofInt v10_)] _
      exact zk_iret (pc := 47) (ty := .int) rfl rfl ⟨by omega, by omega⟩ hf_N9_ trivial (zdal_p dlB_T_join_66 (i := 1) rfl)
    · skip
      refine zw_iconst (pc := 24) (v := Int32.ofInt (-1)) (by decide) (zdal_p dlB_T_join_65 (i := 12) rfl) ?_
      exact zk_iret (pc := 25) (ty := .int) rfl rfl ⟨by omega, by omega⟩ hf trivial (zdal_p dlB_T_join_65 (i := 13) rfl)
set_option maxHeartbeats 4000000 in
theorem u_Group_countRepeatingX (l : Launch) (d_ : Nat) (Mz : zMem) (hW : zKW d_ Mz) (a0_ : Int) (ha0_a : -2147483648 ≤ a0_) (ha0_b : a0_ < 2147483648) : zC l m_Group_countRepeating 0 0 [.ref (d_ + 1), .int (Int32.ofInt a0_)] Mz (zqcI d_ [] [] [] [] Mz (fun v N => True)) := by
  refine zC_of (L0 := [some (.ref (d_ + 1)), some (.int (Int32.ofInt a0_)), none, none]) md_Group_countRepeating (Nat.le_of_ble_eq_true rfl) rfl ?_ zQ0
  have hf : zFc d_ [] [] [] [] Mz Mz := zFc.rf
  refine zw_iconst (pc := 0) (v := Int32.ofInt 0) (by decide) (zdal_p dlB_Group_countRepeating_68 (i := 0) rfl) ?_
  refine zw_istore_n (pc := 1) (i := 2) (L2 := [some (.ref (d_ + 1)), some (.int (Int32.ofInt a0_)), some (.int (Int32.ofInt 0)), none]) rfl (by decide) rfl (zdal_p dlB_Group_countRepeating_68 (i := 1) rfl) ?_
  refine zw_iconst (pc := 2) (v := Int32.ofInt 0) (by decide) (zdal_p dlB_Group_countRepeating_68 (i := 2) rfl) ?_
  refine zw_istore_n (pc := 3) (i := 3) (L2 := [some (.ref (d_ + 1)), some (.int (Int32.ofInt a0_)), some (.int (Int32.ofInt 0)), some (.int (Int32.ofInt 0))]) rfl (by decide) rfl (zdal_p dlB_Group_countRepeating_68 (i := 3) rfl) ?_
  have lp_4 : ∀ (n : Nat) (u1_ : Int) (hu1_a : -2147483648 ≤ u1_) (hu1_b : u1_ < 2147483648) (u2_ : Int) (hu2_a : -2147483648 ≤ u2_) (hu2_b : u2_ < 2147483648) (i3_ : 0 ≤ u2_), (ze Mz (d_ + 1) 7 - u2_).toNat < n → zW l m_Group_countRepeating (zn Mz + 0, zw Mz + 0) Mz 4 [some (.ref (d_ + 1)), some (.int (Int32.ofInt a0_)), some (.int (Int32.ofInt u1_)), some (.int (Int32.ofInt u2_))] [] (zqcI d_ [] [] [] [] Mz (fun v N => True)) := by
    intro n
    induction n with
    | zero =>
      intro u1_ hu1_a hu1_b u2_ hu2_a hu2_b i3_ h0
      exact absurd h0 (Nat.not_lt_zero _)
    | succ n ih_4 =>
      intro u1_ hu1_a hu1_b u2_ hu2_a hu2_b i3_ hlt_4
      refine zw_iload_n (pc := 4) (n := 3) (x := Int32.ofInt u2_) rfl (zdal_p dlB_Group_countRepeating_68 (i := 4) rfl) ?_
      refine zw_aload_n (pc := 5) (n := 0) (x := (d_ + 1)) rfl (zdal_p dlB_Group_countRepeating_68 (i := 5) rfl) ?_
      refine zk_getI (pc := 6) f_Group_39 rfl ((hf.w hW).kr (o := 1) (by decide)) (zdal_p dlB_Group_countRepeating_68 (i := 6) rfl) ?_
      have hr4_ := ze_r Mz (d_ + 1) 7
      refine zr_icmp_ge (pc := 9) (tgt := 30) ⟨hu2_a, hu2_b⟩ ⟨(ze_r Mz (d_ + 1) 7).1, (ze_r Mz (d_ + 1) 7).2⟩ (by decide) (zdal_p dlB_Group_countRepeating_68 (i := 7) rfl) (fun hc_9 => ?_) (fun hc_9 => ?_)
      · skip
        refine zw_iload_n (pc := 30) (n := 2) (x := Int32.ofInt u1_) rfl (zdal_p dlB_Group_countRepeating_68 (i := 16) rfl) ?_
        exact zk_iret (pc := 31) (ty := .int) rfl rfl ⟨by omega, by omega⟩ hf trivial (zdal_p dlB_Group_countRepeating_68 (i := 17) rfl)
      · skip
        refine zw_aload_n (pc := 12) (n := 0) (x := (d_ + 1)) rfl (zdal_p dlB_Group_countRepeating_68 (i := 8) rfl) ?_
        refine zw_iload_n (pc := 13) (n := 3) (x := Int32.ofInt u2_) rfl (zdal_p dlB_Group_countRepeating_68 (i := 9) rfl) ?_
        refine zk_callV hf.x (pc := 14) [.int (Int32.ofInt u2_)] [] l_Group_70 (u_Group_repeatsOfX l d_ Mz (hf.w hW) u2_ hu2_a hu2_b) rfl rfl ((hf.w hW).kr (o := 1) (by decide)) (by decide) (by decide) (Nat.le_of_ble_eq_true rfl) (zdal_p dlB_Group_countRepeating_68 (i := 10) rfl) ?_
        rintro _ N5_ ⟨v6_, rfl, ⟨hv6_a, hv6_b⟩, hsN5_, -⟩
        obtain rfl := hsN5_.eq.symm
        show zW l m_Group_countRepeating (zn Mz + 0, zw Mz + 0) Mz 17 [some (.ref (d_ + 1)), some (.int (Int32.ofInt a0_)), some (.int (Int32.ofInt u1_)), some (.int (Int32.ofInt u2_))] [.int (Int32.ofInt v6_)] _
        refine zw_iload_n (pc := 17) (n := 1) (x := Int32.ofInt a0_) rfl (zdal_p dlB_Group_countRepeating_68 (i := 11) rfl) ?_
        refine zr_icmp_ne (pc := 18) (tgt := 24) ⟨hv6_a, hv6_b⟩ ⟨ha0_a, ha0_b⟩ (by decide) (zdal_p dlB_Group_countRepeating_68 (i := 12) rfl) (fun hc_18 => ?_) (fun hc_18 => ?_)
        · skip
          refine zr_iinc (pc := 24) (i := 3) (a := u2_) (n := 1) (L2 := [some (.ref (d_ + 1)), some (.int (Int32.ofInt a0_)), some (.int (Int32.ofInt u1_)), some (.int (Int32.ofInt (u2_ + 1)))]) rfl (by decide) rfl (zdal_p dlB_Group_countRepeating_68 (i := 14) rfl) ?_
          obtain ⟨v7_, hv7_a, hv7_b, hv7_e, hv7_d⟩ := zk_gen (u2_ + 1)
          rw [hv7_e]
          refine zw_goto (pc := 27) (tgt := 4) (by decide) (zdal_p dlB_Group_countRepeating_68 (i := 15) rfl) ?_
          exact ih_4 u1_ hu1_a hu1_b v7_ hv7_a hv7_b (show 0 ≤ v7_ by first | with_reducible assumption | assumption | omega) (by omega)
        · skip
          refine zr_iinc (pc := 21) (i := 2) (a := u1_) (n := 1) (L2 := [some (.ref (d_ + 1)), some (.int (Int32.ofInt a0_)), some (.int (Int32.ofInt (u1_ + 1))), some (.int (Int32.ofInt u2_))]) rfl (by decide) rfl (zdal_p dlB_Group_countRepeating_68 (i := 13) rfl) ?_
          obtain ⟨v8_, hv8_a, hv8_b, hv8_e, hv8_d⟩ := zk_gen (u1_ + 1)
          rw [hv8_e]
          refine zr_iinc (pc := 24) (i := 3) (a := u2_) (n := 1) (L2 := [some (.ref (d_ + 1)), some (.int (Int32.ofInt a0_)), some (.int (Int32.ofInt v8_)), some (.int (Int32.ofInt (u2_ + 1)))]) rfl (by decide) rfl (zdal_p dlB_Group_countRepeating_68 (i := 14) rfl) ?_
          obtain ⟨v9_, hv9_a, hv9_b, hv9_e, hv9_d⟩ := zk_gen (u2_ + 1)
          rw [hv9_e]
          refine zw_goto (pc := 27) (tgt := 4) (by decide) (zdal_p dlB_Group_countRepeating_68 (i := 15) rfl) ?_
          exact ih_4 v8_ hv8_a hv8_b v9_ hv9_a hv9_b (show 0 ≤ v9_ by first | with_reducible assumption | assumption | omega) (by omega)
  exact lp_4 _ 0 (by decide) (by decide) 0 (by decide) (by decide) (show 0 ≤ (0 : Int) by first | with_reducible assumption | assumption | omega) (Nat.lt_succ_self _)
set_option maxHeartbeats 4000000 in
theorem u_T_ordersX (l : Launch) (d_ : Nat) (Mz : zMem) (hW : zKW d_ Mz) (hnow : zf Mz 0 2 = some (d_ + 0)) (a0_ : Int) (ha0_a : -2147483648 ≤ a0_) (ha0_b : a0_ < 2147483648) : zC l m_T_orders 0 0 [.ref 0, .int (Int32.ofInt a0_)] Mz (zqcI d_ [] [] [] [] Mz (fun v N => True)) := by
  refine zC_of (L0 := [some (.ref 0), some (.int (Int32.ofInt a0_))]) md_T_orders (Nat.le_of_ble_eq_true rfl) rfl ?_ zQ0
  have hf : zFc d_ [] [] [] [] Mz Mz := zFc.rf
  refine zw_iload_n (pc := 0) (n := 1) (x := Int32.ofInt a0_) rfl (zdal_p dlB_T_orders_67 (i := 0) rfl) ?_
  refine zw_iconst (pc := 1) (v := Int32.ofInt 1) (by decide) (zdal_p dlB_T_orders_67 (i := 1) rfl) ?_
  refine zr_icmp_lt (pc := 2) (tgt := 25) ⟨ha0_a, ha0_b⟩ ⟨(by decide), (by decide)⟩ (by decide) (zdal_p dlB_T_orders_67 (i := 2) rfl) (fun hc_2 => ?_) (fun hc_2 => ?_)
  · skip
    refine zw_iconst (pc := 25) (v := Int32.ofInt (-1)) (by decide) (zdal_p dlB_T_orders_67 (i := 12) rfl) ?_
    exact zk_iret (pc := 26) (ty := .int) rfl rfl ⟨by omega, by omega⟩ hf trivial (zdal_p dlB_T_orders_67 (i := 13) rfl)
  · skip
    refine zw_iload_n (pc := 5) (n := 1) (x := Int32.ofInt a0_) rfl (zdal_p dlB_T_orders_67 (i := 3) rfl) ?_
    refine zw_bipush (pc := 6) (v := Int32.ofInt 24) (by decide) (zdal_p dlB_T_orders_67 (i := 4) rfl) ?_
    refine zr_icmp_gt (pc := 8) (tgt := 25) ⟨ha0_a, ha0_b⟩ ⟨(by decide), (by decide)⟩ (by decide) (zdal_p dlB_T_orders_67 (i := 5) rfl) (fun hc_8 => ?_) (fun hc_8 => ?_)
    · skip
      refine zw_iconst (pc := 25) (v := Int32.ofInt (-1)) (by decide) (zdal_p dlB_T_orders_67 (i := 12) rfl) ?_
      exact zk_iret (pc := 26) (ty := .int) rfl rfl ⟨by omega, by omega⟩ hf trivial (zdal_p dlB_T_orders_67 (i := 13) rfl)
    · skip
      refine zw_aload_n (pc := 11) (n := 0) (x := 0) rfl (zdal_p dlB_T_orders_67 (i := 6) rfl) ?_
      refine zw_getF (pc := 12) f_T_28 rfl ((hf.w hW).ka (o := 0) (by decide)) (hf.now hnow) (zdal_p dlB_T_orders_67 (i := 7) rfl) ?_
      refine zw_getF (pc := 15) f_T_61 rfl ((hf.w hW).kr (o := 0) (by decide)) ((hf.w hW).lr (o := 0) (s := 0) (r := 1) (by decide)) (zdal_p dlB_T_orders_67 (i := 8) rfl) ?_
      refine zw_iload_n (pc := 18) (n := 1) (x := Int32.ofInt a0_) rfl (zdal_p dlB_T_orders_67 (i := 9) rfl) ?_
      refine zk_callV hf.x (pc := 19) [.int (Int32.ofInt a0_)] [] l_T_217 (u_Group_countRepeatingX l d_ Mz (hf.w hW) a0_ ha0_a ha0_b) rfl rfl ((hf.w hW).kr (o := 1) (by decide)) (by decide) (by decide) (Nat.le_of_ble_eq_true rfl) (zdal_p dlB_T_orders_67 (i := 10) rfl) ?_
      rintro _ N1_ ⟨v2_, rfl, ⟨hv2_a, hv2_b⟩, hsN1_, -⟩
      obtain rfl := hsN1_.eq.symm
      show zW l m_T_orders (zn Mz + 0, zw Mz + 0) Mz 22 [some (.ref 0), some (.int (Int32.ofInt a0_))] [.int (Int32.ofInt v2_)] _
      refine zw_goto (pc := 22) (tgt := 26) (by decide) (zdal_p dlB_T_orders_67 (i := 11) rfl) ?_
      exact zk_iret (pc := 26) (ty := .int) rfl rfl ⟨by omega, by omega⟩ hf trivial (zdal_p dlB_T_orders_67 (i := 13) rfl)
set_option maxHeartbeats 4000000 in
theorem u_Group_countLikeX (l : Launch) (d_ : Nat) (Mz : zMem) (hW : zKW d_ Mz) (a0_ : Int) (ha0_a : -2147483648 ≤ a0_) (ha0_b : a0_ < 2147483648) : zC l m_Group_countLike 0 0 [.ref (d_ + 1), .int (Int32.ofInt a0_)] Mz (zqcI d_ [] [] [] [] Mz (fun v N => True)) := by
  refine zC_of (L0 := [some (.ref (d_ + 1)), some (.int (Int32.ofInt a0_)), none, none]) md_Group_countLike (Nat.le_of_ble_eq_true rfl) rfl ?_ zQ0
  have hf : zFc d_ [] [] [] [] Mz Mz := zFc.rf
  refine zw_iconst (pc := 0) (v := Int32.ofInt 0) (by decide) (zdal_p dlB_Group_countLike_70 (i := 0) rfl) ?_
  refine zw_istore_n (pc := 1) (i := 2) (L2 := [some (.ref (d_ + 1)), some (.int (Int32.ofInt a0_)), some (.int (Int32.ofInt 0)), none]) rfl (by decide) rfl (zdal_p dlB_Group_countLike_70 (i := 1) rfl) ?_
  refine zw_iconst (pc := 2) (v := Int32.ofInt 0) (by decide) (zdal_p dlB_Group_countLike_70 (i := 2) rfl) ?_
  refine zw_istore_n (pc := 3) (i := 3) (L2 := [some (.ref (d_ + 1)), some (.int (Int32.ofInt a0_)), some (.int (Int32.ofInt 0)), some (.int (Int32.ofInt 0))]) rfl (by decide) rfl (zdal_p dlB_Group_countLike_70 (i := 3) rfl) ?_
  have lp_4 : ∀ (n : Nat) (u1_ : Int) (hu1_a : -2147483648 ≤ u1_) (hu1_b : u1_ < 2147483648) (u2_ : Int) (hu2_a : -2147483648 ≤ u2_) (hu2_b : u2_ < 2147483648) (i3_ : 0 ≤ u2_), (ze Mz (d_ + 1) 7 - u2_).toNat < n → zW l m_Group_countLike (zn Mz + 0, zw Mz + 0) Mz 4 [some (.ref (d_ + 1)), some (.int (Int32.ofInt a0_)), some (.int (Int32.ofInt u1_)), some (.int (Int32.ofInt u2_))] [] (zqcI d_ [] [] [] [] Mz (fun v N => True)) := by
    intro n
    induction n with
    | zero =>
      intro u1_ hu1_a hu1_b u2_ hu2_a hu2_b i3_ h0
      exact absurd h0 (Nat.not_lt_zero _)
    | succ n ih_4 =>
      intro u1_ hu1_a hu1_b u2_ hu2_a hu2_b i3_ hlt_4
      refine zw_iload_n (pc := 4) (n := 3) (x := Int32.ofInt u2_) rfl (zdal_p dlB_Group_countLike_70 (i := 4) rfl) ?_
      refine zw_aload_n (pc := 5) (n := 0) (x := (d_ + 1)) rfl (zdal_p dlB_Group_countLike_70 (i := 5) rfl) ?_
      refine zk_getI (pc := 6) f_Group_39 rfl ((hf.w hW).kr (o := 1) (by decide)) (zdal_p dlB_Group_countLike_70 (i := 6) rfl) ?_
      have hr4_ := ze_r Mz (d_ + 1) 7
      refine zr_icmp_ge (pc := 9) (tgt := 29) ⟨hu2_a, hu2_b⟩ ⟨(ze_r Mz (d_ + 1) 7).1, (ze_r Mz (d_ + 1) 7).2⟩ (by decide) (zdal_p dlB_Group_countLike_70 (i := 7) rfl) (fun hc_9 => ?_) (fun hc_9 => ?_)
      · skip
        refine zw_iload_n (pc := 29) (n := 2) (x := Int32.ofInt u1_) rfl (zdal_p dlB_Group_countLike_70 (i := 19) rfl) ?_
        refine zr_callS hf.x (pc := 30) [.int (Int32.ofInt u1_)] [] l_Group_83 (u_Integer_bitCountX l d_ Mz (hf.w hW) u1_ hu1_a hu1_b) rfl rfl (by decide) (Nat.le_of_ble_eq_true rfl) (zdal_p dlB_Group_countLike_70 (i := 20) rfl) ?_
        rintro _ N5_ ⟨v6_, rfl, ⟨hv6_a, hv6_b⟩, hsN5_, ⟨hp0_N5_, hp1_N5_⟩⟩
        obtain rfl := hsN5_.eq.symm
        show zW l m_Group_countLike (zn Mz + 0, zw Mz + 0) Mz 33 [some (.ref (d_ + 1)), some (.int (Int32.ofInt a0_)), some (.int (Int32.ofInt u1_)), some (.int (Int32.ofInt u2_))] [.int (Int32.ofInt v6_)] _
        exact zk_iret (pc := 33) (ty := .int) rfl rfl ⟨by omega, by omega⟩ hf trivial (zdal_p dlB_Group_countLike_70 (i := 21) rfl)
      · skip
        refine zw_iload_n (pc := 12) (n := 2) (x := Int32.ofInt u1_) rfl (zdal_p dlB_Group_countLike_70 (i := 8) rfl) ?_
        refine zw_iconst (pc := 13) (v := Int32.ofInt 1) (by decide) (zdal_p dlB_Group_countLike_70 (i := 9) rfl) ?_
        refine zw_aload_n (pc := 14) (n := 0) (x := (d_ + 1)) rfl (zdal_p dlB_Group_countLike_70 (i := 10) rfl) ?_
        refine zw_iload_n (pc := 15) (n := 1) (x := Int32.ofInt a0_) rfl (zdal_p dlB_Group_countLike_70 (i := 11) rfl) ?_
        refine zw_iload_n (pc := 16) (n := 3) (x := Int32.ofInt u2_) rfl (zdal_p dlB_Group_countLike_70 (i := 12) rfl) ?_
        refine zk_callV hf.x (pc := 17) [.int (Int32.ofInt a0_), .int (Int32.ofInt u2_)] [.int (Int32.ofInt 1), .int (Int32.ofInt u1_)] l_Group_77 (u_Group_turnX l d_ Mz (hf.w hW) a0_ ha0_a ha0_b u2_ hu2_a hu2_b) rfl rfl ((hf.w hW).kr (o := 1) (by decide)) (by decide) (by decide) (Nat.le_of_ble_eq_true rfl) (zdal_p dlB_Group_countLike_70 (i := 13) rfl) ?_
        rintro _ N7_ ⟨v8_, rfl, ⟨hv8_a, hv8_b⟩, hsN7_, -⟩
        obtain rfl := hsN7_.eq.symm
        show zW l m_Group_countLike (zn Mz + 0, zw Mz + 0) Mz 20 [some (.ref (d_ + 1)), some (.int (Int32.ofInt a0_)), some (.int (Int32.ofInt u1_)), some (.int (Int32.ofInt u2_))] [.int (Int32.ofInt v8_), .int (Int32.ofInt 1), .int (Int32.ofInt u1_)] _
        refine zr_ishl (pc := 20) (zdal_p dlB_Group_countLike_70 (i := 14) rfl) ?_
        have hr9_ := zshl_r 1 v8_
        refine zr_nmI (fun v10_ hv10_ => ?_)
        obtain ⟨hv10_a, hv10_b⟩ := hv10_
        refine zr_ior (pc := 21) (zdal_p dlB_Group_countLike_70 (i := 15) rfl) ?_
        have hr11_ := zor_r u1_ v10_
        refine zr_nmI (fun v12_ hv12_ => ?_)
        obtain ⟨hv12_a, hv12_b⟩ := hv12_
        refine zw_istore_n (pc := 22) (i := 2) (L2 := [some (.ref (d_ + 1)), some (.int (Int32.ofInt a0_)), some (.int (Int32.ofInt v12_)), some (.int (Int32.ofInt u2_))]) rfl (by decide) rfl (zdal_p dlB_Group_countLike_70 (i := 16) rfl) ?_
        refine zr_iinc (pc := 23) (i := 3) (a := u2_) (n := 1) (L2 := [some (.ref (d_ + 1)), some (.int (Int32.ofInt a0_)), some (.int (Int32.ofInt v12_)), some (.int (Int32.ofInt (u2_ + 1)))]) rfl (by decide) rfl (zdal_p dlB_Group_countLike_70 (i := 17) rfl) ?_
        obtain ⟨v13_, hv13_a, hv13_b, hv13_e, hv13_d⟩ := zk_gen (u2_ + 1)
        rw [hv13_e]
        refine zw_goto (pc := 26) (tgt := 4) (by decide) (zdal_p dlB_Group_countLike_70 (i := 18) rfl) ?_
        exact ih_4 v12_ hv12_a hv12_b v13_ hv13_a hv13_b (show 0 ≤ v13_ by first | with_reducible assumption | assumption | omega) (by omega)
  exact lp_4 _ 0 (by decide) (by decide) 0 (by decide) (by decide) (show 0 ≤ (0 : Int) by first | with_reducible assumption | assumption | omega) (Nat.lt_succ_self _)
set_option maxHeartbeats 4000000 in
theorem u_T_likesX (l : Launch) (d_ : Nat) (Mz : zMem) (hW : zKW d_ Mz) (hnow : zf Mz 0 2 = some (d_ + 0)) (a0_ : Int) (ha0_a : -2147483648 ≤ a0_) (ha0_b : a0_ < 2147483648) : zC l m_T_likes 0 0 [.ref 0, .int (Int32.ofInt a0_)] Mz (zqcI d_ [] [] [] [] Mz (fun v N => True)) := by
  refine zC_of (L0 := [some (.ref 0), some (.int (Int32.ofInt a0_))]) md_T_likes (Nat.le_of_ble_eq_true rfl) rfl ?_ zQ0
  have hf : zFc d_ [] [] [] [] Mz Mz := zFc.rf
  refine zw_aload_n (pc := 0) (n := 0) (x := 0) rfl (zdal_p dlB_T_likes_69 (i := 0) rfl) ?_
  refine zw_getF (pc := 1) f_T_28 rfl ((hf.w hW).ka (o := 0) (by decide)) (hf.now hnow) (zdal_p dlB_T_likes_69 (i := 1) rfl) ?_
  refine zw_getF (pc := 4) f_T_61 rfl ((hf.w hW).kr (o := 0) (by decide)) ((hf.w hW).lr (o := 0) (s := 0) (r := 1) (by decide)) (zdal_p dlB_T_likes_69 (i := 2) rfl) ?_
  refine zw_iload_n (pc := 7) (n := 1) (x := Int32.ofInt a0_) rfl (zdal_p dlB_T_likes_69 (i := 3) rfl) ?_
  refine zk_callV hf.x (pc := 8) [.int (Int32.ofInt a0_)] [] l_T_108 (u_Group_hasMemberX l d_ Mz (hf.w hW) a0_ ha0_a ha0_b) rfl rfl ((hf.w hW).kr (o := 1) (by decide)) (by decide) (by decide) (Nat.le_of_ble_eq_true rfl) (zdal_p dlB_T_likes_69 (i := 4) rfl) ?_
  rintro _ N1_ ⟨v2_, rfl, ⟨hv2_a, hv2_b⟩, hsN1_, hp0_N1_⟩
  obtain rfl := hsN1_.eq.symm
  replace hp0_N1_ : (v2_ = 0 ∨ v2_ = 1) := hp0_N1_
  show zW l m_T_likes (zn Mz + 0, zw Mz + 0) Mz 11 [some (.ref 0), some (.int (Int32.ofInt a0_))] [.int (Int32.ofInt v2_)] _
  refine zr_if_eq (pc := 11) (tgt := 28) ⟨hv2_a, hv2_b⟩ (by decide) (zdal_p dlB_T_likes_69 (i := 5) rfl) (fun hc_11 => ?_) (fun hc_11 => ?_)
  · skip
    refine zw_iconst (pc := 28) (v := Int32.ofInt (-1)) (by decide) (zdal_p dlB_T_likes_69 (i := 12) rfl) ?_
    exact zk_iret (pc := 29) (ty := .int) rfl rfl ⟨by omega, by omega⟩ hf trivial (zdal_p dlB_T_likes_69 (i := 13) rfl)
  · skip
    refine zw_aload_n (pc := 14) (n := 0) (x := 0) rfl (zdal_p dlB_T_likes_69 (i := 6) rfl) ?_
    refine zw_getF (pc := 15) f_T_28 rfl ((hf.w hW).ka (o := 0) (by decide)) (hf.now hnow) (zdal_p dlB_T_likes_69 (i := 7) rfl) ?_
    refine zw_getF (pc := 18) f_T_61 rfl ((hf.w hW).kr (o := 0) (by decide)) ((hf.w hW).lr (o := 0) (s := 0) (r := 1) (by decide)) (zdal_p dlB_T_likes_69 (i := 8) rfl) ?_
    refine zw_iload_n (pc := 21) (n := 1) (x := Int32.ofInt a0_) rfl (zdal_p dlB_T_likes_69 (i := 9) rfl) ?_
    refine zk_callV hf.x (pc := 22) [.int (Int32.ofInt a0_)] [] l_T_220 (u_Group_countLikeX l d_ Mz (hf.w hW) a0_ ha0_a ha0_b) rfl rfl ((hf.w hW).kr (o := 1) (by decide)) (by decide) (by decide) (Nat.le_of_ble_eq_true rfl) (zdal_p dlB_T_likes_69 (i := 10) rfl) ?_
    rintro _ N3_ ⟨v4_, rfl, ⟨hv4_a, hv4_b⟩, hsN3_, -⟩
    obtain rfl := hsN3_.eq.symm
    show zW l m_T_likes (zn Mz + 0, zw Mz + 0) Mz 25 [some (.ref 0), some (.int (Int32.ofInt a0_))] [.int (Int32.ofInt v4_)] _
    refine zw_goto (pc := 25) (tgt := 29) (by decide) (zdal_p dlB_T_likes_69 (i := 11) rfl) ?_
    exact zk_iret (pc := 29) (ty := .int) rfl rfl ⟨by omega, by omega⟩ hf trivial (zdal_p dlB_T_likes_69 (i := 13) rfl)
set_option maxHeartbeats 4000000 in
theorem u_T_greatestDivisorX (l : Launch) (d_ : Nat) (Mz : zMem) (hW : zKW d_ Mz) (a0_ : Int) (ha0_a : -2147483648 ≤ a0_) (ha0_b : a0_ < 2147483648) (a1_ : Int) (ha1_a : -2147483648 ≤ a1_) (ha1_b : a1_ < 2147483648) : zC l m_T_greatestDivisor 0 0 [.int (Int32.ofInt a0_), .int (Int32.ofInt a1_)] Mz (zqcI d_ [] [] [] [] Mz (fun v N => True)) := by
  refine zC_of (L0 := [some (.int (Int32.ofInt a0_)), some (.int (Int32.ofInt a1_)), none, none, none, none]) md_T_greatestDivisor (Nat.le_of_ble_eq_true rfl) rfl ?_ zQ0
  have hf : zFc d_ [] [] [] [] Mz Mz := zFc.rf
  refine zw_iload_n (pc := 0) (n := 0) (x := Int32.ofInt a0_) rfl (zdal_p dlB_T_greatestDivisor_76 (i := 0) rfl) ?_
  refine zw_istore_n (pc := 1) (i := 2) (L2 := [some (.int (Int32.ofInt a0_)), some (.int (Int32.ofInt a1_)), some (.int (Int32.ofInt a0_)), none, none, none]) rfl (by decide) rfl (zdal_p dlB_T_greatestDivisor_76 (i := 1) rfl) ?_
  refine zw_iload_n (pc := 2) (n := 1) (x := Int32.ofInt a1_) rfl (zdal_p dlB_T_greatestDivisor_76 (i := 2) rfl) ?_
  refine zw_istore_n (pc := 3) (i := 3) (L2 := [some (.int (Int32.ofInt a0_)), some (.int (Int32.ofInt a1_)), some (.int (Int32.ofInt a0_)), some (.int (Int32.ofInt a1_)), none, none]) rfl (by decide) rfl (zdal_p dlB_T_greatestDivisor_76 (i := 3) rfl) ?_
  refine zw_iconst (pc := 4) (v := Int32.ofInt 0) (by decide) (zdal_p dlB_T_greatestDivisor_76 (i := 4) rfl) ?_
  refine zw_istore (pc := 5) (i := 4) (L2 := [some (.int (Int32.ofInt a0_)), some (.int (Int32.ofInt a1_)), some (.int (Int32.ofInt a0_)), some (.int (Int32.ofInt a1_)), some (.int (Int32.ofInt 0)), none]) (by decide) rfl (zdal_p dlB_T_greatestDivisor_76 (i := 5) rfl) ?_
  have lp_7 : ∀ (n : Nat) (u1_ : Int) (hu1_a : -2147483648 ≤ u1_) (hu1_b : u1_ < 2147483648) (u2_ : Int) (hu2_a : -2147483648 ≤ u2_) (hu2_b : u2_ < 2147483648) (u3_ : Int) (hu3_a : -2147483648 ≤ u3_) (hu3_b : u3_ < 2147483648) (i4_ : 0 ≤ u3_), (100 - u3_).toNat < n → zW l m_T_greatestDivisor (zn Mz + 0, zw Mz + 0) Mz 7 [some (.int (Int32.ofInt a0_)), some (.int (Int32.ofInt a1_)), some (.int (Int32.ofInt u1_)), some (.int (Int32.ofInt u2_)), some (.int (Int32.ofInt u3_)), none] [] (zqcI d_ [] [] [] [] Mz (fun v N => True)) := by
    intro n
    induction n with
    | zero =>
      intro u1_ hu1_a hu1_b u2_ hu2_a hu2_b u3_ hu3_a hu3_b i4_ h0
      exact absurd h0 (Nat.not_lt_zero _)
    | succ n ih_7 =>
      intro u1_ hu1_a hu1_b u2_ hu2_a hu2_b u3_ hu3_a hu3_b i4_ hlt_7
      refine zw_iload (pc := 7) (i := 4) (x := Int32.ofInt u3_) rfl (zdal_p dlB_T_greatestDivisor_76 (i := 6) rfl) ?_
      refine zw_bipush (pc := 9) (v := Int32.ofInt 100) (by decide) (zdal_p dlB_T_greatestDivisor_76 (i := 7) rfl) ?_
      refine zr_icmp_ge (pc := 11) (tgt := 34) ⟨hu3_a, hu3_b⟩ ⟨(by decide), (by decide)⟩ (by decide) (zdal_p dlB_T_greatestDivisor_76 (i := 8) rfl) (fun hc_11 => ?_) (fun hc_11 => ?_)
      · skip
        refine zw_iload_n (pc := 34) (n := 2) (x := Int32.ofInt u1_) rfl (zdal_p dlB_T_greatestDivisor_76 (i := 21) rfl) ?_
        exact zk_iret (pc := 35) (ty := .int) rfl rfl ⟨by omega, by omega⟩ hf trivial (zdal_p dlB_T_greatestDivisor_76 (i := 22) rfl)
      · skip
        refine zw_iload_n (pc := 14) (n := 3) (x := Int32.ofInt u2_) rfl (zdal_p dlB_T_greatestDivisor_76 (i := 9) rfl) ?_
        refine zr_if_eq (pc := 15) (tgt := 34) ⟨hu2_a, hu2_b⟩ (by decide) (zdal_p dlB_T_greatestDivisor_76 (i := 10) rfl) (fun hc_15 => ?_) (fun hc_15 => ?_)
        · skip
          refine zw_iload_n (pc := 34) (n := 2) (x := Int32.ofInt u1_) rfl (zdal_p dlB_T_greatestDivisor_76 (i := 21) rfl) ?_
          exact zk_iret (pc := 35) (ty := .int) rfl rfl ⟨by omega, by omega⟩ hf trivial (zdal_p dlB_T_greatestDivisor_76 (i := 22) rfl)
        · skip
          refine zw_iload_n (pc := 18) (n := 2) (x := Int32.ofInt u1_) rfl (zdal_p dlB_T_greatestDivisor_76 (i := 11) rfl) ?_
          refine zw_iload_n (pc := 19) (n := 3) (x := Int32.ofInt u2_) rfl (zdal_p dlB_T_greatestDivisor_76 (i := 12) rfl) ?_
          refine zr_irem (pc := 20) ⟨by omega, by omega⟩ (by omega) (zdal_p dlB_T_greatestDivisor_76 (i := 13) rfl) ?_
          have hr5_ := zrem_r u1_ u2_
          refine zr_nmI (fun v6_ hv6_ => ?_)
          obtain ⟨hv6_a, hv6_b⟩ := hv6_
          refine zw_istore (pc := 21) (i := 5) (L2 := [some (.int (Int32.ofInt a0_)), some (.int (Int32.ofInt a1_)), some (.int (Int32.ofInt u1_)), some (.int (Int32.ofInt u2_)), some (.int (Int32.ofInt u3_)), some (.int (Int32.ofInt v6_))]) (by decide) rfl (zdal_p dlB_T_greatestDivisor_76 (i := 14) rfl) ?_
          refine zw_iload_n (pc := 23) (n := 3) (x := Int32.ofInt u2_) rfl (zdal_p dlB_T_greatestDivisor_76 (i := 15) rfl) ?_
          refine zw_istore_n (pc := 24) (i := 2) (L2 := [some (.int (Int32.ofInt a0_)), some (.int (Int32.ofInt a1_)), some (.int (Int32.ofInt u2_)), some (.int (Int32.ofInt u2_)), some (.int (Int32.ofInt u3_)), some (.int (Int32.ofInt v6_))]) rfl (by decide) rfl (zdal_p dlB_T_greatestDivisor_76 (i := 16) rfl) ?_
          refine zw_iload (pc := 25) (i := 5) (x := Int32.ofInt v6_) rfl (zdal_p dlB_T_greatestDivisor_76 (i := 17) rfl) ?_
          refine zw_istore_n (pc := 27) (i := 3) (L2 := [some (.int (Int32.ofInt a0_)), some (.int (Int32.ofInt a1_)), some (.int (Int32.ofInt u2_)), some (.int (Int32.ofInt v6_)), some (.int (Int32.ofInt u3_)), some (.int (Int32.ofInt v6_))]) rfl (by decide) rfl (zdal_p dlB_T_greatestDivisor_76 (i := 18) rfl) ?_
          refine zr_iinc (pc := 28) (i := 4) (a := u3_) (n := 1) (L2 := [some (.int (Int32.ofInt a0_)), some (.int (Int32.ofInt a1_)), some (.int (Int32.ofInt u2_)), some (.int (Int32.ofInt v6_)), some (.int (Int32.ofInt (u3_ + 1))), some (.int (Int32.ofInt v6_))]) rfl (by decide) rfl (zdal_p dlB_T_greatestDivisor_76 (i := 19) rfl) ?_
          obtain ⟨v7_, hv7_a, hv7_b, hv7_e, hv7_d⟩ := zk_gen (u3_ + 1)
          rw [hv7_e]
          refine zw_goto (pc := 31) (tgt := 7) (by decide) (zdal_p dlB_T_greatestDivisor_76 (i := 20) rfl) ?_
          refine zW_le [some (.int (Int32.ofInt a0_)), some (.int (Int32.ofInt a1_)), some (.int (Int32.ofInt u2_)), some (.int (Int32.ofInt v6_)), some (.int (Int32.ofInt v7_)), none] (⟨rfl, rfl, rfl, rfl, rfl, trivial⟩) ?_
          exact ih_7 u2_ hu2_a hu2_b v6_ hv6_a hv6_b v7_ hv7_a hv7_b (show 0 ≤ v7_ by first | with_reducible assumption | assumption | omega) (by omega)
  exact lp_7 _ a0_ ha0_a ha0_b a1_ ha1_a ha1_b 0 (by decide) (by decide) (show 0 ≤ (0 : Int) by first | with_reducible assumption | assumption | omega) (Nat.lt_succ_self _)
set_option maxHeartbeats 4000000 in
theorem u_Units_bitOfX (l : Launch) (d_ : Nat) (Mz : zMem) (hW : zKW d_ Mz) (a0_ : Int) (ha0_a : -2147483648 ≤ a0_) (ha0_b : a0_ < 2147483648) : zC l m_Units_bitOf 0 0 [.ref (d_ + 28), .int (Int32.ofInt a0_)] Mz (zqcI d_ [] [] [] [] Mz (fun v N => True)) := by
  refine zC_of (L0 := [some (.ref (d_ + 28)), some (.int (Int32.ofInt a0_))]) md_Units_bitOf (Nat.le_of_ble_eq_true rfl) rfl ?_ zQ0
  have hf : zFc d_ [] [] [] [] Mz Mz := zFc.rf
  refine zw_iconst (pc := 0) (v := Int32.ofInt 1) (by decide) (zdal_p dlB_Units_bitOf_87 (i := 0) rfl) ?_
  refine zw_aload_n (pc := 1) (n := 0) (x := (d_ + 28)) rfl (zdal_p dlB_Units_bitOf_87 (i := 1) rfl) ?_
  refine zw_getF (pc := 2) f_Units_23 rfl ((hf.w hW).kr (o := 28) (by decide)) ((hf.w hW).lr (o := 28) (s := 0) (r := 12) (by decide)) (zdal_p dlB_Units_bitOf_87 (i := 2) rfl) ?_
  refine zk_getI (pc := 5) f_Units_35 rfl ((hf.w hW).kr (o := 12) (by decide)) (zdal_p dlB_Units_bitOf_87 (i := 3) rfl) ?_
  have hr1_ := ze_r Mz (d_ + 12) 7
  refine zw_iconst (pc := 8) (v := Int32.ofInt 1) (by decide) (zdal_p dlB_Units_bitOf_87 (i := 4) rfl) ?_
  refine zr_isub (pc := 9) (zdal_p dlB_Units_bitOf_87 (i := 5) rfl) ?_
  refine zr_nmI (fun v2_ hv2_ => ?_)
  obtain ⟨hv2_a, hv2_b⟩ := hv2_
  refine zw_iload_n (pc := 10) (n := 1) (x := Int32.ofInt a0_) rfl (zdal_p dlB_Units_bitOf_87 (i := 6) rfl) ?_
  refine zr_isub (pc := 11) (zdal_p dlB_Units_bitOf_87 (i := 7) rfl) ?_
  refine zr_nmI (fun v3_ hv3_ => ?_)
  obtain ⟨hv3_a, hv3_b⟩ := hv3_
  refine zr_ishl (pc := 12) (zdal_p dlB_Units_bitOf_87 (i := 8) rfl) ?_
  have hr4_ := zshl_r 1 v3_
  refine zr_nmI (fun v5_ hv5_ => ?_)
  obtain ⟨hv5_a, hv5_b⟩ := hv5_
  exact zk_iret (pc := 13) (ty := .int) rfl rfl ⟨by omega, by omega⟩ hf trivial (zdal_p dlB_Units_bitOf_87 (i := 9) rfl)
set_option maxHeartbeats 4000000 in
theorem u_Units_straightenX (l : Launch) (d_ : Nat) (Mz : zMem) (hW : zKW d_ Mz) : zC l m_Units_straighten 0 0 [.ref (d_ + 28)] Mz (zqcV d_ [] [] [] [30] Mz (fun N => True)) := by
  refine zC_of (L0 := [some (.ref (d_ + 28)), none, none, none, none, none]) md_Units_straighten (Nat.le_of_ble_eq_true rfl) rfl ?_ zQ0
  have hf : zFc d_ [] [] [] [30] Mz Mz := zFc.rf
  refine zw_iconst (pc := 0) (v := Int32.ofInt 0) (by decide) (zdal_p dlB_Units_straighten_91 (i := 0) rfl) ?_
  refine zw_istore_n (pc := 1) (i := 1) (L2 := [some (.ref (d_ + 28)), some (.int (Int32.ofInt 0)), none, none, none, none]) rfl (by decide) rfl (zdal_p dlB_Units_straighten_91 (i := 1) rfl) ?_
  refine zw_iconst (pc := 2) (v := Int32.ofInt 0) (by decide) (zdal_p dlB_Units_straighten_91 (i := 2) rfl) ?_
  refine zw_istore_n (pc := 3) (i := 2) (L2 := [some (.ref (d_ + 28)), some (.int (Int32.ofInt 0)), some (.int (Int32.ofInt 0)), none, none, none]) rfl (by decide) rfl (zdal_p dlB_Units_straighten_91 (i := 3) rfl) ?_
  have lp_4 : ∀ (n : Nat) (u1_ : Int) (hu1_a : -2147483648 ≤ u1_) (hu1_b : u1_ < 2147483648) (u2_ : Int) (hu2_a : -2147483648 ≤ u2_) (hu2_b : u2_ < 2147483648) (N3_ : zMem) (hs4_ : zFc d_ [] [] [] [30] Mz N3_) (i5_ : 0 ≤ u2_), (ze Mz (d_ + 12) 7 - u2_).toNat < n → zW l m_Units_straighten (zn Mz + 0, zw Mz + 0) N3_ 4 [some (.ref (d_ + 28)), some (.int (Int32.ofInt u1_)), some (.int (Int32.ofInt u2_)), none, none, none] [] (zqcV d_ [] [] [] [30] Mz (fun N => True)) := by
    intro n
    induction n with
    | zero =>
      intro u1_ hu1_a hu1_b u2_ hu2_a hu2_b N3_ hs4_ i5_ h0
      exact absurd h0 (Nat.not_lt_zero _)
    | succ n ih_4 =>
      intro u1_ hu1_a hu1_b u2_ hu2_a hu2_b N3_ hs4_ i5_ hlt_4
      have hf_N3_ : zFc d_ [] [] [] [30] Mz N3_ := hf.tr hs4_ (by decide) (by decide) (by decide) (by decide)
      refine zw_iload_n (pc := 4) (n := 2) (x := Int32.ofInt u2_) rfl (zdal_p dlB_Units_straighten_91 (i := 4) rfl) ?_
      refine zw_aload_n (pc := 5) (n := 0) (x := (d_ + 28)) rfl (zdal_p dlB_Units_straighten_91 (i := 5) rfl) ?_
      refine zw_getF (pc := 6) f_Units_23 rfl ((hf_N3_.w hW).kr (o := 28) (by decide)) ((hf_N3_.w hW).lr (o := 28) (s := 0) (r := 12) (by decide)) (zdal_p dlB_Units_straighten_91 (i := 6) rfl) ?_
      refine zk_getI (pc := 9) f_Units_35 rfl ((hf_N3_.w hW).kr (o := 12) (by decide)) (zdal_p dlB_Units_straighten_91 (i := 7) rfl) ?_
      rw [hf_N3_.e (by decide)]
      have hr6_ := ze_r Mz (d_ + 12) 7
      refine zr_icmp_ge (pc := 12) (tgt := 167) ⟨hu2_a, hu2_b⟩ ⟨(ze_r Mz (d_ + 12) 7).1, (ze_r Mz (d_ + 12) 7).2⟩ (by decide) (zdal_p dlB_Units_straighten_91 (i := 8) rfl) (fun hc_12 => ?_) (fun hc_12 => ?_)
      · skip
        exact zk_vret (pc := 167) rfl hf_N3_ trivial (zdal_p dlB_Units_straighten_94 (i := 10) rfl)
      · skip
        refine zw_iload_n (pc := 15) (n := 1) (x := Int32.ofInt u1_) rfl (zdal_p dlB_Units_straighten_91 (i := 9) rfl) ?_
        refine zw_istore_n (pc := 16) (i := 3) (L2 := [some (.ref (d_ + 28)), some (.int (Int32.ofInt u1_)), some (.int (Int32.ofInt u2_)), some (.int (Int32.ofInt u1_)), none, none]) rfl (by decide) rfl (zdal_p dlB_Units_straighten_91 (i := 10) rfl) ?_
        have lp_17 : ∀ (n : Nat) (u7_ : Int) (hu7_a : -2147483648 ≤ u7_) (hu7_b : u7_ < 2147483648) (i8_ : u1_ ≤ u7_), (ze Mz (d_ + 28) 3 - u7_).toNat < n → zW l m_Units_straighten (zn Mz + 0, zw Mz + 0) N3_ 17 [some (.ref (d_ + 28)), some (.int (Int32.ofInt u1_)), some (.int (Int32.ofInt u2_)), some (.int (Int32.ofInt u7_)), none, none] [] (zqcV d_ [] [] [] [30] Mz (fun N => True)) := by
          intro n
          induction n with
          | zero =>
            intro u7_ hu7_a hu7_b i8_ h0
            exact absurd h0 (Nat.not_lt_zero _)
          | succ n ih_17 =>
            intro u7_ hu7_a hu7_b i8_ hlt_17
            refine zw_iload_n (pc := 17) (n := 3) (x := Int32.ofInt u7_) rfl (zdal_p dlB_Units_straighten_91 (i := 11) rfl) ?_
            refine zw_aload_n (pc := 18) (n := 0) (x := (d_ + 28)) rfl (zdal_p dlB_Units_straighten_91 (i := 12) rfl) ?_
            refine zk_getI (pc := 19) f_Units_31 rfl ((hf_N3_.w hW).kr (o := 28) (by decide)) (zdal_p dlB_Units_straighten_91 (i := 13) rfl) ?_
            rw [hf_N3_.e (by decide)]
            have hr9_ := ze_r Mz (d_ + 28) 3
            refine zr_icmp_ge (pc := 22) (tgt := 48) ⟨hu7_a, hu7_b⟩ ⟨(ze_r Mz (d_ + 28) 3).1, (ze_r Mz (d_ + 28) 3).2⟩ (by decide) (zdal_p dlB_Units_straighten_91 (i := 14) rfl) (fun hc_22 => ?_) (fun hc_22 => ?_)
            · skip
              refine zw_iload_n (pc := 48) (n := 3) (x := Int32.ofInt u7_) rfl (zdal_p dlB_Units_straighten_92 (i := 2) rfl) ?_
              refine zw_aload_n (pc := 49) (n := 0) (x := (d_ + 28)) rfl (zdal_p dlB_Units_straighten_92 (i := 3) rfl) ?_
              refine zk_getI (pc := 50) f_Units_31 rfl ((hf_N3_.w hW).kr (o := 28) (by decide)) (zdal_p dlB_Units_straighten_92 (i := 4) rfl) ?_
              rw [hf_N3_.e (by decide)]
              refine zr_icmp_lt (pc := 53) (tgt := 59) ⟨hu7_a, hu7_b⟩ ⟨(ze_r Mz (d_ + 28) 3).1, (ze_r Mz (d_ + 28) 3).2⟩ (by decide) (zdal_p dlB_Units_straighten_92 (i := 5) rfl) (fun hc_53 => ?_) (fun hc_53 => ?_)
              · skip
                refine zw_aload_n (pc := 59) (n := 0) (x := (d_ + 28)) rfl (zdal_p dlB_Units_straighten_92 (i := 7) rfl) ?_
                refine zw_getF (pc := 60) f_Units_14 rfl ((hf_N3_.w hW).kr (o := 28) (by decide)) ((hf_N3_.w hW).lr (o := 28) (s := 1) (r := 29) (by decide)) (zdal_p dlB_Units_straighten_92 (i := 8) rfl) ?_
                refine zw_iload_n (pc := 63) (n := 3) (x := Int32.ofInt u7_) rfl (zdal_p dlB_Units_straighten_92 (i := 9) rfl) ?_
                refine zk_atG hf_N3_.x (pc := 64) l_Units_57 ((hf_N3_.w hW).kr (o := 29) (by decide)) ((hf_N3_.w hW).lr (o := 29) (s := 0) (r := 30) (by decide)) ((hf_N3_.w hW).rr (o := 30) (t := 1) (n := 27) (by decide)) (by decide) ⟨by omega, by omega⟩ (by decide) (Nat.le_of_ble_eq_true rfl) (zdal_p dlB_Units_straighten_92 (i := 10) rfl) (fun v10_ hv10_ hv10_a hv10_b => ?_)
                clear hv10_
                refine zw_istore (pc := 67) (i := 4) (L2 := [some (.ref (d_ + 28)), some (.int (Int32.ofInt u1_)), some (.int (Int32.ofInt u2_)), some (.int (Int32.ofInt u7_)), some (.int (Int32.ofInt v10_)), none]) (by decide) rfl (zdal_p dlB_Units_straighten_92 (i := 11) rfl) ?_
                refine zw_aload_n (pc := 69) (n := 0) (x := (d_ + 28)) rfl (zdal_p dlB_Units_straighten_92 (i := 12) rfl) ?_
                refine zw_getF (pc := 70) f_Units_14 rfl ((hf_N3_.w hW).kr (o := 28) (by decide)) ((hf_N3_.w hW).lr (o := 28) (s := 1) (r := 29) (by decide)) (zdal_p dlB_Units_straighten_92 (i := 13) rfl) ?_
                refine zw_iload_n (pc := 73) (n := 3) (x := Int32.ofInt u7_) rfl (zdal_p dlB_Units_straighten_92 (i := 14) rfl) ?_
                refine zw_aload_n (pc := 74) (n := 0) (x := (d_ + 28)) rfl (zdal_p dlB_Units_straighten_92 (i := 15) rfl) ?_
                refine zw_getF (pc := 75) f_Units_14 rfl ((hf_N3_.w hW).kr (o := 28) (by decide)) ((hf_N3_.w hW).lr (o := 28) (s := 1) (r := 29) (by decide)) (zdal_p dlB_Units_straighten_92 (i := 16) rfl) ?_
                refine zw_iload_n (pc := 78) (n := 1) (x := Int32.ofInt u1_) rfl (zdal_p dlB_Units_straighten_92 (i := 17) rfl) ?_
                refine zk_atG hf_N3_.x (pc := 79) l_Units_57 ((hf_N3_.w hW).kr (o := 29) (by decide)) ((hf_N3_.w hW).lr (o := 29) (s := 0) (r := 30) (by decide)) ((hf_N3_.w hW).rr (o := 30) (t := 1) (n := 27) (by decide)) (by decide) ⟨by omega, by omega⟩ (by decide) (Nat.le_of_ble_eq_true rfl) (zdal_p dlB_Units_straighten_92 (i := 18) rfl) (fun v11_ hv11_ hv11_a hv11_b => ?_)
                clear hv11_
                refine zk_stG hf_N3_.x (pc := 82) (o := 30) (by decide) l_Units_40 ((hf_N3_.w hW).kr (o := 29) (by decide)) ((hf_N3_.w hW).lr (o := 29) (s := 0) (r := 30) (by decide)) ((hf_N3_.w hW).rr (o := 30) (t := 1) (n := 27) (by decide)) (by decide) ⟨by omega, by omega⟩ (by decide) (Nat.le_of_ble_eq_true rfl) (zdal_p dlB_Units_straighten_92 (i := 19) rfl) (fun N12_ hsN12_ => ?_)
                have hf_N12_ : zFc d_ [] [] [] [30] Mz N12_ := hf_N3_.tr hsN12_ (by decide) (by decide) (by decide) (by decide)
                have hb0_N12_ : zFc d_ [] [] [] [30] Mz N12_ := hs4_.tr hsN12_ (by decide) (by decide) (by decide) (by decide)
                refine zw_aload_n (pc := 85) (n := 0) (x := (d_ + 28)) rfl (zdal_p dlB_Units_straighten_92 (i := 20) rfl) ?_
                refine zw_getF (pc := 86) f_Units_14 rfl ((hf_N12_.w hW).kr (o := 28) (by decide)) ((hf_N12_.w hW).lr (o := 28) (s := 1) (r := 29) (by decide)) (zdal_p dlB_Units_straighten_92 (i := 21) rfl) ?_
                refine zw_iload_n (pc := 89) (n := 1) (x := Int32.ofInt u1_) rfl (zdal_p dlB_Units_straighten_92 (i := 22) rfl) ?_
                refine zw_iload (pc := 90) (i := 4) (x := Int32.ofInt v10_) rfl (zdal_p dlB_Units_straighten_92 (i := 23) rfl) ?_
                refine zk_stG hf_N12_.x (pc := 92) (o := 30) (by decide) l_Units_40 ((hf_N12_.w hW).kr (o := 29) (by decide)) ((hf_N12_.w hW).lr (o := 29) (s := 0) (r := 30) (by decide)) ((hf_N12_.w hW).rr (o := 30) (t := 1) (n := 27) (by decide)) (by decide) ⟨by omega, by omega⟩ (by decide) (Nat.le_of_ble_eq_true rfl) (zdal_p dlB_Units_straighten_93 (i := 0) rfl) (fun N13_ hsN13_ => ?_)
                have hf_N13_ : zFc d_ [] [] [] [30] Mz N13_ := hf_N12_.tr hsN13_ (by decide) (by decide) (by decide) (by decide)
                have hb0_N13_ : zFc d_ [] [] [] [30] Mz N13_ := hb0_N12_.tr hsN13_ (by decide) (by decide) (by decide) (by decide)
                refine zw_iconst (pc := 95) (v := Int32.ofInt 0) (by decide) (zdal_p dlB_Units_straighten_93 (i := 1) rfl) ?_
                refine zw_istore (pc := 96) (i := 5) (L2 := [some (.ref (d_ + 28)), some (.int (Int32.ofInt u1_)), some (.int (Int32.ofInt u2_)), some (.int (Int32.ofInt u7_)), some (.int (Int32.ofInt v10_)), some (.int (Int32.ofInt 0))]) (by decide) rfl (zdal_p dlB_Units_straighten_93 (i := 2) rfl) ?_
                have lp_98 : ∀ (n : Nat) (u14_ : Int) (hu14_a : -2147483648 ≤ u14_) (hu14_b : u14_ < 2147483648) (N15_ : zMem) (hs16_ : zFc d_ [] [] [] [30] N13_ N15_) (i17_ : 0 ≤ u14_), (ze Mz (d_ + 28) 3 - u14_).toNat < n → zW l m_Units_straighten (zn Mz + 0, zw Mz + 0) N15_ 98 [some (.ref (d_ + 28)), some (.int (Int32.ofInt u1_)), some (.int (Int32.ofInt u2_)), some (.int (Int32.ofInt u7_)), some (.int (Int32.ofInt v10_)), some (.int (Int32.ofInt u14_))] [] (zqcV d_ [] [] [] [30] Mz (fun N => True)) := by
                  intro n
                  induction n with
                  | zero =>
                    intro u14_ hu14_a hu14_b N15_ hs16_ i17_ h0
                    exact absurd h0 (Nat.not_lt_zero _)
                  | succ n ih_98 =>
                    intro u14_ hu14_a hu14_b N15_ hs16_ i17_ hlt_98
                    have hf_N15_ : zFc d_ [] [] [] [30] Mz N15_ := hf_N13_.tr hs16_ (by decide) (by decide) (by decide) (by decide)
                    have hb0_N15_ : zFc d_ [] [] [] [30] Mz N15_ := hb0_N13_.tr hs16_ (by decide) (by decide) (by decide) (by decide)
                    refine zw_iload (pc := 98) (i := 5) (x := Int32.ofInt u14_) rfl (zdal_p dlB_Units_straighten_93 (i := 3) rfl) ?_
                    refine zw_aload_n (pc := 100) (n := 0) (x := (d_ + 28)) rfl (zdal_p dlB_Units_straighten_93 (i := 4) rfl) ?_
                    refine zk_getI (pc := 101) f_Units_31 rfl ((hf_N15_.w hW).kr (o := 28) (by decide)) (zdal_p dlB_Units_straighten_93 (i := 5) rfl) ?_
                    rw [hf_N15_.e (by decide)]
                    refine zr_icmp_ge (pc := 104) (tgt := 158) ⟨hu14_a, hu14_b⟩ ⟨(ze_r Mz (d_ + 28) 3).1, (ze_r Mz (d_ + 28) 3).2⟩ (by decide) (zdal_p dlB_Units_straighten_93 (i := 6) rfl) (fun hc_104 => ?_) (fun hc_104 => ?_)
                    · skip
                      refine zr_iinc (pc := 158) (i := 1) (a := u1_) (n := 1) (L2 := [some (.ref (d_ + 28)), some (.int (Int32.ofInt (u1_ + 1))), some (.int (Int32.ofInt u2_)), some (.int (Int32.ofInt u7_)), some (.int (Int32.ofInt v10_)), some (.int (Int32.ofInt u14_))]) rfl (by decide) rfl (zdal_p dlB_Units_straighten_94 (i := 7) rfl) ?_
                      obtain ⟨v18_, hv18_a, hv18_b, hv18_e, hv18_d⟩ := zk_gen (u1_ + 1)
                      rw [hv18_e]
                      refine zr_iinc (pc := 161) (i := 2) (a := u2_) (n := 1) (L2 := [some (.ref (d_ + 28)), some (.int (Int32.ofInt v18_)), some (.int (Int32.ofInt (u2_ + 1))), some (.int (Int32.ofInt u7_)), some (.int (Int32.ofInt v10_)), some (.int (Int32.ofInt u14_))]) rfl (by decide) rfl (zdal_p dlB_Units_straighten_94 (i := 8) rfl) ?_
                      obtain ⟨v19_, hv19_a, hv19_b, hv19_e, hv19_d⟩ := zk_gen (u2_ + 1)
                      rw [hv19_e]
                      refine zw_goto (pc := 164) (tgt := 4) (by decide) (zdal_p dlB_Units_straighten_94 (i := 9) rfl) ?_
                      refine zW_le [some (.ref (d_ + 28)), some (.int (Int32.ofInt v18_)), some (.int (Int32.ofInt v19_)), none, none, none] (⟨rfl, rfl, rfl, trivial⟩) ?_
                      exact ih_4 v18_ hv18_a hv18_b v19_ hv19_a hv19_b N15_ hb0_N15_ (show 0 ≤ v19_ by first | with_reducible assumption | assumption | omega) (by omega)
                    · skip
                      refine zw_iload (pc := 107) (i := 5) (x := Int32.ofInt u14_) rfl (zdal_p dlB_Units_straighten_93 (i := 7) rfl) ?_
                      refine zw_iload_n (pc := 109) (n := 1) (x := Int32.ofInt u1_) rfl (zdal_p dlB_Units_straighten_93 (i := 8) rfl) ?_
                      refine zr_icmp_eq (pc := 110) (tgt := 152) ⟨hu14_a, hu14_b⟩ ⟨hu1_a, hu1_b⟩ (by decide) (zdal_p dlB_Units_straighten_93 (i := 9) rfl) (fun hc_110 => ?_) (fun hc_110 => ?_)
                      · skip
                        refine zr_iinc (pc := 152) (i := 5) (a := u14_) (n := 1) (L2 := [some (.ref (d_ + 28)), some (.int (Int32.ofInt u1_)), some (.int (Int32.ofInt u2_)), some (.int (Int32.ofInt u7_)), some (.int (Int32.ofInt v10_)), some (.int (Int32.ofInt (u14_ + 1)))]) rfl (by decide) rfl d_Units_straighten_152 ?_
                        obtain ⟨v20_, hv20_a, hv20_b, hv20_e, hv20_d⟩ := zk_gen (u14_ + 1)
                        rw [hv20_e]
                        refine zw_goto (pc := 155) (tgt := 98) (by decide) d_Units_straighten_155 ?_
                        exact ih_98 v20_ hv20_a hv20_b N15_ hs16_ (show 0 ≤ v20_ by first | with_reducible assumption | assumption | omega) (by omega)
                      · skip
                        refine zw_aload_n (pc := 113) (n := 0) (x := (d_ + 28)) rfl (zdal_p dlB_Units_straighten_93 (i := 10) rfl) ?_
                        refine zw_getF (pc := 114) f_Units_14 rfl ((hf_N15_.w hW).kr (o := 28) (by decide)) ((hf_N15_.w hW).lr (o := 28) (s := 1) (r := 29) (by decide)) (zdal_p dlB_Units_straighten_93 (i := 11) rfl) ?_
                        refine zw_iload (pc := 117) (i := 5) (x := Int32.ofInt u14_) rfl (zdal_p dlB_Units_straighten_93 (i := 12) rfl) ?_
                        refine zk_atG hf_N15_.x (pc := 119) l_Units_57 ((hf_N15_.w hW).kr (o := 29) (by decide)) ((hf_N15_.w hW).lr (o := 29) (s := 0) (r := 30) (by decide)) ((hf_N15_.w hW).rr (o := 30) (t := 1) (n := 27) (by decide)) (by decide) ⟨by omega, by omega⟩ (by decide) (Nat.le_of_ble_eq_true rfl) (zdal_p dlB_Units_straighten_93 (i := 13) rfl) (fun v21_ hv21_ hv21_a hv21_b => ?_)
                        clear hv21_
                        refine zw_aload_n (pc := 122) (n := 0) (x := (d_ + 28)) rfl (zdal_p dlB_Units_straighten_93 (i := 14) rfl) ?_
                        refine zw_iload_n (pc := 123) (n := 2) (x := Int32.ofInt u2_) rfl (zdal_p dlB_Units_straighten_93 (i := 15) rfl) ?_
                        refine zk_callV hf_N15_.x (pc := 124) [.int (Int32.ofInt u2_)] [.int (Int32.ofInt v21_)] l_Units_80 (u_Units_bitOfX l d_ N15_ (hf_N15_.w hW) u2_ hu2_a hu2_b) rfl rfl ((hf_N15_.w hW).kr (o := 28) (by decide)) (by decide) (by decide) (Nat.le_of_ble_eq_true rfl) (zdal_p dlB_Units_straighten_93 (i := 16) rfl) ?_
                        rintro _ N22_ ⟨v23_, rfl, ⟨hv23_a, hv23_b⟩, hsN22_, -⟩
                        obtain rfl := hsN22_.eq.symm
                        show zW l m_Units_straighten (zn Mz + 0, zw Mz + 0) N15_ 127 [some (.ref (d_ + 28)), some (.int (Int32.ofInt u1_)), some (.int (Int32.ofInt u2_)), some (.int (Int32.ofInt u7_)), some (.int (Int32.ofInt v10_)), some (.int (Int32.ofInt u14_))] [.int (Int32.ofInt v23_), .int (Int32.ofInt v21_)] _
                        refine zr_iand (pc := 127) (zdal_p dlB_Units_straighten_93 (i := 17) rfl) ?_
                        have hr24_ := zand_r v21_ v23_
                        refine zr_nmI (fun v25_ hv25_ => ?_)
                        obtain ⟨hv25_a, hv25_b⟩ := hv25_
                        refine zr_if_eq (pc := 128) (tgt := 152) ⟨hv25_a, hv25_b⟩ (by decide) (zdal_p dlB_Units_straighten_93 (i := 18) rfl) (fun hc_128 => ?_) (fun hc_128 => ?_)
                        · skip
                          refine zr_iinc (pc := 152) (i := 5) (a := u14_) (n := 1) (L2 := [some (.ref (d_ + 28)), some (.int (Int32.ofInt u1_)), some (.int (Int32.ofInt u2_)), some (.int (Int32.ofInt u7_)), some (.int (Int32.ofInt v10_)), some (.int (Int32.ofInt (u14_ + 1)))]) rfl (by decide) rfl d_Units_straighten_152 ?_
                          obtain ⟨v26_, hv26_a, hv26_b, hv26_e, hv26_d⟩ := zk_gen (u14_ + 1)
                          rw [hv26_e]
                          refine zw_goto (pc := 155) (tgt := 98) (by decide) d_Units_straighten_155 ?_
                          exact ih_98 v26_ hv26_a hv26_b N15_ hs16_ (show 0 ≤ v26_ by first | with_reducible assumption | assumption | omega) (by omega)
                        · skip
                          refine zw_aload_n (pc := 131) (n := 0) (x := (d_ + 28)) rfl (zdal_p dlB_Units_straighten_93 (i := 19) rfl) ?_
                          refine zw_getF (pc := 132) f_Units_14 rfl ((hf_N15_.w hW).kr (o := 28) (by decide)) ((hf_N15_.w hW).lr (o := 28) (s := 1) (r := 29) (by decide)) (zdal_p dlB_Units_straighten_93 (i := 20) rfl) ?_
                          refine zw_iload (pc := 135) (i := 5) (x := Int32.ofInt u14_) rfl (zdal_p dlB_Units_straighten_93 (i := 21) rfl) ?_
                          refine zw_aload_n (pc := 137) (n := 0) (x := (d_ + 28)) rfl (zdal_p dlB_Units_straighten_93 (i := 22) rfl) ?_
                          refine zw_getF (pc := 138) f_Units_14 rfl ((hf_N15_.w hW).kr (o := 28) (by decide)) ((hf_N15_.w hW).lr (o := 28) (s := 1) (r := 29) (by decide)) (zdal_p dlB_Units_straighten_93 (i := 23) rfl) ?_
                          refine zw_iload (pc := 141) (i := 5) (x := Int32.ofInt u14_) rfl (zdal_p dlB_Units_straighten_94 (i := 0) rfl) ?_
                          refine zk_atG hf_N15_.x (pc := 143) l_Units_57 ((hf_N15_.w hW).kr (o := 29) (by decide)) ((hf_N15_.w hW).lr (o := 29) (s := 0) (r := 30) (by decide)) ((hf_N15_.w hW).rr (o := 30) (t := 1) (n := 27) (by decide)) (by decide) ⟨by omega, by omega⟩ (by decide) (Nat.le_of_ble_eq_true rfl) (zdal_p dlB_Units_straighten_94 (i := 1) rfl) (fun v27_ hv27_ hv27_a hv27_b => ?_)
                          clear hv27_
                          refine zw_iload (pc := 146) (i := 4) (x := Int32.ofInt v10_) rfl (zdal_p dlB_Units_straighten_94 (i := 2) rfl) ?_
                          refine zr_ixor (pc := 148) (zdal_p dlB_Units_straighten_94 (i := 3) rfl) ?_
                          have hr28_ := zxor_r v27_ v10_
                          refine zr_nmI (fun v29_ hv29_ => ?_)
                          obtain ⟨hv29_a, hv29_b⟩ := hv29_
                          refine zk_stG hf_N15_.x (pc := 149) (o := 30) (by decide) l_Units_40 ((hf_N15_.w hW).kr (o := 29) (by decide)) ((hf_N15_.w hW).lr (o := 29) (s := 0) (r := 30) (by decide)) ((hf_N15_.w hW).rr (o := 30) (t := 1) (n := 27) (by decide)) (by decide) ⟨by omega, by omega⟩ (by decide) (Nat.le_of_ble_eq_true rfl) (zdal_p dlB_Units_straighten_94 (i := 4) rfl) (fun N30_ hsN30_ => ?_)
                          have hf_N30_ : zFc d_ [] [] [] [30] Mz N30_ := hf_N15_.tr hsN30_ (by decide) (by decide) (by decide) (by decide)
                          have hb0_N30_ : zFc d_ [] [] [] [30] Mz N30_ := hb0_N15_.tr hsN30_ (by decide) (by decide) (by decide) (by decide)
                          have hb1_N30_ : zFc d_ [] [] [] [30] N13_ N30_ := hs16_.tr hsN30_ (by decide) (by decide) (by decide) (by decide)
                          refine zr_iinc (pc := 152) (i := 5) (a := u14_) (n := 1) (L2 := [some (.ref (d_ + 28)), some (.int (Int32.ofInt u1_)), some (.int (Int32.ofInt u2_)), some (.int (Int32.ofInt u7_)), some (.int (Int32.ofInt v10_)), some (.int (Int32.ofInt (u14_ + 1)))]) rfl (by decide) rfl d_Units_straighten_152 ?_
                          obtain ⟨v31_, hv31_a, hv31_b, hv31_e, hv31_d⟩ := zk_gen (u14_ + 1)
                          rw [hv31_e]
                          refine zw_goto (pc := 155) (tgt := 98) (by decide) d_Units_straighten_155 ?_
                          exact ih_98 v31_ hv31_a hv31_b N30_ hb1_N30_ (show 0 ≤ v31_ by first | with_reducible assumption | assumption | omega) (by omega)
                exact lp_98 _ 0 (by decide) (by decide) N13_ zFc.rf (show 0 ≤ (0 : Int) by first | with_reducible assumption | assumption | omega) (Nat.lt_succ_self _)
              · skip
                refine zw_goto (pc := 56) (tgt := 161) (by decide) (zdal_p dlB_Units_straighten_92 (i := 6) rfl) ?_
                refine zr_iinc (pc := 161) (i := 2) (a := u2_) (n := 1) (L2 := [some (.ref (d_ + 28)), some (.int (Int32.ofInt u1_)), some (.int (Int32.ofInt (u2_ + 1))), some (.int (Int32.ofInt u7_)), none, none]) rfl (by decide) rfl (zdal_p dlB_Units_straighten_94 (i := 8) rfl) ?_
                obtain ⟨v32_, hv32_a, hv32_b, hv32_e, hv32_d⟩ := zk_gen (u2_ + 1)
                rw [hv32_e]
                refine zw_goto (pc := 164) (tgt := 4) (by decide) (zdal_p dlB_Units_straighten_94 (i := 9) rfl) ?_
                refine zW_le [some (.ref (d_ + 28)), some (.int (Int32.ofInt u1_)), some (.int (Int32.ofInt v32_)), none, none, none] (⟨rfl, rfl, rfl, trivial⟩) ?_
                exact ih_4 u1_ hu1_a hu1_b v32_ hv32_a hv32_b N3_ hs4_ (show 0 ≤ v32_ by first | with_reducible assumption | assumption | omega) (by omega)
            · skip
              refine zw_aload_n (pc := 25) (n := 0) (x := (d_ + 28)) rfl (zdal_p dlB_Units_straighten_91 (i := 15) rfl) ?_
              refine zw_getF (pc := 26) f_Units_14 rfl ((hf_N3_.w hW).kr (o := 28) (by decide)) ((hf_N3_.w hW).lr (o := 28) (s := 1) (r := 29) (by decide)) (zdal_p dlB_Units_straighten_91 (i := 16) rfl) ?_
              refine zw_iload_n (pc := 29) (n := 3) (x := Int32.ofInt u7_) rfl (zdal_p dlB_Units_straighten_91 (i := 17) rfl) ?_
              refine zk_atG hf_N3_.x (pc := 30) l_Units_57 ((hf_N3_.w hW).kr (o := 29) (by decide)) ((hf_N3_.w hW).lr (o := 29) (s := 0) (r := 30) (by decide)) ((hf_N3_.w hW).rr (o := 30) (t := 1) (n := 27) (by decide)) (by decide) ⟨by omega, by omega⟩ (by decide) (Nat.le_of_ble_eq_true rfl) (zdal_p dlB_Units_straighten_91 (i := 18) rfl) (fun v33_ hv33_ hv33_a hv33_b => ?_)
              clear hv33_
              refine zw_aload_n (pc := 33) (n := 0) (x := (d_ + 28)) rfl (zdal_p dlB_Units_straighten_91 (i := 19) rfl) ?_
              refine zw_iload_n (pc := 34) (n := 2) (x := Int32.ofInt u2_) rfl (zdal_p dlB_Units_straighten_91 (i := 20) rfl) ?_
              refine zk_callV hf_N3_.x (pc := 35) [.int (Int32.ofInt u2_)] [.int (Int32.ofInt v33_)] l_Units_80 (u_Units_bitOfX l d_ N3_ (hf_N3_.w hW) u2_ hu2_a hu2_b) rfl rfl ((hf_N3_.w hW).kr (o := 28) (by decide)) (by decide) (by decide) (Nat.le_of_ble_eq_true rfl) (zdal_p dlB_Units_straighten_91 (i := 21) rfl) ?_
              rintro _ N34_ ⟨v35_, rfl, ⟨hv35_a, hv35_b⟩, hsN34_, -⟩
              obtain rfl := hsN34_.eq.symm
              show zW l m_Units_straighten (zn Mz + 0, zw Mz + 0) N3_ 38 [some (.ref (d_ + 28)), some (.int (Int32.ofInt u1_)), some (.int (Int32.ofInt u2_)), some (.int (Int32.ofInt u7_)), none, none] [.int (Int32.ofInt v35_), .int (Int32.ofInt v33_)] _
              refine zr_iand (pc := 38) (zdal_p dlB_Units_straighten_91 (i := 22) rfl) ?_
              have hr36_ := zand_r v33_ v35_
              refine zr_nmI (fun v37_ hv37_ => ?_)
              obtain ⟨hv37_a, hv37_b⟩ := hv37_
              refine zr_if_ne (pc := 39) (tgt := 48) ⟨hv37_a, hv37_b⟩ (by decide) (zdal_p dlB_Units_straighten_91 (i := 23) rfl) (fun hc_39 => ?_) (fun hc_39 => ?_)
              · skip
                refine zw_iload_n (pc := 48) (n := 3) (x := Int32.ofInt u7_) rfl (zdal_p dlB_Units_straighten_92 (i := 2) rfl) ?_
                refine zw_aload_n (pc := 49) (n := 0) (x := (d_ + 28)) rfl (zdal_p dlB_Units_straighten_92 (i := 3) rfl) ?_
                refine zk_getI (pc := 50) f_Units_31 rfl ((hf_N3_.w hW).kr (o := 28) (by decide)) (zdal_p dlB_Units_straighten_92 (i := 4) rfl) ?_
                rw [hf_N3_.e (by decide)]
                refine zr_icmp_lt (pc := 53) (tgt := 59) ⟨hu7_a, hu7_b⟩ ⟨(ze_r Mz (d_ + 28) 3).1, (ze_r Mz (d_ + 28) 3).2⟩ (by decide) (zdal_p dlB_Units_straighten_92 (i := 5) rfl) (fun hc_53 => ?_) (fun hc_53 => ?_)
                · skip
                  refine zw_aload_n (pc := 59) (n := 0) (x := (d_ + 28)) rfl (zdal_p dlB_Units_straighten_92 (i := 7) rfl) ?_
                  refine zw_getF (pc := 60) f_Units_14 rfl ((hf_N3_.w hW).kr (o := 28) (by decide)) ((hf_N3_.w hW).lr (o := 28) (s := 1) (r := 29) (by decide)) (zdal_p dlB_Units_straighten_92 (i := 8) rfl) ?_
                  refine zw_iload_n (pc := 63) (n := 3) (x := Int32.ofInt u7_) rfl (zdal_p dlB_Units_straighten_92 (i := 9) rfl) ?_
                  refine zk_atG hf_N3_.x (pc := 64) l_Units_57 ((hf_N3_.w hW).kr (o := 29) (by decide)) ((hf_N3_.w hW).lr (o := 29) (s := 0) (r := 30) (by decide)) ((hf_N3_.w hW).rr (o := 30) (t := 1) (n := 27) (by decide)) (by decide) ⟨by omega, by omega⟩ (by decide) (Nat.le_of_ble_eq_true rfl) (zdal_p dlB_Units_straighten_92 (i := 10) rfl) (fun v38_ hv38_ hv38_a hv38_b => ?_)
                  clear hv38_
                  refine zw_istore (pc := 67) (i := 4) (L2 := [some (.ref (d_ + 28)), some (.int (Int32.ofInt u1_)), some (.int (Int32.ofInt u2_)), some (.int (Int32.ofInt u7_)), some (.int (Int32.ofInt v38_)), none]) (by decide) rfl (zdal_p dlB_Units_straighten_92 (i := 11) rfl) ?_
                  refine zw_aload_n (pc := 69) (n := 0) (x := (d_ + 28)) rfl (zdal_p dlB_Units_straighten_92 (i := 12) rfl) ?_
                  refine zw_getF (pc := 70) f_Units_14 rfl ((hf_N3_.w hW).kr (o := 28) (by decide)) ((hf_N3_.w hW).lr (o := 28) (s := 1) (r := 29) (by decide)) (zdal_p dlB_Units_straighten_92 (i := 13) rfl) ?_
                  refine zw_iload_n (pc := 73) (n := 3) (x := Int32.ofInt u7_) rfl (zdal_p dlB_Units_straighten_92 (i := 14) rfl) ?_
                  refine zw_aload_n (pc := 74) (n := 0) (x := (d_ + 28)) rfl (zdal_p dlB_Units_straighten_92 (i := 15) rfl) ?_
                  refine zw_getF (pc := 75) f_Units_14 rfl ((hf_N3_.w hW).kr (o := 28) (by decide)) ((hf_N3_.w hW).lr (o := 28) (s := 1) (r := 29) (by decide)) (zdal_p dlB_Units_straighten_92 (i := 16) rfl) ?_
                  refine zw_iload_n (pc := 78) (n := 1) (x := Int32.ofInt u1_) rfl (zdal_p dlB_Units_straighten_92 (i := 17) rfl) ?_
                  refine zk_atG hf_N3_.x (pc := 79) l_Units_57 ((hf_N3_.w hW).kr (o := 29) (by decide)) ((hf_N3_.w hW).lr (o := 29) (s := 0) (r := 30) (by decide)) ((hf_N3_.w hW).rr (o := 30) (t := 1) (n := 27) (by decide)) (by decide) ⟨by omega, by omega⟩ (by decide) (Nat.le_of_ble_eq_true rfl) (zdal_p dlB_Units_straighten_92 (i := 18) rfl) (fun v39_ hv39_ hv39_a hv39_b => ?_)
                  clear hv39_
                  refine zk_stG hf_N3_.x (pc := 82) (o := 30) (by decide) l_Units_40 ((hf_N3_.w hW).kr (o := 29) (by decide)) ((hf_N3_.w hW).lr (o := 29) (s := 0) (r := 30) (by decide)) ((hf_N3_.w hW).rr (o := 30) (t := 1) (n := 27) (by decide)) (by decide) ⟨by omega, by omega⟩ (by decide) (Nat.le_of_ble_eq_true rfl) (zdal_p dlB_Units_straighten_92 (i := 19) rfl) (fun N40_ hsN40_ => ?_)
                  have hf_N40_ : zFc d_ [] [] [] [30] Mz N40_ := hf_N3_.tr hsN40_ (by decide) (by decide) (by decide) (by decide)
                  have hb0_N40_ : zFc d_ [] [] [] [30] Mz N40_ := hs4_.tr hsN40_ (by decide) (by decide) (by decide) (by decide)
                  refine zw_aload_n (pc := 85) (n := 0) (x := (d_ + 28)) rfl (zdal_p dlB_Units_straighten_92 (i := 20) rfl) ?_
                  refine zw_getF (pc := 86) f_Units_14 rfl ((hf_N40_.w hW).kr (o := 28) (by decide)) ((hf_N40_.w hW).lr (o := 28) (s := 1) (r := 29) (by decide)) (zdal_p dlB_Units_straighten_92 (i := 21) rfl) ?_
                  refine zw_iload_n (pc := 89) (n := 1) (x := Int32.ofInt u1_) rfl (zdal_p dlB_Units_straighten_92 (i := 22) rfl) ?_
                  refine zw_iload (pc := 90) (i := 4) (x := Int32.ofInt v38_) rfl (zdal_p dlB_Units_straighten_92 (i := 23) rfl) ?_
                  refine zk_stG hf_N40_.x (pc := 92) (o := 30) (by decide) l_Units_40 ((hf_N40_.w hW).kr (o := 29) (by decide)) ((hf_N40_.w hW).lr (o := 29) (s := 0) (r := 30) (by decide)) ((hf_N40_.w hW).rr (o := 30) (t := 1) (n := 27) (by decide)) (by decide) ⟨by omega, by omega⟩ (by decide) (Nat.le_of_ble_eq_true rfl) (zdal_p dlB_Units_straighten_93 (i := 0) rfl) (fun N41_ hsN41_ => ?_)
                  have hf_N41_ : zFc d_ [] [] [] [30] Mz N41_ := hf_N40_.tr hsN41_ (by decide) (by decide) (by decide) (by decide)
                  have hb0_N41_ : zFc d_ [] [] [] [30] Mz N41_ := hb0_N40_.tr hsN41_ (by decide) (by decide) (by decide) (by decide)
                  refine zw_iconst (pc := 95) (v := Int32.ofInt 0) (by decide) (zdal_p dlB_Units_straighten_93 (i := 1) rfl) ?_
                  refine zw_istore (pc := 96) (i := 5) (L2 := [some (.ref (d_ + 28)), some (.int (Int32.ofInt u1_)), some (.int (Int32.ofInt u2_)), some (.int (Int32.ofInt u7_)), some (.int (Int32.ofInt v38_)), some (.int (Int32.ofInt 0))]) (by decide) rfl (zdal_p dlB_Units_straighten_93 (i := 2) rfl) ?_
                  have lp_98 : ∀ (n : Nat) (u42_ : Int) (hu42_a : -2147483648 ≤ u42_) (hu42_b : u42_ < 2147483648) (N43_ : zMem) (hs44_ : zFc d_ [] [] [] [30] N41_ N43_) (i45_ : 0 ≤ u42_), (ze Mz (d_ + 28) 3 - u42_).toNat < n → zW l m_Units_straighten (zn Mz + 0, zw Mz + 0) N43_ 98 [some (.ref (d_ + 28)), some (.int (Int32.ofInt u1_)), some (.int (Int32.ofInt u2_)), some (.int (Int32.ofInt u7_)), some (.int (Int32.ofInt v38_)), some (.int (Int32.ofInt u42_))] [] (zqcV d_ [] [] [] [30] Mz (fun N => True)) := by
                    intro n
                    induction n with
                    | zero =>
                      intro u42_ hu42_a hu42_b N43_ hs44_ i45_ h0
                      exact absurd h0 (Nat.not_lt_zero _)
                    | succ n ih_98 =>
                      intro u42_ hu42_a hu42_b N43_ hs44_ i45_ hlt_98
                      have hf_N43_ : zFc d_ [] [] [] [30] Mz N43_ := hf_N41_.tr hs44_ (by decide) (by decide) (by decide) (by decide)
                      have hb0_N43_ : zFc d_ [] [] [] [30] Mz N43_ := hb0_N41_.tr hs44_ (by decide) (by decide) (by decide) (by decide)
                      refine zw_iload (pc := 98) (i := 5) (x := Int32.ofInt u42_) rfl (zdal_p dlB_Units_straighten_93 (i := 3) rfl) ?_
                      refine zw_aload_n (pc := 100) (n := 0) (x := (d_ + 28)) rfl (zdal_p dlB_Units_straighten_93 (i := 4) rfl) ?_
                      refine zk_getI (pc := 101) f_Units_31 rfl ((hf_N43_.w hW).kr (o := 28) (by decide)) (zdal_p dlB_Units_straighten_93 (i := 5) rfl) ?_
                      rw [hf_N43_.e (by decide)]
                      refine zr_icmp_ge (pc := 104) (tgt := 158) ⟨hu42_a, hu42_b⟩ ⟨(ze_r Mz (d_ + 28) 3).1, (ze_r Mz (d_ + 28) 3).2⟩ (by decide) (zdal_p dlB_Units_straighten_93 (i := 6) rfl) (fun hc_104 => ?_) (fun hc_104 => ?_)
                      · skip
                        refine zr_iinc (pc := 158) (i := 1) (a := u1_) (n := 1) (L2 := [some (.ref (d_ + 28)), some (.int (Int32.ofInt (u1_ + 1))), some (.int (Int32.ofInt u2_)), some (.int (Int32.ofInt u7_)), some (.int (Int32.ofInt v38_)), some (.int (Int32.ofInt u42_))]) rfl (by decide) rfl (zdal_p dlB_Units_straighten_94 (i := 7) rfl) ?_
                        obtain ⟨v46_, hv46_a, hv46_b, hv46_e, hv46_d⟩ := zk_gen (u1_ + 1)
                        rw [hv46_e]
                        refine zr_iinc (pc := 161) (i := 2) (a := u2_) (n := 1) (L2 := [some (.ref (d_ + 28)), some (.int (Int32.ofInt v46_)), some (.int (Int32.ofInt (u2_ + 1))), some (.int (Int32.ofInt u7_)), some (.int (Int32.ofInt v38_)), some (.int (Int32.ofInt u42_))]) rfl (by decide) rfl (zdal_p dlB_Units_straighten_94 (i := 8) rfl) ?_
                        obtain ⟨v47_, hv47_a, hv47_b, hv47_e, hv47_d⟩ := zk_gen (u2_ + 1)
                        rw [hv47_e]
                        refine zw_goto (pc := 164) (tgt := 4) (by decide) (zdal_p dlB_Units_straighten_94 (i := 9) rfl) ?_
                        refine zW_le [some (.ref (d_ + 28)), some (.int (Int32.ofInt v46_)), some (.int (Int32.ofInt v47_)), none, none, none] (⟨rfl, rfl, rfl, trivial⟩) ?_
                        exact ih_4 v46_ hv46_a hv46_b v47_ hv47_a hv47_b N43_ hb0_N43_ (show 0 ≤ v47_ by first | with_reducible assumption | assumption | omega) (by omega)
                      · skip
                        refine zw_iload (pc := 107) (i := 5) (x := Int32.ofInt u42_) rfl (zdal_p dlB_Units_straighten_93 (i := 7) rfl) ?_
                        refine zw_iload_n (pc := 109) (n := 1) (x := Int32.ofInt u1_) rfl (zdal_p dlB_Units_straighten_93 (i := 8) rfl) ?_
                        refine zr_icmp_eq (pc := 110) (tgt := 152) ⟨hu42_a, hu42_b⟩ ⟨hu1_a, hu1_b⟩ (by decide) (zdal_p dlB_Units_straighten_93 (i := 9) rfl) (fun hc_110 => ?_) (fun hc_110 => ?_)
                        · skip
                          refine zr_iinc (pc := 152) (i := 5) (a := u42_) (n := 1) (L2 := [some (.ref (d_ + 28)), some (.int (Int32.ofInt u1_)), some (.int (Int32.ofInt u2_)), some (.int (Int32.ofInt u7_)), some (.int (Int32.ofInt v38_)), some (.int (Int32.ofInt (u42_ + 1)))]) rfl (by decide) rfl d_Units_straighten_152 ?_
                          obtain ⟨v48_, hv48_a, hv48_b, hv48_e, hv48_d⟩ := zk_gen (u42_ + 1)
                          rw [hv48_e]
                          refine zw_goto (pc := 155) (tgt := 98) (by decide) d_Units_straighten_155 ?_
                          exact ih_98 v48_ hv48_a hv48_b N43_ hs44_ (show 0 ≤ v48_ by first | with_reducible assumption | assumption | omega) (by omega)
                        · skip
                          refine zw_aload_n (pc := 113) (n := 0) (x := (d_ + 28)) rfl (zdal_p dlB_Units_straighten_93 (i := 10) rfl) ?_
                          refine zw_getF (pc := 114) f_Units_14 rfl ((hf_N43_.w hW).kr (o := 28) (by decide)) ((hf_N43_.w hW).lr (o := 28) (s := 1) (r := 29) (by decide)) (zdal_p dlB_Units_straighten_93 (i := 11) rfl) ?_
                          refine zw_iload (pc := 117) (i := 5) (x := Int32.ofInt u42_) rfl (zdal_p dlB_Units_straighten_93 (i := 12) rfl) ?_
                          refine zk_atG hf_N43_.x (pc := 119) l_Units_57 ((hf_N43_.w hW).kr (o := 29) (by decide)) ((hf_N43_.w hW).lr (o := 29) (s := 0) (r := 30) (by decide)) ((hf_N43_.w hW).rr (o := 30) (t := 1) (n := 27) (by decide)) (by decide) ⟨by omega, by omega⟩ (by decide) (Nat.le_of_ble_eq_true rfl) (zdal_p dlB_Units_straighten_93 (i := 13) rfl) (fun v49_ hv49_ hv49_a hv49_b => ?_)
                          clear hv49_
                          refine zw_aload_n (pc := 122) (n := 0) (x := (d_ + 28)) rfl (zdal_p dlB_Units_straighten_93 (i := 14) rfl) ?_
                          refine zw_iload_n (pc := 123) (n := 2) (x := Int32.ofInt u2_) rfl (zdal_p dlB_Units_straighten_93 (i := 15) rfl) ?_
                          refine zk_callV hf_N43_.x (pc := 124) [.int (Int32.ofInt u2_)] [.int (Int32.ofInt v49_)] l_Units_80 (u_Units_bitOfX l d_ N43_ (hf_N43_.w hW) u2_ hu2_a hu2_b) rfl rfl ((hf_N43_.w hW).kr (o := 28) (by decide)) (by decide) (by decide) (Nat.le_of_ble_eq_true rfl) (zdal_p dlB_Units_straighten_93 (i := 16) rfl) ?_
                          rintro _ N50_ ⟨v51_, rfl, ⟨hv51_a, hv51_b⟩, hsN50_, -⟩
                          obtain rfl := hsN50_.eq.symm
                          show zW l m_Units_straighten (zn Mz + 0, zw Mz + 0) N43_ 127 [some (.ref (d_ + 28)), some (.int (Int32.ofInt u1_)), some (.int (Int32.ofInt u2_)), some (.int (Int32.ofInt u7_)), some (.int (Int32.ofInt v38_)), some (.int (Int32.ofInt u42_))] [.int (Int32.ofInt v51_), .int (Int32.ofInt v49_)] _
                          refine zr_iand (pc := 127) (zdal_p dlB_Units_straighten_93 (i := 17) rfl) ?_
                          have hr52_ := zand_r v49_ v51_
                          refine zr_nmI (fun v53_ hv53_ => ?_)
                          obtain ⟨hv53_a, hv53_b⟩ := hv53_
                          refine zr_if_eq (pc := 128) (tgt := 152) ⟨hv53_a, hv53_b⟩ (by decide) (zdal_p dlB_Units_straighten_93 (i := 18) rfl) (fun hc_128 => ?_) (fun hc_128 => ?_)
                          · skip
                            refine zr_iinc (pc := 152) (i := 5) (a := u42_) (n := 1) (L2 := [some (.ref (d_ + 28)), some (.int (Int32.ofInt u1_)), some (.int (Int32.ofInt u2_)), some (.int (Int32.ofInt u7_)), some (.int (Int32.ofInt v38_)), some (.int (Int32.ofInt (u42_ + 1)))]) rfl (by decide) rfl d_Units_straighten_152 ?_
                            obtain ⟨v54_, hv54_a, hv54_b, hv54_e, hv54_d⟩ := zk_gen (u42_ + 1)
                            rw [hv54_e]
                            refine zw_goto (pc := 155) (tgt := 98) (by decide) d_Units_straighten_155 ?_
                            exact ih_98 v54_ hv54_a hv54_b N43_ hs44_ (show 0 ≤ v54_ by first | with_reducible assumption | assumption | omega) (by omega)
                          · skip
                            refine zw_aload_n (pc := 131) (n := 0) (x := (d_ + 28)) rfl (zdal_p dlB_Units_straighten_93 (i := 19) rfl) ?_
                            refine zw_getF (pc := 132) f_Units_14 rfl ((hf_N43_.w hW).kr (o := 28) (by decide)) ((hf_N43_.w hW).lr (o := 28) (s := 1) (r := 29) (by decide)) (zdal_p dlB_Units_straighten_93 (i := 20) rfl) ?_
                            refine zw_iload (pc := 135) (i := 5) (x := Int32.ofInt u42_) rfl (zdal_p dlB_Units_straighten_93 (i := 21) rfl) ?_
                            refine zw_aload_n (pc := 137) (n := 0) (x := (d_ + 28)) rfl (zdal_p dlB_Units_straighten_93 (i := 22) rfl) ?_
                            refine zw_getF (pc := 138) f_Units_14 rfl ((hf_N43_.w hW).kr (o := 28) (by decide)) ((hf_N43_.w hW).lr (o := 28) (s := 1) (r := 29) (by decide)) (zdal_p dlB_Units_straighten_93 (i := 23) rfl) ?_
                            refine zw_iload (pc := 141) (i := 5) (x := Int32.ofInt u42_) rfl (zdal_p dlB_Units_straighten_94 (i := 0) rfl) ?_
                            refine zk_atG hf_N43_.x (pc := 143) l_Units_57 ((hf_N43_.w hW).kr (o := 29) (by decide)) ((hf_N43_.w hW).lr (o := 29) (s := 0) (r := 30) (by decide)) ((hf_N43_.w hW).rr (o := 30) (t := 1) (n := 27) (by decide)) (by decide) ⟨by omega, by omega⟩ (by decide) (Nat.le_of_ble_eq_true rfl) (zdal_p dlB_Units_straighten_94 (i := 1) rfl) (fun v55_ hv55_ hv55_a hv55_b => ?_)
                            clear hv55_
                            refine zw_iload (pc := 146) (i := 4) (x := Int32.ofInt v38_) rfl (zdal_p dlB_Units_straighten_94 (i := 2) rfl) ?_
                            refine zr_ixor (pc := 148) (zdal_p dlB_Units_straighten_94 (i := 3) rfl) ?_
                            have hr56_ := zxor_r v55_ v38_
                            refine zr_nmI (fun v57_ hv57_ => ?_)
                            obtain ⟨hv57_a, hv57_b⟩ := hv57_
                            refine zk_stG hf_N43_.x (pc := 149) (o := 30) (by decide) l_Units_40 ((hf_N43_.w hW).kr (o := 29) (by decide)) ((hf_N43_.w hW).lr (o := 29) (s := 0) (r := 30) (by decide)) ((hf_N43_.w hW).rr (o := 30) (t := 1) (n := 27) (by decide)) (by decide) ⟨by omega, by omega⟩ (by decide) (Nat.le_of_ble_eq_true rfl) (zdal_p dlB_Units_straighten_94 (i := 4) rfl) (fun N58_ hsN58_ => ?_)
                            have hf_N58_ : zFc d_ [] [] [] [30] Mz N58_ := hf_N43_.tr hsN58_ (by decide) (by decide) (by decide) (by decide)
                            have hb0_N58_ : zFc d_ [] [] [] [30] Mz N58_ := hb0_N43_.tr hsN58_ (by decide) (by decide) (by decide) (by decide)
                            have hb1_N58_ : zFc d_ [] [] [] [30] N41_ N58_ := hs44_.tr hsN58_ (by decide) (by decide) (by decide) (by decide)
                            refine zr_iinc (pc := 152) (i := 5) (a := u42_) (n := 1) (L2 := [some (.ref (d_ + 28)), some (.int (Int32.ofInt u1_)), some (.int (Int32.ofInt u2_)), some (.int (Int32.ofInt u7_)), some (.int (Int32.ofInt v38_)), some (.int (Int32.ofInt (u42_ + 1)))]) rfl (by decide) rfl d_Units_straighten_152 ?_
                            obtain ⟨v59_, hv59_a, hv59_b, hv59_e, hv59_d⟩ := zk_gen (u42_ + 1)
                            rw [hv59_e]
                            refine zw_goto (pc := 155) (tgt := 98) (by decide) d_Units_straighten_155 ?_
                            exact ih_98 v59_ hv59_a hv59_b N58_ hb1_N58_ (show 0 ≤ v59_ by first | with_reducible assumption | assumption | omega) (by omega)
                  exact lp_98 _ 0 (by decide) (by decide) N41_ zFc.rf (show 0 ≤ (0 : Int) by first | with_reducible assumption | assumption | omega) (Nat.lt_succ_self _)
                · skip
                  refine zw_goto (pc := 56) (tgt := 161) (by decide) (zdal_p dlB_Units_straighten_92 (i := 6) rfl) ?_
                  refine zr_iinc (pc := 161) (i := 2) (a := u2_) (n := 1) (L2 := [some (.ref (d_ + 28)), some (.int (Int32.ofInt u1_)), some (.int (Int32.ofInt (u2_ + 1))), some (.int (Int32.ofInt u7_)), none, none]) rfl (by decide) rfl (zdal_p dlB_Units_straighten_94 (i := 8) rfl) ?_
                  obtain ⟨v60_, hv60_a, hv60_b, hv60_e, hv60_d⟩ := zk_gen (u2_ + 1)
                  rw [hv60_e]
                  refine zw_goto (pc := 164) (tgt := 4) (by decide) (zdal_p dlB_Units_straighten_94 (i := 9) rfl) ?_
                  refine zW_le [some (.ref (d_ + 28)), some (.int (Int32.ofInt u1_)), some (.int (Int32.ofInt v60_)), none, none, none] (⟨rfl, rfl, rfl, trivial⟩) ?_
                  exact ih_4 u1_ hu1_a hu1_b v60_ hv60_a hv60_b N3_ hs4_ (show 0 ≤ v60_ by first | with_reducible assumption | assumption | omega) (by omega)
              · skip
                refine zr_iinc (pc := 42) (i := 3) (a := u7_) (n := 1) (L2 := [some (.ref (d_ + 28)), some (.int (Int32.ofInt u1_)), some (.int (Int32.ofInt u2_)), some (.int (Int32.ofInt (u7_ + 1))), none, none]) rfl (by decide) rfl (zdal_p dlB_Units_straighten_92 (i := 0) rfl) ?_
                obtain ⟨v61_, hv61_a, hv61_b, hv61_e, hv61_d⟩ := zk_gen (u7_ + 1)
                rw [hv61_e]
                refine zw_goto (pc := 45) (tgt := 17) (by decide) (zdal_p dlB_Units_straighten_92 (i := 1) rfl) ?_
                exact ih_17 v61_ hv61_a hv61_b (show u1_ ≤ v61_ by first | with_reducible assumption | assumption | omega) (by omega)
        exact lp_17 _ u1_ hu1_a hu1_b (show u1_ ≤ u1_ by first | with_reducible assumption | assumption | omega) (Nat.lt_succ_self _)
  exact lp_4 _ 0 (by decide) (by decide) 0 (by decide) (by decide) Mz zFc.rf (show 0 ≤ (0 : Int) by first | with_reducible assumption | assumption | omega) (Nat.lt_succ_self _)
set_option maxHeartbeats 4000000 in
theorem u_Units_narrowX (l : Launch) (d_ : Nat) (Mz : zMem) (hW : zKW d_ Mz) (a0_ : Int) (ha0_a : -2147483648 ≤ a0_) (ha0_b : a0_ < 2147483648) : zC l m_Units_narrow 0 0 [.ref (d_ + 28), .int (Int32.ofInt a0_)] Mz (zqcV d_ [] [] [(28, 3)] [30] Mz (fun N => True)) := by
  refine zC_of (L0 := [some (.ref (d_ + 28)), some (.int (Int32.ofInt a0_)), none, none]) md_Units_narrow (Nat.le_of_ble_eq_true rfl) rfl ?_ zQ0
  have hf : zFc d_ [] [] [(28, 3)] [30] Mz Mz := zFc.rf
  have r_D28_3 := ze_r Mz (d_ + 28) 3
  refine zw_iconst (pc := 0) (v := Int32.ofInt (-1)) (by decide) (zdal_p dlB_Units_narrow_88 (i := 0) rfl) ?_
  refine zw_istore_n (pc := 1) (i := 2) (L2 := [some (.ref (d_ + 28)), some (.int (Int32.ofInt a0_)), some (.int (Int32.ofInt ((-1)))), none]) rfl (by decide) rfl (zdal_p dlB_Units_narrow_88 (i := 1) rfl) ?_
  refine zw_iconst (pc := 2) (v := Int32.ofInt 0) (by decide) (zdal_p dlB_Units_narrow_88 (i := 2) rfl) ?_
  refine zw_istore_n (pc := 3) (i := 3) (L2 := [some (.ref (d_ + 28)), some (.int (Int32.ofInt a0_)), some (.int (Int32.ofInt ((-1)))), some (.int (Int32.ofInt 0))]) rfl (by decide) rfl (zdal_p dlB_Units_narrow_88 (i := 3) rfl) ?_
  have lp_4 : ∀ (n : Nat) (u1_ : Int) (hu1_a : -2147483648 ≤ u1_) (hu1_b : u1_ < 2147483648) (u2_ : Int) (hu2_a : -2147483648 ≤ u2_) (hu2_b : u2_ < 2147483648) (N3_ : zMem) (hs4_ : zFc d_ [] [] [] [30] Mz N3_) (i5_ : 0 ≤ u2_) (i6_ : ze N3_ (d_ + 28) 3 = ze Mz (d_ + 28) 3), (ze Mz (d_ + 28) 3 - u2_).toNat < n → zW l m_Units_narrow (zn Mz + 0, zw Mz + 0) N3_ 4 [some (.ref (d_ + 28)), some (.int (Int32.ofInt a0_)), some (.int (Int32.ofInt u1_)), some (.int (Int32.ofInt u2_))] [] (zqcV d_ [] [] [(28, 3)] [30] Mz (fun N => True)) := by
    intro n
    induction n with
    | zero =>
      intro u1_ hu1_a hu1_b u2_ hu2_a hu2_b N3_ hs4_ i5_ i6_ h0
      exact absurd h0 (Nat.not_lt_zero _)
    | succ n ih_4 =>
      intro u1_ hu1_a hu1_b u2_ hu2_a hu2_b N3_ hs4_ i5_ i6_ hlt_4
      have hf_N3_ : zFc d_ [] [] [(28, 3)] [30] Mz N3_ := hf.tr hs4_ (by decide) (by decide) (by decide) (by decide)
      have eD28_3_N3_ : ze N3_ (d_ + 28) 3 = ze Mz (d_ + 28) 3 := hs4_.e (by decide)
      refine zw_iload_n (pc := 4) (n := 3) (x := Int32.ofInt u2_) rfl (zdal_p dlB_Units_narrow_88 (i := 4) rfl) ?_
      refine zw_aload_n (pc := 5) (n := 0) (x := (d_ + 28)) rfl (zdal_p dlB_Units_narrow_88 (i := 5) rfl) ?_
      refine zk_getI (pc := 6) f_Units_31 rfl ((hf_N3_.w hW).kr (o := 28) (by decide)) (zdal_p dlB_Units_narrow_88 (i := 6) rfl) ?_
      have hr7_ := ze_r N3_ (d_ + 28) 3
      refine zr_icmp_ge (pc := 9) (tgt := 74) ⟨hu2_a, hu2_b⟩ ⟨(ze_r N3_ (d_ + 28) 3).1, (ze_r N3_ (d_ + 28) 3).2⟩ (by decide) (zdal_p dlB_Units_narrow_88 (i := 7) rfl) (fun hc_9 => ?_) (fun hc_9 => ?_)
      · skip
        refine zw_iload_n (pc := 74) (n := 2) (x := Int32.ofInt u1_) rfl (zdal_p dlB_Units_narrow_89 (i := 16) rfl) ?_
        refine zw_iconst (pc := 75) (v := Int32.ofInt (-1)) (by decide) (zdal_p dlB_Units_narrow_89 (i := 17) rfl) ?_
        refine zr_icmp_eq (pc := 76) (tgt := 108) ⟨hu1_a, hu1_b⟩ ⟨(by decide), (by decide)⟩ (by decide) (zdal_p dlB_Units_narrow_89 (i := 18) rfl) (fun hc_76 => ?_) (fun hc_76 => ?_)
        · skip
          exact zk_vret (pc := 108) rfl hf_N3_ trivial (zdal_p dlB_Units_narrow_90 (i := 10) rfl)
        · skip
          refine zw_aload_n (pc := 79) (n := 0) (x := (d_ + 28)) rfl (zdal_p dlB_Units_narrow_89 (i := 19) rfl) ?_
          refine zw_dup (pc := 80) rfl (zdal_p dlB_Units_narrow_89 (i := 20) rfl) ?_
          refine zk_getI (pc := 81) f_Units_31 rfl ((hf_N3_.w hW).kr (o := 28) (by decide)) (zdal_p dlB_Units_narrow_89 (i := 21) rfl) ?_
          refine zw_iconst (pc := 84) (v := Int32.ofInt 1) (by decide) (zdal_p dlB_Units_narrow_89 (i := 22) rfl) ?_
          refine zr_isub (pc := 85) (zdal_p dlB_Units_narrow_89 (i := 23) rfl) ?_
          refine zr_nmI (fun v8_ hv8_ => ?_)
          obtain ⟨hv8_a, hv8_b⟩ := hv8_
          refine zk_putR (pc := 86) (o := 28) (by decide) f_Units_31 rfl rfl ((hf_N3_.w hW).kr (o := 28) (by decide)) ⟨by omega, by omega⟩ rfl rfl (zdal_p dlB_Units_narrow_90 (i := 0) rfl) (fun N9_ hsN9_ hvN9_ => ?_)
          have hf_N9_ : zFc d_ [] [] [(28, 3)] [30] Mz N9_ := hf_N3_.tr hsN9_ (by decide) (by decide) (by decide) (by decide)
          have rD28_3_N9_ := ze_r N9_ (d_ + 28) 3
          refine zw_aload_n (pc := 89) (n := 0) (x := (d_ + 28)) rfl (zdal_p dlB_Units_narrow_90 (i := 1) rfl) ?_
          refine zw_getF (pc := 90) f_Units_14 rfl ((hf_N9_.w hW).kr (o := 28) (by decide)) ((hf_N9_.w hW).lr (o := 28) (s := 1) (r := 29) (by decide)) (zdal_p dlB_Units_narrow_90 (i := 2) rfl) ?_
          refine zw_iload_n (pc := 93) (n := 2) (x := Int32.ofInt u1_) rfl (zdal_p dlB_Units_narrow_90 (i := 3) rfl) ?_
          refine zw_aload_n (pc := 94) (n := 0) (x := (d_ + 28)) rfl (zdal_p dlB_Units_narrow_90 (i := 4) rfl) ?_
          refine zw_getF (pc := 95) f_Units_14 rfl ((hf_N9_.w hW).kr (o := 28) (by decide)) ((hf_N9_.w hW).lr (o := 28) (s := 1) (r := 29) (by decide)) (zdal_p dlB_Units_narrow_90 (i := 5) rfl) ?_
          refine zw_aload_n (pc := 98) (n := 0) (x := (d_ + 28)) rfl (zdal_p dlB_Units_narrow_90 (i := 6) rfl) ?_
          refine zk_getI (pc := 99) f_Units_31 rfl ((hf_N9_.w hW).kr (o := 28) (by decide)) (zdal_p dlB_Units_narrow_90 (i := 7) rfl) ?_
          have hr10_ := ze_r N9_ (d_ + 28) 3
          refine zk_atG hf_N9_.x (pc := 102) l_Units_57 ((hf_N9_.w hW).kr (o := 29) (by decide)) ((hf_N9_.w hW).lr (o := 29) (s := 0) (r := 30) (by decide)) ((hf_N9_.w hW).rr (o := 30) (t := 1) (n := 27) (by decide)) (by decide) ⟨by omega, by omega⟩ (by decide) (Nat.le_of_ble_eq_true rfl) (zdal_p dlB_Units_narrow_90 (i := 8) rfl) (fun v11_ hv11_ hv11_a hv11_b => ?_)
          clear hv11_
          refine zk_stG hf_N9_.x (pc := 105) (o := 30) (by decide) l_Units_40 ((hf_N9_.w hW).kr (o := 29) (by decide)) ((hf_N9_.w hW).lr (o := 29) (s := 0) (r := 30) (by decide)) ((hf_N9_.w hW).rr (o := 30) (t := 1) (n := 27) (by decide)) (by decide) ⟨by omega, by omega⟩ (by decide) (Nat.le_of_ble_eq_true rfl) (zdal_p dlB_Units_narrow_90 (i := 9) rfl) (fun N12_ hsN12_ => ?_)
          have hf_N12_ : zFc d_ [] [] [(28, 3)] [30] Mz N12_ := hf_N9_.tr hsN12_ (by decide) (by decide) (by decide) (by decide)
          have eD28_3_N12_ : ze N12_ (d_ + 28) 3 = ze N9_ (d_ + 28) 3 := hsN12_.e (by decide)
          exact zk_vret (pc := 108) rfl hf_N12_ trivial (zdal_p dlB_Units_narrow_90 (i := 10) rfl)
      · skip
        refine zw_aload_n (pc := 12) (n := 0) (x := (d_ + 28)) rfl (zdal_p dlB_Units_narrow_88 (i := 8) rfl) ?_
        refine zw_getF (pc := 13) f_Units_14 rfl ((hf_N3_.w hW).kr (o := 28) (by decide)) ((hf_N3_.w hW).lr (o := 28) (s := 1) (r := 29) (by decide)) (zdal_p dlB_Units_narrow_88 (i := 9) rfl) ?_
        refine zw_iload_n (pc := 16) (n := 3) (x := Int32.ofInt u2_) rfl (zdal_p dlB_Units_narrow_88 (i := 10) rfl) ?_
        refine zk_atG hf_N3_.x (pc := 17) l_Units_57 ((hf_N3_.w hW).kr (o := 29) (by decide)) ((hf_N3_.w hW).lr (o := 29) (s := 0) (r := 30) (by decide)) ((hf_N3_.w hW).rr (o := 30) (t := 1) (n := 27) (by decide)) (by decide) ⟨by omega, by omega⟩ (by decide) (Nat.le_of_ble_eq_true rfl) (zdal_p dlB_Units_narrow_88 (i := 11) rfl) (fun v13_ hv13_ hv13_a hv13_b => ?_)
        clear hv13_
        refine zw_iload_n (pc := 20) (n := 1) (x := Int32.ofInt a0_) rfl (zdal_p dlB_Units_narrow_88 (i := 12) rfl) ?_
        refine zr_iand (pc := 21) (zdal_p dlB_Units_narrow_88 (i := 13) rfl) ?_
        have hr14_ := zand_r v13_ a0_
        refine zr_nmI (fun v15_ hv15_ => ?_)
        obtain ⟨hv15_a, hv15_b⟩ := hv15_
        refine zr_callS hf_N3_.x (pc := 22) [.int (Int32.ofInt v15_)] [] l_Units_89 (u_Integer_bitCountX l d_ N3_ (hf_N3_.w hW) v15_ hv15_a hv15_b) rfl rfl (by decide) (Nat.le_of_ble_eq_true rfl) (zdal_p dlB_Units_narrow_88 (i := 14) rfl) ?_
        rintro _ N16_ ⟨v17_, rfl, ⟨hv17_a, hv17_b⟩, hsN16_, ⟨hp0_N16_, hp1_N16_⟩⟩
        obtain rfl := hsN16_.eq.symm
        show zW l m_Units_narrow (zn Mz + 0, zw Mz + 0) N3_ 25 [some (.ref (d_ + 28)), some (.int (Int32.ofInt a0_)), some (.int (Int32.ofInt u1_)), some (.int (Int32.ofInt u2_))] [.int (Int32.ofInt v17_)] _
        refine zw_iconst (pc := 25) (v := Int32.ofInt 1) (by decide) (zdal_p dlB_Units_narrow_88 (i := 15) rfl) ?_
        refine zr_iand (pc := 26) (zdal_p dlB_Units_narrow_88 (i := 16) rfl) ?_
        have hr18_ := zand_r v17_ 1
        refine zr_nmI (fun v19_ hv19_ => ?_)
        obtain ⟨hv19_a, hv19_b⟩ := hv19_
        refine zr_if_ne (pc := 27) (tgt := 33) ⟨hv19_a, hv19_b⟩ (by decide) (zdal_p dlB_Units_narrow_88 (i := 17) rfl) (fun hc_27 => ?_) (fun hc_27 => ?_)
        · skip
          refine zw_iload_n (pc := 33) (n := 2) (x := Int32.ofInt u1_) rfl (zdal_p dlB_Units_narrow_88 (i := 19) rfl) ?_
          refine zw_iconst (pc := 34) (v := Int32.ofInt (-1)) (by decide) (zdal_p dlB_Units_narrow_88 (i := 20) rfl) ?_
          refine zr_icmp_ne (pc := 35) (tgt := 43) ⟨hu1_a, hu1_b⟩ ⟨(by decide), (by decide)⟩ (by decide) (zdal_p dlB_Units_narrow_88 (i := 21) rfl) (fun hc_35 => ?_) (fun hc_35 => ?_)
          · skip
            refine zw_aload_n (pc := 43) (n := 0) (x := (d_ + 28)) rfl (zdal_p dlB_Units_narrow_89 (i := 1) rfl) ?_
            refine zw_getF (pc := 44) f_Units_14 rfl ((hf_N3_.w hW).kr (o := 28) (by decide)) ((hf_N3_.w hW).lr (o := 28) (s := 1) (r := 29) (by decide)) (zdal_p dlB_Units_narrow_89 (i := 2) rfl) ?_
            refine zw_iload_n (pc := 47) (n := 3) (x := Int32.ofInt u2_) rfl (zdal_p dlB_Units_narrow_89 (i := 3) rfl) ?_
            refine zw_aload_n (pc := 48) (n := 0) (x := (d_ + 28)) rfl (zdal_p dlB_Units_narrow_89 (i := 4) rfl) ?_
            refine zw_getF (pc := 49) f_Units_14 rfl ((hf_N3_.w hW).kr (o := 28) (by decide)) ((hf_N3_.w hW).lr (o := 28) (s := 1) (r := 29) (by decide)) (zdal_p dlB_Units_narrow_89 (i := 5) rfl) ?_
            refine zw_iload_n (pc := 52) (n := 3) (x := Int32.ofInt u2_) rfl (zdal_p dlB_Units_narrow_89 (i := 6) rfl) ?_
            refine zk_atG hf_N3_.x (pc := 53) l_Units_57 ((hf_N3_.w hW).kr (o := 29) (by decide)) ((hf_N3_.w hW).lr (o := 29) (s := 0) (r := 30) (by decide)) ((hf_N3_.w hW).rr (o := 30) (t := 1) (n := 27) (by decide)) (by decide) ⟨by omega, by omega⟩ (by decide) (Nat.le_of_ble_eq_true rfl) (zdal_p dlB_Units_narrow_89 (i := 7) rfl) (fun v20_ hv20_ hv20_a hv20_b => ?_)
            clear hv20_
            refine zw_aload_n (pc := 56) (n := 0) (x := (d_ + 28)) rfl (zdal_p dlB_Units_narrow_89 (i := 8) rfl) ?_
            refine zw_getF (pc := 57) f_Units_14 rfl ((hf_N3_.w hW).kr (o := 28) (by decide)) ((hf_N3_.w hW).lr (o := 28) (s := 1) (r := 29) (by decide)) (zdal_p dlB_Units_narrow_89 (i := 9) rfl) ?_
            refine zw_iload_n (pc := 60) (n := 2) (x := Int32.ofInt u1_) rfl (zdal_p dlB_Units_narrow_89 (i := 10) rfl) ?_
            refine zk_atG hf_N3_.x (pc := 61) l_Units_57 ((hf_N3_.w hW).kr (o := 29) (by decide)) ((hf_N3_.w hW).lr (o := 29) (s := 0) (r := 30) (by decide)) ((hf_N3_.w hW).rr (o := 30) (t := 1) (n := 27) (by decide)) (by decide) ⟨by omega, by omega⟩ (by decide) (Nat.le_of_ble_eq_true rfl) (zdal_p dlB_Units_narrow_89 (i := 11) rfl) (fun v21_ hv21_ hv21_a hv21_b => ?_)
            clear hv21_
            refine zr_ixor (pc := 64) (zdal_p dlB_Units_narrow_89 (i := 12) rfl) ?_
            have hr22_ := zxor_r v20_ v21_
            refine zr_nmI (fun v23_ hv23_ => ?_)
            obtain ⟨hv23_a, hv23_b⟩ := hv23_
            refine zk_stG hf_N3_.x (pc := 65) (o := 30) (by decide) l_Units_40 ((hf_N3_.w hW).kr (o := 29) (by decide)) ((hf_N3_.w hW).lr (o := 29) (s := 0) (r := 30) (by decide)) ((hf_N3_.w hW).rr (o := 30) (t := 1) (n := 27) (by decide)) (by decide) ⟨by omega, by omega⟩ (by decide) (Nat.le_of_ble_eq_true rfl) (zdal_p dlB_Units_narrow_89 (i := 13) rfl) (fun N24_ hsN24_ => ?_)
            have hf_N24_ : zFc d_ [] [] [(28, 3)] [30] Mz N24_ := hf_N3_.tr hsN24_ (by decide) (by decide) (by decide) (by decide)
            have hb0_N24_ : zFc d_ [] [] [] [30] Mz N24_ := hs4_.tr hsN24_ (by decide) (by decide) (by decide) (by decide)
            have eD28_3_N24_ : ze N24_ (d_ + 28) 3 = ze N3_ (d_ + 28) 3 := hsN24_.e (by decide)
            refine zr_iinc (pc := 68) (i := 3) (a := u2_) (n := 1) (L2 := [some (.ref (d_ + 28)), some (.int (Int32.ofInt a0_)), some (.int (Int32.ofInt u1_)), some (.int (Int32.ofInt (u2_ + 1)))]) rfl (by decide) rfl (zdal_p dlB_Units_narrow_89 (i := 14) rfl) ?_
            obtain ⟨v25_, hv25_a, hv25_b, hv25_e, hv25_d⟩ := zk_gen (u2_ + 1)
            rw [hv25_e]
            refine zw_goto (pc := 71) (tgt := 4) (by decide) (zdal_p dlB_Units_narrow_89 (i := 15) rfl) ?_
            exact ih_4 u1_ hu1_a hu1_b v25_ hv25_a hv25_b N24_ hb0_N24_ (show 0 ≤ v25_ by first | with_reducible assumption | assumption | omega) (show ze N24_ (d_ + 28) 3 = ze Mz (d_ + 28) 3 by first | with_reducible assumption | assumption | omega) (by omega)
          · skip
            refine zw_iload_n (pc := 38) (n := 3) (x := Int32.ofInt u2_) rfl (zdal_p dlB_Units_narrow_88 (i := 22) rfl) ?_
            refine zw_istore_n (pc := 39) (i := 2) (L2 := [some (.ref (d_ + 28)), some (.int (Int32.ofInt a0_)), some (.int (Int32.ofInt u2_)), some (.int (Int32.ofInt u2_))]) rfl (by decide) rfl (zdal_p dlB_Units_narrow_88 (i := 23) rfl) ?_
            refine zw_goto (pc := 40) (tgt := 68) (by decide) (zdal_p dlB_Units_narrow_89 (i := 0) rfl) ?_
            refine zr_iinc (pc := 68) (i := 3) (a := u2_) (n := 1) (L2 := [some (.ref (d_ + 28)), some (.int (Int32.ofInt a0_)), some (.int (Int32.ofInt u2_)), some (.int (Int32.ofInt (u2_ + 1)))]) rfl (by decide) rfl (zdal_p dlB_Units_narrow_89 (i := 14) rfl) ?_
            obtain ⟨v26_, hv26_a, hv26_b, hv26_e, hv26_d⟩ := zk_gen (u2_ + 1)
            rw [hv26_e]
            refine zw_goto (pc := 71) (tgt := 4) (by decide) (zdal_p dlB_Units_narrow_89 (i := 15) rfl) ?_
            exact ih_4 u2_ hu2_a hu2_b v26_ hv26_a hv26_b N3_ hs4_ (show 0 ≤ v26_ by first | with_reducible assumption | assumption | omega) (show ze N3_ (d_ + 28) 3 = ze Mz (d_ + 28) 3 by first | with_reducible assumption | assumption | omega) (by omega)
        · skip
          refine zw_goto (pc := 30) (tgt := 68) (by decide) (zdal_p dlB_Units_narrow_88 (i := 18) rfl) ?_
          refine zr_iinc (pc := 68) (i := 3) (a := u2_) (n := 1) (L2 := [some (.ref (d_ + 28)), some (.int (Int32.ofInt a0_)), some (.int (Int32.ofInt u1_)), some (.int (Int32.ofInt (u2_ + 1)))]) rfl (by decide) rfl (zdal_p dlB_Units_narrow_89 (i := 14) rfl) ?_
          obtain ⟨v27_, hv27_a, hv27_b, hv27_e, hv27_d⟩ := zk_gen (u2_ + 1)
          rw [hv27_e]
          refine zw_goto (pc := 71) (tgt := 4) (by decide) (zdal_p dlB_Units_narrow_89 (i := 15) rfl) ?_
          exact ih_4 u1_ hu1_a hu1_b v27_ hv27_a hv27_b N3_ hs4_ (show 0 ≤ v27_ by first | with_reducible assumption | assumption | omega) (show ze N3_ (d_ + 28) 3 = ze Mz (d_ + 28) 3 by first | with_reducible assumption | assumption | omega) (by omega)
  exact lp_4 _ ((-1)) (by decide) (by decide) 0 (by decide) (by decide) Mz zFc.rf (show 0 ≤ (0 : Int) by first | with_reducible assumption | assumption | omega) (show ze Mz (d_ + 28) 3 = ze Mz (d_ + 28) 3 by first | with_reducible assumption | assumption | omega) (Nat.lt_succ_self _)
