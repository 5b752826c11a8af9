/-! more of the base, 3 -/
set_option maxHeartbeats 4000000 in
theorem u_T_cosetX (l : Launch) (d_ : Nat) (Mz : zMem) (hW : zKW d_ Mz) (hnow : zf Mz 0 2 = some (d_ + 0)) (a0_ : Int) (ha0_a : -2147483648 ≤ a0_) (ha0_b : a0_ < 2147483648) (a1_ : Int) (ha1_a : -2147483648 ≤ a1_) (ha1_b : a1_ < 2147483648) : zC l m_T_coset 0 0 [.ref 0, .int (Int32.ofInt a0_), .int (Int32.ofInt a1_)] Mz (zqcI d_ [] [] [] [] Mz (fun v N => True)) := by
  refine zC_of (L0 := [some (.ref 0), some (.int (Int32.ofInt a0_)), some (.int (Int32.ofInt a1_))]) md_T_coset (Nat.le_of_ble_eq_true rfl) rfl ?_ zQ0
  have hf : zFc d_ [] [] [] [] Mz Mz := zFc.rf
  refine zw_aload_n (pc := 0) (n := 0) (x := 0) rfl d_T_coset_0 ?_
  refine zw_getF (pc := 1) f_T_28 rfl ((hf.w hW).ka (o := 0) (by decide)) (hf.now hnow) d_T_coset_1 ?_
  refine zw_getF (pc := 4) f_T_85 rfl ((hf.w hW).kr (o := 0) (by decide)) ((hf.w hW).lr (o := 0) (s := 1) (r := 12) (by decide)) d_T_coset_4 ?_
  refine zw_iload_n (pc := 7) (n := 1) (x := Int32.ofInt a0_) rfl d_T_coset_7 ?_
  refine zk_callV hf.x (pc := 8) [.int (Int32.ofInt a0_)] [] l_T_143 (u_Sorts_hasSortX l d_ Mz (hf.w hW) a0_ ha0_a ha0_b) rfl rfl ((hf.w hW).kr (o := 12) (by decide)) (by decide) (by decide) (Nat.le_of_ble_eq_true rfl) d_T_coset_8 ?_
  rintro _ N1_ ⟨v2_, rfl, ⟨hv2_a, hv2_b⟩, hsN1_, hp0_N1_⟩
  obtain rfl := hsN1_.eq.symm
  replace hp0_N1_ : (v2_ = 0 ∨ v2_ = 1) := hp0_N1_
  show zW l m_T_coset (zn Mz + 0, zw Mz + 0) Mz 11 [some (.ref 0), some (.int (Int32.ofInt a0_)), some (.int (Int32.ofInt a1_))] [.int (Int32.ofInt v2_)] (zqcI d_ [] [] [] [] Mz (fun v N => True))
  refine zr_if_eq (pc := 11) (tgt := 28) ⟨hv2_a, hv2_b⟩ (by decide) d_T_coset_11 (fun hc_11 => ?_) (fun hc_11 => ?_)
  · skip
    refine zw_iconst (pc := 28) (v := Int32.ofInt (-1)) (by decide) d_T_coset_28 ?_
    exact zk_iret (pc := 29) (ty := .int) rfl rfl ⟨by omega, by omega⟩ hf trivial d_T_coset_29
  · skip
    refine zw_aload_n (pc := 14) (n := 0) (x := 0) rfl d_T_coset_14 ?_
    refine zw_getF (pc := 15) f_T_28 rfl ((hf.w hW).ka (o := 0) (by decide)) (hf.now hnow) d_T_coset_15 ?_
    refine zw_getF (pc := 18) f_T_61 rfl ((hf.w hW).kr (o := 0) (by decide)) ((hf.w hW).lr (o := 0) (s := 0) (r := 1) (by decide)) d_T_coset_18 ?_
    refine zw_iload_n (pc := 21) (n := 2) (x := Int32.ofInt a1_) rfl d_T_coset_21 ?_
    refine zk_callV hf.x (pc := 22) [.int (Int32.ofInt a1_)] [] l_T_108 (u_Group_hasMemberX l d_ Mz (hf.w hW) a1_ ha1_a ha1_b) rfl rfl ((hf.w hW).kr (o := 1) (by decide)) (by decide) (by decide) (Nat.le_of_ble_eq_true rfl) d_T_coset_22 ?_
    rintro _ N3_ ⟨v4_, rfl, ⟨hv4_a, hv4_b⟩, hsN3_, hp0_N3_⟩
    obtain rfl := hsN3_.eq.symm
    replace hp0_N3_ : (v4_ = 0 ∨ v4_ = 1) := hp0_N3_
    show zW l m_T_coset (zn Mz + 0, zw Mz + 0) Mz 25 [some (.ref 0), some (.int (Int32.ofInt a0_)), some (.int (Int32.ofInt a1_))] [.int (Int32.ofInt v4_)] (zqcI d_ [] [] [] [] Mz (fun v N => True))
    refine zr_if_ne (pc := 25) (tgt := 30) ⟨hv4_a, hv4_b⟩ (by decide) d_T_coset_25 (fun hc_25 => ?_) (fun hc_25 => ?_)
    · skip
      refine zw_aload_n (pc := 30) (n := 0) (x := 0) rfl d_T_coset_30 ?_
      refine zw_getF (pc := 31) f_T_28 rfl ((hf.w hW).ka (o := 0) (by decide)) (hf.now hnow) d_T_coset_31 ?_
      refine zw_getF (pc := 34) f_T_61 rfl ((hf.w hW).kr (o := 0) (by decide)) ((hf.w hW).lr (o := 0) (s := 0) (r := 1) (by decide)) d_T_coset_34 ?_
      refine zw_aload_n (pc := 37) (n := 0) (x := 0) rfl d_T_coset_37 ?_
      refine zw_getF (pc := 38) f_T_28 rfl ((hf.w hW).ka (o := 0) (by decide)) (hf.now hnow) d_T_coset_38 ?_
      refine zw_getF (pc := 41) f_T_85 rfl ((hf.w hW).kr (o := 0) (by decide)) ((hf.w hW).lr (o := 0) (s := 1) (r := 12) (by decide)) d_T_coset_41 ?_
      refine zw_getF (pc := 44) f_T_146 rfl ((hf.w hW).kr (o := 12) (by decide)) ((hf.w hW).lr (o := 12) (s := 4) (r := 19) (by decide)) d_T_coset_44 ?_
      refine zw_iload_n (pc := 47) (n := 1) (x := Int32.ofInt a0_) rfl d_T_coset_47 ?_
      refine zk_atG hf.x (pc := 48) l_T_118 ((hf.w hW).kr (o := 19) (by decide)) ((hf.w hW).lr (o := 19) (s := 0) (r := 20) (by decide)) ((hf.w hW).rr (o := 20) (t := 1) (n := 27) (by decide)) (by decide) ⟨by omega, by omega⟩ (by decide) (Nat.le_of_ble_eq_true rfl) d_T_coset_48 (fun v5_ hv5_ hv5_a hv5_b => ?_)
      clear hv5_
      refine zw_iload_n (pc := 51) (n := 2) (x := Int32.ofInt a1_) rfl d_T_coset_51 ?_
      refine zk_callV hf.x (pc := 52) [.int (Int32.ofInt v5_), .int (Int32.ofInt a1_)] [] l_T_198 (u_Group_leastOfCosetX l d_ Mz (hf.w hW) v5_ hv5_a hv5_b a1_ ha1_a ha1_b) rfl rfl ((hf.w hW).kr (o := 1) (by decide)) (by decide) (by decide) (Nat.le_of_ble_eq_true rfl) d_T_coset_52 ?_
      rintro _ N6_ ⟨v7_, rfl, ⟨hv7_a, hv7_b⟩, hsN6_, -⟩
      obtain rfl := hsN6_.eq.symm
      show zW l m_T_coset (zn Mz + 0, zw Mz + 0) Mz 55 [some (.ref 0), some (.int (Int32.ofInt a0_)), some (.int (Int32.ofInt a1_))] [.int (Int32.ofInt v7_)] (zqcI d_ [] [] [] [] Mz (fun v N => True))
      exact zk_iret (pc := 55) (ty := .int) rfl rfl ⟨by omega, by omega⟩ hf trivial d_T_coset_55
    · skip
      refine zw_iconst (pc := 28) (v := Int32.ofInt (-1)) (by decide) d_T_coset_28 ?_
      exact zk_iret (pc := 29) (ty := .int) rfl rfl ⟨by omega, by omega⟩ hf trivial d_T_coset_29
