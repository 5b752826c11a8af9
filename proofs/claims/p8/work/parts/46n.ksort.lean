set_option maxHeartbeats 4000000 in
theorem u_Sorts_indexOf (l : Launch) (d_ : Nat) (Mz : zMem) (hW : zKW d_ Mz) (a0_ : Int) (ha0_a : -2147483648 ≤ a0_) (ha0_b : a0_ < 2147483648) (p0_ : 0 ≤ ze Mz (d_ + 12) 6) (p1_ : ze Mz (d_ + 12) 6 ≤ 35) : zC l m_Sorts_indexOf 0 0 [.ref (d_ + 12), .int (Int32.ofInt a0_)] Mz (zqcI d_ [] [] [] [] Mz (fun v N => (((v = -1 ∧ (∀ i : Nat, (i : Int) < ze Mz (d_ + 12) 6 → ze Mz (d_ + 14) i ≠ a0_)) ∨ (0 ≤ v ∧ v < ze Mz (d_ + 12) 6 ∧ ze Mz (d_ + 14) (v).toNat = a0_))))) := by
  refine zC_of (L0 := [some (.ref (d_ + 12)), some (.int (Int32.ofInt a0_)), none]) md_Sorts_indexOf (Nat.le_of_ble_eq_true rfl) rfl ?_ zQ0
  have hf : zFc d_ [] [] [] [] Mz Mz := zFc.rf
  have r_D12_6 := ze_r Mz (d_ + 12) 6
  refine zw_iconst (pc := 0) (v := Int32.ofInt 0) (by decide) d_Sorts_indexOf_0 ?_
  refine zw_istore_n (pc := 1) (i := 2) (L2 := [some (.ref (d_ + 12)), some (.int (Int32.ofInt a0_)), some (.int (Int32.ofInt 0))]) rfl (by decide) rfl d_Sorts_indexOf_1 ?_
  have lp_2 : ∀ (n : Nat) (u1_ : Int) (hu1_a : -2147483648 ≤ u1_) (hu1_b : u1_ < 2147483648) (i2_ : 0 ≤ u1_) (i3_ : ∀ i : Nat, (i : Int) < u1_ → ze Mz (d_ + 14) i ≠ a0_), (ze Mz (d_ + 12) 6 - u1_).toNat < n → zW l m_Sorts_indexOf (zn Mz + 0, zw Mz + 0) Mz 2 [some (.ref (d_ + 12)), some (.int (Int32.ofInt a0_)), some (.int (Int32.ofInt u1_))] [] (zqcI d_ [] [] [] [] Mz (fun v N => (((v = -1 ∧ (∀ i : Nat, (i : Int) < ze Mz (d_ + 12) 6 → ze Mz (d_ + 14) i ≠ a0_)) ∨ (0 ≤ v ∧ v < ze Mz (d_ + 12) 6 ∧ ze Mz (d_ + 14) (v).toNat = a0_))))) := by
    intro n
    induction n with
    | zero =>
      intro u1_ hu1_a hu1_b i2_ i3_ h0
      exact absurd h0 (Nat.not_lt_zero _)
    | succ n ih_2 =>
      intro u1_ hu1_a hu1_b i2_ i3_ hlt_2
      have hno_ := (show ∀ i : Nat, (i : Int) < u1_ → ze Mz (d_ + 14) i ≠ a0_ by assumption)
      refine zw_iload_n (pc := 2) (n := 2) (x := Int32.ofInt u1_) rfl d_Sorts_indexOf_2 ?_
      refine zw_aload_n (pc := 3) (n := 0) (x := (d_ + 12)) rfl d_Sorts_indexOf_3 ?_
      refine zk_getI (pc := 4) f_Sorts_36 rfl ((hf.w hW).kr (o := 12) (by decide)) d_Sorts_indexOf_4 ?_
      refine zr_icmp_ge (pc := 7) (tgt := 30) ⟨hu1_a, hu1_b⟩ ⟨(ze_r Mz (d_ + 12) 6).1, (ze_r Mz (d_ + 12) 6).2⟩ (by decide) d_Sorts_indexOf_7 (fun hc_7 => ?_) (fun hc_7 => ?_)
      · skip
        refine zw_iconst (pc := 30) (v := Int32.ofInt (-1)) (by decide) d_Sorts_indexOf_30 ?_
        exact zk_iret (pc := 31) (ty := .int) rfl rfl ⟨by omega, by omega⟩ hf (show ((((-1)) = -1 ∧ (∀ i : Nat, (i : Int) < ze Mz (d_ + 12) 6 → ze Mz (d_ + 14) i ≠ a0_)) ∨ (0 ≤ ((-1)) ∧ ((-1)) < ze Mz (d_ + 12) 6 ∧ ze Mz (d_ + 14) (((-1))).toNat = a0_)) from Or.inl (⟨(show ((-1)) = -1 by first | rfl | exact fun i hi => hno_ i (by omega)), (show (∀ i : Nat, (i : Int) < ze Mz (d_ + 12) 6 → ze Mz (d_ + 14) i ≠ a0_) by first | rfl | exact fun i hi => hno_ i (by omega))⟩)) d_Sorts_indexOf_31
      · skip
        refine zw_aload_n (pc := 10) (n := 0) (x := (d_ + 12)) rfl d_Sorts_indexOf_10 ?_
        refine zw_getF (pc := 11) f_Sorts_14 rfl ((hf.w hW).kr (o := 12) (by decide)) ((hf.w hW).lr (o := 12) (s := 1) (r := 13) (by decide)) d_Sorts_indexOf_11 ?_
        refine zw_iload_n (pc := 14) (n := 2) (x := Int32.ofInt u1_) rfl d_Sorts_indexOf_14 ?_
        refine zk_at hf.x (pc := 15) l_Sorts_49 ((hf.w hW).kr (o := 13) (by decide)) ((hf.w hW).lr (o := 13) (s := 0) (r := 14) (by decide)) ((hf.w hW).rr (o := 14) (t := 1) (n := 35) (by decide)) (by decide) (by omega) (by omega) (by decide) (Nat.le_of_ble_eq_true rfl) d_Sorts_indexOf_15 (fun v4_ hv4_ hv4_a hv4_b => ?_)
        have hvv_ := hv4_
        refine zw_iload_n (pc := 18) (n := 1) (x := Int32.ofInt a0_) rfl d_Sorts_indexOf_18 ?_
        refine zr_icmp_ne (pc := 19) (tgt := 24) ⟨hv4_a, hv4_b⟩ ⟨ha0_a, ha0_b⟩ (by decide) d_Sorts_indexOf_19 (fun hc_19 => ?_) (fun hc_19 => ?_)
        · skip
          refine zr_iinc (pc := 24) (i := 2) (a := u1_) (n := 1) (L2 := [some (.ref (d_ + 12)), some (.int (Int32.ofInt a0_)), some (.int (Int32.ofInt (u1_ + 1)))]) rfl (by decide) rfl d_Sorts_indexOf_24 ?_
          refine zw_goto (pc := 27) (tgt := 2) (by decide) d_Sorts_indexOf_27 ?_
          have hn2_ : ∀ i : Nat, (i : Int) < (u1_ + 1) → ze Mz (d_ + 14) i ≠ a0_ := fun i hi => by by_cases g_ : (i : Int) < (u1_ + 1) - 1; exact hno_ i (by omega); rw [show i = (((u1_ + 1)) - 1).toNat by omega]; intro q_; rw [ Int.add_sub_cancel] at q_; omega
          exact ih_2 (u1_ + 1) (by omega) (by omega) (show 0 ≤ (u1_ + 1) by first | assumption | omega) (show ∀ i : Nat, (i : Int) < (u1_ + 1) → ze Mz (d_ + 14) i ≠ a0_ by exact hn2_) (by omega)
        · skip
          refine zw_iload_n (pc := 22) (n := 2) (x := Int32.ofInt u1_) rfl d_Sorts_indexOf_22 ?_
          exact zk_iret (pc := 23) (ty := .int) rfl rfl ⟨by omega, by omega⟩ hf (show ((u1_ = -1 ∧ (∀ i : Nat, (i : Int) < ze Mz (d_ + 12) 6 → ze Mz (d_ + 14) i ≠ a0_)) ∨ (0 ≤ u1_ ∧ u1_ < ze Mz (d_ + 12) 6 ∧ ze Mz (d_ + 14) (u1_).toNat = a0_)) from Or.inr (⟨(show 0 ≤ u1_ by omega), (show u1_ < ze Mz (d_ + 12) 6 by omega), (show ze Mz (d_ + 14) (u1_).toNat = a0_ by omega)⟩)) d_Sorts_indexOf_23
  exact lp_2 _ 0 (by decide) (by decide) (show 0 ≤ (0 : Int) by first | assumption | omega) (show ∀ i : Nat, (i : Int) < (0 : Int) → ze Mz (d_ + 14) i ≠ a0_ by intro i hi; omega) (Nat.lt_succ_self _)
set_option maxHeartbeats 4000000 in
theorem u_Sorts_addSubgroup (l : Launch) (d_ : Nat) (Mz : zMem) (hW : zKW d_ Mz) (a0_ : Int) (ha0_a : -2147483648 ≤ a0_) (ha0_b : a0_ < 2147483648) (p0_ : 0 ≤ ze Mz (d_ + 12) 6) (p1_ : ze Mz (d_ + 12) 6 ≤ 35) (p2_ : (∀ i : Nat, (i : Int) < ze Mz (d_ + 12) 6 → ze Mz (d_ + 14) i ≠ a0_) → ze Mz (d_ + 12) 6 ≤ 34) : zC l m_Sorts_addSubgroup 0 0 [.ref (d_ + 12), .int (Int32.ofInt a0_)] Mz (zqcV d_ [] [] [(12, 6)] [14] Mz (fun N => ((((∃ k : Nat, (k : Int) < ze Mz (d_ + 12) 6 ∧ ze Mz (d_ + 14) k = a0_) ∧ (∀ j : Nat, zRw d_ 14 N j = zRw d_ 14 Mz j) ∧ ze N (d_ + 12) 6 = ze Mz (d_ + 12) 6) ∨ ((∀ i : Nat, (i : Int) < ze Mz (d_ + 12) 6 → ze Mz (d_ + 14) i ≠ a0_) ∧ ze N (d_ + 12) 6 = ze Mz (d_ + 12) 6 + 1 ∧ (∀ j : Nat, zRw d_ 14 N j = zst (zRw d_ 14 Mz) (ze Mz (d_ + 12) 6).toNat a0_ j)))))) := by
  refine zC_of (L0 := [some (.ref (d_ + 12)), some (.int (Int32.ofInt a0_))]) md_Sorts_addSubgroup (Nat.le_of_ble_eq_true rfl) rfl ?_ zQ0
  have hf : zFc d_ [] [] [(12, 6)] [14] Mz Mz := zFc.rf
  have r_D12_6 := ze_r Mz (d_ + 12) 6
  refine zw_aload_n (pc := 0) (n := 0) (x := (d_ + 12)) rfl d_Sorts_addSubgroup_0 ?_
  refine zw_iload_n (pc := 1) (n := 1) (x := Int32.ofInt a0_) rfl d_Sorts_addSubgroup_1 ?_
  refine zk_callV hf.x (pc := 2) [.int (Int32.ofInt a0_)] [] l_Sorts_72 (u_Sorts_indexOf l d_ Mz (hf.w hW) a0_ ha0_a ha0_b (show 0 ≤ ze Mz (d_ + 12) 6 by first | assumption | omega) (show ze Mz (d_ + 12) 6 ≤ 35 by first | assumption | omega)) rfl rfl ((hf.w hW).kr (o := 12) (by decide)) (by decide) (by decide) (Nat.le_of_ble_eq_true rfl) d_Sorts_addSubgroup_2 ?_
  rintro _ N1_ ⟨v2_, rfl, ⟨hv2_a, hv2_b⟩, hsN1_, hp0_N1_⟩
  obtain rfl := hsN1_.eq.symm
  replace hp0_N1_ : ((v2_ = -1 ∧ (∀ i : Nat, (i : Int) < ze Mz (d_ + 12) 6 → ze Mz (d_ + 14) i ≠ a0_)) ∨ (0 ≤ v2_ ∧ v2_ < ze Mz (d_ + 12) 6 ∧ ze Mz (d_ + 14) (v2_).toNat = a0_)) := hp0_N1_
  rcases hp0_N1_ with ⟨rfl, ha2_0_hp0_N1_⟩ | ⟨ha2_0_hp0_N1_, ha2_1_hp0_N1_, ha2_2_hp0_N1_⟩
  · skip
    have hno_ := ha2_0_hp0_N1_
    have h34_ := p2_ hno_
    show zW l m_Sorts_addSubgroup (zn Mz + 0, zw Mz + 0) Mz 5 [some (.ref (d_ + 12)), some (.int (Int32.ofInt a0_))] [.int (Int32.ofInt ((-1)))] (zqcV d_ [] [] [(12, 6)] [14] Mz (fun N => ((((∃ k : Nat, (k : Int) < ze Mz (d_ + 12) 6 ∧ ze Mz (d_ + 14) k = a0_) ∧ (∀ j : Nat, zRw d_ 14 N j = zRw d_ 14 Mz j) ∧ ze N (d_ + 12) 6 = ze Mz (d_ + 12) 6) ∨ ((∀ i : Nat, (i : Int) < ze Mz (d_ + 12) 6 → ze Mz (d_ + 14) i ≠ a0_) ∧ ze N (d_ + 12) 6 = ze Mz (d_ + 12) 6 + 1 ∧ (∀ j : Nat, zRw d_ 14 N j = zst (zRw d_ 14 Mz) (ze Mz (d_ + 12) 6).toNat a0_ j))))))
    refine zw_iconst (pc := 5) (v := Int32.ofInt (-1)) (by decide) d_Sorts_addSubgroup_5 ?_
    refine zr_icmp_ne (pc := 6) (tgt := 40) ⟨(by decide), (by decide)⟩ ⟨(by decide), (by decide)⟩ (by decide) d_Sorts_addSubgroup_6 (fun hc_6 => ?_) (fun hc_6 => ?_)
    · skip
      exact absurd hc_6 (by decide)
    · skip
      refine zw_aload_n (pc := 9) (n := 0) (x := (d_ + 12)) rfl d_Sorts_addSubgroup_9 ?_
      refine zk_getI (pc := 10) f_Sorts_36 rfl ((hf.w hW).kr (o := 12) (by decide)) d_Sorts_addSubgroup_10 ?_
      refine zw_bipush (pc := 13) (v := Int32.ofInt 35) (by decide) d_Sorts_addSubgroup_13 ?_
      refine zr_icmp_ge (pc := 15) (tgt := 40) ⟨(ze_r Mz (d_ + 12) 6).1, (ze_r Mz (d_ + 12) 6).2⟩ ⟨(by decide), (by decide)⟩ (by decide) d_Sorts_addSubgroup_15 (fun hc_15 => ?_) (fun hc_15 => ?_)
      · skip
        exact zk_vret (pc := 40) rfl hf (show (((∃ k : Nat, (k : Int) < ze Mz (d_ + 12) 6 ∧ ze Mz (d_ + 14) k = a0_) ∧ (∀ j : Nat, zRw d_ 14 Mz j = zRw d_ 14 Mz j) ∧ ze Mz (d_ + 12) 6 = ze Mz (d_ + 12) 6) ∨ ((∀ i : Nat, (i : Int) < ze Mz (d_ + 12) 6 → ze Mz (d_ + 14) i ≠ a0_) ∧ ze Mz (d_ + 12) 6 = ze Mz (d_ + 12) 6 + 1 ∧ (∀ j : Nat, zRw d_ 14 Mz j = zst (zRw d_ 14 Mz) (ze Mz (d_ + 12) 6).toNat a0_ j))) from Or.inr (⟨(show (∀ i : Nat, (i : Int) < ze Mz (d_ + 12) 6 → ze Mz (d_ + 14) i ≠ a0_) by first | exact hno_ | exact hw2_ | omega | (exfalso; omega)), (show ze Mz (d_ + 12) 6 = ze Mz (d_ + 12) 6 + 1 by first | exact hno_ | exact hw2_ | omega | (exfalso; omega)), (show (∀ j : Nat, zRw d_ 14 Mz j = zst (zRw d_ 14 Mz) (ze Mz (d_ + 12) 6).toNat a0_ j) by first | exact hno_ | exact hw2_ | omega | (exfalso; omega))⟩)) d_Sorts_addSubgroup_40
      · skip
        refine zw_aload_n (pc := 18) (n := 0) (x := (d_ + 12)) rfl d_Sorts_addSubgroup_18 ?_
        refine zw_getF (pc := 19) f_Sorts_14 rfl ((hf.w hW).kr (o := 12) (by decide)) ((hf.w hW).lr (o := 12) (s := 1) (r := 13) (by decide)) d_Sorts_addSubgroup_19 ?_
        refine zw_aload_n (pc := 22) (n := 0) (x := (d_ + 12)) rfl d_Sorts_addSubgroup_22 ?_
        refine zk_getI (pc := 23) f_Sorts_36 rfl ((hf.w hW).kr (o := 12) (by decide)) d_Sorts_addSubgroup_23 ?_
        refine zw_iload_n (pc := 26) (n := 1) (x := Int32.ofInt a0_) rfl d_Sorts_addSubgroup_26 ?_
        refine zk_st hf.x (pc := 27) (o := 14) (by decide) l_Sorts_40 ((hf.w hW).kr (o := 13) (by decide)) ((hf.w hW).lr (o := 13) (s := 0) (r := 14) (by decide)) ((hf.w hW).rr (o := 14) (t := 1) (n := 35) (by decide)) (by decide) (by omega) (by omega) (by decide) (Nat.le_of_ble_eq_true rfl) d_Sorts_addSubgroup_27 (fun N3_ hN3_ hsN3_ => ?_)
        have hf_N3_ : zFc d_ [] [] [(12, 6)] [14] Mz N3_ := hf.tr hsN3_ (by decide) (by decide) (by decide) (by decide)
        have eD12_6_N3_ : ze N3_ (d_ + 12) 6 = ze Mz (d_ + 12) 6 := hsN3_.e (by decide)
        have hw_ := zRw_w hN3_ ⟨by omega, by omega⟩
        refine zw_aload_n (pc := 30) (n := 0) (x := (d_ + 12)) rfl d_Sorts_addSubgroup_30 ?_
        refine zw_dup (pc := 31) rfl d_Sorts_addSubgroup_31 ?_
        refine zk_getI (pc := 32) f_Sorts_36 rfl ((hf_N3_.w hW).kr (o := 12) (by decide)) d_Sorts_addSubgroup_32 ?_
        refine zw_iconst (pc := 35) (v := Int32.ofInt 1) (by decide) d_Sorts_addSubgroup_35 ?_
        refine zr_iadd (pc := 36) d_Sorts_addSubgroup_36 ?_
        refine zk_putR (pc := 37) (o := 12) (by decide) f_Sorts_36 rfl rfl ((hf_N3_.w hW).kr (o := 12) (by decide)) ⟨by omega, by omega⟩ rfl rfl d_Sorts_addSubgroup_37 (fun N4_ hsN4_ hvN4_ => ?_)
        have hf_N4_ : zFc d_ [] [] [(12, 6)] [14] Mz N4_ := hf_N3_.tr hsN4_ (by decide) (by decide) (by decide) (by decide)
        have rD12_6_N4_ := ze_r N4_ (d_ + 12) 6
        have hw2_ := fun j : Nat => (hsN4_.r (by decide) j : zRw d_ 14 N4_ j = zRw d_ 14 N3_ j).trans (hw_ j)
        exact zk_vret (pc := 40) rfl hf_N4_ (show (((∃ k : Nat, (k : Int) < ze Mz (d_ + 12) 6 ∧ ze Mz (d_ + 14) k = a0_) ∧ (∀ j : Nat, zRw d_ 14 N4_ j = zRw d_ 14 Mz j) ∧ ze N4_ (d_ + 12) 6 = ze Mz (d_ + 12) 6) ∨ ((∀ i : Nat, (i : Int) < ze Mz (d_ + 12) 6 → ze Mz (d_ + 14) i ≠ a0_) ∧ ze N4_ (d_ + 12) 6 = ze Mz (d_ + 12) 6 + 1 ∧ (∀ j : Nat, zRw d_ 14 N4_ j = zst (zRw d_ 14 Mz) (ze Mz (d_ + 12) 6).toNat a0_ j))) from Or.inr (⟨(show (∀ i : Nat, (i : Int) < ze Mz (d_ + 12) 6 → ze Mz (d_ + 14) i ≠ a0_) by first | exact hno_ | exact hw2_ | omega | (exfalso; omega)), (show ze N4_ (d_ + 12) 6 = ze Mz (d_ + 12) 6 + 1 by first | exact hno_ | exact hw2_ | omega | (exfalso; omega)), (show (∀ j : Nat, zRw d_ 14 N4_ j = zst (zRw d_ 14 Mz) (ze Mz (d_ + 12) 6).toNat a0_ j) by first | exact hno_ | exact hw2_ | omega | (exfalso; omega))⟩)) d_Sorts_addSubgroup_40
  · skip
    have hf0_ := ha2_0_hp0_N1_
    have hf1_ := ha2_1_hp0_N1_
    have hf2_ := ha2_2_hp0_N1_
    have hex_ : ∃ k : Nat, (k : Int) < ze Mz (d_ + 12) 6 ∧ ze Mz (d_ + 14) k = a0_ := ⟨_, by omega, hf2_⟩
    show zW l m_Sorts_addSubgroup (zn Mz + 0, zw Mz + 0) Mz 5 [some (.ref (d_ + 12)), some (.int (Int32.ofInt a0_))] [.int (Int32.ofInt v2_)] (zqcV d_ [] [] [(12, 6)] [14] Mz (fun N => ((((∃ k : Nat, (k : Int) < ze Mz (d_ + 12) 6 ∧ ze Mz (d_ + 14) k = a0_) ∧ (∀ j : Nat, zRw d_ 14 N j = zRw d_ 14 Mz j) ∧ ze N (d_ + 12) 6 = ze Mz (d_ + 12) 6) ∨ ((∀ i : Nat, (i : Int) < ze Mz (d_ + 12) 6 → ze Mz (d_ + 14) i ≠ a0_) ∧ ze N (d_ + 12) 6 = ze Mz (d_ + 12) 6 + 1 ∧ (∀ j : Nat, zRw d_ 14 N j = zst (zRw d_ 14 Mz) (ze Mz (d_ + 12) 6).toNat a0_ j))))))
    refine zw_iconst (pc := 5) (v := Int32.ofInt (-1)) (by decide) d_Sorts_addSubgroup_5 ?_
    refine zr_icmp_ne (pc := 6) (tgt := 40) ⟨hv2_a, hv2_b⟩ ⟨(by decide), (by decide)⟩ (by decide) d_Sorts_addSubgroup_6 (fun hc_6 => ?_) (fun hc_6 => ?_)
    · skip
      exact zk_vret (pc := 40) rfl hf (show (((∃ k : Nat, (k : Int) < ze Mz (d_ + 12) 6 ∧ ze Mz (d_ + 14) k = a0_) ∧ (∀ j : Nat, zRw d_ 14 Mz j = zRw d_ 14 Mz j) ∧ ze Mz (d_ + 12) 6 = ze Mz (d_ + 12) 6) ∨ ((∀ i : Nat, (i : Int) < ze Mz (d_ + 12) 6 → ze Mz (d_ + 14) i ≠ a0_) ∧ ze Mz (d_ + 12) 6 = ze Mz (d_ + 12) 6 + 1 ∧ (∀ j : Nat, zRw d_ 14 Mz j = zst (zRw d_ 14 Mz) (ze Mz (d_ + 12) 6).toNat a0_ j))) from Or.inl (⟨(show (∃ k : Nat, (k : Int) < ze Mz (d_ + 12) 6 ∧ ze Mz (d_ + 14) k = a0_) by first | exact hex_ | exact fun j => rfl | omega), (show (∀ j : Nat, zRw d_ 14 Mz j = zRw d_ 14 Mz j) by first | exact hex_ | exact fun j => rfl | omega), (show ze Mz (d_ + 12) 6 = ze Mz (d_ + 12) 6 by first | exact hex_ | exact fun j => rfl | omega)⟩)) d_Sorts_addSubgroup_40
    · skip
      refine zw_aload_n (pc := 9) (n := 0) (x := (d_ + 12)) rfl d_Sorts_addSubgroup_9 ?_
      refine zk_getI (pc := 10) f_Sorts_36 rfl ((hf.w hW).kr (o := 12) (by decide)) d_Sorts_addSubgroup_10 ?_
      refine zw_bipush (pc := 13) (v := Int32.ofInt 35) (by decide) d_Sorts_addSubgroup_13 ?_
      refine zr_icmp_ge (pc := 15) (tgt := 40) ⟨(ze_r Mz (d_ + 12) 6).1, (ze_r Mz (d_ + 12) 6).2⟩ ⟨(by decide), (by decide)⟩ (by decide) d_Sorts_addSubgroup_15 (fun hc_15 => ?_) (fun hc_15 => ?_)
      · skip
        exact zk_vret (pc := 40) rfl hf (show (((∃ k : Nat, (k : Int) < ze Mz (d_ + 12) 6 ∧ ze Mz (d_ + 14) k = a0_) ∧ (∀ j : Nat, zRw d_ 14 Mz j = zRw d_ 14 Mz j) ∧ ze Mz (d_ + 12) 6 = ze Mz (d_ + 12) 6) ∨ ((∀ i : Nat, (i : Int) < ze Mz (d_ + 12) 6 → ze Mz (d_ + 14) i ≠ a0_) ∧ ze Mz (d_ + 12) 6 = ze Mz (d_ + 12) 6 + 1 ∧ (∀ j : Nat, zRw d_ 14 Mz j = zst (zRw d_ 14 Mz) (ze Mz (d_ + 12) 6).toNat a0_ j))) from Or.inl (⟨(show (∃ k : Nat, (k : Int) < ze Mz (d_ + 12) 6 ∧ ze Mz (d_ + 14) k = a0_) by first | exact hex_ | exact fun j => rfl | omega), (show (∀ j : Nat, zRw d_ 14 Mz j = zRw d_ 14 Mz j) by first | exact hex_ | exact fun j => rfl | omega), (show ze Mz (d_ + 12) 6 = ze Mz (d_ + 12) 6 by first | exact hex_ | exact fun j => rfl | omega)⟩)) d_Sorts_addSubgroup_40
      · skip
        refine zw_aload_n (pc := 18) (n := 0) (x := (d_ + 12)) rfl d_Sorts_addSubgroup_18 ?_
        refine zw_getF (pc := 19) f_Sorts_14 rfl ((hf.w hW).kr (o := 12) (by decide)) ((hf.w hW).lr (o := 12) (s := 1) (r := 13) (by decide)) d_Sorts_addSubgroup_19 ?_
        refine zw_aload_n (pc := 22) (n := 0) (x := (d_ + 12)) rfl d_Sorts_addSubgroup_22 ?_
        refine zk_getI (pc := 23) f_Sorts_36 rfl ((hf.w hW).kr (o := 12) (by decide)) d_Sorts_addSubgroup_23 ?_
        refine zw_iload_n (pc := 26) (n := 1) (x := Int32.ofInt a0_) rfl d_Sorts_addSubgroup_26 ?_
        refine zk_st hf.x (pc := 27) (o := 14) (by decide) l_Sorts_40 ((hf.w hW).kr (o := 13) (by decide)) ((hf.w hW).lr (o := 13) (s := 0) (r := 14) (by decide)) ((hf.w hW).rr (o := 14) (t := 1) (n := 35) (by decide)) (by decide) (by omega) (by omega) (by decide) (Nat.le_of_ble_eq_true rfl) d_Sorts_addSubgroup_27 (fun N5_ hN5_ hsN5_ => ?_)
        have hf_N5_ : zFc d_ [] [] [(12, 6)] [14] Mz N5_ := hf.tr hsN5_ (by decide) (by decide) (by decide) (by decide)
        have eD12_6_N5_ : ze N5_ (d_ + 12) 6 = ze Mz (d_ + 12) 6 := hsN5_.e (by decide)
        have hw_ := zRw_w hN5_ ⟨by omega, by omega⟩
        refine zw_aload_n (pc := 30) (n := 0) (x := (d_ + 12)) rfl d_Sorts_addSubgroup_30 ?_
        refine zw_dup (pc := 31) rfl d_Sorts_addSubgroup_31 ?_
        refine zk_getI (pc := 32) f_Sorts_36 rfl ((hf_N5_.w hW).kr (o := 12) (by decide)) d_Sorts_addSubgroup_32 ?_
        refine zw_iconst (pc := 35) (v := Int32.ofInt 1) (by decide) d_Sorts_addSubgroup_35 ?_
        refine zr_iadd (pc := 36) d_Sorts_addSubgroup_36 ?_
        refine zk_putR (pc := 37) (o := 12) (by decide) f_Sorts_36 rfl rfl ((hf_N5_.w hW).kr (o := 12) (by decide)) ⟨by omega, by omega⟩ rfl rfl d_Sorts_addSubgroup_37 (fun N6_ hsN6_ hvN6_ => ?_)
        have hf_N6_ : zFc d_ [] [] [(12, 6)] [14] Mz N6_ := hf_N5_.tr hsN6_ (by decide) (by decide) (by decide) (by decide)
        have rD12_6_N6_ := ze_r N6_ (d_ + 12) 6
        have hw2_ := fun j : Nat => (hsN6_.r (by decide) j : zRw d_ 14 N6_ j = zRw d_ 14 N5_ j).trans (hw_ j)
        exact zk_vret (pc := 40) rfl hf_N6_ (show (((∃ k : Nat, (k : Int) < ze Mz (d_ + 12) 6 ∧ ze Mz (d_ + 14) k = a0_) ∧ (∀ j : Nat, zRw d_ 14 N6_ j = zRw d_ 14 Mz j) ∧ ze N6_ (d_ + 12) 6 = ze Mz (d_ + 12) 6) ∨ ((∀ i : Nat, (i : Int) < ze Mz (d_ + 12) 6 → ze Mz (d_ + 14) i ≠ a0_) ∧ ze N6_ (d_ + 12) 6 = ze Mz (d_ + 12) 6 + 1 ∧ (∀ j : Nat, zRw d_ 14 N6_ j = zst (zRw d_ 14 Mz) (ze Mz (d_ + 12) 6).toNat a0_ j))) from Or.inl (⟨(show (∃ k : Nat, (k : Int) < ze Mz (d_ + 12) 6 ∧ ze Mz (d_ + 14) k = a0_) by first | exact hex_ | exact fun j => rfl | omega), (show (∀ j : Nat, zRw d_ 14 N6_ j = zRw d_ 14 Mz j) by first | exact hex_ | exact fun j => rfl | omega), (show ze N6_ (d_ + 12) 6 = ze Mz (d_ + 12) 6 by first | exact hex_ | exact fun j => rfl | omega)⟩)) d_Sorts_addSubgroup_40
set_option maxHeartbeats 4000000 in
theorem u_Sorts_isAhead (l : Launch) (d_ : Nat) (Mz : zMem) (hW : zKW d_ Mz) (a0_ : Int) (ha0_a : -2147483648 ≤ a0_) (ha0_b : a0_ < 2147483648) (a1_ : Int) (ha1_a : -2147483648 ≤ a1_) (ha1_b : a1_ < 2147483648) (p0_ : 0 ≤ a0_) (p1_ : a0_ < 16777216) (p2_ : 0 ≤ a1_) (p3_ : a1_ < 16777216) (p4_ : kbc (a0_).toNat = gcb (a0_).toNat) (p5_ : kbc (a1_).toNat = gcb (a1_).toNat) : zC l m_Sorts_isAhead 0 0 [.int (Int32.ofInt a0_), .int (Int32.ofInt a1_)] Mz (zqcI d_ [] [] [] [] Mz (fun v N => (((v = 1 ∧ zkyK a0_ < zkyK a1_) ∨ (v = 0 ∧ ¬ zkyK a0_ < zkyK a1_))))) := by
  refine zC_of (L0 := [some (.int (Int32.ofInt a0_)), some (.int (Int32.ofInt a1_)), none]) md_Sorts_isAhead (Nat.le_of_ble_eq_true rfl) rfl ?_ zQ0
  have hf : zFc d_ [] [] [] [] Mz Mz := zFc.rf
  have hky_ := zky_l (a := a0_) (b := a1_) (by omega) (by omega)
  refine zw_iload_n (pc := 0) (n := 0) (x := Int32.ofInt a0_) rfl d_Sorts_isAhead_0 ?_
  refine zr_callS hf.x (pc := 1) [.int (Int32.ofInt a0_)] [] l_Sorts_78 (u_Integer_bitCount l d_ Mz (hf.w hW) a0_ ha0_a ha0_b (show 0 ≤ a0_ by first | assumption | omega)) rfl rfl (by decide) (Nat.le_of_ble_eq_true rfl) d_Sorts_isAhead_1 ?_
  rintro _ N1_ ⟨v2_, rfl, ⟨hv2_a, hv2_b⟩, hsN1_, ⟨hp0_N1_, hp1_N1_, hp2_N1_⟩⟩
  obtain rfl := hsN1_.eq.symm
  show zW l m_Sorts_isAhead (zn Mz + 0, zw Mz + 0) Mz 4 [some (.int (Int32.ofInt a0_)), some (.int (Int32.ofInt a1_)), none] [.int (Int32.ofInt v2_)] (zqcI d_ [] [] [] [] Mz (fun v N => (((v = 1 ∧ zkyK a0_ < zkyK a1_) ∨ (v = 0 ∧ ¬ zkyK a0_ < zkyK a1_)))))
  have hb1_ := hp0_N1_
  refine zw_iload_n (pc := 4) (n := 1) (x := Int32.ofInt a1_) rfl d_Sorts_isAhead_4 ?_
  refine zr_callS hf.x (pc := 5) [.int (Int32.ofInt a1_)] [.int (Int32.ofInt v2_)] l_Sorts_78 (u_Integer_bitCount l d_ Mz (hf.w hW) a1_ ha1_a ha1_b (show 0 ≤ a1_ by first | assumption | omega)) rfl rfl (by decide) (Nat.le_of_ble_eq_true rfl) d_Sorts_isAhead_5 ?_
  rintro _ N3_ ⟨v4_, rfl, ⟨hv4_a, hv4_b⟩, hsN3_, ⟨hp0_N3_, hp1_N3_, hp2_N3_⟩⟩
  obtain rfl := hsN3_.eq.symm
  show zW l m_Sorts_isAhead (zn Mz + 0, zw Mz + 0) Mz 8 [some (.int (Int32.ofInt a0_)), some (.int (Int32.ofInt a1_)), none] [.int (Int32.ofInt v4_), .int (Int32.ofInt v2_)] (zqcI d_ [] [] [] [] Mz (fun v N => (((v = 1 ∧ zkyK a0_ < zkyK a1_) ∨ (v = 0 ∧ ¬ zkyK a0_ < zkyK a1_)))))
  have hb2_ := hp0_N3_
  refine zr_isub (pc := 8) d_Sorts_isAhead_8 ?_
  refine zw_istore_n (pc := 9) (i := 2) (L2 := [some (.int (Int32.ofInt a0_)), some (.int (Int32.ofInt a1_)), some (.int (Int32.ofInt (v2_ - v4_)))]) rfl (by decide) rfl d_Sorts_isAhead_9 ?_
  refine zw_iload_n (pc := 10) (n := 2) (x := Int32.ofInt (v2_ - v4_)) rfl d_Sorts_isAhead_10 ?_
  refine zr_if_lt (pc := 11) (tgt := 23) ⟨(by omega), (by omega)⟩ (by decide) d_Sorts_isAhead_11 (fun hc_11 => ?_) (fun hc_11 => ?_)
  · skip
    refine zw_iconst (pc := 23) (v := Int32.ofInt 1) (by decide) d_Sorts_isAhead_23 ?_
    refine zw_goto (pc := 24) (tgt := 28) (by decide) d_Sorts_isAhead_24 ?_
    exact zk_iret (pc := 28) (ty := .boolean) rfl (z_narB (by omega)) ⟨by omega, by omega⟩ hf (show ((1 = 1 ∧ zkyK a0_ < zkyK a1_) ∨ (1 = 0 ∧ ¬ zkyK a0_ < zkyK a1_)) from Or.inl (⟨(show 1 = 1 by first | exact hky_.mpr (by omega) | rfl), (show zkyK a0_ < zkyK a1_ by first | exact hky_.mpr (by omega) | rfl)⟩)) d_Sorts_isAhead_28
  · skip
    refine zw_iload_n (pc := 14) (n := 2) (x := Int32.ofInt (v2_ - v4_)) rfl d_Sorts_isAhead_14 ?_
    refine zr_if_ne (pc := 15) (tgt := 27) ⟨(by omega), (by omega)⟩ (by decide) d_Sorts_isAhead_15 (fun hc_15 => ?_) (fun hc_15 => ?_)
    · skip
      refine zw_iconst (pc := 27) (v := Int32.ofInt 0) (by decide) d_Sorts_isAhead_27 ?_
      exact zk_iret (pc := 28) (ty := .boolean) rfl (z_narB (by omega)) ⟨by omega, by omega⟩ hf (show ((0 = 1 ∧ zkyK a0_ < zkyK a1_) ∨ (0 = 0 ∧ ¬ zkyK a0_ < zkyK a1_)) from Or.inr (⟨(show 0 = 0 by first | exact fun q_ => absurd (hky_.mp q_) (by omega) | rfl), (show ¬ zkyK a0_ < zkyK a1_ by first | exact fun q_ => absurd (hky_.mp q_) (by omega) | rfl)⟩)) d_Sorts_isAhead_28
    · skip
      refine zw_iload_n (pc := 18) (n := 0) (x := Int32.ofInt a0_) rfl d_Sorts_isAhead_18 ?_
      refine zw_iload_n (pc := 19) (n := 1) (x := Int32.ofInt a1_) rfl d_Sorts_isAhead_19 ?_
      refine zr_icmp_ge (pc := 20) (tgt := 27) ⟨ha0_a, ha0_b⟩ ⟨ha1_a, ha1_b⟩ (by decide) d_Sorts_isAhead_20 (fun hc_20 => ?_) (fun hc_20 => ?_)
      · skip
        refine zw_iconst (pc := 27) (v := Int32.ofInt 0) (by decide) d_Sorts_isAhead_27 ?_
        exact zk_iret (pc := 28) (ty := .boolean) rfl (z_narB (by omega)) ⟨by omega, by omega⟩ hf (show ((0 = 1 ∧ zkyK a0_ < zkyK a1_) ∨ (0 = 0 ∧ ¬ zkyK a0_ < zkyK a1_)) from Or.inr (⟨(show 0 = 0 by first | exact fun q_ => absurd (hky_.mp q_) (by omega) | rfl), (show ¬ zkyK a0_ < zkyK a1_ by first | exact fun q_ => absurd (hky_.mp q_) (by omega) | rfl)⟩)) d_Sorts_isAhead_28
      · skip
        refine zw_iconst (pc := 23) (v := Int32.ofInt 1) (by decide) d_Sorts_isAhead_23 ?_
        refine zw_goto (pc := 24) (tgt := 28) (by decide) d_Sorts_isAhead_24 ?_
        exact zk_iret (pc := 28) (ty := .boolean) rfl (z_narB (by omega)) ⟨by omega, by omega⟩ hf (show ((1 = 1 ∧ zkyK a0_ < zkyK a1_) ∨ (1 = 0 ∧ ¬ zkyK a0_ < zkyK a1_)) from Or.inl (⟨(show 1 = 1 by first | exact hky_.mpr (by omega) | rfl), (show zkyK a0_ < zkyK a1_ by first | exact hky_.mpr (by omega) | rfl)⟩)) d_Sorts_isAhead_28
set_option maxHeartbeats 4000000 in
theorem u_Sorts_arrange (l : Launch) (d_ : Nat) (Mz : zMem) (hW : zKW d_ Mz) (p0_ : 1 ≤ ze Mz (d_ + 12) 6) (p1_ : ze Mz (d_ + 12) 6 ≤ 35) (p2_ : zSoK zkyK (zRw d_ 14 Mz) (zRw d_ 14 Mz) (ze Mz (d_ + 12) 6).toNat 1) (p3_ : (∀ k : Nat, (k : Int) < ze Mz (d_ + 12) 6 → (0 ≤ ze Mz (d_ + 14) k ∧ ze Mz (d_ + 14) k < 16777216) ∧ kbc (ze Mz (d_ + 14) k).toNat = gcb (ze Mz (d_ + 14) k).toNat)) : zC l m_Sorts_arrange 0 0 [.ref (d_ + 12)] Mz (zqcV d_ [] [] [] [14] Mz (fun N => (∃ i : Nat, (ze Mz (d_ + 12) 6).toNat ≤ i ∧ zSoK zkyK (zRw d_ 14 Mz) (zRw d_ 14 N) (ze Mz (d_ + 12) 6).toNat i))) := by
  refine zC_of (L0 := [some (.ref (d_ + 12)), none, none, none]) md_Sorts_arrange (Nat.le_of_ble_eq_true rfl) rfl ?_ zQ0
  have hf : zFc d_ [] [] [] [14] Mz Mz := zFc.rf
  have r_D12_6 := ze_r Mz (d_ + 12) 6
  refine zw_iconst (pc := 0) (v := Int32.ofInt 1) (by decide) d_Sorts_arrange_0 ?_
  refine zw_istore_n (pc := 1) (i := 1) (L2 := [some (.ref (d_ + 12)), some (.int (Int32.ofInt 1)), none, none]) rfl (by decide) rfl d_Sorts_arrange_1 ?_
  have lp_2 : ∀ (n : Nat) (u1_ : Int) (hu1_a : -2147483648 ≤ u1_) (hu1_b : u1_ < 2147483648) (N2_ : zMem) (hs3_ : zFc d_ [] [] [] [14] Mz N2_) (i4_ : 1 ≤ u1_) (i5_ : zSoK zkyK (zRw d_ 14 Mz) (zRw d_ 14 N2_) (ze Mz (d_ + 12) 6).toNat (u1_).toNat), (ze Mz (d_ + 12) 6 - u1_).toNat < n → zW l m_Sorts_arrange (zn Mz + 0, zw Mz + 0) N2_ 2 [some (.ref (d_ + 12)), some (.int (Int32.ofInt u1_)), none, none] [] (zqcV d_ [] [] [] [14] Mz (fun N => (∃ i : Nat, (ze Mz (d_ + 12) 6).toNat ≤ i ∧ zSoK zkyK (zRw d_ 14 Mz) (zRw d_ 14 N) (ze Mz (d_ + 12) 6).toNat i))) := by
    intro n
    induction n with
    | zero =>
      intro u1_ hu1_a hu1_b N2_ hs3_ i4_ i5_ h0
      exact absurd h0 (Nat.not_lt_zero _)
    | succ n ih_2 =>
      intro u1_ hu1_a hu1_b N2_ hs3_ i4_ i5_ hlt_2
      have hf_N2_ : zFc d_ [] [] [] [14] Mz N2_ := hf.tr hs3_ (by decide) (by decide) (by decide) (by decide)
      have eD12_6_N2_ : ze N2_ (d_ + 12) 6 = ze Mz (d_ + 12) 6 := hs3_.e (by decide)
      have hso_ := (show zSoK zkyK (zRw d_ 14 Mz) (zRw d_ 14 N2_) (ze Mz (d_ + 12) 6).toNat (u1_).toNat by assumption)
      refine zw_iload_n (pc := 2) (n := 1) (x := Int32.ofInt u1_) rfl d_Sorts_arrange_2 ?_
      refine zw_aload_n (pc := 3) (n := 0) (x := (d_ + 12)) rfl d_Sorts_arrange_3 ?_
      refine zk_getI (pc := 4) f_Sorts_36 rfl ((hf_N2_.w hW).kr (o := 12) (by decide)) d_Sorts_arrange_4 ?_
      rw [hf_N2_.e (by decide)]
      refine zr_icmp_ge (pc := 7) (tgt := 81) ⟨hu1_a, hu1_b⟩ ⟨(ze_r Mz (d_ + 12) 6).1, (ze_r Mz (d_ + 12) 6).2⟩ (by decide) d_Sorts_arrange_7 (fun hc_7 => ?_) (fun hc_7 => ?_)
      · skip
        exact zk_vret (pc := 81) rfl hf_N2_ (show (∃ i : Nat, (ze Mz (d_ + 12) 6).toNat ≤ i ∧ zSoK zkyK (zRw d_ 14 Mz) (zRw d_ 14 N2_) (ze Mz (d_ + 12) 6).toNat i) by exact ⟨(u1_).toNat, by omega, hso_⟩) d_Sorts_arrange_81
      · skip
        refine zw_aload_n (pc := 10) (n := 0) (x := (d_ + 12)) rfl d_Sorts_arrange_10 ?_
        refine zw_getF (pc := 11) f_Sorts_14 rfl ((hf_N2_.w hW).kr (o := 12) (by decide)) ((hf_N2_.w hW).lr (o := 12) (s := 1) (r := 13) (by decide)) d_Sorts_arrange_11 ?_
        refine zw_iload_n (pc := 14) (n := 1) (x := Int32.ofInt u1_) rfl d_Sorts_arrange_14 ?_
        refine zk_at hf_N2_.x (pc := 15) l_Sorts_49 ((hf_N2_.w hW).kr (o := 13) (by decide)) ((hf_N2_.w hW).lr (o := 13) (s := 0) (r := 14) (by decide)) ((hf_N2_.w hW).rr (o := 14) (t := 1) (n := 35) (by decide)) (by decide) (by omega) (by omega) (by decide) (Nat.le_of_ble_eq_true rfl) d_Sorts_arrange_15 (fun v6_ hv6_ hv6_a hv6_b => ?_)
        have hr1_ := hv6_
        have hsj0_ := zSj_0 hso_ (by omega : (u1_).toNat < (ze Mz (d_ + 12) 6).toNat)
        rw [show zRw d_ 14 N2_ (u1_).toNat = v6_ from hr1_.symm] at hsj0_
        refine zw_istore_n (pc := 18) (i := 2) (L2 := [some (.ref (d_ + 12)), some (.int (Int32.ofInt u1_)), some (.int (Int32.ofInt v6_)), none]) rfl (by decide) rfl d_Sorts_arrange_18 ?_
        refine zw_iload_n (pc := 19) (n := 1) (x := Int32.ofInt u1_) rfl d_Sorts_arrange_19 ?_
        refine zw_istore_n (pc := 20) (i := 3) (L2 := [some (.ref (d_ + 12)), some (.int (Int32.ofInt u1_)), some (.int (Int32.ofInt v6_)), some (.int (Int32.ofInt u1_))]) rfl (by decide) rfl d_Sorts_arrange_20 ?_
        have lp_21 : ∀ (n : Nat) (u7_ : Int) (hu7_a : -2147483648 ≤ u7_) (hu7_b : u7_ < 2147483648) (N8_ : zMem) (hs9_ : zFc d_ [] [] [] [14] N2_ N8_) (i10_ : 0 ≤ u7_) (i11_ : u7_ ≤ u1_) (i12_ : zSj zkyK (zRw d_ 14 Mz) (zRw d_ 14 N8_) (ze Mz (d_ + 12) 6).toNat (u1_).toNat (u7_).toNat v6_), (u7_).toNat < n → zW l m_Sorts_arrange (zn Mz + 0, zw Mz + 0) N8_ 21 [some (.ref (d_ + 12)), some (.int (Int32.ofInt u1_)), some (.int (Int32.ofInt v6_)), some (.int (Int32.ofInt u7_))] [] (zqcV d_ [] [] [] [14] Mz (fun N => (∃ i : Nat, (ze Mz (d_ + 12) 6).toNat ≤ i ∧ zSoK zkyK (zRw d_ 14 Mz) (zRw d_ 14 N) (ze Mz (d_ + 12) 6).toNat i))) := by
          intro n
          induction n with
          | zero =>
            intro u7_ hu7_a hu7_b N8_ hs9_ i10_ i11_ i12_ h0
            exact absurd h0 (Nat.not_lt_zero _)
          | succ n ih_21 =>
            intro u7_ hu7_a hu7_b N8_ hs9_ i10_ i11_ i12_ hlt_21
            have hf_N8_ : zFc d_ [] [] [] [14] Mz N8_ := hf_N2_.tr hs9_ (by decide) (by decide) (by decide) (by decide)
            have hb0_N8_ : zFc d_ [] [] [] [14] Mz N8_ := hs3_.tr hs9_ (by decide) (by decide) (by decide) (by decide)
            have eD12_6_N8_ : ze N8_ (d_ + 12) 6 = ze N2_ (d_ + 12) 6 := hs9_.e (by decide)
            have hsj_ := (show zSj zkyK (zRw d_ 14 Mz) (zRw d_ 14 N8_) (ze Mz (d_ + 12) 6).toNat (u1_).toNat (u7_).toNat v6_ by assumption)
            obtain ⟨k1_, hk1_, hk2_⟩ := (zSj_m hsj_).1
            have hk3_ := p3_ k1_ (by omega)
            rw [show ze Mz (d_ + 14) k1_ = v6_ from hk2_] at hk3_
            refine zw_iload_n (pc := 21) (n := 3) (x := Int32.ofInt u7_) rfl d_Sorts_arrange_21 ?_
            refine zr_if_le (pc := 22) (tgt := 66) ⟨hu7_a, hu7_b⟩ (by decide) d_Sorts_arrange_22 (fun hc_22 => ?_) (fun hc_22 => ?_)
            · skip
              have hex_ : (u7_).toNat = 0 ∨ ¬ zkyK v6_ < zkyK (zRw d_ 14 N8_ ((u7_).toNat - 1)) := by first | exact Or.inl (by omega) | exact Or.inr hna_
              refine zw_aload_n (pc := 66) (n := 0) (x := (d_ + 12)) rfl d_Sorts_arrange_66 ?_
              refine zw_getF (pc := 67) f_Sorts_14 rfl ((hf_N8_.w hW).kr (o := 12) (by decide)) ((hf_N8_.w hW).lr (o := 12) (s := 1) (r := 13) (by decide)) d_Sorts_arrange_67 ?_
              refine zw_iload_n (pc := 70) (n := 3) (x := Int32.ofInt u7_) rfl d_Sorts_arrange_70 ?_
              refine zw_iload_n (pc := 71) (n := 2) (x := Int32.ofInt v6_) rfl d_Sorts_arrange_71 ?_
              refine zk_st hf_N8_.x (pc := 72) (o := 14) (by decide) l_Sorts_40 ((hf_N8_.w hW).kr (o := 13) (by decide)) ((hf_N8_.w hW).lr (o := 13) (s := 0) (r := 14) (by decide)) ((hf_N8_.w hW).rr (o := 14) (t := 1) (n := 35) (by decide)) (by decide) (by omega) (by omega) (by decide) (Nat.le_of_ble_eq_true rfl) d_Sorts_arrange_72 (fun N13_ hN13_ hsN13_ => ?_)
              have hf_N13_ : zFc d_ [] [] [] [14] Mz N13_ := hf_N8_.tr hsN13_ (by decide) (by decide) (by decide) (by decide)
              have hb0_N13_ : zFc d_ [] [] [] [14] Mz N13_ := hb0_N8_.tr hsN13_ (by decide) (by decide) (by decide) (by decide)
              have eD12_6_N13_ : ze N13_ (d_ + 12) 6 = ze N8_ (d_ + 12) 6 := hsN13_.e (by decide)
              have hse_ := zSj_e hsj_ hex_ (zRw_w hN13_ ⟨by omega, by omega⟩)
              rw [show (u1_).toNat + 1 = (u1_ + 1).toNat by omega] at hse_
              refine zr_iinc (pc := 75) (i := 1) (a := u1_) (n := 1) (L2 := [some (.ref (d_ + 12)), some (.int (Int32.ofInt (u1_ + 1))), some (.int (Int32.ofInt v6_)), some (.int (Int32.ofInt u7_))]) rfl (by decide) rfl d_Sorts_arrange_75 ?_
              refine zw_goto (pc := 78) (tgt := 2) (by decide) d_Sorts_arrange_78 ?_
              refine zW_le [some (.ref (d_ + 12)), some (.int (Int32.ofInt (u1_ + 1))), none, none] (⟨rfl, rfl, trivial⟩) ?_
              exact ih_2 (u1_ + 1) (by omega) (by omega) N13_ hb0_N13_ (show 1 ≤ (u1_ + 1) by first | assumption | omega) (show zSoK zkyK (zRw d_ 14 Mz) (zRw d_ 14 N13_) (ze Mz (d_ + 12) 6).toNat ((u1_ + 1)).toNat by exact hse_) (by omega)
            · skip
              refine zw_iload_n (pc := 25) (n := 2) (x := Int32.ofInt v6_) rfl d_Sorts_arrange_25 ?_
              refine zw_aload_n (pc := 26) (n := 0) (x := (d_ + 12)) rfl d_Sorts_arrange_26 ?_
              refine zw_getF (pc := 27) f_Sorts_14 rfl ((hf_N8_.w hW).kr (o := 12) (by decide)) ((hf_N8_.w hW).lr (o := 12) (s := 1) (r := 13) (by decide)) d_Sorts_arrange_27 ?_
              refine zw_iload_n (pc := 30) (n := 3) (x := Int32.ofInt u7_) rfl d_Sorts_arrange_30 ?_
              refine zw_iconst (pc := 31) (v := Int32.ofInt 1) (by decide) d_Sorts_arrange_31 ?_
              refine zr_isub (pc := 32) d_Sorts_arrange_32 ?_
              refine zk_at hf_N8_.x (pc := 33) l_Sorts_49 ((hf_N8_.w hW).kr (o := 13) (by decide)) ((hf_N8_.w hW).lr (o := 13) (s := 0) (r := 14) (by decide)) ((hf_N8_.w hW).rr (o := 14) (t := 1) (n := 35) (by decide)) (by decide) (by omega) (by omega) (by decide) (Nat.le_of_ble_eq_true rfl) d_Sorts_arrange_33 (fun v14_ hv14_ hv14_a hv14_b => ?_)
              have hr2_ := hv14_
              obtain ⟨k2_, hk4_, hk5_⟩ := (zSj_m hsj_).2 (by omega)
              have hk6_ := p3_ k2_ (by omega)
              have hr4_ : zRw d_ 14 N8_ ((u7_).toNat - 1) = v14_ := by rw [hr2_, show (u7_ - 1).toNat = (u7_).toNat - 1 by omega]; rfl
              rw [show ze Mz (d_ + 14) k2_ = v14_ from hk5_.trans hr4_] at hk6_
              refine zr_callS hf_N8_.x (pc := 36) [.int (Int32.ofInt v6_), .int (Int32.ofInt v14_)] [] l_Sorts_75 (u_Sorts_isAhead l d_ N8_ (hf_N8_.w hW) v6_ hv6_a hv6_b v14_ hv14_a hv14_b (show 0 ≤ v6_ by exact hk3_.1.1) (show v6_ < 16777216 by exact hk3_.1.2) (show 0 ≤ v14_ by exact hk6_.1.1) (show v14_ < 16777216 by exact hk6_.1.2) (show kbc (v6_).toNat = gcb (v6_).toNat by exact hk3_.2) (show kbc (v14_).toNat = gcb (v14_).toNat by exact hk6_.2)) rfl rfl (by decide) (Nat.le_of_ble_eq_true rfl) d_Sorts_arrange_36 ?_
              rintro _ N15_ ⟨v16_, rfl, ⟨hv16_a, hv16_b⟩, hsN15_, hp0_N15_⟩
              obtain rfl := hsN15_.eq.symm
              replace hp0_N15_ : ((v16_ = 1 ∧ zkyK v6_ < zkyK v14_) ∨ (v16_ = 0 ∧ ¬ zkyK v6_ < zkyK v14_)) := hp0_N15_
              rcases hp0_N15_ with ⟨rfl, ha36_0_hp0_N15_⟩ | ⟨rfl, ha36_0_hp0_N15_⟩
              · skip
                have hah_ := ha36_0_hp0_N15_
                rw [← hr4_] at hah_
                show zW l m_Sorts_arrange (zn Mz + 0, zw Mz + 0) N8_ 39 [some (.ref (d_ + 12)), some (.int (Int32.ofInt u1_)), some (.int (Int32.ofInt v6_)), some (.int (Int32.ofInt u7_))] [.int (Int32.ofInt 1)] (zqcV d_ [] [] [] [14] Mz (fun N => (∃ i : Nat, (ze Mz (d_ + 12) 6).toNat ≤ i ∧ zSoK zkyK (zRw d_ 14 Mz) (zRw d_ 14 N) (ze Mz (d_ + 12) 6).toNat i)))
                refine zr_if_eq (pc := 39) (tgt := 66) ⟨(by decide), (by decide)⟩ (by decide) d_Sorts_arrange_39 (fun hc_39 => ?_) (fun hc_39 => ?_)
                · skip
                  exact absurd hc_39 (by decide)
                · skip
                  refine zw_aload_n (pc := 42) (n := 0) (x := (d_ + 12)) rfl d_Sorts_arrange_42 ?_
                  refine zw_getF (pc := 43) f_Sorts_14 rfl ((hf_N8_.w hW).kr (o := 12) (by decide)) ((hf_N8_.w hW).lr (o := 12) (s := 1) (r := 13) (by decide)) d_Sorts_arrange_43 ?_
                  refine zw_iload_n (pc := 46) (n := 3) (x := Int32.ofInt u7_) rfl d_Sorts_arrange_46 ?_
                  refine zw_aload_n (pc := 47) (n := 0) (x := (d_ + 12)) rfl d_Sorts_arrange_47 ?_
                  refine zw_getF (pc := 48) f_Sorts_14 rfl ((hf_N8_.w hW).kr (o := 12) (by decide)) ((hf_N8_.w hW).lr (o := 12) (s := 1) (r := 13) (by decide)) d_Sorts_arrange_48 ?_
                  refine zw_iload_n (pc := 51) (n := 3) (x := Int32.ofInt u7_) rfl d_Sorts_arrange_51 ?_
                  refine zw_iconst (pc := 52) (v := Int32.ofInt 1) (by decide) d_Sorts_arrange_52 ?_
                  refine zr_isub (pc := 53) d_Sorts_arrange_53 ?_
                  refine zk_at hf_N8_.x (pc := 54) l_Sorts_49 ((hf_N8_.w hW).kr (o := 13) (by decide)) ((hf_N8_.w hW).lr (o := 13) (s := 0) (r := 14) (by decide)) ((hf_N8_.w hW).rr (o := 14) (t := 1) (n := 35) (by decide)) (by decide) (by omega) (by omega) (by decide) (Nat.le_of_ble_eq_true rfl) d_Sorts_arrange_54 (fun v17_ hv17_ hv17_a hv17_b => ?_)
                  have hr3_ := hv17_
                  have hr5_ : zRw d_ 14 N8_ ((u7_).toNat - 1) = v17_ := by rw [hr3_, show (u7_ - 1).toNat = (u7_).toNat - 1 by omega]; rfl
                  refine zk_st hf_N8_.x (pc := 57) (o := 14) (by decide) l_Sorts_40 ((hf_N8_.w hW).kr (o := 13) (by decide)) ((hf_N8_.w hW).lr (o := 13) (s := 0) (r := 14) (by decide)) ((hf_N8_.w hW).rr (o := 14) (t := 1) (n := 35) (by decide)) (by decide) (by omega) (by omega) (by decide) (Nat.le_of_ble_eq_true rfl) d_Sorts_arrange_57 (fun N18_ hN18_ hsN18_ => ?_)
                  have hf_N18_ : zFc d_ [] [] [] [14] Mz N18_ := hf_N8_.tr hsN18_ (by decide) (by decide) (by decide) (by decide)
                  have hb0_N18_ : zFc d_ [] [] [] [14] Mz N18_ := hb0_N8_.tr hsN18_ (by decide) (by decide) (by decide) (by decide)
                  have hb1_N18_ : zFc d_ [] [] [] [14] N2_ N18_ := hs9_.tr hsN18_ (by decide) (by decide) (by decide) (by decide)
                  have eD12_6_N18_ : ze N18_ (d_ + 12) 6 = ze N8_ (d_ + 12) 6 := hsN18_.e (by decide)
                  have hss_ := zSj_s hsj_ (by omega) hah_ (fun j => (zRw_w hN18_ ⟨by omega, by omega⟩ j).trans (by rw [hr5_]))
                  rw [show (u7_).toNat - 1 = (u7_ + (-1)).toNat by omega] at hss_
                  refine zr_iinc (pc := 60) (i := 3) (a := u7_) (n := -1) (L2 := [some (.ref (d_ + 12)), some (.int (Int32.ofInt u1_)), some (.int (Int32.ofInt v6_)), some (.int (Int32.ofInt (u7_ + (-1))))]) rfl (by decide) rfl d_Sorts_arrange_60 ?_
                  refine zw_goto (pc := 63) (tgt := 21) (by decide) d_Sorts_arrange_63 ?_
                  exact ih_21 (u7_ + (-1)) (by omega) (by omega) N18_ hb1_N18_ (show 0 ≤ (u7_ + (-1)) by first | assumption | omega) (show (u7_ + (-1)) ≤ u1_ by first | assumption | omega) (show zSj zkyK (zRw d_ 14 Mz) (zRw d_ 14 N18_) (ze Mz (d_ + 12) 6).toNat (u1_).toNat ((u7_ + (-1))).toNat v6_ by exact hss_) (by omega)
              · skip
                have hna_ := ha36_0_hp0_N15_
                rw [← hr4_] at hna_
                show zW l m_Sorts_arrange (zn Mz + 0, zw Mz + 0) N8_ 39 [some (.ref (d_ + 12)), some (.int (Int32.ofInt u1_)), some (.int (Int32.ofInt v6_)), some (.int (Int32.ofInt u7_))] [.int (Int32.ofInt 0)] (zqcV d_ [] [] [] [14] Mz (fun N => (∃ i : Nat, (ze Mz (d_ + 12) 6).toNat ≤ i ∧ zSoK zkyK (zRw d_ 14 Mz) (zRw d_ 14 N) (ze Mz (d_ + 12) 6).toNat i)))
                refine zr_if_eq (pc := 39) (tgt := 66) ⟨(by decide), (by decide)⟩ (by decide) d_Sorts_arrange_39 (fun hc_39 => ?_) (fun hc_39 => ?_)
                · skip
                  have hex_ : (u7_).toNat = 0 ∨ ¬ zkyK v6_ < zkyK (zRw d_ 14 N8_ ((u7_).toNat - 1)) := by first | exact Or.inl (by omega) | exact Or.inr hna_
                  refine zw_aload_n (pc := 66) (n := 0) (x := (d_ + 12)) rfl d_Sorts_arrange_66 ?_
                  refine zw_getF (pc := 67) f_Sorts_14 rfl ((hf_N8_.w hW).kr (o := 12) (by decide)) ((hf_N8_.w hW).lr (o := 12) (s := 1) (r := 13) (by decide)) d_Sorts_arrange_67 ?_
                  refine zw_iload_n (pc := 70) (n := 3) (x := Int32.ofInt u7_) rfl d_Sorts_arrange_70 ?_
                  refine zw_iload_n (pc := 71) (n := 2) (x := Int32.ofInt v6_) rfl d_Sorts_arrange_71 ?_
                  refine zk_st hf_N8_.x (pc := 72) (o := 14) (by decide) l_Sorts_40 ((hf_N8_.w hW).kr (o := 13) (by decide)) ((hf_N8_.w hW).lr (o := 13) (s := 0) (r := 14) (by decide)) ((hf_N8_.w hW).rr (o := 14) (t := 1) (n := 35) (by decide)) (by decide) (by omega) (by omega) (by decide) (Nat.le_of_ble_eq_true rfl) d_Sorts_arrange_72 (fun N19_ hN19_ hsN19_ => ?_)
                  have hf_N19_ : zFc d_ [] [] [] [14] Mz N19_ := hf_N8_.tr hsN19_ (by decide) (by decide) (by decide) (by decide)
                  have hb0_N19_ : zFc d_ [] [] [] [14] Mz N19_ := hb0_N8_.tr hsN19_ (by decide) (by decide) (by decide) (by decide)
                  have eD12_6_N19_ : ze N19_ (d_ + 12) 6 = ze N8_ (d_ + 12) 6 := hsN19_.e (by decide)
                  have hse_ := zSj_e hsj_ hex_ (zRw_w hN19_ ⟨by omega, by omega⟩)
                  rw [show (u1_).toNat + 1 = (u1_ + 1).toNat by omega] at hse_
                  refine zr_iinc (pc := 75) (i := 1) (a := u1_) (n := 1) (L2 := [some (.ref (d_ + 12)), some (.int (Int32.ofInt (u1_ + 1))), some (.int (Int32.ofInt v6_)), some (.int (Int32.ofInt u7_))]) rfl (by decide) rfl d_Sorts_arrange_75 ?_
                  refine zw_goto (pc := 78) (tgt := 2) (by decide) d_Sorts_arrange_78 ?_
                  refine zW_le [some (.ref (d_ + 12)), some (.int (Int32.ofInt (u1_ + 1))), none, none] (⟨rfl, rfl, trivial⟩) ?_
                  exact ih_2 (u1_ + 1) (by omega) (by omega) N19_ hb0_N19_ (show 1 ≤ (u1_ + 1) by first | assumption | omega) (show zSoK zkyK (zRw d_ 14 Mz) (zRw d_ 14 N19_) (ze Mz (d_ + 12) 6).toNat ((u1_ + 1)).toNat by exact hse_) (by omega)
                · skip
                  exact absurd hc_39 (by decide)
        exact lp_21 _ u1_ hu1_a hu1_b N2_ zFc.rf (show 0 ≤ u1_ by first | assumption | omega) (show u1_ ≤ u1_ by first | assumption | omega) (show zSj zkyK (zRw d_ 14 Mz) (zRw d_ 14 N2_) (ze Mz (d_ + 12) 6).toNat (u1_).toNat (u1_).toNat v6_ by exact hsj0_) (Nat.lt_succ_self _)
  exact lp_2 _ 1 (by decide) (by decide) Mz zFc.rf (show 1 ≤ (1 : Int) by first | assumption | omega) (show zSoK zkyK (zRw d_ 14 Mz) (zRw d_ 14 Mz) (ze Mz (d_ + 12) 6).toNat ((1 : Int)).toNat by assumption) (Nat.lt_succ_self _)
set_option maxHeartbeats 4000000 in
theorem u_Sorts_numberSorts (l : Launch) (d_ : Nat) (Mz : zMem) (hW : zKW d_ Mz) (T_ : zGT) (hT_ : T_ ∈ gTabs) (l_ : List Nat) (Kp_ : Nat) (hol_ : gOL T_ l_ Kp_ gKL) (p0_ : zTt T_ d_ Mz) (p1_ : zLs T_ (zRw d_ 14 Mz) (ze Mz (d_ + 12) 6)) : zC l m_Sorts_numberSorts 0 0 [.ref (d_ + 12)] Mz (zqcV d_ [] [] [(12, 7)] [16, 20] Mz (fun N => zFir T_ d_ N)) := by
  refine zC_of (L0 := [some (.ref (d_ + 12)), none, none]) md_Sorts_numberSorts (Nat.le_of_ble_eq_true rfl) rfl ?_ zQ0
  have hf : zFc d_ [] [] [(12, 7)] [16, 20] Mz Mz := zFc.rf
  have r_D1_7 := ze_r Mz (d_ + 1) 7
  have r_D12_6 := ze_r Mz (d_ + 12) 6
  have r_D12_7 := ze_r Mz (d_ + 12) 7
  have hO_ := gTabs_ok T_ hT_
  have hG_ := hO_.1
  have hn24_ := hG_.2.1
  have hn1_ := hG_.1
  obtain ⟨⟨hm1_, hm35_⟩, hmm_, hms_, hmo_⟩ := id p1_
  have hsz_ := p0_.1
  refine zw_aload_n (pc := 0) (n := 0) (x := (d_ + 12)) rfl d_Sorts_numberSorts_0 ?_
  refine zw_iconst (pc := 1) (v := Int32.ofInt 0) (by decide) d_Sorts_numberSorts_1 ?_
  refine zk_putR (pc := 2) (o := 12) (by decide) f_Sorts_83 rfl rfl ((hf.w hW).kr (o := 12) (by decide)) ⟨by omega, by omega⟩ rfl rfl d_Sorts_numberSorts_2 (fun N1_ hsN1_ hvN1_ => ?_)
  have hf_N1_ : zFc d_ [] [] [(12, 7)] [16, 20] Mz N1_ := hf.tr hsN1_ (by decide) (by decide) (by decide) (by decide)
  have eD1_7_N1_ : ze N1_ (d_ + 1) 7 = ze Mz (d_ + 1) 7 := hsN1_.e (by decide)
  have eD12_6_N1_ : ze N1_ (d_ + 12) 6 = ze Mz (d_ + 12) 6 := hsN1_.e (by decide)
  have rD12_7_N1_ := ze_r N1_ (d_ + 12) 7
  have c2_ : zTt T_ d_ N1_ := zTt.fr (hf.w hW) hsN1_ p0_ (by decide)
  refine zw_iconst (pc := 5) (v := Int32.ofInt 0) (by decide) d_Sorts_numberSorts_5 ?_
  refine zw_istore_n (pc := 6) (i := 1) (L2 := [some (.ref (d_ + 12)), some (.int (Int32.ofInt 0)), none]) rfl (by decide) rfl d_Sorts_numberSorts_6 ?_
  have lp_7 : ∀ (n : Nat) (u3_ : Int) (hu3_a : -2147483648 ≤ u3_) (hu3_b : u3_ < 2147483648) (N4_ : zMem) (hs5_ : zFc d_ [] [] [] [16] N1_ N4_) (i6_ : 0 ≤ u3_) (i7_ : u3_ ≤ ze Mz (d_ + 12) 6) (i8_ : ze N4_ (d_ + 12) 7 = 0) (i9_ : ∀ i : Nat, (i : Int) < u3_ → zRw d_ 16 N4_ i = -1), (ze Mz (d_ + 12) 6 - u3_).toNat < n → zW l m_Sorts_numberSorts (zn Mz + 0, zw Mz + 0) N4_ 7 [some (.ref (d_ + 12)), some (.int (Int32.ofInt u3_)), none] [] (zqcV d_ [] [] [(12, 7)] [16, 20] Mz (fun N => zFir T_ d_ N)) := by
    intro n
    induction n with
    | zero =>
      intro u3_ hu3_a hu3_b N4_ hs5_ i6_ i7_ i8_ i9_ h0
      exact absurd h0 (Nat.not_lt_zero _)
    | succ n ih_7 =>
      intro u3_ hu3_a hu3_b N4_ hs5_ i6_ i7_ i8_ i9_ hlt_7
      have hf_N4_ : zFc d_ [] [] [(12, 7)] [16, 20] Mz N4_ := hf_N1_.tr hs5_ (by decide) (by decide) (by decide) (by decide)
      have eD1_7_N4_ : ze N4_ (d_ + 1) 7 = ze N1_ (d_ + 1) 7 := hs5_.e (by decide)
      have eD12_6_N4_ : ze N4_ (d_ + 12) 6 = ze N1_ (d_ + 12) 6 := hs5_.e (by decide)
      have eD12_7_N4_ : ze N4_ (d_ + 12) 7 = ze N1_ (d_ + 12) 7 := hs5_.e (by decide)
      have c10_ : zTt T_ d_ N4_ := zTt.fr (hf_N1_.w hW) hs5_ c2_ (by decide)
      have hqi_ := (show ∀ i : Nat, (i : Int) < u3_ → zRw d_ 16 N4_ i = -1 by assumption)
      refine zw_iload_n (pc := 7) (n := 1) (x := Int32.ofInt u3_) rfl d_Sorts_numberSorts_7 ?_
      refine zw_aload_n (pc := 8) (n := 0) (x := (d_ + 12)) rfl d_Sorts_numberSorts_8 ?_
      refine zk_getI (pc := 9) f_Sorts_36 rfl ((hf_N4_.w hW).kr (o := 12) (by decide)) d_Sorts_numberSorts_9 ?_
      rw [hf_N4_.e (by decide)]
      refine zr_icmp_ge (pc := 12) (tgt := 30) ⟨hu3_a, hu3_b⟩ ⟨(ze_r Mz (d_ + 12) 6).1, (ze_r Mz (d_ + 12) 6).2⟩ (by decide) d_Sorts_numberSorts_12 (fun hc_12 => ?_) (fun hc_12 => ?_)
      · skip
        have hnu0_ : zNu T_ (zRw d_ 14 Mz) (ze Mz (d_ + 12) 6) (zRw d_ 16 N4_) (zRw d_ 20 N4_) (ze N4_ (d_ + 12) 7) 0 0 := by rw [show ze N4_ (d_ + 12) 7 = 0 by omega]; exact zNu_0 (fun i hi => hqi_ i (by omega))
        refine zw_iconst (pc := 30) (v := Int32.ofInt 0) (by decide) d_Sorts_numberSorts_30 ?_
        refine zw_istore_n (pc := 31) (i := 1) (L2 := [some (.ref (d_ + 12)), some (.int (Int32.ofInt 0)), none]) rfl (by decide) rfl d_Sorts_numberSorts_31 ?_
        have lp_32 : ∀ (n : Nat) (u11_ : Int) (hu11_a : -2147483648 ≤ u11_) (hu11_b : u11_ < 2147483648) (N12_ : zMem) (hs13_ : zFc d_ [] [] [(12, 7)] [16, 20] N4_ N12_) (i14_ : 0 ≤ u11_) (i15_ : zNu T_ (zRw d_ 14 Mz) (ze Mz (d_ + 12) 6) (zRw d_ 16 N12_) (zRw d_ 20 N12_) (ze N12_ (d_ + 12) 7) u11_ 0), (ze Mz (d_ + 12) 6 - u11_).toNat < n → zW l m_Sorts_numberSorts (zn Mz + 0, zw Mz + 0) N12_ 32 [some (.ref (d_ + 12)), some (.int (Int32.ofInt u11_)), none] [] (zqcV d_ [] [] [(12, 7)] [16, 20] Mz (fun N => zFir T_ d_ N)) := by
          intro n
          induction n with
          | zero =>
            intro u11_ hu11_a hu11_b N12_ hs13_ i14_ i15_ h0
            exact absurd h0 (Nat.not_lt_zero _)
          | succ n ih_32 =>
            intro u11_ hu11_a hu11_b N12_ hs13_ i14_ i15_ hlt_32
            have hf_N12_ : zFc d_ [] [] [(12, 7)] [16, 20] Mz N12_ := hf_N4_.tr hs13_ (by decide) (by decide) (by decide) (by decide)
            have eD1_7_N12_ : ze N12_ (d_ + 1) 7 = ze N4_ (d_ + 1) 7 := hs13_.e (by decide)
            have eD12_6_N12_ : ze N12_ (d_ + 12) 6 = ze N4_ (d_ + 12) 6 := hs13_.e (by decide)
            have rD12_7_N12_ := ze_r N12_ (d_ + 12) 7
            have c16_ : zTt T_ d_ N12_ := zTt.fr (hf_N4_.w hW) hs13_ c10_ (by decide)
            have hnu_ := (show zNu T_ (zRw d_ 14 Mz) (ze Mz (d_ + 12) 6) (zRw d_ 16 N12_) (zRw d_ 20 N12_) (ze N12_ (d_ + 12) 7) u11_ 0 by assumption)
            have hc0_ := hnu_.2.1
            refine zw_iload_n (pc := 32) (n := 1) (x := Int32.ofInt u11_) rfl d_Sorts_numberSorts_32 ?_
            refine zw_aload_n (pc := 33) (n := 0) (x := (d_ + 12)) rfl d_Sorts_numberSorts_33 ?_
            refine zk_getI (pc := 34) f_Sorts_36 rfl ((hf_N12_.w hW).kr (o := 12) (by decide)) d_Sorts_numberSorts_34 ?_
            rw [hf_N12_.e (by decide)]
            refine zr_icmp_ge (pc := 37) (tgt := 149) ⟨hu11_a, hu11_b⟩ ⟨(ze_r Mz (d_ + 12) 6).1, (ze_r Mz (d_ + 12) 6).2⟩ (by decide) d_Sorts_numberSorts_37 (fun hc_37 => ?_) (fun hc_37 => ?_)
            · skip
              exact zk_vret (pc := 149) rfl hf_N12_ (show zFir T_ d_ N12_ by obtain ⟨e1_, e2_⟩ := zNu_e hO_ p1_ hnu_ (by omega); exact ⟨e1_, e2_⟩) d_Sorts_numberSorts_149
            · skip
              refine zw_aload_n (pc := 40) (n := 0) (x := (d_ + 12)) rfl d_Sorts_numberSorts_40 ?_
              refine zw_getF (pc := 41) f_Sorts_20 rfl ((hf_N12_.w hW).kr (o := 12) (by decide)) ((hf_N12_.w hW).lr (o := 12) (s := 2) (r := 15) (by decide)) d_Sorts_numberSorts_41 ?_
              refine zw_iload_n (pc := 44) (n := 1) (x := Int32.ofInt u11_) rfl d_Sorts_numberSorts_44 ?_
              refine zk_at hf_N12_.x (pc := 45) l_Sorts_49 ((hf_N12_.w hW).kr (o := 15) (by decide)) ((hf_N12_.w hW).lr (o := 15) (s := 0) (r := 16) (by decide)) ((hf_N12_.w hW).rr (o := 16) (t := 1) (n := 35) (by decide)) (by decide) (by omega) (by omega) (by decide) (Nat.le_of_ble_eq_true rfl) d_Sorts_numberSorts_45 (fun v17_ hv17_ hv17_a hv17_b => ?_)
              have hv1_ := hv17_
              have hnt_ := zNu_t hO_ p1_ hol_ hnu_ (by omega)
              rw [show zRw d_ 16 N12_ (u11_).toNat = v17_ from hv1_.symm] at hnt_
              refine zw_iconst (pc := 48) (v := Int32.ofInt (-1)) (by decide) d_Sorts_numberSorts_48 ?_
              refine zr_icmp_ne (pc := 49) (tgt := 143) ⟨hv17_a, hv17_b⟩ ⟨(by decide), (by decide)⟩ (by decide) d_Sorts_numberSorts_49 (fun hc_49 => ?_) (fun hc_49 => ?_)
              · skip
                refine zr_iinc (pc := 143) (i := 1) (a := u11_) (n := 1) (L2 := [some (.ref (d_ + 12)), some (.int (Int32.ofInt (u11_ + 1))), none]) rfl (by decide) rfl d_Sorts_numberSorts_143 ?_
                refine zw_goto (pc := 146) (tgt := 32) (by decide) d_Sorts_numberSorts_146 ?_
                exact ih_32 (u11_ + 1) (by omega) (by omega) N12_ hs13_ (show 0 ≤ (u11_ + 1) by first | assumption | omega) (show zNu T_ (zRw d_ 14 Mz) (ze Mz (d_ + 12) 6) (zRw d_ 16 N12_) (zRw d_ 20 N12_) (ze N12_ (d_ + 12) 7) (u11_ + 1) 0 by first | exact hnz_ | exact zNu_n p1_ hnu_ (by omega) (fun q_ => absurd (hnt_.mpr q_) (by omega))) (by omega)
              · skip
                have hgF_ := hnt_.mp (by omega)
                have hr26_ := zNu_r p1_ hol_ hnu_ (by omega) hgF_
                have hfk_ := hmm_ (u11_).toNat (by omega)
                have hfb_ := gS_b hO_ hfk_.2
                refine zw_aload_n (pc := 52) (n := 0) (x := (d_ + 12)) rfl d_Sorts_numberSorts_52 ?_
                refine zk_getI (pc := 53) f_Sorts_83 rfl ((hf_N12_.w hW).kr (o := 12) (by decide)) d_Sorts_numberSorts_53 ?_
                refine zw_bipush (pc := 56) (v := Int32.ofInt 27) (by decide) d_Sorts_numberSorts_56 ?_
                refine zr_icmp_lt (pc := 58) (tgt := 64) ⟨(ze_r N12_ (d_ + 12) 7).1, (ze_r N12_ (d_ + 12) 7).2⟩ ⟨(by decide), (by decide)⟩ (by decide) d_Sorts_numberSorts_58 (fun hc_58 => ?_) (fun hc_58 => ?_)
                · skip
                  refine zw_aload_n (pc := 64) (n := 0) (x := (d_ + 12)) rfl d_Sorts_numberSorts_64 ?_
                  refine zw_getF (pc := 65) f_Sorts_26 rfl ((hf_N12_.w hW).kr (o := 12) (by decide)) ((hf_N12_.w hW).lr (o := 12) (s := 4) (r := 19) (by decide)) d_Sorts_numberSorts_65 ?_
                  refine zw_aload_n (pc := 68) (n := 0) (x := (d_ + 12)) rfl d_Sorts_numberSorts_68 ?_
                  refine zk_getI (pc := 69) f_Sorts_83 rfl ((hf_N12_.w hW).kr (o := 12) (by decide)) d_Sorts_numberSorts_69 ?_
                  refine zw_aload_n (pc := 72) (n := 0) (x := (d_ + 12)) rfl d_Sorts_numberSorts_72 ?_
                  refine zw_getF (pc := 73) f_Sorts_14 rfl ((hf_N12_.w hW).kr (o := 12) (by decide)) ((hf_N12_.w hW).lr (o := 12) (s := 1) (r := 13) (by decide)) d_Sorts_numberSorts_73 ?_
                  refine zw_iload_n (pc := 76) (n := 1) (x := Int32.ofInt u11_) rfl d_Sorts_numberSorts_76 ?_
                  refine zk_at hf_N12_.x (pc := 77) l_Sorts_49 ((hf_N12_.w hW).kr (o := 13) (by decide)) ((hf_N12_.w hW).lr (o := 13) (s := 0) (r := 14) (by decide)) ((hf_N12_.w hW).rr (o := 14) (t := 1) (n := 35) (by decide)) (by decide) (by omega) (by omega) (by decide) (Nat.le_of_ble_eq_true rfl) d_Sorts_numberSorts_77 (fun v18_ hv18_ hv18_a hv18_b => ?_)
                  rw [hf_N12_.r (by decide)] at hv18_
                  have hv2_ := hv18_
                  refine zk_st hf_N12_.x (pc := 80) (o := 20) (by decide) l_Sorts_40 ((hf_N12_.w hW).kr (o := 19) (by decide)) ((hf_N12_.w hW).lr (o := 19) (s := 0) (r := 20) (by decide)) ((hf_N12_.w hW).rr (o := 20) (t := 1) (n := 27) (by decide)) (by decide) (by omega) (by omega) (by decide) (Nat.le_of_ble_eq_true rfl) d_Sorts_numberSorts_80 (fun N19_ hN19_ hsN19_ => ?_)
                  have hf_N19_ : zFc d_ [] [] [(12, 7)] [16, 20] Mz N19_ := hf_N12_.tr hsN19_ (by decide) (by decide) (by decide) (by decide)
                  have hb0_N19_ : zFc d_ [] [] [(12, 7)] [16, 20] N4_ N19_ := hs13_.tr hsN19_ (by decide) (by decide) (by decide) (by decide)
                  have eD1_7_N19_ : ze N19_ (d_ + 1) 7 = ze N12_ (d_ + 1) 7 := hsN19_.e (by decide)
                  have eD12_6_N19_ : ze N19_ (d_ + 12) 6 = ze N12_ (d_ + 12) 6 := hsN19_.e (by decide)
                  have eD12_7_N19_ : ze N19_ (d_ + 12) 7 = ze N12_ (d_ + 12) 7 := hsN19_.e (by decide)
                  have c20_ : zTt T_ d_ N19_ := zTt.fr (hf_N12_.w hW) hsN19_ c16_ (by decide)
                  have hw2_ := zRw_w hN19_ ⟨by omega, by omega⟩
                  have hnf_ := zNu_w (fi' := zRw d_ 20 N19_) hnu_ (fun i hi => by rw [hw2_, zst_o (by omega)])
                  have hff_ : zRw d_ 20 N19_ (ze N19_ (d_ + 12) 7).toNat = zRw d_ 14 Mz (u11_).toNat := by rw [hw2_, show (ze N19_ (d_ + 12) 7).toNat = (ze N12_ (d_ + 12) 7).toNat by omega, zst_t]; exact hv2_
                  have he7_ : ze N19_ (d_ + 12) 7 = ze N12_ (d_ + 12) 7 := by omega
                  rw [← he7_] at hnf_
                  have hq16_ : zRw d_ 16 N12_ = zRw d_ 16 N19_ := funext fun j => (hsN19_.r (by decide) j).symm
                  rw [hq16_] at hnf_
                  refine zw_iconst (pc := 83) (v := Int32.ofInt 0) (by decide) d_Sorts_numberSorts_83 ?_
                  refine zw_istore_n (pc := 84) (i := 2) (L2 := [some (.ref (d_ + 12)), some (.int (Int32.ofInt u11_)), some (.int (Int32.ofInt 0))]) rfl (by decide) rfl d_Sorts_numberSorts_84 ?_
                  have lp_85 : ∀ (n : Nat) (u21_ : Int) (hu21_a : -2147483648 ≤ u21_) (hu21_b : u21_ < 2147483648) (N22_ : zMem) (hs23_ : zFc d_ [] [] [] [16] N19_ N22_) (i24_ : 0 ≤ u21_) (i25_ : zNu T_ (zRw d_ 14 Mz) (ze Mz (d_ + 12) 6) (zRw d_ 16 N22_) (zRw d_ 20 N22_) (ze N22_ (d_ + 12) 7) u11_ u21_) (i26_ : zRw d_ 20 N22_ (ze N22_ (d_ + 12) 7).toNat = zRw d_ 14 Mz (u11_).toNat) (i27_ : 0 ≤ ze N22_ (d_ + 12) 7) (i28_ : ze N22_ (d_ + 12) 7 ≤ 26), (gN T_ - u21_).toNat < n → zW l m_Sorts_numberSorts (zn Mz + 0, zw Mz + 0) N22_ 85 [some (.ref (d_ + 12)), some (.int (Int32.ofInt u11_)), some (.int (Int32.ofInt u21_))] [] (zqcV d_ [] [] [(12, 7)] [16, 20] Mz (fun N => zFir T_ d_ N)) := by
                    intro n
                    induction n with
                    | zero =>
                      intro u21_ hu21_a hu21_b N22_ hs23_ i24_ i25_ i26_ i27_ i28_ h0
                      exact absurd h0 (Nat.not_lt_zero _)
                    | succ n ih_85 =>
                      intro u21_ hu21_a hu21_b N22_ hs23_ i24_ i25_ i26_ i27_ i28_ hlt_85
                      have hf_N22_ : zFc d_ [] [] [(12, 7)] [16, 20] Mz N22_ := hf_N19_.tr hs23_ (by decide) (by decide) (by decide) (by decide)
                      have hb0_N22_ : zFc d_ [] [] [(12, 7)] [16, 20] N4_ N22_ := hb0_N19_.tr hs23_ (by decide) (by decide) (by decide) (by decide)
                      have eD1_7_N22_ : ze N22_ (d_ + 1) 7 = ze N19_ (d_ + 1) 7 := hs23_.e (by decide)
                      have eD12_6_N22_ : ze N22_ (d_ + 12) 6 = ze N19_ (d_ + 12) 6 := hs23_.e (by decide)
                      have eD12_7_N22_ : ze N22_ (d_ + 12) 7 = ze N19_ (d_ + 12) 7 := hs23_.e (by decide)
                      have c29_ : zTt T_ d_ N22_ := zTt.fr (hf_N19_.w hW) hs23_ c20_ (by decide)
                      have hnw_ := (show zNu T_ (zRw d_ 14 Mz) (ze Mz (d_ + 12) 6) (zRw d_ 16 N22_) (zRw d_ 20 N22_) (ze N22_ (d_ + 12) 7) u11_ u21_ by assumption)
                      have hft_ := (show zRw d_ 20 N22_ (ze N22_ (d_ + 12) 7).toNat = zRw d_ 14 Mz (u11_).toNat by assumption)
                      refine zw_iload_n (pc := 85) (n := 2) (x := Int32.ofInt u21_) rfl d_Sorts_numberSorts_85 ?_
                      refine zw_aload_n (pc := 86) (n := 0) (x := (d_ + 12)) rfl d_Sorts_numberSorts_86 ?_
                      refine zw_getF (pc := 87) f_Sorts_32 rfl ((hf_N22_.w hW).kr (o := 12) (by decide)) ((hf_N22_.w hW).lr (o := 12) (s := 0) (r := 1) (by decide)) d_Sorts_numberSorts_87 ?_
                      refine zk_getI (pc := 90) f_Sorts_44 rfl ((hf_N22_.w hW).kr (o := 1) (by decide)) d_Sorts_numberSorts_90 ?_
                      rw [hf_N22_.e (by decide)]
                      refine zr_icmp_ge (pc := 93) (tgt := 133) ⟨hu21_a, hu21_b⟩ ⟨(ze_r Mz (d_ + 1) 7).1, (ze_r Mz (d_ + 1) 7).2⟩ (by decide) d_Sorts_numberSorts_93 (fun hc_93 => ?_) (fun hc_93 => ?_)
                      · skip
                        refine zw_aload_n (pc := 133) (n := 0) (x := (d_ + 12)) rfl d_Sorts_numberSorts_133 ?_
                        refine zw_dup (pc := 134) rfl d_Sorts_numberSorts_134 ?_
                        refine zk_getI (pc := 135) f_Sorts_83 rfl ((hf_N22_.w hW).kr (o := 12) (by decide)) d_Sorts_numberSorts_135 ?_
                        refine zw_iconst (pc := 138) (v := Int32.ofInt 1) (by decide) d_Sorts_numberSorts_138 ?_
                        refine zr_iadd (pc := 139) d_Sorts_numberSorts_139 ?_
                        refine zk_putR (pc := 140) (o := 12) (by decide) f_Sorts_83 rfl rfl ((hf_N22_.w hW).kr (o := 12) (by decide)) ⟨by omega, by omega⟩ rfl rfl d_Sorts_numberSorts_140 (fun N30_ hsN30_ hvN30_ => ?_)
                        have hf_N30_ : zFc d_ [] [] [(12, 7)] [16, 20] Mz N30_ := hf_N22_.tr hsN30_ (by decide) (by decide) (by decide) (by decide)
                        have hb0_N30_ : zFc d_ [] [] [(12, 7)] [16, 20] N4_ N30_ := hb0_N22_.tr hsN30_ (by decide) (by decide) (by decide) (by decide)
                        have eD1_7_N30_ : ze N30_ (d_ + 1) 7 = ze N22_ (d_ + 1) 7 := hsN30_.e (by decide)
                        have eD12_6_N30_ : ze N30_ (d_ + 12) 6 = ze N22_ (d_ + 12) 6 := hsN30_.e (by decide)
                        have rD12_7_N30_ := ze_r N30_ (d_ + 12) 7
                        have c31_ : zTt T_ d_ N30_ := zTt.fr (hf_N22_.w hW) hsN30_ c29_ (by decide)
                        have hnz_ := zNu_f p1_ hnw_ (by omega) (by omega) hgF_ hft_
                        have hq1_ : zRw d_ 16 N22_ = zRw d_ 16 N30_ := funext fun j => (hsN30_.r (by decide) j).symm
                        have hq2_ : zRw d_ 20 N22_ = zRw d_ 20 N30_ := funext fun j => (hsN30_.r (by decide) j).symm
                        rw [hq1_, hq2_, show ze N22_ (d_ + 12) 7 + 1 = ze N30_ (d_ + 12) 7 by omega] at hnz_
                        refine zr_iinc (pc := 143) (i := 1) (a := u11_) (n := 1) (L2 := [some (.ref (d_ + 12)), some (.int (Int32.ofInt (u11_ + 1))), some (.int (Int32.ofInt u21_))]) rfl (by decide) rfl d_Sorts_numberSorts_143 ?_
                        refine zw_goto (pc := 146) (tgt := 32) (by decide) d_Sorts_numberSorts_146 ?_
                        refine zW_le [some (.ref (d_ + 12)), some (.int (Int32.ofInt (u11_ + 1))), none] (⟨rfl, rfl, trivial⟩) ?_
                        exact ih_32 (u11_ + 1) (by omega) (by omega) N30_ hb0_N30_ (show 0 ≤ (u11_ + 1) by first | assumption | omega) (show zNu T_ (zRw d_ 14 Mz) (ze Mz (d_ + 12) 6) (zRw d_ 16 N30_) (zRw d_ 20 N30_) (ze N30_ (d_ + 12) 7) (u11_ + 1) 0 by first | exact hnz_ | exact zNu_n p1_ hnu_ (by omega) (fun q_ => absurd (hnt_.mpr q_) (by omega))) (by omega)
                      · skip
                        refine zw_aload_n (pc := 96) (n := 0) (x := (d_ + 12)) rfl d_Sorts_numberSorts_96 ?_
                        refine zw_getF (pc := 97) f_Sorts_20 rfl ((hf_N22_.w hW).kr (o := 12) (by decide)) ((hf_N22_.w hW).lr (o := 12) (s := 2) (r := 15) (by decide)) d_Sorts_numberSorts_97 ?_
                        refine zw_aload_n (pc := 100) (n := 0) (x := (d_ + 12)) rfl d_Sorts_numberSorts_100 ?_
                        refine zw_aload_n (pc := 101) (n := 0) (x := (d_ + 12)) rfl d_Sorts_numberSorts_101 ?_
                        refine zw_getF (pc := 102) f_Sorts_32 rfl ((hf_N22_.w hW).kr (o := 12) (by decide)) ((hf_N22_.w hW).lr (o := 12) (s := 0) (r := 1) (by decide)) d_Sorts_numberSorts_102 ?_
                        refine zw_aload_n (pc := 105) (n := 0) (x := (d_ + 12)) rfl d_Sorts_numberSorts_105 ?_
                        refine zw_getF (pc := 106) f_Sorts_14 rfl ((hf_N22_.w hW).kr (o := 12) (by decide)) ((hf_N22_.w hW).lr (o := 12) (s := 1) (r := 13) (by decide)) d_Sorts_numberSorts_106 ?_
                        refine zw_iload_n (pc := 109) (n := 1) (x := Int32.ofInt u11_) rfl d_Sorts_numberSorts_109 ?_
                        refine zk_at hf_N22_.x (pc := 110) l_Sorts_49 ((hf_N22_.w hW).kr (o := 13) (by decide)) ((hf_N22_.w hW).lr (o := 13) (s := 0) (r := 14) (by decide)) ((hf_N22_.w hW).rr (o := 14) (t := 1) (n := 35) (by decide)) (by decide) (by omega) (by omega) (by decide) (Nat.le_of_ble_eq_true rfl) d_Sorts_numberSorts_110 (fun v32_ hv32_ hv32_a hv32_b => ?_)
                        rw [hf_N22_.r (by decide)] at hv32_
                        have hv3_ := hv32_
                        have hv4_ : v32_ = zRw d_ 14 Mz (u11_).toNat := hv3_
                        refine zw_iload_n (pc := 113) (n := 2) (x := Int32.ofInt u21_) rfl d_Sorts_numberSorts_113 ?_
                        refine zk_callV hf_N22_.x (pc := 114) [.int (Int32.ofInt v32_), .int (Int32.ofInt u21_)] [.ref (d_ + 12), .ref (d_ + 15)] l_Sorts_86 (u_Group_turnAll l d_ N22_ (hf_N22_.w hW) v32_ hv32_a hv32_b u21_ hu21_a hu21_b T_ hT_ c29_ (show 0 ≤ v32_ by rw [hv4_]; exact hfk_.1) (show (v32_).toNat < 2 ^ gN T_ by rw [hv4_]; exact hfb_.1) (show 0 ≤ u21_ by first | assumption | omega) (show u21_ < gN T_ by first | assumption | omega)) rfl rfl ((hf_N22_.w hW).kr (o := 1) (by decide)) (by decide) (by decide) (Nat.le_of_ble_eq_true rfl) d_Sorts_numberSorts_114 ?_
                        rintro _ N33_ ⟨v34_, rfl, ⟨hv34_a, hv34_b⟩, hsN33_, ⟨hp0_N33_, hp1_N33_, hp2_N33_⟩⟩
                        obtain rfl := hsN33_.eq.symm
                        show zW l m_Sorts_numberSorts (zn Mz + 0, zw Mz + 0) N22_ 117 [some (.ref (d_ + 12)), some (.int (Int32.ofInt u11_)), some (.int (Int32.ofInt u21_))] [.int (Int32.ofInt v34_), .ref (d_ + 12), .ref (d_ + 15)] (zqcV d_ [] [] [(12, 7)] [16, 20] Mz (fun N => zFir T_ d_ N))
                        have ht1_ := hp0_N33_
                        rw [hv4_] at ht1_
                        have ho4_ := hol_.2.2.2.1 _ hgF_ (u21_).toNat (by omega)
                        refine zk_callV hf_N22_.x (pc := 117) [.int (Int32.ofInt v34_)] [.ref (d_ + 15)] l_Sorts_72 (u_Sorts_indexOf l d_ N22_ (hf_N22_.w hW) v34_ hv34_a hv34_b (show 0 ≤ ze N22_ (d_ + 12) 6 by first | assumption | omega) (show ze N22_ (d_ + 12) 6 ≤ 35 by first | assumption | omega)) rfl rfl ((hf_N22_.w hW).kr (o := 12) (by decide)) (by decide) (by decide) (Nat.le_of_ble_eq_true rfl) d_Sorts_numberSorts_117 ?_
                        rintro _ N35_ ⟨v36_, rfl, ⟨hv36_a, hv36_b⟩, hsN35_, hp0_N35_⟩
                        obtain rfl := hsN35_.eq.symm
                        replace hp0_N35_ : ((v36_ = -1 ∧ (∀ i : Nat, (i : Int) < ze N22_ (d_ + 12) 6 → ze N22_ (d_ + 14) i ≠ v34_)) ∨ (0 ≤ v36_ ∧ v36_ < ze N22_ (d_ + 12) 6 ∧ ze N22_ (d_ + 14) (v36_).toNat = v34_)) := hp0_N35_
                        rcases hp0_N35_ with ⟨rfl, ha117_0_hp0_N35_⟩ | ⟨ha117_0_hp0_N35_, ha117_1_hp0_N35_, ha117_2_hp0_N35_⟩
                        · skip
                          have hr14_ := fun j : Nat => hf_N22_.r (o := 14) (by decide) j
                          exact absurd ho4_.1 (fun q_ => by obtain ⟨j_, hj1_, hj2_⟩ := hms_ _ q_; have hj3_ := (hmm_ j_ hj1_).1; exact ha117_0_hp0_N35_ j_ (by omega) (by rw [hr14_, ht1_, ← hj2_]; show ze Mz (d_ + 14) j_ = (((ze Mz (d_ + 14) j_).toNat : Nat) : Int); have hj4_ : 0 ≤ ze Mz (d_ + 14) j_ := hj3_; omega))
                        · skip
                          have hr14_ := fun j : Nat => hf_N22_.r (o := 14) (by decide) j
                          have hx0_ := ha117_0_hp0_N35_
                          have hx1_ : v36_ < ze Mz (d_ + 12) 6 := by omega
                          have hx2_ := ha117_2_hp0_N35_
                          rw [hr14_] at hx2_
                          show zW l m_Sorts_numberSorts (zn Mz + 0, zw Mz + 0) N22_ 120 [some (.ref (d_ + 12)), some (.int (Int32.ofInt u11_)), some (.int (Int32.ofInt u21_))] [.int (Int32.ofInt v36_), .ref (d_ + 15)] (zqcV d_ [] [] [(12, 7)] [16, 20] Mz (fun N => zFir T_ d_ N))
                          refine zw_aload_n (pc := 120) (n := 0) (x := (d_ + 12)) rfl d_Sorts_numberSorts_120 ?_
                          refine zk_getI (pc := 121) f_Sorts_83 rfl ((hf_N22_.w hW).kr (o := 12) (by decide)) d_Sorts_numberSorts_121 ?_
                          refine zk_st hf_N22_.x (pc := 124) (o := 16) (by decide) l_Sorts_40 ((hf_N22_.w hW).kr (o := 15) (by decide)) ((hf_N22_.w hW).lr (o := 15) (s := 0) (r := 16) (by decide)) ((hf_N22_.w hW).rr (o := 16) (t := 1) (n := 35) (by decide)) (by decide) (by omega) (by omega) (by decide) (Nat.le_of_ble_eq_true rfl) d_Sorts_numberSorts_124 (fun N37_ hN37_ hsN37_ => ?_)
                          have hf_N37_ : zFc d_ [] [] [(12, 7)] [16, 20] Mz N37_ := hf_N22_.tr hsN37_ (by decide) (by decide) (by decide) (by decide)
                          have hb0_N37_ : zFc d_ [] [] [(12, 7)] [16, 20] N4_ N37_ := hb0_N22_.tr hsN37_ (by decide) (by decide) (by decide) (by decide)
                          have hb1_N37_ : zFc d_ [] [] [] [16] N19_ N37_ := hs23_.tr hsN37_ (by decide) (by decide) (by decide) (by decide)
                          have eD1_7_N37_ : ze N37_ (d_ + 1) 7 = ze N22_ (d_ + 1) 7 := hsN37_.e (by decide)
                          have eD12_6_N37_ : ze N37_ (d_ + 12) 6 = ze N22_ (d_ + 12) 6 := hsN37_.e (by decide)
                          have eD12_7_N37_ : ze N37_ (d_ + 12) 7 = ze N22_ (d_ + 12) 7 := hsN37_.e (by decide)
                          have c38_ : zTt T_ d_ N37_ := zTt.fr (hf_N22_.w hW) hsN37_ c29_ (by decide)
                          have hw3_ := zRw_w hN37_ ⟨by omega, by omega⟩
                          have hng_ := zNu_g hn24_ p1_ hnw_ (by omega) (by omega) hgF_ (by omega) hx0_ hx1_ (show (ze Mz (d_ + 14) _).toNat = _ by rw [hx2_, ht1_, Int.toNat_natCast]) hw3_
                          have he8_ : ze N37_ (d_ + 12) 7 = ze N22_ (d_ + 12) 7 := by omega
                          have hq20_ : zRw d_ 20 N22_ = zRw d_ 20 N37_ := funext fun j => (hsN37_.r (by decide) j).symm
                          rw [← he8_, hq20_] at hng_
                          rw [← he8_, hq20_] at hft_
                          refine zr_iinc (pc := 127) (i := 2) (a := u21_) (n := 1) (L2 := [some (.ref (d_ + 12)), some (.int (Int32.ofInt u11_)), some (.int (Int32.ofInt (u21_ + 1)))]) rfl (by decide) rfl d_Sorts_numberSorts_127 ?_
                          refine zw_goto (pc := 130) (tgt := 85) (by decide) d_Sorts_numberSorts_130 ?_
                          exact ih_85 (u21_ + 1) (by omega) (by omega) N37_ hb1_N37_ (show 0 ≤ (u21_ + 1) by first | assumption | omega) (show zNu T_ (zRw d_ 14 Mz) (ze Mz (d_ + 12) 6) (zRw d_ 16 N37_) (zRw d_ 20 N37_) (ze N37_ (d_ + 12) 7) u11_ (u21_ + 1) by exact hng_) (show zRw d_ 20 N37_ (ze N37_ (d_ + 12) 7).toNat = zRw d_ 14 Mz (u11_).toNat by exact hft_) (show 0 ≤ ze N37_ (d_ + 12) 7 by first | assumption | omega) (show ze N37_ (d_ + 12) 7 ≤ 26 by first | assumption | omega) (by omega)
                  exact lp_85 _ 0 (by decide) (by decide) N19_ zFc.rf (show 0 ≤ (0 : Int) by first | assumption | omega) (show zNu T_ (zRw d_ 14 Mz) (ze Mz (d_ + 12) 6) (zRw d_ 16 N19_) (zRw d_ 20 N19_) (ze N19_ (d_ + 12) 7) u11_ (0 : Int) by exact hnf_) (show zRw d_ 20 N19_ (ze N19_ (d_ + 12) 7).toNat = zRw d_ 14 Mz (u11_).toNat by exact hff_) (show 0 ≤ ze N19_ (d_ + 12) 7 by first | assumption | omega) (show ze N19_ (d_ + 12) 7 ≤ 26 by first | assumption | omega) (Nat.lt_succ_self _)
                · skip
                  exfalso; have hr26_ := zNu_r p1_ hol_ hnu_ (by omega) hgF_; omega
        exact lp_32 _ 0 (by decide) (by decide) N4_ zFc.rf (show 0 ≤ (0 : Int) by first | assumption | omega) (show zNu T_ (zRw d_ 14 Mz) (ze Mz (d_ + 12) 6) (zRw d_ 16 N4_) (zRw d_ 20 N4_) (ze N4_ (d_ + 12) 7) (0 : Int) 0 by exact hnu0_) (Nat.lt_succ_self _)
      · skip
        refine zw_aload_n (pc := 15) (n := 0) (x := (d_ + 12)) rfl d_Sorts_numberSorts_15 ?_
        refine zw_getF (pc := 16) f_Sorts_20 rfl ((hf_N4_.w hW).kr (o := 12) (by decide)) ((hf_N4_.w hW).lr (o := 12) (s := 2) (r := 15) (by decide)) d_Sorts_numberSorts_16 ?_
        refine zw_iload_n (pc := 19) (n := 1) (x := Int32.ofInt u3_) rfl d_Sorts_numberSorts_19 ?_
        refine zw_iconst (pc := 20) (v := Int32.ofInt (-1)) (by decide) d_Sorts_numberSorts_20 ?_
        refine zk_st hf_N4_.x (pc := 21) (o := 16) (by decide) l_Sorts_40 ((hf_N4_.w hW).kr (o := 15) (by decide)) ((hf_N4_.w hW).lr (o := 15) (s := 0) (r := 16) (by decide)) ((hf_N4_.w hW).rr (o := 16) (t := 1) (n := 35) (by decide)) (by decide) (by omega) (by omega) (by decide) (Nat.le_of_ble_eq_true rfl) d_Sorts_numberSorts_21 (fun N39_ hN39_ hsN39_ => ?_)
        have hf_N39_ : zFc d_ [] [] [(12, 7)] [16, 20] Mz N39_ := hf_N4_.tr hsN39_ (by decide) (by decide) (by decide) (by decide)
        have hb0_N39_ : zFc d_ [] [] [] [16] N1_ N39_ := hs5_.tr hsN39_ (by decide) (by decide) (by decide) (by decide)
        have eD1_7_N39_ : ze N39_ (d_ + 1) 7 = ze N4_ (d_ + 1) 7 := hsN39_.e (by decide)
        have eD12_6_N39_ : ze N39_ (d_ + 12) 6 = ze N4_ (d_ + 12) 6 := hsN39_.e (by decide)
        have eD12_7_N39_ : ze N39_ (d_ + 12) 7 = ze N4_ (d_ + 12) 7 := hsN39_.e (by decide)
        have c40_ : zTt T_ d_ N39_ := zTt.fr (hf_N4_.w hW) hsN39_ c10_ (by decide)
        have hw1_ := zRw_w hN39_ ⟨by omega, by omega⟩
        have hqj_ : ∀ i : Nat, (i : Int) < u3_ + 1 → zRw d_ 16 N39_ i = -1 := fun i hi => by rw [hw1_]; by_cases g_ : i = (u3_).toNat; rw [g_, zst_t]; rw [zst_o g_]; exact hqi_ i (by omega)
        refine zr_iinc (pc := 24) (i := 1) (a := u3_) (n := 1) (L2 := [some (.ref (d_ + 12)), some (.int (Int32.ofInt (u3_ + 1))), none]) rfl (by decide) rfl d_Sorts_numberSorts_24 ?_
        refine zw_goto (pc := 27) (tgt := 7) (by decide) d_Sorts_numberSorts_27 ?_
        exact ih_7 (u3_ + 1) (by omega) (by omega) N39_ hb0_N39_ (show 0 ≤ (u3_ + 1) by first | assumption | omega) (show (u3_ + 1) ≤ ze Mz (d_ + 12) 6 by first | assumption | omega) (show ze N39_ (d_ + 12) 7 = 0 by first | assumption | omega) (show ∀ i : Nat, (i : Int) < (u3_ + 1) → zRw d_ 16 N39_ i = -1 by exact hqj_) (by omega)
  exact lp_7 _ 0 (by decide) (by decide) N1_ zFc.rf (show 0 ≤ (0 : Int) by first | assumption | omega) (show (0 : Int) ≤ ze Mz (d_ + 12) 6 by first | assumption | omega) (show ze N1_ (d_ + 12) 7 = 0 by first | assumption | omega) (show ∀ i : Nat, (i : Int) < (0 : Int) → zRw d_ 16 N1_ i = -1 by intro i hi; omega) (Nat.lt_succ_self _)
