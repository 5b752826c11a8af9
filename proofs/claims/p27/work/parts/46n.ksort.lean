set_option maxHeartbeats 4000000 in
theorem u_Sorts_indexOf (l : Launch) (d_ : Nat) (Mz : zMem) (hW : zKW d_ Mz) (a0_ : Int) (ha0_a : -2147483648 ≤ a0_) (ha0_b : a0_ < 2147483648) (p0_ : 0 ≤ ze Mz (d_ + 12) 6) (p1_ : ze Mz (d_ + 12) 6 ≤ 35) : zC l m_Sorts_indexOf 0 0 [.ref (d_ + 12), .int (Int32.ofInt a0_)] Mz (zqcI d_ [] [] [] [] Mz (fun v N => (((v = -1 ∧ (∀ i : Nat, (i : Int) < ze Mz (d_ + 12) 6 → ze Mz (d_ + 14) i ≠ a0_)) ∨ (0 ≤ v ∧ v < ze Mz (d_ + 12) 6 ∧ ze Mz (d_ + 14) (v).toNat = a0_))))) := by
  refine zC_of (L0 := [some (.ref (d_ + 12)), some (.int (Int32.ofInt a0_)), none]) md_Sorts_indexOf (Nat.le_of_ble_eq_true rfl) rfl ?_ zQ0
  have hf : zFc d_ [] [] [] [] Mz Mz := zFc.rf
  have r_D12_6 := ze_r Mz (d_ + 12) 6
  refine zw_iconst (pc := 0) (v := Int32.ofInt 0) (by decide) (zdal_p dlA_Sorts_indexOf_41 (i := 0) rfl) ?_
  refine zw_istore_n (pc := 1) (i := 2) (L2 := [some (.ref (d_ + 12)), some (.int (Int32.ofInt a0_)), some (.int (Int32.ofInt 0))]) rfl (by decide) rfl (zdal_p dlA_Sorts_indexOf_41 (i := 1) rfl) ?_
  have lp_2 : ∀ (n : Nat) (u1_ : Int) (hu1_a : -2147483648 ≤ u1_) (hu1_b : u1_ < 2147483648) (i2_ : 0 ≤ u1_) (i3_ : ∀ i : Nat, (i : Int) < u1_ → ze Mz (d_ + 14) i ≠ a0_), (ze Mz (d_ + 12) 6 - u1_).toNat < n → zW l m_Sorts_indexOf (zn Mz + 0, zw Mz + 0) Mz 2 [some (.ref (d_ + 12)), some (.int (Int32.ofInt a0_)), some (.int (Int32.ofInt u1_))] [] (zqcI d_ [] [] [] [] Mz (fun v N => (((v = -1 ∧ (∀ i : Nat, (i : Int) < ze Mz (d_ + 12) 6 → ze Mz (d_ + 14) i ≠ a0_)) ∨ (0 ≤ v ∧ v < ze Mz (d_ + 12) 6 ∧ ze Mz (d_ + 14) (v).toNat = a0_))))) := by
    intro n
    induction n with
    | zero =>
      intro u1_ hu1_a hu1_b i2_ i3_ h0
      exact absurd h0 (Nat.not_lt_zero _)
    | succ n ih_2 =>
      intro u1_ hu1_a hu1_b i2_ i3_ hlt_2
      have hno_ := (show ∀ i : Nat, (i : Int) < u1_ → ze Mz (d_ + 14) i ≠ a0_ by assumption)
      refine zw_iload_n (pc := 2) (n := 2) (x := Int32.ofInt u1_) rfl (zdal_p dlA_Sorts_indexOf_41 (i := 2) rfl) ?_
      refine zw_aload_n (pc := 3) (n := 0) (x := (d_ + 12)) rfl (zdal_p dlA_Sorts_indexOf_41 (i := 3) rfl) ?_
      refine zk_getI (pc := 4) f_Sorts_36 rfl ((hf.w hW).kr (o := 12) (by decide)) (zdal_p dlA_Sorts_indexOf_41 (i := 4) rfl) ?_
      refine zr_icmp_ge (pc := 7) (tgt := 30) ⟨hu1_a, hu1_b⟩ ⟨(ze_r Mz (d_ + 12) 6).1, (ze_r Mz (d_ + 12) 6).2⟩ (by decide) (zdal_p dlA_Sorts_indexOf_41 (i := 5) rfl) (fun hc_7 => ?_) (fun hc_7 => ?_)
      · skip
        refine zw_iconst (pc := 30) (v := Int32.ofInt (-1)) (by decide) (zdal_p dlA_Sorts_indexOf_41 (i := 16) rfl) ?_
        exact zk_iret (pc := 31) (ty := .int) rfl rfl ⟨by omega, by omega⟩ hf (show ((((-1)) = -1 ∧ (∀ i : Nat, (i : Int) < ze Mz (d_ + 12) 6 → ze Mz (d_ + 14) i ≠ a0_)) ∨ (0 ≤ ((-1)) ∧ ((-1)) < ze Mz (d_ + 12) 6 ∧ ze Mz (d_ + 14) (((-1))).toNat = a0_)) from Or.inl (⟨(show ((-1)) = -1 by first | rfl | exact fun i hi => hno_ i (by omega)), (show (∀ i : Nat, (i : Int) < ze Mz (d_ + 12) 6 → ze Mz (d_ + 14) i ≠ a0_) by first | rfl | exact fun i hi => hno_ i (by omega))⟩)) (zdal_p dlA_Sorts_indexOf_41 (i := 17) rfl)
      · skip
        refine zw_aload_n (pc := 10) (n := 0) (x := (d_ + 12)) rfl (zdal_p dlA_Sorts_indexOf_41 (i := 6) rfl) ?_
        refine zw_getF (pc := 11) f_Sorts_14 rfl ((hf.w hW).kr (o := 12) (by decide)) ((hf.w hW).lr (o := 12) (s := 1) (r := 13) (by decide)) (zdal_p dlA_Sorts_indexOf_41 (i := 7) rfl) ?_
        refine zw_iload_n (pc := 14) (n := 2) (x := Int32.ofInt u1_) rfl (zdal_p dlA_Sorts_indexOf_41 (i := 8) rfl) ?_
        refine zk_at hf.x (pc := 15) l_Sorts_49 ((hf.w hW).kr (o := 13) (by decide)) ((hf.w hW).lr (o := 13) (s := 0) (r := 14) (by decide)) ((hf.w hW).rr (o := 14) (t := 1) (n := 35) (by decide)) (by decide) (by omega) (by omega) (by decide) (Nat.le_of_ble_eq_true rfl) (zdal_p dlA_Sorts_indexOf_41 (i := 9) rfl) (fun v4_ hv4_ hv4_a hv4_b => ?_)
        have hvv_ := hv4_
        refine zw_iload_n (pc := 18) (n := 1) (x := Int32.ofInt a0_) rfl (zdal_p dlA_Sorts_indexOf_41 (i := 10) rfl) ?_
        refine zr_icmp_ne (pc := 19) (tgt := 24) ⟨hv4_a, hv4_b⟩ ⟨ha0_a, ha0_b⟩ (by decide) (zdal_p dlA_Sorts_indexOf_41 (i := 11) rfl) (fun hc_19 => ?_) (fun hc_19 => ?_)
        · skip
          refine zr_iinc (pc := 24) (i := 2) (a := u1_) (n := 1) (L2 := [some (.ref (d_ + 12)), some (.int (Int32.ofInt a0_)), some (.int (Int32.ofInt (u1_ + 1)))]) rfl (by decide) rfl (zdal_p dlA_Sorts_indexOf_41 (i := 14) rfl) ?_
          refine zw_goto (pc := 27) (tgt := 2) (by decide) (zdal_p dlA_Sorts_indexOf_41 (i := 15) rfl) ?_
          have hn2_ : ∀ i : Nat, (i : Int) < (u1_ + 1) → ze Mz (d_ + 14) i ≠ a0_ := fun i hi => by by_cases g_ : (i : Int) < (u1_ + 1) - 1; exact hno_ i (by omega); rw [show i = (((u1_ + 1)) - 1).toNat by omega]; intro q_; rw [ Int.add_sub_cancel] at q_; omega
          exact ih_2 (u1_ + 1) (by omega) (by omega) (show 0 ≤ (u1_ + 1) by first | assumption | omega) (show ∀ i : Nat, (i : Int) < (u1_ + 1) → ze Mz (d_ + 14) i ≠ a0_ by exact hn2_) (by omega)
        · skip
          refine zw_iload_n (pc := 22) (n := 2) (x := Int32.ofInt u1_) rfl (zdal_p dlA_Sorts_indexOf_41 (i := 12) rfl) ?_
          exact zk_iret (pc := 23) (ty := .int) rfl rfl ⟨by omega, by omega⟩ hf (show ((u1_ = -1 ∧ (∀ i : Nat, (i : Int) < ze Mz (d_ + 12) 6 → ze Mz (d_ + 14) i ≠ a0_)) ∨ (0 ≤ u1_ ∧ u1_ < ze Mz (d_ + 12) 6 ∧ ze Mz (d_ + 14) (u1_).toNat = a0_)) from Or.inr (⟨(show 0 ≤ u1_ by omega), (show u1_ < ze Mz (d_ + 12) 6 by omega), (show ze Mz (d_ + 14) (u1_).toNat = a0_ by omega)⟩)) (zdal_p dlA_Sorts_indexOf_41 (i := 13) rfl)
  exact lp_2 _ 0 (by decide) (by decide) (show 0 ≤ (0 : Int) by first | assumption | omega) (show ∀ i : Nat, (i : Int) < (0 : Int) → ze Mz (d_ + 14) i ≠ a0_ by intro i hi; omega) (Nat.lt_succ_self _)
set_option maxHeartbeats 4000000 in
theorem u_Sorts_addSubgroup (l : Launch) (d_ : Nat) (Mz : zMem) (hW : zKW d_ Mz) (a0_ : Int) (ha0_a : -2147483648 ≤ a0_) (ha0_b : a0_ < 2147483648) (p0_ : 0 ≤ ze Mz (d_ + 12) 6) (p1_ : ze Mz (d_ + 12) 6 ≤ 35) (p2_ : (∀ i : Nat, (i : Int) < ze Mz (d_ + 12) 6 → ze Mz (d_ + 14) i ≠ a0_) → ze Mz (d_ + 12) 6 ≤ 34) : zC l m_Sorts_addSubgroup 0 0 [.ref (d_ + 12), .int (Int32.ofInt a0_)] Mz (zqcV d_ [] [] [(12, 6)] [14] Mz (fun N => ((((∃ k : Nat, (k : Int) < ze Mz (d_ + 12) 6 ∧ ze Mz (d_ + 14) k = a0_) ∧ (∀ j : Nat, zRw d_ 14 N j = zRw d_ 14 Mz j) ∧ ze N (d_ + 12) 6 = ze Mz (d_ + 12) 6) ∨ ((∀ i : Nat, (i : Int) < ze Mz (d_ + 12) 6 → ze Mz (d_ + 14) i ≠ a0_) ∧ ze N (d_ + 12) 6 = ze Mz (d_ + 12) 6 + 1 ∧ (∀ j : Nat, zRw d_ 14 N j = zst (zRw d_ 14 Mz) (ze Mz (d_ + 12) 6).toNat a0_ j)))))) := by
  refine zC_of (L0 := [some (.ref (d_ + 12)), some (.int (Int32.ofInt a0_))]) md_Sorts_addSubgroup (Nat.le_of_ble_eq_true rfl) rfl ?_ zQ0
  have hf : zFc d_ [] [] [(12, 6)] [14] Mz Mz := zFc.rf
  have r_D12_6 := ze_r Mz (d_ + 12) 6
  refine zw_aload_n (pc := 0) (n := 0) (x := (d_ + 12)) rfl (zdal_p dlA_Sorts_addSubgroup_40 (i := 0) rfl) ?_
  refine zw_iload_n (pc := 1) (n := 1) (x := Int32.ofInt a0_) rfl (zdal_p dlA_Sorts_addSubgroup_40 (i := 1) rfl) ?_
  refine zk_callV hf.x (pc := 2) [.int (Int32.ofInt a0_)] [] l_Sorts_72 (u_Sorts_indexOf l d_ Mz (hf.w hW) a0_ ha0_a ha0_b (show 0 ≤ ze Mz (d_ + 12) 6 by first | assumption | omega) (show ze Mz (d_ + 12) 6 ≤ 35 by first | assumption | omega)) rfl rfl ((hf.w hW).kr (o := 12) (by decide)) (by decide) (by decide) (Nat.le_of_ble_eq_true rfl) (zdal_p dlA_Sorts_addSubgroup_40 (i := 2) rfl) ?_
  rintro _ N1_ ⟨v2_, rfl, ⟨hv2_a, hv2_b⟩, hsN1_, hp0_N1_⟩
  obtain rfl := hsN1_.eq.symm
  replace hp0_N1_ : ((v2_ = -1 ∧ (∀ i : Nat, (i : Int) < ze Mz (d_ + 12) 6 → ze Mz (d_ + 14) i ≠ a0_)) ∨ (0 ≤ v2_ ∧ v2_ < ze Mz (d_ + 12) 6 ∧ ze Mz (d_ + 14) (v2_).toNat = a0_)) := hp0_N1_
  rcases hp0_N1_ with ⟨rfl, ha2_0_hp0_N1_⟩ | ⟨ha2_0_hp0_N1_, ha2_1_hp0_N1_, ha2_2_hp0_N1_⟩
  · skip
    have hno_ := ha2_0_hp0_N1_
    have h34_ := p2_ hno_
    show zW l m_Sorts_addSubgroup (zn Mz + 0, zw Mz + 0) Mz 5 [some (.ref (d_ + 12)), some (.int (Int32.ofInt a0_))] [.int (Int32.ofInt ((-1)))] _
    refine zw_iconst (pc := 5) (v := Int32.ofInt (-1)) (by decide) (zdal_p dlA_Sorts_addSubgroup_40 (i := 3) rfl) ?_
    refine zr_icmp_ne (pc := 6) (tgt := 40) ⟨(by decide), (by decide)⟩ ⟨(by decide), (by decide)⟩ (by decide) (zdal_p dlA_Sorts_addSubgroup_40 (i := 4) rfl) (fun hc_6 => ?_) (fun hc_6 => ?_)
    · skip
      exact absurd hc_6 (by decide)
    · skip
      refine zw_aload_n (pc := 9) (n := 0) (x := (d_ + 12)) rfl (zdal_p dlA_Sorts_addSubgroup_40 (i := 5) rfl) ?_
      refine zk_getI (pc := 10) f_Sorts_36 rfl ((hf.w hW).kr (o := 12) (by decide)) (zdal_p dlA_Sorts_addSubgroup_40 (i := 6) rfl) ?_
      refine zw_bipush (pc := 13) (v := Int32.ofInt 35) (by decide) (zdal_p dlA_Sorts_addSubgroup_40 (i := 7) rfl) ?_
      refine zr_icmp_ge (pc := 15) (tgt := 40) ⟨(ze_r Mz (d_ + 12) 6).1, (ze_r Mz (d_ + 12) 6).2⟩ ⟨(by decide), (by decide)⟩ (by decide) (zdal_p dlA_Sorts_addSubgroup_40 (i := 8) rfl) (fun hc_15 => ?_) (fun hc_15 => ?_)
      · skip
        exact zk_vret (pc := 40) rfl hf (show (((∃ k : Nat, (k : Int) < ze Mz (d_ + 12) 6 ∧ ze Mz (d_ + 14) k = a0_) ∧ (∀ j : Nat, zRw d_ 14 Mz j = zRw d_ 14 Mz j) ∧ ze Mz (d_ + 12) 6 = ze Mz (d_ + 12) 6) ∨ ((∀ i : Nat, (i : Int) < ze Mz (d_ + 12) 6 → ze Mz (d_ + 14) i ≠ a0_) ∧ ze Mz (d_ + 12) 6 = ze Mz (d_ + 12) 6 + 1 ∧ (∀ j : Nat, zRw d_ 14 Mz j = zst (zRw d_ 14 Mz) (ze Mz (d_ + 12) 6).toNat a0_ j))) from Or.inr (⟨(show (∀ i : Nat, (i : Int) < ze Mz (d_ + 12) 6 → ze Mz (d_ + 14) i ≠ a0_) by first | exact hno_ | exact hw2_ | omega | (exfalso; omega)), (show ze Mz (d_ + 12) 6 = ze Mz (d_ + 12) 6 + 1 by first | exact hno_ | exact hw2_ | omega | (exfalso; omega)), (show (∀ j : Nat, zRw d_ 14 Mz j = zst (zRw d_ 14 Mz) (ze Mz (d_ + 12) 6).toNat a0_ j) by first | exact hno_ | exact hw2_ | omega | (exfalso; omega))⟩)) d_Sorts_addSubgroup_40
      · skip
        refine zw_aload_n (pc := 18) (n := 0) (x := (d_ + 12)) rfl (zdal_p dlA_Sorts_addSubgroup_40 (i := 9) rfl) ?_
        refine zw_getF (pc := 19) f_Sorts_14 rfl ((hf.w hW).kr (o := 12) (by decide)) ((hf.w hW).lr (o := 12) (s := 1) (r := 13) (by decide)) (zdal_p dlA_Sorts_addSubgroup_40 (i := 10) rfl) ?_
        refine zw_aload_n (pc := 22) (n := 0) (x := (d_ + 12)) rfl (zdal_p dlA_Sorts_addSubgroup_40 (i := 11) rfl) ?_
        refine zk_getI (pc := 23) f_Sorts_36 rfl ((hf.w hW).kr (o := 12) (by decide)) (zdal_p dlA_Sorts_addSubgroup_40 (i := 12) rfl) ?_
        refine zw_iload_n (pc := 26) (n := 1) (x := Int32.ofInt a0_) rfl (zdal_p dlA_Sorts_addSubgroup_40 (i := 13) rfl) ?_
        refine zk_st hf.x (pc := 27) (o := 14) (by decide) l_Sorts_40 ((hf.w hW).kr (o := 13) (by decide)) ((hf.w hW).lr (o := 13) (s := 0) (r := 14) (by decide)) ((hf.w hW).rr (o := 14) (t := 1) (n := 35) (by decide)) (by decide) (by omega) (by omega) (by decide) (Nat.le_of_ble_eq_true rfl) (zdal_p dlA_Sorts_addSubgroup_40 (i := 14) rfl) (fun N3_ hN3_ hsN3_ => ?_)
        have hf_N3_ : zFc d_ [] [] [(12, 6)] [14] Mz N3_ := hf.tr hsN3_ (by decide) (by decide) (by decide) (by decide)
        have eD12_6_N3_ : ze N3_ (d_ + 12) 6 = ze Mz (d_ + 12) 6 := hsN3_.e (by decide)
        have hw_ := zRw_w hN3_ ⟨by omega, by omega⟩
        refine zw_aload_n (pc := 30) (n := 0) (x := (d_ + 12)) rfl (zdal_p dlA_Sorts_addSubgroup_40 (i := 15) rfl) ?_
        refine zw_dup (pc := 31) rfl (zdal_p dlA_Sorts_addSubgroup_40 (i := 16) rfl) ?_
        refine zk_getI (pc := 32) f_Sorts_36 rfl ((hf_N3_.w hW).kr (o := 12) (by decide)) (zdal_p dlA_Sorts_addSubgroup_40 (i := 17) rfl) ?_
        refine zw_iconst (pc := 35) (v := Int32.ofInt 1) (by decide) (zdal_p dlA_Sorts_addSubgroup_40 (i := 18) rfl) ?_
        refine zr_iadd (pc := 36) (zdal_p dlA_Sorts_addSubgroup_40 (i := 19) rfl) ?_
        refine zk_putR (pc := 37) (o := 12) (by decide) f_Sorts_36 rfl rfl ((hf_N3_.w hW).kr (o := 12) (by decide)) ⟨by omega, by omega⟩ rfl rfl (zdal_p dlA_Sorts_addSubgroup_40 (i := 20) rfl) (fun N4_ hsN4_ hvN4_ => ?_)
        have hf_N4_ : zFc d_ [] [] [(12, 6)] [14] Mz N4_ := hf_N3_.tr hsN4_ (by decide) (by decide) (by decide) (by decide)
        have rD12_6_N4_ := ze_r N4_ (d_ + 12) 6
        have hw2_ := fun j : Nat => (hsN4_.r (by decide) j : zRw d_ 14 N4_ j = zRw d_ 14 N3_ j).trans (hw_ j)
        exact zk_vret (pc := 40) rfl hf_N4_ (show (((∃ k : Nat, (k : Int) < ze Mz (d_ + 12) 6 ∧ ze Mz (d_ + 14) k = a0_) ∧ (∀ j : Nat, zRw d_ 14 N4_ j = zRw d_ 14 Mz j) ∧ ze N4_ (d_ + 12) 6 = ze Mz (d_ + 12) 6) ∨ ((∀ i : Nat, (i : Int) < ze Mz (d_ + 12) 6 → ze Mz (d_ + 14) i ≠ a0_) ∧ ze N4_ (d_ + 12) 6 = ze Mz (d_ + 12) 6 + 1 ∧ (∀ j : Nat, zRw d_ 14 N4_ j = zst (zRw d_ 14 Mz) (ze Mz (d_ + 12) 6).toNat a0_ j))) from Or.inr (⟨(show (∀ i : Nat, (i : Int) < ze Mz (d_ + 12) 6 → ze Mz (d_ + 14) i ≠ a0_) by first | exact hno_ | exact hw2_ | omega | (exfalso; omega)), (show ze N4_ (d_ + 12) 6 = ze Mz (d_ + 12) 6 + 1 by first | exact hno_ | exact hw2_ | omega | (exfalso; omega)), (show (∀ j : Nat, zRw d_ 14 N4_ j = zst (zRw d_ 14 Mz) (ze Mz (d_ + 12) 6).toNat a0_ j) by first | exact hno_ | exact hw2_ | omega | (exfalso; omega))⟩)) d_Sorts_addSubgroup_40
  · skip
    have hf0_ := ha2_0_hp0_N1_
    have hf1_ := ha2_1_hp0_N1_
    have hf2_ := ha2_2_hp0_N1_
    have hex_ : ∃ k : Nat, (k : Int) < ze Mz (d_ + 12) 6 ∧ ze Mz (d_ + 14) k = a0_ := ⟨_, by omega, hf2_⟩
    show zW l m_Sorts_addSubgroup (zn Mz + 0, zw Mz + 0) Mz 5 [some (.ref (d_ + 12)), some (.int (Int32.ofInt a0_))] [.int (Int32.ofInt v2_)] _
    refine zw_iconst (pc := 5) (v := Int32.ofInt (-1)) (by decide) (zdal_p dlA_Sorts_addSubgroup_40 (i := 3) rfl) ?_
    refine zr_icmp_ne (pc := 6) (tgt := 40) ⟨hv2_a, hv2_b⟩ ⟨(by decide), (by decide)⟩ (by decide) (zdal_p dlA_Sorts_addSubgroup_40 (i := 4) rfl) (fun hc_6 => ?_) (fun hc_6 => ?_)
    · skip
      exact zk_vret (pc := 40) rfl hf (show (((∃ k : Nat, (k : Int) < ze Mz (d_ + 12) 6 ∧ ze Mz (d_ + 14) k = a0_) ∧ (∀ j : Nat, zRw d_ 14 Mz j = zRw d_ 14 Mz j) ∧ ze Mz (d_ + 12) 6 = ze Mz (d_ + 12) 6) ∨ ((∀ i : Nat, (i : Int) < ze Mz (d_ + 12) 6 → ze Mz (d_ + 14) i ≠ a0_) ∧ ze Mz (d_ + 12) 6 = ze Mz (d_ + 12) 6 + 1 ∧ (∀ j : Nat, zRw d_ 14 Mz j = zst (zRw d_ 14 Mz) (ze Mz (d_ + 12) 6).toNat a0_ j))) from Or.inl (⟨(show (∃ k : Nat, (k : Int) < ze Mz (d_ + 12) 6 ∧ ze Mz (d_ + 14) k = a0_) by first | exact hex_ | exact fun j => rfl | omega), (show (∀ j : Nat, zRw d_ 14 Mz j = zRw d_ 14 Mz j) by first | exact hex_ | exact fun j => rfl | omega), (show ze Mz (d_ + 12) 6 = ze Mz (d_ + 12) 6 by first | exact hex_ | exact fun j => rfl | omega)⟩)) d_Sorts_addSubgroup_40
    · skip
      refine zw_aload_n (pc := 9) (n := 0) (x := (d_ + 12)) rfl (zdal_p dlA_Sorts_addSubgroup_40 (i := 5) rfl) ?_
      refine zk_getI (pc := 10) f_Sorts_36 rfl ((hf.w hW).kr (o := 12) (by decide)) (zdal_p dlA_Sorts_addSubgroup_40 (i := 6) rfl) ?_
      refine zw_bipush (pc := 13) (v := Int32.ofInt 35) (by decide) (zdal_p dlA_Sorts_addSubgroup_40 (i := 7) rfl) ?_
      refine zr_icmp_ge (pc := 15) (tgt := 40) ⟨(ze_r Mz (d_ + 12) 6).1, (ze_r Mz (d_ + 12) 6).2⟩ ⟨(by decide), (by decide)⟩ (by decide) (zdal_p dlA_Sorts_addSubgroup_40 (i := 8) rfl) (fun hc_15 => ?_) (fun hc_15 => ?_)
      · skip
        exact zk_vret (pc := 40) rfl hf (show (((∃ k : Nat, (k : Int) < ze Mz (d_ + 12) 6 ∧ ze Mz (d_ + 14) k = a0_) ∧ (∀ j : Nat, zRw d_ 14 Mz j = zRw d_ 14 Mz j) ∧ ze Mz (d_ + 12) 6 = ze Mz (d_ + 12) 6) ∨ ((∀ i : Nat, (i : Int) < ze Mz (d_ + 12) 6 → ze Mz (d_ + 14) i ≠ a0_) ∧ ze Mz (d_ + 12) 6 = ze Mz (d_ + 12) 6 + 1 ∧ (∀ j : Nat, zRw d_ 14 Mz j = zst (zRw d_ 14 Mz) (ze Mz (d_ + 12) 6).toNat a0_ j))) from Or.inl (⟨(show (∃ k : Nat, (k : Int) < ze Mz (d_ + 12) 6 ∧ ze Mz (d_ + 14) k = a0_) by first | exact hex_ | exact fun j => rfl | omega), (show (∀ j : Nat, zRw d_ 14 Mz j = zRw d_ 14 Mz j) by first | exact hex_ | exact fun j => rfl | omega), (show ze Mz (d_ + 12) 6 = ze Mz (d_ + 12) 6 by first | exact hex_ | exact fun j => rfl | omega)⟩)) d_Sorts_addSubgroup_40
      · skip
        refine zw_aload_n (pc := 18) (n := 0) (x := (d_ + 12)) rfl (zdal_p dlA_Sorts_addSubgroup_40 (i := 9) rfl) ?_
        refine zw_getF (pc := 19) f_Sorts_14 rfl ((hf.w hW).kr (o := 12) (by decide)) ((hf.w hW).lr (o := 12) (s := 1) (r := 13) (by decide)) (zdal_p dlA_Sorts_addSubgroup_40 (i := 10) rfl) ?_
        refine zw_aload_n (pc := 22) (n := 0) (x := (d_ + 12)) rfl (zdal_p dlA_Sorts_addSubgroup_40 (i := 11) rfl) ?_
        refine zk_getI (pc := 23) f_Sorts_36 rfl ((hf.w hW).kr (o := 12) (by decide)) (zdal_p dlA_Sorts_addSubgroup_40 (i := 12) rfl) ?_
        refine zw_iload_n (pc := 26) (n := 1) (x := Int32.ofInt a0_) rfl (zdal_p dlA_Sorts_addSubgroup_40 (i := 13) rfl) ?_
        refine zk_st hf.x (pc := 27) (o := 14) (by decide) l_Sorts_40 ((hf.w hW).kr (o := 13) (by decide)) ((hf.w hW).lr (o := 13) (s := 0) (r := 14) (by decide)) ((hf.w hW).rr (o := 14) (t := 1) (n := 35) (by decide)) (by decide) (by omega) (by omega) (by decide) (Nat.le_of_ble_eq_true rfl) (zdal_p dlA_Sorts_addSubgroup_40 (i := 14) rfl) (fun N5_ hN5_ hsN5_ => ?_)
        have hf_N5_ : zFc d_ [] [] [(12, 6)] [14] Mz N5_ := hf.tr hsN5_ (by decide) (by decide) (by decide) (by decide)
        have eD12_6_N5_ : ze N5_ (d_ + 12) 6 = ze Mz (d_ + 12) 6 := hsN5_.e (by decide)
        have hw_ := zRw_w hN5_ ⟨by omega, by omega⟩
        refine zw_aload_n (pc := 30) (n := 0) (x := (d_ + 12)) rfl (zdal_p dlA_Sorts_addSubgroup_40 (i := 15) rfl) ?_
        refine zw_dup (pc := 31) rfl (zdal_p dlA_Sorts_addSubgroup_40 (i := 16) rfl) ?_
        refine zk_getI (pc := 32) f_Sorts_36 rfl ((hf_N5_.w hW).kr (o := 12) (by decide)) (zdal_p dlA_Sorts_addSubgroup_40 (i := 17) rfl) ?_
        refine zw_iconst (pc := 35) (v := Int32.ofInt 1) (by decide) (zdal_p dlA_Sorts_addSubgroup_40 (i := 18) rfl) ?_
        refine zr_iadd (pc := 36) (zdal_p dlA_Sorts_addSubgroup_40 (i := 19) rfl) ?_
        refine zk_putR (pc := 37) (o := 12) (by decide) f_Sorts_36 rfl rfl ((hf_N5_.w hW).kr (o := 12) (by decide)) ⟨by omega, by omega⟩ rfl rfl (zdal_p dlA_Sorts_addSubgroup_40 (i := 20) rfl) (fun N6_ hsN6_ hvN6_ => ?_)
        have hf_N6_ : zFc d_ [] [] [(12, 6)] [14] Mz N6_ := hf_N5_.tr hsN6_ (by decide) (by decide) (by decide) (by decide)
        have rD12_6_N6_ := ze_r N6_ (d_ + 12) 6
        have hw2_ := fun j : Nat => (hsN6_.r (by decide) j : zRw d_ 14 N6_ j = zRw d_ 14 N5_ j).trans (hw_ j)
        exact zk_vret (pc := 40) rfl hf_N6_ (show (((∃ k : Nat, (k : Int) < ze Mz (d_ + 12) 6 ∧ ze Mz (d_ + 14) k = a0_) ∧ (∀ j : Nat, zRw d_ 14 N6_ j = zRw d_ 14 Mz j) ∧ ze N6_ (d_ + 12) 6 = ze Mz (d_ + 12) 6) ∨ ((∀ i : Nat, (i : Int) < ze Mz (d_ + 12) 6 → ze Mz (d_ + 14) i ≠ a0_) ∧ ze N6_ (d_ + 12) 6 = ze Mz (d_ + 12) 6 + 1 ∧ (∀ j : Nat, zRw d_ 14 N6_ j = zst (zRw d_ 14 Mz) (ze Mz (d_ + 12) 6).toNat a0_ j))) from Or.inl (⟨(show (∃ k : Nat, (k : Int) < ze Mz (d_ + 12) 6 ∧ ze Mz (d_ + 14) k = a0_) by first | exact hex_ | exact fun j => rfl | omega), (show (∀ j : Nat, zRw d_ 14 N6_ j = zRw d_ 14 Mz j) by first | exact hex_ | exact fun j => rfl | omega), (show ze N6_ (d_ + 12) 6 = ze Mz (d_ + 12) 6 by first | exact hex_ | exact fun j => rfl | omega)⟩)) d_Sorts_addSubgroup_40
set_option maxHeartbeats 4000000 in
theorem u_Sorts_isAhead (l : Launch) (d_ : Nat) (Mz : zMem) (hW : zKW d_ Mz) (a0_ : Int) (ha0_a : -2147483648 ≤ a0_) (ha0_b : a0_ < 2147483648) (a1_ : Int) (ha1_a : -2147483648 ≤ a1_) (ha1_b : a1_ < 2147483648) (p0_ : 0 ≤ a0_) (p1_ : a0_ < 16777216) (p2_ : 0 ≤ a1_) (p3_ : a1_ < 16777216) (p4_ : kbc (a0_).toNat = gcb (a0_).toNat) (p5_ : kbc (a1_).toNat = gcb (a1_).toNat) : zC l m_Sorts_isAhead 0 0 [.int (Int32.ofInt a0_), .int (Int32.ofInt a1_)] Mz (zqcI d_ [] [] [] [] Mz (fun v N => (((v = 1 ∧ zkyK a0_ < zkyK a1_) ∨ (v = 0 ∧ ¬ zkyK a0_ < zkyK a1_))))) := by
  refine zC_of (L0 := [some (.int (Int32.ofInt a0_)), some (.int (Int32.ofInt a1_)), none]) md_Sorts_isAhead (Nat.le_of_ble_eq_true rfl) rfl ?_ zQ0
  have hf : zFc d_ [] [] [] [] Mz Mz := zFc.rf
  have hky_ := zky_l (a := a0_) (b := a1_) (by omega) (by omega)
  refine zw_iload_n (pc := 0) (n := 0) (x := Int32.ofInt a0_) rfl (zdal_p dlA_Sorts_isAhead_44 (i := 0) rfl) ?_
  refine zr_callS hf.x (pc := 1) [.int (Int32.ofInt a0_)] [] l_Sorts_78 (u_Integer_bitCount l d_ Mz (hf.w hW) a0_ ha0_a ha0_b (show 0 ≤ a0_ by first | assumption | omega)) rfl rfl (by decide) (Nat.le_of_ble_eq_true rfl) (zdal_p dlA_Sorts_isAhead_44 (i := 1) rfl) ?_
  rintro _ N1_ ⟨v2_, rfl, ⟨hv2_a, hv2_b⟩, hsN1_, ⟨hp0_N1_, hp1_N1_, hp2_N1_⟩⟩
  obtain rfl := hsN1_.eq.symm
  show zW l m_Sorts_isAhead (zn Mz + 0, zw Mz + 0) Mz 4 [some (.int (Int32.ofInt a0_)), some (.int (Int32.ofInt a1_)), none] [.int (Int32.ofInt v2_)] _
  have hb1_ := hp0_N1_
  refine zw_iload_n (pc := 4) (n := 1) (x := Int32.ofInt a1_) rfl (zdal_p dlA_Sorts_isAhead_44 (i := 2) rfl) ?_
  refine zr_callS hf.x (pc := 5) [.int (Int32.ofInt a1_)] [.int (Int32.ofInt v2_)] l_Sorts_78 (u_Integer_bitCount l d_ Mz (hf.w hW) a1_ ha1_a ha1_b (show 0 ≤ a1_ by first | assumption | omega)) rfl rfl (by decide) (Nat.le_of_ble_eq_true rfl) (zdal_p dlA_Sorts_isAhead_44 (i := 3) rfl) ?_
  rintro _ N3_ ⟨v4_, rfl, ⟨hv4_a, hv4_b⟩, hsN3_, ⟨hp0_N3_, hp1_N3_, hp2_N3_⟩⟩
  obtain rfl := hsN3_.eq.symm
  show zW l m_Sorts_isAhead (zn Mz + 0, zw Mz + 0) Mz 8 [some (.int (Int32.ofInt a0_)), some (.int (Int32.ofInt a1_)), none] [.int (Int32.ofInt v4_), .int (Int32.ofInt v2_)] _
  have hb2_ := hp0_N3_
  refine zr_isub (pc := 8) (zdal_p dlA_Sorts_isAhead_44 (i := 4) rfl) ?_
  refine zw_istore_n (pc := 9) (i := 2) (L2 := [some (.int (Int32.ofInt a0_)), some (.int (Int32.ofInt a1_)), some (.int (Int32.ofInt (v2_ - v4_)))]) rfl (by decide) rfl (zdal_p dlA_Sorts_isAhead_44 (i := 5) rfl) ?_
  refine zw_iload_n (pc := 10) (n := 2) (x := Int32.ofInt (v2_ - v4_)) rfl (zdal_p dlA_Sorts_isAhead_44 (i := 6) rfl) ?_
  refine zr_if_lt (pc := 11) (tgt := 23) ⟨(by omega), (by omega)⟩ (by decide) (zdal_p dlA_Sorts_isAhead_44 (i := 7) rfl) (fun hc_11 => ?_) (fun hc_11 => ?_)
  · skip
    refine zw_iconst (pc := 23) (v := Int32.ofInt 1) (by decide) (zdal_p dlA_Sorts_isAhead_44 (i := 13) rfl) ?_
    refine zw_goto (pc := 24) (tgt := 28) (by decide) (zdal_p dlA_Sorts_isAhead_44 (i := 14) rfl) ?_
    exact zk_iret (pc := 28) (ty := .boolean) rfl (z_narB (by omega)) ⟨by omega, by omega⟩ hf (show ((1 = 1 ∧ zkyK a0_ < zkyK a1_) ∨ (1 = 0 ∧ ¬ zkyK a0_ < zkyK a1_)) from Or.inl (⟨(show 1 = 1 by first | exact hky_.mpr (by omega) | rfl), (show zkyK a0_ < zkyK a1_ by first | exact hky_.mpr (by omega) | rfl)⟩)) (zdal_p dlA_Sorts_isAhead_44 (i := 16) rfl)
  · skip
    refine zw_iload_n (pc := 14) (n := 2) (x := Int32.ofInt (v2_ - v4_)) rfl (zdal_p dlA_Sorts_isAhead_44 (i := 8) rfl) ?_
    refine zr_if_ne (pc := 15) (tgt := 27) ⟨(by omega), (by omega)⟩ (by decide) (zdal_p dlA_Sorts_isAhead_44 (i := 9) rfl) (fun hc_15 => ?_) (fun hc_15 => ?_)
    · skip
      refine zw_iconst (pc := 27) (v := Int32.ofInt 0) (by decide) (zdal_p dlA_Sorts_isAhead_44 (i := 15) rfl) ?_
      exact zk_iret (pc := 28) (ty := .boolean) rfl (z_narB (by omega)) ⟨by omega, by omega⟩ hf (show ((0 = 1 ∧ zkyK a0_ < zkyK a1_) ∨ (0 = 0 ∧ ¬ zkyK a0_ < zkyK a1_)) from Or.inr (⟨(show 0 = 0 by first | exact fun q_ => absurd (hky_.mp q_) (by omega) | rfl), (show ¬ zkyK a0_ < zkyK a1_ by first | exact fun q_ => absurd (hky_.mp q_) (by omega) | rfl)⟩)) (zdal_p dlA_Sorts_isAhead_44 (i := 16) rfl)
    · skip
      refine zw_iload_n (pc := 18) (n := 0) (x := Int32.ofInt a0_) rfl (zdal_p dlA_Sorts_isAhead_44 (i := 10) rfl) ?_
      refine zw_iload_n (pc := 19) (n := 1) (x := Int32.ofInt a1_) rfl (zdal_p dlA_Sorts_isAhead_44 (i := 11) rfl) ?_
      refine zr_icmp_ge (pc := 20) (tgt := 27) ⟨ha0_a, ha0_b⟩ ⟨ha1_a, ha1_b⟩ (by decide) (zdal_p dlA_Sorts_isAhead_44 (i := 12) rfl) (fun hc_20 => ?_) (fun hc_20 => ?_)
      · skip
        refine zw_iconst (pc := 27) (v := Int32.ofInt 0) (by decide) (zdal_p dlA_Sorts_isAhead_44 (i := 15) rfl) ?_
        exact zk_iret (pc := 28) (ty := .boolean) rfl (z_narB (by omega)) ⟨by omega, by omega⟩ hf (show ((0 = 1 ∧ zkyK a0_ < zkyK a1_) ∨ (0 = 0 ∧ ¬ zkyK a0_ < zkyK a1_)) from Or.inr (⟨(show 0 = 0 by first | exact fun q_ => absurd (hky_.mp q_) (by omega) | rfl), (show ¬ zkyK a0_ < zkyK a1_ by first | exact fun q_ => absurd (hky_.mp q_) (by omega) | rfl)⟩)) (zdal_p dlA_Sorts_isAhead_44 (i := 16) rfl)
      · skip
        refine zw_iconst (pc := 23) (v := Int32.ofInt 1) (by decide) (zdal_p dlA_Sorts_isAhead_44 (i := 13) rfl) ?_
        refine zw_goto (pc := 24) (tgt := 28) (by decide) (zdal_p dlA_Sorts_isAhead_44 (i := 14) rfl) ?_
        exact zk_iret (pc := 28) (ty := .boolean) rfl (z_narB (by omega)) ⟨by omega, by omega⟩ hf (show ((1 = 1 ∧ zkyK a0_ < zkyK a1_) ∨ (1 = 0 ∧ ¬ zkyK a0_ < zkyK a1_)) from Or.inl (⟨(show 1 = 1 by first | exact hky_.mpr (by omega) | rfl), (show zkyK a0_ < zkyK a1_ by first | exact hky_.mpr (by omega) | rfl)⟩)) (zdal_p dlA_Sorts_isAhead_44 (i := 16) rfl)
set_option maxHeartbeats 4000000 in
theorem u_Sorts_arrange (l : Launch) (d_ : Nat) (Mz : zMem) (hW : zKW d_ Mz) (p0_ : 1 ≤ ze Mz (d_ + 12) 6) (p1_ : ze Mz (d_ + 12) 6 ≤ 35) (p2_ : zSoK zkyK (zRw d_ 14 Mz) (zRw d_ 14 Mz) (ze Mz (d_ + 12) 6).toNat 1) (p3_ : (∀ k : Nat, (k : Int) < ze Mz (d_ + 12) 6 → (0 ≤ ze Mz (d_ + 14) k ∧ ze Mz (d_ + 14) k < 16777216) ∧ kbc (ze Mz (d_ + 14) k).toNat = gcb (ze Mz (d_ + 14) k).toNat)) : zC l m_Sorts_arrange 0 0 [.ref (d_ + 12)] Mz (zqcV d_ [] [] [] [14] Mz (fun N => (∃ i : Nat, (ze Mz (d_ + 12) 6).toNat ≤ i ∧ zSoK zkyK (zRw d_ 14 Mz) (zRw d_ 14 N) (ze Mz (d_ + 12) 6).toNat i))) := by
  refine zC_of (L0 := [some (.ref (d_ + 12)), none, none, none]) md_Sorts_arrange (Nat.le_of_ble_eq_true rfl) rfl ?_ zQ0
  have hf : zFc d_ [] [] [] [14] Mz Mz := zFc.rf
  have r_D12_6 := ze_r Mz (d_ + 12) 6
  refine zw_iconst (pc := 0) (v := Int32.ofInt 1) (by decide) (zdal_p dlA_Sorts_arrange_42 (i := 0) rfl) ?_
  refine zw_istore_n (pc := 1) (i := 1) (L2 := [some (.ref (d_ + 12)), some (.int (Int32.ofInt 1)), none, none]) rfl (by decide) rfl (zdal_p dlA_Sorts_arrange_42 (i := 1) rfl) ?_
  have lp_2 : ∀ (n : Nat) (u1_ : Int) (hu1_a : -2147483648 ≤ u1_) (hu1_b : u1_ < 2147483648) (N2_ : zMem) (hs3_ : zFc d_ [] [] [] [14] Mz N2_) (i4_ : 1 ≤ u1_) (i5_ : zSoK zkyK (zRw d_ 14 Mz) (zRw d_ 14 N2_) (ze Mz (d_ + 12) 6).toNat (u1_).toNat), (ze Mz (d_ + 12) 6 - u1_).toNat < n → zW l m_Sorts_arrange (zn Mz + 0, zw Mz + 0) N2_ 2 [some (.ref (d_ + 12)), some (.int (Int32.ofInt u1_)), none, none] [] (zqcV d_ [] [] [] [14] Mz (fun N => (∃ i : Nat, (ze Mz (d_ + 12) 6).toNat ≤ i ∧ zSoK zkyK (zRw d_ 14 Mz) (zRw d_ 14 N) (ze Mz (d_ + 12) 6).toNat i))) := by
    intro n
    induction n with
    | zero =>
      intro u1_ hu1_a hu1_b N2_ hs3_ i4_ i5_ h0
      exact absurd h0 (Nat.not_lt_zero _)
    | succ n ih_2 =>
      intro u1_ hu1_a hu1_b N2_ hs3_ i4_ i5_ hlt_2
      have hf_N2_ : zFc d_ [] [] [] [14] Mz N2_ := hf.tr hs3_ (by decide) (by decide) (by decide) (by decide)
      have eD12_6_N2_ : ze N2_ (d_ + 12) 6 = ze Mz (d_ + 12) 6 := hs3_.e (by decide)
      have hso_ := (show zSoK zkyK (zRw d_ 14 Mz) (zRw d_ 14 N2_) (ze Mz (d_ + 12) 6).toNat (u1_).toNat by assumption)
      refine zw_iload_n (pc := 2) (n := 1) (x := Int32.ofInt u1_) rfl (zdal_p dlA_Sorts_arrange_42 (i := 2) rfl) ?_
      refine zw_aload_n (pc := 3) (n := 0) (x := (d_ + 12)) rfl (zdal_p dlA_Sorts_arrange_42 (i := 3) rfl) ?_
      refine zk_getI (pc := 4) f_Sorts_36 rfl ((hf_N2_.w hW).kr (o := 12) (by decide)) (zdal_p dlA_Sorts_arrange_42 (i := 4) rfl) ?_
      rw [hf_N2_.e (by decide)]
      refine zr_icmp_ge (pc := 7) (tgt := 81) ⟨hu1_a, hu1_b⟩ ⟨(ze_r Mz (d_ + 12) 6).1, (ze_r Mz (d_ + 12) 6).2⟩ (by decide) (zdal_p dlA_Sorts_arrange_42 (i := 5) rfl) (fun hc_7 => ?_) (fun hc_7 => ?_)
      · skip
        exact zk_vret (pc := 81) rfl hf_N2_ (show (∃ i : Nat, (ze Mz (d_ + 12) 6).toNat ≤ i ∧ zSoK zkyK (zRw d_ 14 Mz) (zRw d_ 14 N2_) (ze Mz (d_ + 12) 6).toNat i) by exact ⟨(u1_).toNat, by omega, hso_⟩) (zdal_p dlA_Sorts_arrange_43 (i := 19) rfl)
      · skip
        refine zw_aload_n (pc := 10) (n := 0) (x := (d_ + 12)) rfl (zdal_p dlA_Sorts_arrange_42 (i := 6) rfl) ?_
        refine zw_getF (pc := 11) f_Sorts_14 rfl ((hf_N2_.w hW).kr (o := 12) (by decide)) ((hf_N2_.w hW).lr (o := 12) (s := 1) (r := 13) (by decide)) (zdal_p dlA_Sorts_arrange_42 (i := 7) rfl) ?_
        refine zw_iload_n (pc := 14) (n := 1) (x := Int32.ofInt u1_) rfl (zdal_p dlA_Sorts_arrange_42 (i := 8) rfl) ?_
        refine zk_at hf_N2_.x (pc := 15) l_Sorts_49 ((hf_N2_.w hW).kr (o := 13) (by decide)) ((hf_N2_.w hW).lr (o := 13) (s := 0) (r := 14) (by decide)) ((hf_N2_.w hW).rr (o := 14) (t := 1) (n := 35) (by decide)) (by decide) (by omega) (by omega) (by decide) (Nat.le_of_ble_eq_true rfl) (zdal_p dlA_Sorts_arrange_42 (i := 9) rfl) (fun v6_ hv6_ hv6_a hv6_b => ?_)
        have hr1_ := hv6_
        have hsj0_ := zSj_0 hso_ (by omega : (u1_).toNat < (ze Mz (d_ + 12) 6).toNat)
        rw [show zRw d_ 14 N2_ (u1_).toNat = v6_ from hr1_.symm] at hsj0_
        refine zw_istore_n (pc := 18) (i := 2) (L2 := [some (.ref (d_ + 12)), some (.int (Int32.ofInt u1_)), some (.int (Int32.ofInt v6_)), none]) rfl (by decide) rfl (zdal_p dlA_Sorts_arrange_42 (i := 10) rfl) ?_
        refine zw_iload_n (pc := 19) (n := 1) (x := Int32.ofInt u1_) rfl (zdal_p dlA_Sorts_arrange_42 (i := 11) rfl) ?_
        refine zw_istore_n (pc := 20) (i := 3) (L2 := [some (.ref (d_ + 12)), some (.int (Int32.ofInt u1_)), some (.int (Int32.ofInt v6_)), some (.int (Int32.ofInt u1_))]) rfl (by decide) rfl (zdal_p dlA_Sorts_arrange_42 (i := 12) rfl) ?_
        have lp_21 : ∀ (n : Nat) (u7_ : Int) (hu7_a : -2147483648 ≤ u7_) (hu7_b : u7_ < 2147483648) (N8_ : zMem) (hs9_ : zFc d_ [] [] [] [14] N2_ N8_) (i10_ : 0 ≤ u7_) (i11_ : u7_ ≤ u1_) (i12_ : zSj zkyK (zRw d_ 14 Mz) (zRw d_ 14 N8_) (ze Mz (d_ + 12) 6).toNat (u1_).toNat (u7_).toNat v6_), (u7_).toNat < n → zW l m_Sorts_arrange (zn Mz + 0, zw Mz + 0) N8_ 21 [some (.ref (d_ + 12)), some (.int (Int32.ofInt u1_)), some (.int (Int32.ofInt v6_)), some (.int (Int32.ofInt u7_))] [] (zqcV d_ [] [] [] [14] Mz (fun N => (∃ i : Nat, (ze Mz (d_ + 12) 6).toNat ≤ i ∧ zSoK zkyK (zRw d_ 14 Mz) (zRw d_ 14 N) (ze Mz (d_ + 12) 6).toNat i))) := by
          intro n
          induction n with
          | zero =>
            intro u7_ hu7_a hu7_b N8_ hs9_ i10_ i11_ i12_ h0
            exact absurd h0 (Nat.not_lt_zero _)
          | succ n ih_21 =>
            intro u7_ hu7_a hu7_b N8_ hs9_ i10_ i11_ i12_ hlt_21
            have hf_N8_ : zFc d_ [] [] [] [14] Mz N8_ := hf_N2_.tr hs9_ (by decide) (by decide) (by decide) (by decide)
            have hb0_N8_ : zFc d_ [] [] [] [14] Mz N8_ := hs3_.tr hs9_ (by decide) (by decide) (by decide) (by decide)
            have eD12_6_N8_ : ze N8_ (d_ + 12) 6 = ze N2_ (d_ + 12) 6 := hs9_.e (by decide)
            have hsj_ := (show zSj zkyK (zRw d_ 14 Mz) (zRw d_ 14 N8_) (ze Mz (d_ + 12) 6).toNat (u1_).toNat (u7_).toNat v6_ by assumption)
            obtain ⟨k1_, hk1_, hk2_⟩ := (zSj_m hsj_).1
            have hk3_ := p3_ k1_ (by omega)
            rw [show ze Mz (d_ + 14) k1_ = v6_ from hk2_] at hk3_
            refine zw_iload_n (pc := 21) (n := 3) (x := Int32.ofInt u7_) rfl (zdal_p dlA_Sorts_arrange_42 (i := 13) rfl) ?_
            refine zr_if_le (pc := 22) (tgt := 66) ⟨hu7_a, hu7_b⟩ (by decide) (zdal_p dlA_Sorts_arrange_42 (i := 14) rfl) (fun hc_22 => ?_) (fun hc_22 => ?_)
            · skip
              have hex_ : (u7_).toNat = 0 ∨ ¬ zkyK v6_ < zkyK (zRw d_ 14 N8_ ((u7_).toNat - 1)) := by first | exact Or.inl (by omega) | exact Or.inr hna_
              refine zw_aload_n (pc := 66) (n := 0) (x := (d_ + 12)) rfl (zdal_p dlA_Sorts_arrange_43 (i := 12) rfl) ?_
              refine zw_getF (pc := 67) f_Sorts_14 rfl ((hf_N8_.w hW).kr (o := 12) (by decide)) ((hf_N8_.w hW).lr (o := 12) (s := 1) (r := 13) (by decide)) (zdal_p dlA_Sorts_arrange_43 (i := 13) rfl) ?_
              refine zw_iload_n (pc := 70) (n := 3) (x := Int32.ofInt u7_) rfl (zdal_p dlA_Sorts_arrange_43 (i := 14) rfl) ?_
              refine zw_iload_n (pc := 71) (n := 2) (x := Int32.ofInt v6_) rfl (zdal_p dlA_Sorts_arrange_43 (i := 15) rfl) ?_
              refine zk_st hf_N8_.x (pc := 72) (o := 14) (by decide) l_Sorts_40 ((hf_N8_.w hW).kr (o := 13) (by decide)) ((hf_N8_.w hW).lr (o := 13) (s := 0) (r := 14) (by decide)) ((hf_N8_.w hW).rr (o := 14) (t := 1) (n := 35) (by decide)) (by decide) (by omega) (by omega) (by decide) (Nat.le_of_ble_eq_true rfl) (zdal_p dlA_Sorts_arrange_43 (i := 16) rfl) (fun N13_ hN13_ hsN13_ => ?_)
              have hf_N13_ : zFc d_ [] [] [] [14] Mz N13_ := hf_N8_.tr hsN13_ (by decide) (by decide) (by decide) (by decide)
              have hb0_N13_ : zFc d_ [] [] [] [14] Mz N13_ := hb0_N8_.tr hsN13_ (by decide) (by decide) (by decide) (by decide)
              have eD12_6_N13_ : ze N13_ (d_ + 12) 6 = ze N8_ (d_ + 12) 6 := hsN13_.e (by decide)
              have hse_ := zSj_e hsj_ hex_ (zRw_w hN13_ ⟨by omega, by omega⟩)
              rw [show (u1_).toNat + 1 = (u1_ + 1).toNat by omega] at hse_
              refine zr_iinc (pc := 75) (i := 1) (a := u1_) (n := 1) (L2 := [some (.ref (d_ + 12)), some (.int (Int32.ofInt (u1_ + 1))), some (.int (Int32.ofInt v6_)), some (.int (Int32.ofInt u7_))]) rfl (by decide) rfl (zdal_p dlA_Sorts_arrange_43 (i := 17) rfl) ?_
              refine zw_goto (pc := 78) (tgt := 2) (by decide) (zdal_p dlA_Sorts_arrange_43 (i := 18) rfl) ?_
              refine zW_le [some (.ref (d_ + 12)), some (.int (Int32.ofInt (u1_ + 1))), none, none] (⟨rfl, rfl, trivial⟩) ?_
              exact ih_2 (u1_ + 1) (by omega) (by omega) N13_ hb0_N13_ (show 1 ≤ (u1_ + 1) by first | assumption | omega) (show zSoK zkyK (zRw d_ 14 Mz) (zRw d_ 14 N13_) (ze Mz (d_ + 12) 6).toNat ((u1_ + 1)).toNat by exact hse_) (by omega)
            · skip
              refine zw_iload_n (pc := 25) (n := 2) (x := Int32.ofInt v6_) rfl (zdal_p dlA_Sorts_arrange_42 (i := 15) rfl) ?_
              refine zw_aload_n (pc := 26) (n := 0) (x := (d_ + 12)) rfl (zdal_p dlA_Sorts_arrange_42 (i := 16) rfl) ?_
              refine zw_getF (pc := 27) f_Sorts_14 rfl ((hf_N8_.w hW).kr (o := 12) (by decide)) ((hf_N8_.w hW).lr (o := 12) (s := 1) (r := 13) (by decide)) (zdal_p dlA_Sorts_arrange_42 (i := 17) rfl) ?_
              refine zw_iload_n (pc := 30) (n := 3) (x := Int32.ofInt u7_) rfl (zdal_p dlA_Sorts_arrange_42 (i := 18) rfl) ?_
              refine zw_iconst (pc := 31) (v := Int32.ofInt 1) (by decide) (zdal_p dlA_Sorts_arrange_42 (i := 19) rfl) ?_
              refine zr_isub (pc := 32) (zdal_p dlA_Sorts_arrange_42 (i := 20) rfl) ?_
              refine zk_at hf_N8_.x (pc := 33) l_Sorts_49 ((hf_N8_.w hW).kr (o := 13) (by decide)) ((hf_N8_.w hW).lr (o := 13) (s := 0) (r := 14) (by decide)) ((hf_N8_.w hW).rr (o := 14) (t := 1) (n := 35) (by decide)) (by decide) (by omega) (by omega) (by decide) (Nat.le_of_ble_eq_true rfl) (zdal_p dlA_Sorts_arrange_42 (i := 21) rfl) (fun v14_ hv14_ hv14_a hv14_b => ?_)
              have hr2_ := hv14_
              obtain ⟨k2_, hk4_, hk5_⟩ := (zSj_m hsj_).2 (by omega)
              have hk6_ := p3_ k2_ (by omega)
              have hr4_ : zRw d_ 14 N8_ ((u7_).toNat - 1) = v14_ := by rw [hr2_, show (u7_ - 1).toNat = (u7_).toNat - 1 by omega]; rfl
              rw [show ze Mz (d_ + 14) k2_ = v14_ from hk5_.trans hr4_] at hk6_
              refine zr_callS hf_N8_.x (pc := 36) [.int (Int32.ofInt v6_), .int (Int32.ofInt v14_)] [] l_Sorts_75 (u_Sorts_isAhead l d_ N8_ (hf_N8_.w hW) v6_ hv6_a hv6_b v14_ hv14_a hv14_b (show 0 ≤ v6_ by exact hk3_.1.1) (show v6_ < 16777216 by exact hk3_.1.2) (show 0 ≤ v14_ by exact hk6_.1.1) (show v14_ < 16777216 by exact hk6_.1.2) (show kbc (v6_).toNat = gcb (v6_).toNat by exact hk3_.2) (show kbc (v14_).toNat = gcb (v14_).toNat by exact hk6_.2)) rfl rfl (by decide) (Nat.le_of_ble_eq_true rfl) (zdal_p dlA_Sorts_arrange_42 (i := 22) rfl) ?_
              rintro _ N15_ ⟨v16_, rfl, ⟨hv16_a, hv16_b⟩, hsN15_, hp0_N15_⟩
              obtain rfl := hsN15_.eq.symm
              replace hp0_N15_ : ((v16_ = 1 ∧ zkyK v6_ < zkyK v14_) ∨ (v16_ = 0 ∧ ¬ zkyK v6_ < zkyK v14_)) := hp0_N15_
              rcases hp0_N15_ with ⟨rfl, ha36_0_hp0_N15_⟩ | ⟨rfl, ha36_0_hp0_N15_⟩
              · skip
                have hah_ := ha36_0_hp0_N15_
                rw [← hr4_] at hah_
                show zW l m_Sorts_arrange (zn Mz + 0, zw Mz + 0) N8_ 39 [some (.ref (d_ + 12)), some (.int (Int32.ofInt u1_)), some (.int (Int32.ofInt v6_)), some (.int (Int32.ofInt u7_))] [.int (Int32.ofInt 1)] _
                refine zr_if_eq (pc := 39) (tgt := 66) ⟨(by decide), (by decide)⟩ (by decide) (zdal_p dlA_Sorts_arrange_42 (i := 23) rfl) (fun hc_39 => ?_) (fun hc_39 => ?_)
                · skip
                  exact absurd hc_39 (by decide)
                · skip
                  refine zw_aload_n (pc := 42) (n := 0) (x := (d_ + 12)) rfl (zdal_p dlA_Sorts_arrange_43 (i := 0) rfl) ?_
                  refine zw_getF (pc := 43) f_Sorts_14 rfl ((hf_N8_.w hW).kr (o := 12) (by decide)) ((hf_N8_.w hW).lr (o := 12) (s := 1) (r := 13) (by decide)) (zdal_p dlA_Sorts_arrange_43 (i := 1) rfl) ?_
                  refine zw_iload_n (pc := 46) (n := 3) (x := Int32.ofInt u7_) rfl (zdal_p dlA_Sorts_arrange_43 (i := 2) rfl) ?_
                  refine zw_aload_n (pc := 47) (n := 0) (x := (d_ + 12)) rfl (zdal_p dlA_Sorts_arrange_43 (i := 3) rfl) ?_
                  refine zw_getF (pc := 48) f_Sorts_14 rfl ((hf_N8_.w hW).kr (o := 12) (by decide)) ((hf_N8_.w hW).lr (o := 12) (s := 1) (r := 13) (by decide)) (zdal_p dlA_Sorts_arrange_43 (i := 4) rfl) ?_
                  refine zw_iload_n (pc := 51) (n := 3) (x := Int32.ofInt u7_) rfl (zdal_p dlA_Sorts_arrange_43 (i := 5) rfl) ?_
                  refine zw_iconst (pc := 52) (v := Int32.ofInt 1) (by decide) (zdal_p dlA_Sorts_arrange_43 (i := 6) rfl) ?_
                  refine zr_isub (pc := 53) (zdal_p dlA_Sorts_arrange_43 (i := 7) rfl) ?_
                  refine zk_at hf_N8_.x (pc := 54) l_Sorts_49 ((hf_N8_.w hW).kr (o := 13) (by decide)) ((hf_N8_.w hW).lr (o := 13) (s := 0) (r := 14) (by decide)) ((hf_N8_.w hW).rr (o := 14) (t := 1) (n := 35) (by decide)) (by decide) (by omega) (by omega) (by decide) (Nat.le_of_ble_eq_true rfl) (zdal_p dlA_Sorts_arrange_43 (i := 8) rfl) (fun v17_ hv17_ hv17_a hv17_b => ?_)
                  have hr3_ := hv17_
                  have hr5_ : zRw d_ 14 N8_ ((u7_).toNat - 1) = v17_ := by rw [hr3_, show (u7_ - 1).toNat = (u7_).toNat - 1 by omega]; rfl
                  refine zk_st hf_N8_.x (pc := 57) (o := 14) (by decide) l_Sorts_40 ((hf_N8_.w hW).kr (o := 13) (by decide)) ((hf_N8_.w hW).lr (o := 13) (s := 0) (r := 14) (by decide)) ((hf_N8_.w hW).rr (o := 14) (t := 1) (n := 35) (by decide)) (by decide) (by omega) (by omega) (by decide) (Nat.le_of_ble_eq_true rfl) (zdal_p dlA_Sorts_arrange_43 (i := 9) rfl) (fun N18_ hN18_ hsN18_ => ?_)
                  have hf_N18_ : zFc d_ [] [] [] [14] Mz N18_ := hf_N8_.tr hsN18_ (by decide) (by decide) (by decide) (by decide)
                  have hb0_N18_ : zFc d_ [] [] [] [14] Mz N18_ := hb0_N8_.tr hsN18_ (by decide) (by decide) (by decide) (by decide)
                  have hb1_N18_ : zFc d_ [] [] [] [14] N2_ N18_ := hs9_.tr hsN18_ (by decide) (by decide) (by decide) (by decide)
                  have eD12_6_N18_ : ze N18_ (d_ + 12) 6 = ze N8_ (d_ + 12) 6 := hsN18_.e (by decide)
                  have hss_ := zSj_s hsj_ (by omega) hah_ (fun j => (zRw_w hN18_ ⟨by omega, by omega⟩ j).trans (by rw [hr5_]))
                  rw [show (u7_).toNat - 1 = (u7_ + (-1)).toNat by omega] at hss_
                  refine zr_iinc (pc := 60) (i := 3) (a := u7_) (n := -1) (L2 := [some (.ref (d_ + 12)), some (.int (Int32.ofInt u1_)), some (.int (Int32.ofInt v6_)), some (.int (Int32.ofInt (u7_ + (-1))))]) rfl (by decide) rfl (zdal_p dlA_Sorts_arrange_43 (i := 10) rfl) ?_
                  refine zw_goto (pc := 63) (tgt := 21) (by decide) (zdal_p dlA_Sorts_arrange_43 (i := 11) rfl) ?_
                  exact ih_21 (u7_ + (-1)) (by omega) (by omega) N18_ hb1_N18_ (show 0 ≤ (u7_ + (-1)) by first | assumption | omega) (show (u7_ + (-1)) ≤ u1_ by first | assumption | omega) (show zSj zkyK (zRw d_ 14 Mz) (zRw d_ 14 N18_) (ze Mz (d_ + 12) 6).toNat (u1_).toNat ((u7_ + (-1))).toNat v6_ by exact hss_) (by omega)
              · skip
                have hna_ := ha36_0_hp0_N15_
                rw [← hr4_] at hna_
                show zW l m_Sorts_arrange (zn Mz + 0, zw Mz + 0) N8_ 39 [some (.ref (d_ + 12)), some (.int (Int32.ofInt u1_)), some (.int (Int32.ofInt v6_)), some (.int (Int32.ofInt u7_))] [.int (Int32.ofInt 0)] _
                refine zr_if_eq (pc := 39) (tgt := 66) ⟨(by decide), (by decide)⟩ (by decide) (zdal_p dlA_Sorts_arrange_42 (i := 23) rfl) (fun hc_39 => ?_) (fun hc_39 => ?_)
                · skip
                  have hex_ : (u7_).toNat = 0 ∨ ¬ zkyK v6_ < zkyK (zRw d_ 14 N8_ ((u7_).toNat - 1)) := by first | exact Or.inl (by omega) | exact Or.inr hna_
                  refine zw_aload_n (pc := 66) (n := 0) (x := (d_ + 12)) rfl (zdal_p dlA_Sorts_arrange_43 (i := 12) rfl) ?_
                  refine zw_getF (pc := 67) f_Sorts_14 rfl ((hf_N8_.w hW).kr (o := 12) (by decide)) ((hf_N8_.w hW).lr (o := 12) (s := 1) (r := 13) (by decide)) (zdal_p dlA_Sorts_arrange_43 (i := 13) rfl) ?_
                  refine zw_iload_n (pc := 70) (n := 3) (x := Int32.ofInt u7_) rfl (zdal_p dlA_Sorts_arrange_43 (i := 14) rfl) ?_
                  refine zw_iload_n (pc := 71) (n := 2) (x := Int32.ofInt v6_) rfl (zdal_p dlA_Sorts_arrange_43 (i := 15) rfl) ?_
                  refine zk_st hf_N8_.x (pc := 72) (o := 14) (by decide) l_Sorts_40 ((hf_N8_.w hW).kr (o := 13) (by decide)) ((hf_N8_.w hW).lr (o := 13) (s := 0) (r := 14) (by decide)) ((hf_N8_.w hW).rr (o := 14) (t := 1) (n := 35) (by decide)) (by decide) (by omega) (by omega) (by decide) (Nat.le_of_ble_eq_true rfl) (zdal_p dlA_Sorts_arrange_43 (i := 16) rfl) (fun N19_ hN19_ hsN19_ => ?_)
                  have hf_N19_ : zFc d_ [] [] [] [14] Mz N19_ := hf_N8_.tr hsN19_ (by decide) (by decide) (by decide) (by decide)
                  have hb0_N19_ : zFc d_ [] [] [] [14] Mz N19_ := hb0_N8_.tr hsN19_ (by decide) (by decide) (by decide) (by decide)
                  have eD12_6_N19_ : ze N19_ (d_ + 12) 6 = ze N8_ (d_ + 12) 6 := hsN19_.e (by decide)
                  have hse_ := zSj_e hsj_ hex_ (zRw_w hN19_ ⟨by omega, by omega⟩)
                  rw [show (u1_).toNat + 1 = (u1_ + 1).toNat by omega] at hse_
                  refine zr_iinc (pc := 75) (i := 1) (a := u1_) (n := 1) (L2 := [some (.ref (d_ + 12)), some (.int (Int32.ofInt (u1_ + 1))), some (.int (Int32.ofInt v6_)), some (.int (Int32.ofInt u7_))]) rfl (by decide) rfl (zdal_p dlA_Sorts_arrange_43 (i := 17) rfl) ?_
                  refine zw_goto (pc := 78) (tgt := 2) (by decide) (zdal_p dlA_Sorts_arrange_43 (i := 18) rfl) ?_
                  refine zW_le [some (.ref (d_ + 12)), some (.int (Int32.ofInt (u1_ + 1))), none, none] (⟨rfl, rfl, trivial⟩) ?_
                  exact ih_2 (u1_ + 1) (by omega) (by omega) N19_ hb0_N19_ (show 1 ≤ (u1_ + 1) by first | assumption | omega) (show zSoK zkyK (zRw d_ 14 Mz) (zRw d_ 14 N19_) (ze Mz (d_ + 12) 6).toNat ((u1_ + 1)).toNat by exact hse_) (by omega)
                · skip
                  exact absurd hc_39 (by decide)
        exact lp_21 _ u1_ hu1_a hu1_b N2_ zFc.rf (show 0 ≤ u1_ by first | assumption | omega) (show u1_ ≤ u1_ by first | assumption | omega) (show zSj zkyK (zRw d_ 14 Mz) (zRw d_ 14 N2_) (ze Mz (d_ + 12) 6).toNat (u1_).toNat (u1_).toNat v6_ by exact hsj0_) (Nat.lt_succ_self _)
  exact lp_2 _ 1 (by decide) (by decide) Mz zFc.rf (show 1 ≤ (1 : Int) by first | assumption | omega) (show zSoK zkyK (zRw d_ 14 Mz) (zRw d_ 14 Mz) (ze Mz (d_ + 12) 6).toNat ((1 : Int)).toNat by assumption) (Nat.lt_succ_self _)
