set_option maxHeartbeats 4000000 in
theorem u_Group_hasPlaceG (l : Launch) (d_ : Nat) (Mz : zMem) (hW : zKW d_ Mz) (a0_ : Int) (ha0_a : -2147483648 ≤ a0_) (ha0_b : a0_ < 2147483648) : zC l m_Group_hasPlace 0 0 [.ref (d_ + 1), .int (Int32.ofInt a0_)] Mz (zqcI d_ [] [] [] [] Mz (fun v N => (((v = 1 ∧ 0 ≤ a0_ ∧ a0_ < ze Mz (d_ + 1) 5) ∨ (v = 0 ∧ (a0_ < 0 ∨ ze Mz (d_ + 1) 5 ≤ a0_)))))) := by
  refine zC_of (L0 := [some (.ref (d_ + 1)), some (.int (Int32.ofInt a0_))]) md_Group_hasPlace (Nat.le_of_ble_eq_true rfl) rfl ?_ zQ0
  have hf : zFc d_ [] [] [] [] Mz Mz := zFc.rf
  have r_D1_5 := ze_r Mz (d_ + 1) 5
  refine zw_iload_n (pc := 0) (n := 1) (x := Int32.ofInt a0_) rfl (zdal_p dlB_Group_hasPlace_6 (i := 0) rfl) ?_
  refine zr_if_lt (pc := 1) (tgt := 16) ⟨ha0_a, ha0_b⟩ (by decide) (zdal_p dlB_Group_hasPlace_6 (i := 1) rfl) (fun hc_1 => ?_) (fun hc_1 => ?_)
  · skip
    refine zw_iconst (pc := 16) (v := Int32.ofInt 0) (by decide) (zdal_p dlB_Group_hasPlace_6 (i := 8) rfl) ?_
    exact zk_iret (pc := 17) (ty := .boolean) rfl (z_narB (by omega)) ⟨by omega, by omega⟩ hf (show ((0 = 1 ∧ 0 ≤ a0_ ∧ a0_ < ze Mz (d_ + 1) 5) ∨ (0 = 0 ∧ (a0_ < 0 ∨ ze Mz (d_ + 1) 5 ≤ a0_))) from Or.inr (⟨(show 0 = 0 by first | with_reducible assumption | assumption | omega), (show (a0_ < 0 ∨ ze Mz (d_ + 1) 5 ≤ a0_) by first | with_reducible assumption | assumption | omega)⟩)) d_Group_hasPlace_17
  · skip
    refine zw_iload_n (pc := 4) (n := 1) (x := Int32.ofInt a0_) rfl (zdal_p dlB_Group_hasPlace_6 (i := 2) rfl) ?_
    refine zw_aload_n (pc := 5) (n := 0) (x := (d_ + 1)) rfl (zdal_p dlB_Group_hasPlace_6 (i := 3) rfl) ?_
    refine zk_getI (pc := 6) f_Group_32 rfl ((hf.w hW).kr (o := 1) (by decide)) (zdal_p dlB_Group_hasPlace_6 (i := 4) rfl) ?_
    refine zr_icmp_ge (pc := 9) (tgt := 16) ⟨ha0_a, ha0_b⟩ ⟨(ze_r Mz (d_ + 1) 5).1, (ze_r Mz (d_ + 1) 5).2⟩ (by decide) (zdal_p dlB_Group_hasPlace_6 (i := 5) rfl) (fun hc_9 => ?_) (fun hc_9 => ?_)
    · skip
      refine zw_iconst (pc := 16) (v := Int32.ofInt 0) (by decide) (zdal_p dlB_Group_hasPlace_6 (i := 8) rfl) ?_
      exact zk_iret (pc := 17) (ty := .boolean) rfl (z_narB (by omega)) ⟨by omega, by omega⟩ hf (show ((0 = 1 ∧ 0 ≤ a0_ ∧ a0_ < ze Mz (d_ + 1) 5) ∨ (0 = 0 ∧ (a0_ < 0 ∨ ze Mz (d_ + 1) 5 ≤ a0_))) from Or.inr (⟨(show 0 = 0 by first | with_reducible assumption | assumption | omega), (show (a0_ < 0 ∨ ze Mz (d_ + 1) 5 ≤ a0_) by first | with_reducible assumption | assumption | omega)⟩)) d_Group_hasPlace_17
    · skip
      refine zw_iconst (pc := 12) (v := Int32.ofInt 1) (by decide) (zdal_p dlB_Group_hasPlace_6 (i := 6) rfl) ?_
      refine zw_goto (pc := 13) (tgt := 17) (by decide) (zdal_p dlB_Group_hasPlace_6 (i := 7) rfl) ?_
      exact zk_iret (pc := 17) (ty := .boolean) rfl (z_narB (by omega)) ⟨by omega, by omega⟩ hf (show ((1 = 1 ∧ 0 ≤ a0_ ∧ a0_ < ze Mz (d_ + 1) 5) ∨ (1 = 0 ∧ (a0_ < 0 ∨ ze Mz (d_ + 1) 5 ≤ a0_))) from Or.inl (⟨(show 1 = 1 by first | with_reducible assumption | assumption | omega), (show 0 ≤ a0_ by first | with_reducible assumption | assumption | omega), (show a0_ < ze Mz (d_ + 1) 5 by first | with_reducible assumption | assumption | omega)⟩)) d_Group_hasPlace_17
set_option maxHeartbeats 4000000 in
theorem u_T_movesG (l : Launch) (d_ : Nat) (Mz : zMem) (hW : zKW d_ Mz) (hnow : zf Mz 0 2 = some (d_ + 0)) (a0_ : Int) (ha0_a : -2147483648 ≤ a0_) (ha0_b : a0_ < 2147483648) (a1_ : Int) (ha1_a : -2147483648 ≤ a1_) (ha1_b : a1_ < 2147483648) (T_ : zGT) (hT_ : T_ ∈ gTabs) (P_ : Nat) (mv_ : List Nat) (p0_ : zMvK mv_ P_ d_ Mz) (p1_ : zGc mv_ P_ T_ d_ Mz) : zC l m_T_moves 0 0 [.ref 0, .int (Int32.ofInt a0_), .int (Int32.ofInt a1_)] Mz (zqcI d_ [] [] [] [] Mz (fun v N => (((0 ≤ a0_ ∧ a0_ < (gN T_ : Int) ∧ 0 ≤ a1_ ∧ a1_ < (P_ : Int) ∧ ∃ c_ : Nat → Nat, gTb mv_ c_ T_ ∧ v = ((gdg (c_ (a0_).toNat) (a1_).toNat : Nat) : Int)) ∨ (¬ (0 ≤ a0_ ∧ a0_ < (gN T_ : Int) ∧ 0 ≤ a1_ ∧ a1_ < (P_ : Int)) ∧ v = (-1 : Int)))))) := by
  refine zC_of (L0 := [some (.ref 0), some (.int (Int32.ofInt a0_)), some (.int (Int32.ofInt a1_)), none]) md_T_moves (Nat.le_of_ble_eq_true rfl) rfl ?_ zQ0
  have hf : zFc d_ [] [] [] [] Mz Mz := zFc.rf
  have r_D1_5 := ze_r Mz (d_ + 1) 5
  have r_D1_7 := ze_r Mz (d_ + 1) 7
  have hO_ := gTabs_ok T_ hT_
  have hG_ := hO_.1
  have hn24_ := hG_.2.1
  have hn1_ := hG_.1
  obtain ⟨⟨hP0_, hP1_, hP6_⟩, -⟩ := id p0_
  have hsz_ := p1_.2.1
  refine zw_aload_n (pc := 0) (n := 0) (x := 0) rfl (zdal_p dlB_T_moves_4 (i := 0) rfl) ?_
  refine zw_getF (pc := 1) f_T_28 rfl ((hf.w hW).ka (o := 0) (by decide)) (hf.now hnow) (zdal_p dlB_T_moves_4 (i := 1) rfl) ?_
  refine zw_getF (pc := 4) f_T_61 rfl ((hf.w hW).kr (o := 0) (by decide)) ((hf.w hW).lr (o := 0) (s := 0) (r := 1) (by decide)) (zdal_p dlB_T_moves_4 (i := 2) rfl) ?_
  refine zw_astore_n (pc := 7) (i := 3) (L2 := [some (.ref 0), some (.int (Int32.ofInt a0_)), some (.int (Int32.ofInt a1_)), some (.ref (d_ + 1))]) rfl (by decide) rfl (zdal_p dlB_T_moves_4 (i := 3) rfl) ?_
  refine zw_aload_n (pc := 8) (n := 3) (x := (d_ + 1)) rfl (zdal_p dlB_T_moves_4 (i := 4) rfl) ?_
  refine zw_iload_n (pc := 9) (n := 1) (x := Int32.ofInt a0_) rfl (zdal_p dlB_T_moves_4 (i := 5) rfl) ?_
  refine zk_callV hf.x (pc := 10) [.int (Int32.ofInt a0_)] [] l_T_108 (u_Group_hasMemberG l d_ Mz (hf.w hW) a0_ ha0_a ha0_b) rfl rfl ((hf.w hW).kr (o := 1) (by decide)) (by decide) (by decide) (Nat.le_of_ble_eq_true rfl) (zdal_p dlB_T_moves_4 (i := 6) rfl) ?_
  rintro _ N1_ ⟨v2_, rfl, ⟨hv2_a, hv2_b⟩, hsN1_, hp0_N1_⟩
  obtain rfl := hsN1_.eq.symm
  replace hp0_N1_ : ((v2_ = 1 ∧ 0 ≤ a0_ ∧ a0_ < ze Mz (d_ + 1) 7) ∨ (v2_ = 0 ∧ (a0_ < 0 ∨ ze Mz (d_ + 1) 7 ≤ a0_))) := hp0_N1_
  rcases hp0_N1_ with ⟨rfl, ha10_0_hp0_N1_, ha10_1_hp0_N1_⟩ | ⟨rfl, ha10_0_hp0_N1_⟩
  · skip
    show zW l m_T_moves (zn Mz + 0, zw Mz + 0) Mz 13 [some (.ref 0), some (.int (Int32.ofInt a0_)), some (.int (Int32.ofInt a1_)), some (.ref (d_ + 1))] [.int (Int32.ofInt 1)] _
    refine zr_if_eq (pc := 13) (tgt := 39) ⟨(by decide), (by decide)⟩ (by decide) (zdal_p dlB_T_moves_4 (i := 7) rfl) (fun hc_13 => ?_) (fun hc_13 => ?_)
    · skip
      exact absurd hc_13 (by decide)
    · skip
      refine zw_aload_n (pc := 16) (n := 3) (x := (d_ + 1)) rfl (zdal_p dlB_T_moves_4 (i := 8) rfl) ?_
      refine zw_iload_n (pc := 17) (n := 2) (x := Int32.ofInt a1_) rfl (zdal_p dlB_T_moves_4 (i := 9) rfl) ?_
      refine zk_callV hf.x (pc := 18) [.int (Int32.ofInt a1_)] [] l_T_111 (u_Group_hasPlaceG l d_ Mz (hf.w hW) a1_ ha1_a ha1_b) rfl rfl ((hf.w hW).kr (o := 1) (by decide)) (by decide) (by decide) (Nat.le_of_ble_eq_true rfl) (zdal_p dlB_T_moves_4 (i := 10) rfl) ?_
      rintro _ N3_ ⟨v4_, rfl, ⟨hv4_a, hv4_b⟩, hsN3_, hp0_N3_⟩
      obtain rfl := hsN3_.eq.symm
      replace hp0_N3_ : ((v4_ = 1 ∧ 0 ≤ a1_ ∧ a1_ < ze Mz (d_ + 1) 5) ∨ (v4_ = 0 ∧ (a1_ < 0 ∨ ze Mz (d_ + 1) 5 ≤ a1_))) := hp0_N3_
      rcases hp0_N3_ with ⟨rfl, ha18_0_hp0_N3_, ha18_1_hp0_N3_⟩ | ⟨rfl, ha18_0_hp0_N3_⟩
      · skip
        show zW l m_T_moves (zn Mz + 0, zw Mz + 0) Mz 21 [some (.ref 0), some (.int (Int32.ofInt a0_)), some (.int (Int32.ofInt a1_)), some (.ref (d_ + 1))] [.int (Int32.ofInt 1)] _
        refine zr_if_eq (pc := 21) (tgt := 39) ⟨(by decide), (by decide)⟩ (by decide) (zdal_p dlB_T_moves_4 (i := 11) rfl) (fun hc_21 => ?_) (fun hc_21 => ?_)
        · skip
          exact absurd hc_21 (by decide)
        · skip
          refine zw_aload_n (pc := 24) (n := 3) (x := (d_ + 1)) rfl (zdal_p dlB_T_moves_4 (i := 12) rfl) ?_
          refine zw_getF (pc := 25) f_T_114 rfl ((hf.w hW).kr (o := 1) (by decide)) ((hf.w hW).lr (o := 1) (s := 1) (r := 4) (by decide)) (zdal_p dlB_T_moves_4 (i := 13) rfl) ?_
          refine zw_iload_n (pc := 28) (n := 1) (x := Int32.ofInt a0_) rfl (zdal_p dlB_T_moves_4 (i := 14) rfl) ?_
          refine zk_at hf.x (pc := 29) l_T_118 ((hf.w hW).kr (o := 4) (by decide)) ((hf.w hW).lr (o := 4) (s := 0) (r := 5) (by decide)) ((hf.w hW).rr (o := 5) (t := 1) (n := 24) (by decide)) (by decide) (by omega) (by omega) (by decide) (Nat.le_of_ble_eq_true rfl) (zdal_p dlB_T_moves_4 (i := 15) rfl) (fun v5_ hv5_ hv5_a hv5_b => ?_)
          have hc1_ := hv5_
          have hc2_ := p1_.2.2 (a0_).toNat (by omega)
          rw [← hc1_] at hc2_
          have hc3_ := hc2_.1
          have hc4_ := hc2_.2.1
          refine zw_iload_n (pc := 32) (n := 2) (x := Int32.ofInt a1_) rfl (zdal_p dlB_T_moves_4 (i := 16) rfl) ?_
          refine zr_callS hf.x (pc := 33) [.int (Int32.ofInt v5_), .int (Int32.ofInt a1_)] [] l_T_124 (u_T_placeIn l d_ Mz (hf.w hW) v5_ hv5_a hv5_b a1_ ha1_a ha1_b (show 0 ≤ v5_ by first | with_reducible assumption | assumption | omega) (show v5_ < 262144 by first | with_reducible assumption | assumption | omega) (show 0 ≤ a1_ by first | with_reducible assumption | assumption | omega) (show a1_ ≤ 5 by first | with_reducible assumption | assumption | omega)) rfl rfl (by decide) (Nat.le_of_ble_eq_true rfl) (zdal_p dlB_T_moves_4 (i := 17) rfl) ?_
          rintro _ N6_ ⟨v7_, rfl, ⟨hv7_a, hv7_b⟩, hsN6_, hp0_N6_⟩
          obtain rfl := hsN6_.eq.symm
          replace hp0_N6_ : v7_ = (gdg (v5_).toNat (a1_).toNat : Nat) := hp0_N6_
          show zW l m_T_moves (zn Mz + 0, zw Mz + 0) Mz 36 [some (.ref 0), some (.int (Int32.ofInt a0_)), some (.int (Int32.ofInt a1_)), some (.ref (d_ + 1))] [.int (Int32.ofInt v7_)] _
          have hd_ := hp0_N6_
          rw [hc1_, p1_.dg hP6_ (by omega) (by omega)] at hd_
          refine zw_goto (pc := 36) (tgt := 40) (by decide) (zdal_p dlB_T_moves_4 (i := 18) rfl) ?_
          exact zk_iret (pc := 40) (ty := .int) rfl rfl ⟨by omega, by omega⟩ hf (show ((0 ≤ a0_ ∧ a0_ < (gN T_ : Int) ∧ 0 ≤ a1_ ∧ a1_ < (P_ : Int) ∧ ∃ c_ : Nat → Nat, gTb mv_ c_ T_ ∧ v7_ = ((gdg (c_ (a0_).toNat) (a1_).toNat : Nat) : Int)) ∨ (¬ (0 ≤ a0_ ∧ a0_ < (gN T_ : Int) ∧ 0 ≤ a1_ ∧ a1_ < (P_ : Int)) ∧ v7_ = (-1 : Int))) by first | exact Or.inr ⟨by omega, rfl⟩ | exact Or.inl ⟨by omega, by omega, by omega, by omega, _, p1_.1, hd_⟩) (zdal_p dlB_T_moves_4 (i := 20) rfl)
      · skip
        show zW l m_T_moves (zn Mz + 0, zw Mz + 0) Mz 21 [some (.ref 0), some (.int (Int32.ofInt a0_)), some (.int (Int32.ofInt a1_)), some (.ref (d_ + 1))] [.int (Int32.ofInt 0)] _
        refine zr_if_eq (pc := 21) (tgt := 39) ⟨(by decide), (by decide)⟩ (by decide) (zdal_p dlB_T_moves_4 (i := 11) rfl) (fun hc_21 => ?_) (fun hc_21 => ?_)
        · skip
          refine zw_iconst (pc := 39) (v := Int32.ofInt (-1)) (by decide) (zdal_p dlB_T_moves_4 (i := 19) rfl) ?_
          exact zk_iret (pc := 40) (ty := .int) rfl rfl ⟨by omega, by omega⟩ hf (show ((0 ≤ a0_ ∧ a0_ < (gN T_ : Int) ∧ 0 ≤ a1_ ∧ a1_ < (P_ : Int) ∧ ∃ c_ : Nat → Nat, gTb mv_ c_ T_ ∧ ((-1)) = ((gdg (c_ (a0_).toNat) (a1_).toNat : Nat) : Int)) ∨ (¬ (0 ≤ a0_ ∧ a0_ < (gN T_ : Int) ∧ 0 ≤ a1_ ∧ a1_ < (P_ : Int)) ∧ ((-1)) = (-1 : Int))) by first | exact Or.inr ⟨by omega, rfl⟩ | exact Or.inl ⟨by omega, by omega, by omega, by omega, _, p1_.1, hd_⟩) (zdal_p dlB_T_moves_4 (i := 20) rfl)
        · skip
          exact absurd hc_21 (by decide)
  · skip
    show zW l m_T_moves (zn Mz + 0, zw Mz + 0) Mz 13 [some (.ref 0), some (.int (Int32.ofInt a0_)), some (.int (Int32.ofInt a1_)), some (.ref (d_ + 1))] [.int (Int32.ofInt 0)] _
    refine zr_if_eq (pc := 13) (tgt := 39) ⟨(by decide), (by decide)⟩ (by decide) (zdal_p dlB_T_moves_4 (i := 7) rfl) (fun hc_13 => ?_) (fun hc_13 => ?_)
    · skip
      refine zw_iconst (pc := 39) (v := Int32.ofInt (-1)) (by decide) (zdal_p dlB_T_moves_4 (i := 19) rfl) ?_
      exact zk_iret (pc := 40) (ty := .int) rfl rfl ⟨by omega, by omega⟩ hf (show ((0 ≤ a0_ ∧ a0_ < (gN T_ : Int) ∧ 0 ≤ a1_ ∧ a1_ < (P_ : Int) ∧ ∃ c_ : Nat → Nat, gTb mv_ c_ T_ ∧ ((-1)) = ((gdg (c_ (a0_).toNat) (a1_).toNat : Nat) : Int)) ∨ (¬ (0 ≤ a0_ ∧ a0_ < (gN T_ : Int) ∧ 0 ≤ a1_ ∧ a1_ < (P_ : Int)) ∧ ((-1)) = (-1 : Int))) by first | exact Or.inr ⟨by omega, rfl⟩ | exact Or.inl ⟨by omega, by omega, by omega, by omega, _, p1_.1, hd_⟩) (zdal_p dlB_T_moves_4 (i := 20) rfl)
    · skip
      exact absurd hc_13 (by decide)
