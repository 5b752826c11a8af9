set_option maxHeartbeats 4000000 in
theorem u_Group_hasPlaceG (l : Launch) (d_ : Nat) (Mz : zMem) (hW : zKW d_ Mz) (a0_ : Int) (ha0_a : -2147483648 ≤ a0_) (ha0_b : a0_ < 2147483648) : zC l m_Group_hasPlace 0 0 [.ref (d_ + 1), .int (Int32.ofInt a0_)] Mz (zqcI d_ [] [] [] [] Mz (fun v N => (((v = 1 ∧ 0 ≤ a0_ ∧ a0_ < ze Mz (d_ + 1) 5) ∨ (v = 0 ∧ (a0_ < 0 ∨ ze Mz (d_ + 1) 5 ≤ a0_)))))) := by
  refine zC_of (L0 := [some (.ref (d_ + 1)), some (.int (Int32.ofInt a0_))]) md_Group_hasPlace (Nat.le_of_ble_eq_true rfl) rfl ?_ zQ0
  have hf : zFc d_ [] [] [] [] Mz Mz := zFc.rf
  have r_D1_5 := ze_r Mz (d_ + 1) 5
  refine zw_iload_n (pc := 0) (n := 1) (x := Int32.ofInt a0_) rfl (zdal_p dlB_Group_hasPlace_6 (i := 0) rfl) ?_
  refine zr_if_lt (pc := 1) (tgt := 16) ⟨ha0_a, ha0_b⟩ (by decide) (zdal_p dlB_Group_hasPlace_6 (i := 1) rfl) (fun hc_1 => ?_) (fun hc_1 => ?_)
  · skip
    refine zw_iconst (pc := 16) (v := Int32.ofInt 0) (by decide) (zdal_p dlB_Group_hasPlace_6 (i := 8) rfl) ?_
    exact zk_iret (pc := 17) (ty := .boolean) rfl (z_narB (by omega)) ⟨by omega, by omega⟩ hf (show ((0 = 1 ∧ 0 ≤ a0_ ∧ a0_ < ze Mz (d_ + 1) 5) ∨ (0 = 0 ∧ (a0_ < 0 ∨ ze Mz (d_ + 1) 5 ≤ a0_))) from Or.inr (⟨(show 0 = 0 by first | with_reducible assumption | assumption | omega), (show (a0_ < 0 ∨ ze Mz (d_ + 1) 5 ≤ a0_) by first | with_reducible assumption | assumption | omega)⟩)) d_Group_hasPlace_17
  · skip
    refine zw_iload_n (pc := 4) (n := 1) (x := Int32.ofInt a0_) rfl (zdal_p dlB_Group_hasPlace_6 (i := 2) rfl) ?_
    refine zw_aload_n (pc := 5) (n := 0) (x := (d_ + 1)) rfl (zdal_p dlB_Group_hasPlace_6 (i := 3) rfl) ?_
    refine zk_getI (pc := 6) f_Group_32 rfl ((hf.w hW).kr (o := 1) (by decide)) (zdal_p dlB_Group_hasPlace_6 (i := 4) rfl) ?_
    refine zr_icmp_ge (pc := 9) (tgt := 16) ⟨ha0_a, ha0_b⟩ ⟨(ze_r Mz (d_ + 1) 5).1, (ze_r Mz (d_ + 1) 5).2⟩ (by decide) (zdal_p dlB_Group_hasPlace_6 (i := 5) rfl) (fun hc_9 => ?_) (fun hc_9 => ?_)
    · skip
      refine zw_iconst (pc := 16) (v := Int32.ofInt 0) (by decide) (zdal_p dlB_Group_hasPlace_6 (i := 8) rfl) ?_
      exact zk_iret (pc := 17) (ty := .boolean) rfl (z_narB (by omega)) ⟨by omega, by omega⟩ hf (show ((0 = 1 ∧ 0 ≤ a0_ ∧ a0_ < ze Mz (d_ + 1) 5) ∨ (0 = 0 ∧ (a0_ < 0 ∨ ze Mz (d_ + 1) 5 ≤ a0_))) from Or.inr (⟨(show 0 = 0 by first | with_reducible assumption | assumption | omega), (show (a0_ < 0 ∨ ze Mz (d_ + 1) 5 ≤ a0_) by first | with_reducible assumption | assumption | omega)⟩)) d_Group_hasPlace_17
    · skip
      refine zw_iconst (pc := 12) (v := Int32.ofInt 1) (by decide) (zdal_p dlB_Group_hasPlace_6 (i := 6) rfl) ?_
      refine zw_goto (pc := 13) (tgt := 17) (by decide) (zdal_p dlB_Group_hasPlace_6 (i := 7) rfl) ?_
      exact zk_iret (pc := 17) (ty := .boolean) rfl (z_narB (by omega)) ⟨by omega, by omega⟩ hf (show ((1 = 1 ∧ 0 ≤ a0_ ∧ a0_ < ze Mz (d_ + 1) 5) ∨ (1 = 0 ∧ (a0_ < 0 ∨ ze Mz (d_ + 1) 5 ≤ a0_))) from Or.inl (⟨(show 1 = 1 by first | with_reducible assumption | assumption | omega), (show 0 ≤ a0_ by first | with_reducible assumption | assumption | omega), (show a0_ < ze Mz (d_ + 1) 5 by first | with_reducible assumption | assumption | omega)⟩)) d_Group_hasPlace_17
set_option maxHeartbeats 4000000 in
theorem u_Group_keepersOfG (l : Launch) (d_ : Nat) (Mz : zMem) (hW : zKW d_ Mz) (a0_ : Int) (ha0_a : -2147483648 ≤ a0_) (ha0_b : a0_ < 2147483648) (T_ : zGT) (hT_ : T_ ∈ gTabs) (P_ : Nat) (mv_ : List Nat) (p0_ : zMvK mv_ P_ d_ Mz) (p1_ : zGc mv_ P_ T_ d_ Mz) (p2_ : 0 ≤ a0_) (p3_ : a0_ < (P_ : Int)) : zC l m_Group_keepersOf 0 0 [.ref (d_ + 1), .int (Int32.ofInt a0_)] Mz (zqcI d_ [] [] [] [] Mz (fun v N => v = ((zbq (fun m_ => gdg (zCo P_ d_ Mz m_) (a0_).toNat = (a0_).toNat) (gN T_) : Nat) : Int))) := by
  refine zC_of (L0 := [some (.ref (d_ + 1)), some (.int (Int32.ofInt a0_)), none, none]) md_Group_keepersOf (Nat.le_of_ble_eq_true rfl) rfl ?_ zQ0
  have hf : zFc d_ [] [] [] [] Mz Mz := zFc.rf
  have r_D1_7 := ze_r Mz (d_ + 1) 7
  have hO_ := gTabs_ok T_ hT_
  have hG_ := hO_.1
  have hn24_ := hG_.2.1
  have hn1_ := hG_.1
  obtain ⟨⟨hP0_, hP1_, hP6_⟩, -⟩ := id p0_
  have hsz_ := p1_.2.1
  refine zw_iconst (pc := 0) (v := Int32.ofInt 0) (by decide) (zdal_p dlB_Group_keepersOf_38 (i := 0) rfl) ?_
  refine zw_istore_n (pc := 1) (i := 2) (L2 := [some (.ref (d_ + 1)), some (.int (Int32.ofInt a0_)), some (.int (Int32.ofInt 0)), none]) rfl (by decide) rfl (zdal_p dlB_Group_keepersOf_38 (i := 1) rfl) ?_
  refine zw_iconst (pc := 2) (v := Int32.ofInt 0) (by decide) (zdal_p dlB_Group_keepersOf_38 (i := 2) rfl) ?_
  refine zw_istore_n (pc := 3) (i := 3) (L2 := [some (.ref (d_ + 1)), some (.int (Int32.ofInt a0_)), some (.int (Int32.ofInt 0)), some (.int (Int32.ofInt 0))]) rfl (by decide) rfl (zdal_p dlB_Group_keepersOf_38 (i := 3) rfl) ?_
  have lp_4 : ∀ (n : Nat) (u1_ : Int) (hu1_a : -2147483648 ≤ u1_) (hu1_b : u1_ < 2147483648) (u2_ : Int) (hu2_a : -2147483648 ≤ u2_) (hu2_b : u2_ < 2147483648) (i3_ : 0 ≤ u2_) (i4_ : u2_ ≤ gN T_) (i5_ : u1_ = ((zbq (fun m_ => gdg (zCo P_ d_ Mz m_) (a0_).toNat = (a0_).toNat) (u2_).toNat : Nat) : Int)), (gN T_ - u2_).toNat < n → zW l m_Group_keepersOf (zn Mz + 0, zw Mz + 0) Mz 4 [some (.ref (d_ + 1)), some (.int (Int32.ofInt a0_)), some (.int (Int32.ofInt u1_)), some (.int (Int32.ofInt u2_))] [] (zqcI d_ [] [] [] [] Mz (fun v N => v = ((zbq (fun m_ => gdg (zCo P_ d_ Mz m_) (a0_).toNat = (a0_).toNat) (gN T_) : Nat) : Int))) := by
    intro n
    induction n with
    | zero =>
      intro u1_ hu1_a hu1_b u2_ hu2_a hu2_b i3_ i4_ i5_ h0
      exact absurd h0 (Nat.not_lt_zero _)
    | succ n ih_4 =>
      intro u1_ hu1_a hu1_b u2_ hu2_a hu2_b i3_ i4_ i5_ hlt_4
      have hkb_ := (show u1_ = ((zbq (fun m_ => gdg (zCo P_ d_ Mz m_) (a0_).toNat = (a0_).toNat) (u2_).toNat : Nat) : Int) by first | with_reducible assumption | assumption)
      have hkr_ := zbq_r hn24_ (by omega) hkb_
      refine zw_iload_n (pc := 4) (n := 3) (x := Int32.ofInt u2_) rfl (zdal_p dlB_Group_keepersOf_38 (i := 4) rfl) ?_
      refine zw_aload_n (pc := 5) (n := 0) (x := (d_ + 1)) rfl (zdal_p dlB_Group_keepersOf_38 (i := 5) rfl) ?_
      refine zk_getI (pc := 6) f_Group_39 rfl ((hf.w hW).kr (o := 1) (by decide)) (zdal_p dlB_Group_keepersOf_38 (i := 6) rfl) ?_
      refine zr_icmp_ge (pc := 9) (tgt := 40) ⟨hu2_a, hu2_b⟩ ⟨(ze_r Mz (d_ + 1) 7).1, (ze_r Mz (d_ + 1) 7).2⟩ (by decide) (zdal_p dlB_Group_keepersOf_38 (i := 7) rfl) (fun hc_9 => ?_) (fun hc_9 => ?_)
      · skip
        refine zw_iload_n (pc := 40) (n := 2) (x := Int32.ofInt u1_) rfl (zdal_p dlB_Group_keepersOf_39 (i := 0) rfl) ?_
        exact zk_iret (pc := 41) (ty := .int) rfl rfl ⟨by omega, by omega⟩ hf (show u1_ = ((zbq (fun m_ => gdg (zCo P_ d_ Mz m_) (a0_).toNat = (a0_).toNat) (gN T_) : Nat) : Int) by rw [show gN T_ = (u2_).toNat by omega]; exact hkb_) (zdal_p dlB_Group_keepersOf_39 (i := 1) rfl)
      · skip
        refine zw_aload_n (pc := 12) (n := 0) (x := (d_ + 1)) rfl (zdal_p dlB_Group_keepersOf_38 (i := 8) rfl) ?_
        refine zw_getF (pc := 13) f_Group_20 rfl ((hf.w hW).kr (o := 1) (by decide)) ((hf.w hW).lr (o := 1) (s := 1) (r := 4) (by decide)) (zdal_p dlB_Group_keepersOf_38 (i := 9) rfl) ?_
        refine zw_iload_n (pc := 16) (n := 3) (x := Int32.ofInt u2_) rfl (zdal_p dlB_Group_keepersOf_38 (i := 10) rfl) ?_
        refine zk_at hf.x (pc := 17) l_Group_54 ((hf.w hW).kr (o := 4) (by decide)) ((hf.w hW).lr (o := 4) (s := 0) (r := 5) (by decide)) ((hf.w hW).rr (o := 5) (t := 1) (n := 24) (by decide)) (by decide) (by omega) (by omega) (by decide) (Nat.le_of_ble_eq_true rfl) (zdal_p dlB_Group_keepersOf_38 (i := 11) rfl) (fun v6_ hv6_ hv6_a hv6_b => ?_)
        have hc1_ := hv6_
        have hc2_ := p1_.2.2 (u2_).toNat (by omega)
        rw [← hc1_] at hc2_
        have hc3_ := hc2_.1
        have hc4_ := hc2_.2.1
        refine zw_iload_n (pc := 20) (n := 1) (x := Int32.ofInt a0_) rfl (zdal_p dlB_Group_keepersOf_38 (i := 12) rfl) ?_
        refine zr_callS hf.x (pc := 21) [.int (Int32.ofInt v6_), .int (Int32.ofInt a0_)] [] l_Group_64 (u_T_placeIn l d_ Mz (hf.w hW) v6_ hv6_a hv6_b a0_ ha0_a ha0_b (show 0 ≤ v6_ by first | with_reducible assumption | assumption | omega) (show v6_ < 262144 by first | with_reducible assumption | assumption | omega) (show 0 ≤ a0_ by first | with_reducible assumption | assumption | omega) (show a0_ ≤ 5 by first | with_reducible assumption | assumption | omega)) rfl rfl (by decide) (Nat.le_of_ble_eq_true rfl) (zdal_p dlB_Group_keepersOf_38 (i := 13) rfl) ?_
        rintro _ N7_ ⟨v8_, rfl, ⟨hv8_a, hv8_b⟩, hsN7_, hp0_N7_⟩
        obtain rfl := hsN7_.eq.symm
        replace hp0_N7_ : v8_ = (gdg (v6_).toNat (a0_).toNat : Nat) := hp0_N7_
        show zW l m_Group_keepersOf (zn Mz + 0, zw Mz + 0) Mz 24 [some (.ref (d_ + 1)), some (.int (Int32.ofInt a0_)), some (.int (Int32.ofInt u1_)), some (.int (Int32.ofInt u2_))] [.int (Int32.ofInt v8_)] _
        have hd_ := hp0_N7_
        rw [hc1_, p1_.dg hP6_ (by omega) (by omega)] at hd_
        refine zw_iload_n (pc := 24) (n := 1) (x := Int32.ofInt a0_) rfl (zdal_p dlB_Group_keepersOf_38 (i := 14) rfl) ?_
        refine zr_icmp_ne (pc := 25) (tgt := 34) ⟨hv8_a, hv8_b⟩ ⟨ha0_a, ha0_b⟩ (by decide) (zdal_p dlB_Group_keepersOf_38 (i := 15) rfl) (fun hc_25 => ?_) (fun hc_25 => ?_)
        · skip
          refine zr_iinc (pc := 34) (i := 3) (a := u2_) (n := 1) (L2 := [some (.ref (d_ + 1)), some (.int (Int32.ofInt a0_)), some (.int (Int32.ofInt u1_)), some (.int (Int32.ofInt (u2_ + 1)))]) rfl (by decide) rfl (zdal_p dlB_Group_keepersOf_38 (i := 22) rfl) ?_
          refine zw_goto (pc := 37) (tgt := 4) (by decide) (zdal_p dlB_Group_keepersOf_38 (i := 23) rfl) ?_
          have hkn_ : u1_ = ((zbq (fun m_ => gdg (zCo P_ d_ Mz m_) (a0_).toNat = (a0_).toNat) ((u2_ + 1)).toNat : Nat) : Int) := by first | exact zbq_1 (p := (fun m_ => gdg (zCo P_ d_ Mz m_) (a0_).toNat = (a0_).toNat)) (by omega) (by omega) hkb_ (show gdg _ _ = _ by omega) | exact zbq_0 (p := (fun m_ => gdg (zCo P_ d_ Mz m_) (a0_).toNat = (a0_).toNat)) (by omega) hkb_ (show ¬ gdg _ _ = _ by omega)
          exact ih_4 u1_ hu1_a hu1_b (u2_ + 1) (by omega) (by omega) (show 0 ≤ (u2_ + 1) by first | with_reducible assumption | assumption | omega) (show (u2_ + 1) ≤ gN T_ by first | with_reducible assumption | assumption | omega) (show u1_ = ((zbq (fun m_ => gdg (zCo P_ d_ Mz m_) (a0_).toNat = (a0_).toNat) ((u2_ + 1)).toNat : Nat) : Int) by exact hkn_) (by omega)
        · skip
          refine zw_iload_n (pc := 28) (n := 2) (x := Int32.ofInt u1_) rfl (zdal_p dlB_Group_keepersOf_38 (i := 16) rfl) ?_
          refine zw_iconst (pc := 29) (v := Int32.ofInt 1) (by decide) (zdal_p dlB_Group_keepersOf_38 (i := 17) rfl) ?_
          refine zw_iload_n (pc := 30) (n := 3) (x := Int32.ofInt u2_) rfl (zdal_p dlB_Group_keepersOf_38 (i := 18) rfl) ?_
          refine zr_ishl (pc := 31) (zdal_p dlB_Group_keepersOf_38 (i := 19) rfl) ?_
          have hr9_ := zshl_r 1 u2_
          refine zr_ior (pc := 32) (zdal_p dlB_Group_keepersOf_38 (i := 20) rfl) ?_
          have hr10_ := zor_r u1_ (zshl 1 u2_)
          refine zw_istore_n (pc := 33) (i := 2) (L2 := [some (.ref (d_ + 1)), some (.int (Int32.ofInt a0_)), some (.int (Int32.ofInt (zor u1_ (zshl 1 u2_)))), some (.int (Int32.ofInt u2_))]) rfl (by decide) rfl (zdal_p dlB_Group_keepersOf_38 (i := 21) rfl) ?_
          refine zr_iinc (pc := 34) (i := 3) (a := u2_) (n := 1) (L2 := [some (.ref (d_ + 1)), some (.int (Int32.ofInt a0_)), some (.int (Int32.ofInt (zor u1_ (zshl 1 u2_)))), some (.int (Int32.ofInt (u2_ + 1)))]) rfl (by decide) rfl (zdal_p dlB_Group_keepersOf_38 (i := 22) rfl) ?_
          refine zw_goto (pc := 37) (tgt := 4) (by decide) (zdal_p dlB_Group_keepersOf_38 (i := 23) rfl) ?_
          have hkn_ : (zor u1_ (zshl 1 u2_)) = ((zbq (fun m_ => gdg (zCo P_ d_ Mz m_) (a0_).toNat = (a0_).toNat) ((u2_ + 1)).toNat : Nat) : Int) := by first | exact zbq_1 (p := (fun m_ => gdg (zCo P_ d_ Mz m_) (a0_).toNat = (a0_).toNat)) (by omega) (by omega) hkb_ (show gdg _ _ = _ by omega) | exact zbq_0 (p := (fun m_ => gdg (zCo P_ d_ Mz m_) (a0_).toNat = (a0_).toNat)) (by omega) hkb_ (show ¬ gdg _ _ = _ by omega)
          exact ih_4 (zor u1_ (zshl 1 u2_)) (by omega) (by omega) (u2_ + 1) (by omega) (by omega) (show 0 ≤ (u2_ + 1) by first | with_reducible assumption | assumption | omega) (show (u2_ + 1) ≤ gN T_ by first | with_reducible assumption | assumption | omega) (show (zor u1_ (zshl 1 u2_)) = ((zbq (fun m_ => gdg (zCo P_ d_ Mz m_) (a0_).toNat = (a0_).toNat) ((u2_ + 1)).toNat : Nat) : Int) by exact hkn_) (by omega)
  exact lp_4 _ 0 (by decide) (by decide) 0 (by decide) (by decide) (show 0 ≤ (0 : Int) by first | with_reducible assumption | assumption | omega) (show (0 : Int) ≤ gN T_ by first | with_reducible assumption | assumption | omega) (show (0 : Int) = ((zbq (fun m_ => gdg (zCo P_ d_ Mz m_) (a0_).toNat = (a0_).toNat) ((0 : Int)).toNat : Nat) : Int) by rfl) (Nat.lt_succ_self _)
set_option maxHeartbeats 4000000 in
theorem u_T_keeperG (l : Launch) (d_ : Nat) (Mz : zMem) (hW : zKW d_ Mz) (hnow : zf Mz 0 2 = some (d_ + 0)) (a0_ : Int) (ha0_a : -2147483648 ≤ a0_) (ha0_b : a0_ < 2147483648) (T_ : zGT) (hT_ : T_ ∈ gTabs) (P_ : Nat) (mv_ : List Nat) (p0_ : zMvK mv_ P_ d_ Mz) (p1_ : zGc mv_ P_ T_ d_ Mz) : zC l m_T_keeper 0 0 [.ref 0, .int (Int32.ofInt a0_)] Mz (zqcI d_ [] [] [] [] Mz (fun v N => (((0 ≤ a0_ ∧ a0_ < (P_ : Int) ∧ ∃ c_ : Nat → Nat, gTb mv_ c_ T_ ∧ v = ((zbq (fun m_ => gdg (c_ m_) (a0_).toNat = (a0_).toNat) (gN T_) : Nat) : Int)) ∨ (¬ (0 ≤ a0_ ∧ a0_ < (P_ : Int)) ∧ v = (-1 : Int)))))) := by
  refine zC_of (L0 := [some (.ref 0), some (.int (Int32.ofInt a0_))]) md_T_keeper (Nat.le_of_ble_eq_true rfl) rfl ?_ zQ0
  have hf : zFc d_ [] [] [] [] Mz Mz := zFc.rf
  have r_D1_5 := ze_r Mz (d_ + 1) 5
  have hO_ := gTabs_ok T_ hT_
  have hG_ := hO_.1
  have hn24_ := hG_.2.1
  have hn1_ := hG_.1
  obtain ⟨⟨hP0_, hP1_, hP6_⟩, -⟩ := id p0_
  refine zw_aload_n (pc := 0) (n := 0) (x := 0) rfl (zdal_p dlB_T_keeper_37 (i := 0) rfl) ?_
  refine zw_getF (pc := 1) f_T_28 rfl ((hf.w hW).ka (o := 0) (by decide)) (hf.now hnow) (zdal_p dlB_T_keeper_37 (i := 1) rfl) ?_
  refine zw_getF (pc := 4) f_T_61 rfl ((hf.w hW).kr (o := 0) (by decide)) ((hf.w hW).lr (o := 0) (s := 0) (r := 1) (by decide)) (zdal_p dlB_T_keeper_37 (i := 2) rfl) ?_
  refine zw_iload_n (pc := 7) (n := 1) (x := Int32.ofInt a0_) rfl (zdal_p dlB_T_keeper_37 (i := 3) rfl) ?_
  refine zk_callV hf.x (pc := 8) [.int (Int32.ofInt a0_)] [] l_T_111 (u_Group_hasPlaceG l d_ Mz (hf.w hW) a0_ ha0_a ha0_b) rfl rfl ((hf.w hW).kr (o := 1) (by decide)) (by decide) (by decide) (Nat.le_of_ble_eq_true rfl) (zdal_p dlB_T_keeper_37 (i := 4) rfl) ?_
  rintro _ N1_ ⟨v2_, rfl, ⟨hv2_a, hv2_b⟩, hsN1_, hp0_N1_⟩
  obtain rfl := hsN1_.eq.symm
  replace hp0_N1_ : ((v2_ = 1 ∧ 0 ≤ a0_ ∧ a0_ < ze Mz (d_ + 1) 5) ∨ (v2_ = 0 ∧ (a0_ < 0 ∨ ze Mz (d_ + 1) 5 ≤ a0_))) := hp0_N1_
  rcases hp0_N1_ with ⟨rfl, ha8_0_hp0_N1_, ha8_1_hp0_N1_⟩ | ⟨rfl, ha8_0_hp0_N1_⟩
  · skip
    show zW l m_T_keeper (zn Mz + 0, zw Mz + 0) Mz 11 [some (.ref 0), some (.int (Int32.ofInt a0_))] [.int (Int32.ofInt 1)] _
    refine zr_if_eq (pc := 11) (tgt := 28) ⟨(by decide), (by decide)⟩ (by decide) (zdal_p dlB_T_keeper_37 (i := 5) rfl) (fun hc_11 => ?_) (fun hc_11 => ?_)
    · skip
      exact absurd hc_11 (by decide)
    · skip
      refine zw_aload_n (pc := 14) (n := 0) (x := 0) rfl (zdal_p dlB_T_keeper_37 (i := 6) rfl) ?_
      refine zw_getF (pc := 15) f_T_28 rfl ((hf.w hW).ka (o := 0) (by decide)) (hf.now hnow) (zdal_p dlB_T_keeper_37 (i := 7) rfl) ?_
      refine zw_getF (pc := 18) f_T_61 rfl ((hf.w hW).kr (o := 0) (by decide)) ((hf.w hW).lr (o := 0) (s := 0) (r := 1) (by decide)) (zdal_p dlB_T_keeper_37 (i := 8) rfl) ?_
      refine zw_iload_n (pc := 21) (n := 1) (x := Int32.ofInt a0_) rfl (zdal_p dlB_T_keeper_37 (i := 9) rfl) ?_
      refine zk_callV hf.x (pc := 22) [.int (Int32.ofInt a0_)] [] l_T_192 (u_Group_keepersOfG l d_ Mz (hf.w hW) a0_ ha0_a ha0_b T_ hT_ P_ mv_ p0_ p1_ (show 0 ≤ a0_ by first | with_reducible assumption | assumption | omega) (show a0_ < (P_ : Int) by first | with_reducible assumption | assumption | omega)) rfl rfl ((hf.w hW).kr (o := 1) (by decide)) (by decide) (by decide) (Nat.le_of_ble_eq_true rfl) (zdal_p dlB_T_keeper_37 (i := 10) rfl) ?_
      rintro _ N3_ ⟨v4_, rfl, ⟨hv4_a, hv4_b⟩, hsN3_, hp0_N3_⟩
      obtain rfl := hsN3_.eq.symm
      replace hp0_N3_ : v4_ = ((zbq (fun m_ => gdg (zCo P_ d_ Mz m_) (a0_).toNat = (a0_).toNat) (gN T_) : Nat) : Int) := hp0_N3_
      show zW l m_T_keeper (zn Mz + 0, zw Mz + 0) Mz 25 [some (.ref 0), some (.int (Int32.ofInt a0_))] [.int (Int32.ofInt v4_)] _
      refine zw_goto (pc := 25) (tgt := 29) (by decide) (zdal_p dlB_T_keeper_37 (i := 11) rfl) ?_
      exact zk_iret (pc := 29) (ty := .int) rfl rfl ⟨by omega, by omega⟩ hf (show ((0 ≤ a0_ ∧ a0_ < (P_ : Int) ∧ ∃ c_ : Nat → Nat, gTb mv_ c_ T_ ∧ v4_ = ((zbq (fun m_ => gdg (c_ m_) (a0_).toNat = (a0_).toNat) (gN T_) : Nat) : Int)) ∨ (¬ (0 ≤ a0_ ∧ a0_ < (P_ : Int)) ∧ v4_ = (-1 : Int))) by first | exact Or.inr ⟨by omega, rfl⟩ | exact Or.inl ⟨by omega, by omega, _, p1_.1, by assumption⟩) (zdal_p dlB_T_keeper_37 (i := 13) rfl)
  · skip
    show zW l m_T_keeper (zn Mz + 0, zw Mz + 0) Mz 11 [some (.ref 0), some (.int (Int32.ofInt a0_))] [.int (Int32.ofInt 0)] _
    refine zr_if_eq (pc := 11) (tgt := 28) ⟨(by decide), (by decide)⟩ (by decide) (zdal_p dlB_T_keeper_37 (i := 5) rfl) (fun hc_11 => ?_) (fun hc_11 => ?_)
    · skip
      refine zw_iconst (pc := 28) (v := Int32.ofInt (-1)) (by decide) (zdal_p dlB_T_keeper_37 (i := 12) rfl) ?_
      exact zk_iret (pc := 29) (ty := .int) rfl rfl ⟨by omega, by omega⟩ hf (show ((0 ≤ a0_ ∧ a0_ < (P_ : Int) ∧ ∃ c_ : Nat → Nat, gTb mv_ c_ T_ ∧ ((-1)) = ((zbq (fun m_ => gdg (c_ m_) (a0_).toNat = (a0_).toNat) (gN T_) : Nat) : Int)) ∨ (¬ (0 ≤ a0_ ∧ a0_ < (P_ : Int)) ∧ ((-1)) = (-1 : Int))) by first | exact Or.inr ⟨by omega, rfl⟩ | exact Or.inl ⟨by omega, by omega, _, p1_.1, by assumption⟩) (zdal_p dlB_T_keeper_37 (i := 13) rfl)
    · skip
      exact absurd hc_11 (by decide)
