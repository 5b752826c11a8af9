set_option maxHeartbeats 4000000 in
theorem u_Group_hasPlaceG (l : Launch) (d_ : Nat) (Mz : zMem) (hW : zKW d_ Mz) (a0_ : Int) (ha0_a : -2147483648 ≤ a0_) (ha0_b : a0_ < 2147483648) : zC l m_Group_hasPlace 0 0 [.ref (d_ + 1), .int (Int32.ofInt a0_)] Mz (zqcI d_ [] [] [] [] Mz (fun v N => (((v = 1 ∧ 0 ≤ a0_ ∧ a0_ < ze Mz (d_ + 1) 5) ∨ (v = 0 ∧ (a0_ < 0 ∨ ze Mz (d_ + 1) 5 ≤ a0_)))))) := by
  refine zC_of (L0 := [some (.ref (d_ + 1)), some (.int (Int32.ofInt a0_))]) md_Group_hasPlace (Nat.le_of_ble_eq_true rfl) rfl ?_ zQ0
  have hf : zFc d_ [] [] [] [] Mz Mz := zFc.rf
  have r_D1_5 := ze_r Mz (d_ + 1) 5
  refine zw_iload_n (pc := 0) (n := 1) (x := Int32.ofInt a0_) rfl (zdal_p dlB_Group_hasPlace_6 (i := 0) rfl) ?_
  refine zr_if_lt (pc := 1) (tgt := 16) ⟨ha0_a, ha0_b⟩ (by decide) (zdal_p dlB_Group_hasPlace_6 (i := 1) rfl) (fun hc_1 => ?_) (fun hc_1 => ?_)
  · skip
    refine zw_iconst (pc := 16) (v := Int32.ofInt 0) (by decide) (zdal_p dlB_Group_hasPlace_6 (i := 8) rfl) ?_
    exact zk_iret (pc := 17) (ty := .boolean) rfl (z_narB (by omega)) ⟨by omega, by omega⟩ hf (show ((0 = 1 ∧ 0 ≤ a0_ ∧ a0_ < ze Mz (d_ + 1) 5) ∨ (0 = 0 ∧ (a0_ < 0 ∨ ze Mz (d_ + 1) 5 ≤ a0_))) from Or.inr (⟨(show 0 = 0 by first | with_reducible assumption | assumption | omega), (show (a0_ < 0 ∨ ze Mz (d_ + 1) 5 ≤ a0_) by first | with_reducible assumption | assumption | omega)⟩)) d_Group_hasPlace_17
  · skip
    refine zw_iload_n (pc := 4) (n := 1) (x := Int32.ofInt a0_) rfl (zdal_p dlB_Group_hasPlace_6 (i := 2) rfl) ?_
    refine zw_aload_n (pc := 5) (n := 0) (x := (d_ + 1)) rfl (zdal_p dlB_Group_hasPlace_6 (i := 3) rfl) ?_
    refine zk_getI (pc := 6) f_Group_32 rfl ((hf.w hW).kr (o := 1) (by decide)) (zdal_p dlB_Group_hasPlace_6 (i := 4) rfl) ?_
    refine zr_icmp_ge (pc := 9) (tgt := 16) ⟨ha0_a, ha0_b⟩ ⟨(ze_r Mz (d_ + 1) 5).1, (ze_r Mz (d_ + 1) 5).2⟩ (by decide) (zdal_p dlB_Group_hasPlace_6 (i := 5) rfl) (fun hc_9 => ?_) (fun hc_9 => ?_)
    · skip
      refine zw_iconst (pc := 16) (v := Int32.ofInt 0) (by decide) (zdal_p dlB_Group_hasPlace_6 (i := 8) rfl) ?_
      exact zk_iret (pc := 17) (ty := .boolean) rfl (z_narB (by omega)) ⟨by omega, by omega⟩ hf (show ((0 = 1 ∧ 0 ≤ a0_ ∧ a0_ < ze Mz (d_ + 1) 5) ∨ (0 = 0 ∧ (a0_ < 0 ∨ ze Mz (d_ + 1) 5 ≤ a0_))) from Or.inr (⟨(show 0 = 0 by first | with_reducible assumption | assumption | omega), (show (a0_ < 0 ∨ ze Mz (d_ + 1) 5 ≤ a0_) by first | with_reducible assumption | assumption | omega)⟩)) d_Group_hasPlace_17
    · skip
      refine zw_iconst (pc := 12) (v := Int32.ofInt 1) (by decide) (zdal_p dlB_Group_hasPlace_6 (i := 6) rfl) ?_
      refine zw_goto (pc := 13) (tgt := 17) (by decide) (zdal_p dlB_Group_hasPlace_6 (i := 7) rfl) ?_
      exact zk_iret (pc := 17) (ty := .boolean) rfl (z_narB (by omega)) ⟨by omega, by omega⟩ hf (show ((1 = 1 ∧ 0 ≤ a0_ ∧ a0_ < ze Mz (d_ + 1) 5) ∨ (1 = 0 ∧ (a0_ < 0 ∨ ze Mz (d_ + 1) 5 ≤ a0_))) from Or.inl (⟨(show 1 = 1 by first | with_reducible assumption | assumption | omega), (show 0 ≤ a0_ by first | with_reducible assumption | assumption | omega), (show a0_ < ze Mz (d_ + 1) 5 by first | with_reducible assumption | assumption | omega)⟩)) d_Group_hasPlace_17
set_option maxHeartbeats 4000000 in
theorem u_Group_placesReachedG (l : Launch) (d_ : Nat) (Mz : zMem) (hW : zKW d_ Mz) (a0_ : Int) (ha0_a : -2147483648 ≤ a0_) (ha0_b : a0_ < 2147483648) (a1_ : Int) (ha1_a : -2147483648 ≤ a1_) (ha1_b : a1_ < 2147483648) (T_ : zGT) (hT_ : T_ ∈ gTabs) (P_ : Nat) (mv_ : List Nat) (p0_ : zMvK mv_ P_ d_ Mz) (p1_ : zGc mv_ P_ T_ d_ Mz) (p2_ : 0 ≤ a0_) (p3_ : a0_ < (P_ : Int)) (p4_ : 0 ≤ a1_) (p5_ : a1_ < 16777216) : zC l m_Group_placesReached 0 0 [.ref (d_ + 1), .int (Int32.ofInt a0_), .int (Int32.ofInt a1_)] Mz (zqcI d_ [] [] [] [] Mz (fun v N => zImg (fun m_ => (a1_).toNat.testBit m_ = true) (fun m_ => gdg (zCo P_ d_ Mz m_) (a0_).toNat) (gN T_) v)) := by
  refine zC_of (L0 := [some (.ref (d_ + 1)), some (.int (Int32.ofInt a0_)), some (.int (Int32.ofInt a1_)), none, none]) md_Group_placesReached (Nat.le_of_ble_eq_true rfl) rfl ?_ zQ0
  have hf : zFc d_ [] [] [] [] Mz Mz := zFc.rf
  have r_D1_7 := ze_r Mz (d_ + 1) 7
  have hO_ := gTabs_ok T_ hT_
  have hG_ := hO_.1
  have hn24_ := hG_.2.1
  have hn1_ := hG_.1
  obtain ⟨⟨hP0_, hP1_, hP6_⟩, -⟩ := id p0_
  have hsz_ := p1_.2.1
  refine zw_iconst (pc := 0) (v := Int32.ofInt 0) (by decide) (zdal_p dlB_Group_placesReached_42 (i := 0) rfl) ?_
  refine zw_istore_n (pc := 1) (i := 3) (L2 := [some (.ref (d_ + 1)), some (.int (Int32.ofInt a0_)), some (.int (Int32.ofInt a1_)), some (.int (Int32.ofInt 0)), none]) rfl (by decide) rfl (zdal_p dlB_Group_placesReached_42 (i := 1) rfl) ?_
  refine zw_iconst (pc := 2) (v := Int32.ofInt 0) (by decide) (zdal_p dlB_Group_placesReached_42 (i := 2) rfl) ?_
  refine zw_istore (pc := 3) (i := 4) (L2 := [some (.ref (d_ + 1)), some (.int (Int32.ofInt a0_)), some (.int (Int32.ofInt a1_)), some (.int (Int32.ofInt 0)), some (.int (Int32.ofInt 0))]) (by decide) rfl (zdal_p dlB_Group_placesReached_42 (i := 3) rfl) ?_
  have lp_5 : ∀ (n : Nat) (u1_ : Int) (hu1_a : -2147483648 ≤ u1_) (hu1_b : u1_ < 2147483648) (u2_ : Int) (hu2_a : -2147483648 ≤ u2_) (hu2_b : u2_ < 2147483648) (i3_ : 0 ≤ u2_) (i4_ : u2_ ≤ gN T_) (i5_ : zImg (fun m_ => (a1_).toNat.testBit m_ = true) (fun m_ => gdg (zCo P_ d_ Mz m_) (a0_).toNat) (u2_).toNat u1_), (gN T_ - u2_).toNat < n → zW l m_Group_placesReached (zn Mz + 0, zw Mz + 0) Mz 5 [some (.ref (d_ + 1)), some (.int (Int32.ofInt a0_)), some (.int (Int32.ofInt a1_)), some (.int (Int32.ofInt u1_)), some (.int (Int32.ofInt u2_))] [] (zqcI d_ [] [] [] [] Mz (fun v N => zImg (fun m_ => (a1_).toNat.testBit m_ = true) (fun m_ => gdg (zCo P_ d_ Mz m_) (a0_).toNat) (gN T_) v)) := by
    intro n
    induction n with
    | zero =>
      intro u1_ hu1_a hu1_b u2_ hu2_a hu2_b i3_ i4_ i5_ h0
      exact absurd h0 (Nat.not_lt_zero _)
    | succ n ih_5 =>
      intro u1_ hu1_a hu1_b u2_ hu2_a hu2_b i3_ i4_ i5_ hlt_5
      have hpi_ := (show zImg (fun m_ => (a1_).toNat.testBit m_ = true) (fun m_ => gdg (zCo P_ d_ Mz m_) (a0_).toNat) (u2_).toNat u1_ by first | with_reducible assumption | assumption)
      have hpr_ := hpi_.1
      refine zw_iload (pc := 5) (i := 4) (x := Int32.ofInt u2_) rfl (zdal_p dlB_Group_placesReached_42 (i := 4) rfl) ?_
      refine zw_aload_n (pc := 7) (n := 0) (x := (d_ + 1)) rfl (zdal_p dlB_Group_placesReached_42 (i := 5) rfl) ?_
      refine zk_getI (pc := 8) f_Group_39 rfl ((hf.w hW).kr (o := 1) (by decide)) (zdal_p dlB_Group_placesReached_42 (i := 6) rfl) ?_
      refine zr_icmp_ge (pc := 11) (tgt := 47) ⟨hu2_a, hu2_b⟩ ⟨(ze_r Mz (d_ + 1) 7).1, (ze_r Mz (d_ + 1) 7).2⟩ (by decide) (zdal_p dlB_Group_placesReached_42 (i := 7) rfl) (fun hc_11 => ?_) (fun hc_11 => ?_)
      · skip
        refine zw_iload_n (pc := 47) (n := 3) (x := Int32.ofInt u1_) rfl (zdal_p dlB_Group_placesReached_43 (i := 1) rfl) ?_
        exact zk_iret (pc := 48) (ty := .int) rfl rfl ⟨by omega, by omega⟩ hf (show zImg (fun m_ => (a1_).toNat.testBit m_ = true) (fun m_ => gdg (zCo P_ d_ Mz m_) (a0_).toNat) (gN T_) u1_ by rw [show gN T_ = (u2_).toNat by omega]; exact hpi_) (zdal_p dlB_Group_placesReached_43 (i := 2) rfl)
      · skip
        refine zw_iload_n (pc := 14) (n := 2) (x := Int32.ofInt a1_) rfl (zdal_p dlB_Group_placesReached_42 (i := 8) rfl) ?_
        refine zw_iload (pc := 15) (i := 4) (x := Int32.ofInt u2_) rfl (zdal_p dlB_Group_placesReached_42 (i := 9) rfl) ?_
        refine zr_callS hf.x (pc := 17) [.int (Int32.ofInt a1_), .int (Int32.ofInt u2_)] [] l_Group_73 (u_T_isIn l d_ Mz (hf.w hW) a1_ ha1_a ha1_b u2_ hu2_a hu2_b (show 0 ≤ a1_ by first | with_reducible assumption | assumption | omega) (show a1_ < 2147483648 by first | with_reducible assumption | assumption | omega) (show 0 ≤ u2_ by first | with_reducible assumption | assumption | omega) (show u2_ < 31 by first | with_reducible assumption | assumption | omega)) rfl rfl (by decide) (Nat.le_of_ble_eq_true rfl) (zdal_p dlB_Group_placesReached_42 (i := 10) rfl) ?_
        rintro _ N6_ ⟨v7_, rfl, ⟨hv7_a, hv7_b⟩, hsN6_, hp0_N6_⟩
        obtain rfl := hsN6_.eq.symm
        replace hp0_N6_ : ((v7_ = 1 ∧ zbt a1_ u2_) ∨ (v7_ = 0 ∧ ¬ zbt a1_ u2_)) := hp0_N6_
        rcases hp0_N6_ with ⟨rfl, ha17_0_hp0_N6_⟩ | ⟨rfl, ha17_0_hp0_N6_⟩
        · skip
          have hin_ := ha17_0_hp0_N6_
          show zW l m_Group_placesReached (zn Mz + 0, zw Mz + 0) Mz 20 [some (.ref (d_ + 1)), some (.int (Int32.ofInt a0_)), some (.int (Int32.ofInt a1_)), some (.int (Int32.ofInt u1_)), some (.int (Int32.ofInt u2_))] [.int (Int32.ofInt 1)] _
          refine zr_if_eq (pc := 20) (tgt := 41) ⟨(by decide), (by decide)⟩ (by decide) (zdal_p dlB_Group_placesReached_42 (i := 11) rfl) (fun hc_20 => ?_) (fun hc_20 => ?_)
          · skip
            exact absurd hc_20 (by decide)
          · skip
            refine zw_iload_n (pc := 23) (n := 3) (x := Int32.ofInt u1_) rfl (zdal_p dlB_Group_placesReached_42 (i := 12) rfl) ?_
            refine zw_iconst (pc := 24) (v := Int32.ofInt 1) (by decide) (zdal_p dlB_Group_placesReached_42 (i := 13) rfl) ?_
            refine zw_aload_n (pc := 25) (n := 0) (x := (d_ + 1)) rfl (zdal_p dlB_Group_placesReached_42 (i := 14) rfl) ?_
            refine zw_getF (pc := 26) f_Group_20 rfl ((hf.w hW).kr (o := 1) (by decide)) ((hf.w hW).lr (o := 1) (s := 1) (r := 4) (by decide)) (zdal_p dlB_Group_placesReached_42 (i := 15) rfl) ?_
            refine zw_iload (pc := 29) (i := 4) (x := Int32.ofInt u2_) rfl (zdal_p dlB_Group_placesReached_42 (i := 16) rfl) ?_
            refine zk_at hf.x (pc := 31) l_Group_54 ((hf.w hW).kr (o := 4) (by decide)) ((hf.w hW).lr (o := 4) (s := 0) (r := 5) (by decide)) ((hf.w hW).rr (o := 5) (t := 1) (n := 24) (by decide)) (by decide) (by omega) (by omega) (by decide) (Nat.le_of_ble_eq_true rfl) (zdal_p dlB_Group_placesReached_42 (i := 17) rfl) (fun v8_ hv8_ hv8_a hv8_b => ?_)
            have hc1_ := hv8_
            have hc2_ := p1_.2.2 (u2_).toNat (by omega)
            rw [← hc1_] at hc2_
            have hc3_ := hc2_.1
            have hc4_ := hc2_.2.1
            refine zw_iload_n (pc := 34) (n := 1) (x := Int32.ofInt a0_) rfl (zdal_p dlB_Group_placesReached_42 (i := 18) rfl) ?_
            refine zr_callS hf.x (pc := 35) [.int (Int32.ofInt v8_), .int (Int32.ofInt a0_)] [.int (Int32.ofInt 1), .int (Int32.ofInt u1_)] l_Group_64 (u_T_placeIn l d_ Mz (hf.w hW) v8_ hv8_a hv8_b a0_ ha0_a ha0_b (show 0 ≤ v8_ by first | with_reducible assumption | assumption | omega) (show v8_ < 262144 by first | with_reducible assumption | assumption | omega) (show 0 ≤ a0_ by first | with_reducible assumption | assumption | omega) (show a0_ ≤ 5 by first | with_reducible assumption | assumption | omega)) rfl rfl (by decide) (Nat.le_of_ble_eq_true rfl) (zdal_p dlB_Group_placesReached_42 (i := 19) rfl) ?_
            rintro _ N9_ ⟨v10_, rfl, ⟨hv10_a, hv10_b⟩, hsN9_, hp0_N9_⟩
            obtain rfl := hsN9_.eq.symm
            replace hp0_N9_ : v10_ = (gdg (v8_).toNat (a0_).toNat : Nat) := hp0_N9_
            show zW l m_Group_placesReached (zn Mz + 0, zw Mz + 0) Mz 38 [some (.ref (d_ + 1)), some (.int (Int32.ofInt a0_)), some (.int (Int32.ofInt a1_)), some (.int (Int32.ofInt u1_)), some (.int (Int32.ofInt u2_))] [.int (Int32.ofInt v10_), .int (Int32.ofInt 1), .int (Int32.ofInt u1_)] _
            have hd_ := hp0_N9_
            rw [hc1_, p1_.dg hP6_ (by omega) (by omega)] at hd_
            have hd8_ := gdg_lt (zCo P_ d_ Mz (u2_).toNat) (a0_).toNat
            refine zr_ishl (pc := 38) (zdal_p dlB_Group_placesReached_42 (i := 20) rfl) ?_
            have hr11_ := zshl_r 1 v10_
            refine zr_ior (pc := 39) (zdal_p dlB_Group_placesReached_42 (i := 21) rfl) ?_
            have hr12_ := zor_r u1_ (zshl 1 v10_)
            have hpn_ := zImg_1 (q := (fun m_ => (a1_).toNat.testBit m_ = true)) (g := (fun m_ => gdg (zCo P_ d_ Mz m_) (a0_).toNat)) (by omega) hpi_ hin_ hd_ (show gdg _ _ < 24 by omega)
            refine zw_istore_n (pc := 40) (i := 3) (L2 := [some (.ref (d_ + 1)), some (.int (Int32.ofInt a0_)), some (.int (Int32.ofInt a1_)), some (.int (Int32.ofInt (zor u1_ (zshl 1 v10_)))), some (.int (Int32.ofInt u2_))]) rfl (by decide) rfl (zdal_p dlB_Group_placesReached_42 (i := 22) rfl) ?_
            refine zr_iinc (pc := 41) (i := 4) (a := u2_) (n := 1) (L2 := [some (.ref (d_ + 1)), some (.int (Int32.ofInt a0_)), some (.int (Int32.ofInt a1_)), some (.int (Int32.ofInt (zor u1_ (zshl 1 v10_)))), some (.int (Int32.ofInt (u2_ + 1)))]) rfl (by decide) rfl (zdal_p dlB_Group_placesReached_42 (i := 23) rfl) ?_
            refine zw_goto (pc := 44) (tgt := 5) (by decide) (zdal_p dlB_Group_placesReached_43 (i := 0) rfl) ?_
            exact ih_5 (zor u1_ (zshl 1 v10_)) (by omega) (by omega) (u2_ + 1) (by omega) (by omega) (show 0 ≤ (u2_ + 1) by first | with_reducible assumption | assumption | omega) (show (u2_ + 1) ≤ gN T_ by first | with_reducible assumption | assumption | omega) (show zImg (fun m_ => (a1_).toNat.testBit m_ = true) (fun m_ => gdg (zCo P_ d_ Mz m_) (a0_).toNat) ((u2_ + 1)).toNat (zor u1_ (zshl 1 v10_)) by exact hpn_) (by omega)
        · skip
          have hpn_ := zImg_n (q := (fun m_ => (a1_).toNat.testBit m_ = true)) (g := (fun m_ => gdg (zCo P_ d_ Mz m_) (a0_).toNat)) (by omega) hpi_ ha17_0_hp0_N6_
          show zW l m_Group_placesReached (zn Mz + 0, zw Mz + 0) Mz 20 [some (.ref (d_ + 1)), some (.int (Int32.ofInt a0_)), some (.int (Int32.ofInt a1_)), some (.int (Int32.ofInt u1_)), some (.int (Int32.ofInt u2_))] [.int (Int32.ofInt 0)] _
          refine zr_if_eq (pc := 20) (tgt := 41) ⟨(by decide), (by decide)⟩ (by decide) (zdal_p dlB_Group_placesReached_42 (i := 11) rfl) (fun hc_20 => ?_) (fun hc_20 => ?_)
          · skip
            refine zr_iinc (pc := 41) (i := 4) (a := u2_) (n := 1) (L2 := [some (.ref (d_ + 1)), some (.int (Int32.ofInt a0_)), some (.int (Int32.ofInt a1_)), some (.int (Int32.ofInt u1_)), some (.int (Int32.ofInt (u2_ + 1)))]) rfl (by decide) rfl (zdal_p dlB_Group_placesReached_42 (i := 23) rfl) ?_
            refine zw_goto (pc := 44) (tgt := 5) (by decide) (zdal_p dlB_Group_placesReached_43 (i := 0) rfl) ?_
            exact ih_5 u1_ hu1_a hu1_b (u2_ + 1) (by omega) (by omega) (show 0 ≤ (u2_ + 1) by first | with_reducible assumption | assumption | omega) (show (u2_ + 1) ≤ gN T_ by first | with_reducible assumption | assumption | omega) (show zImg (fun m_ => (a1_).toNat.testBit m_ = true) (fun m_ => gdg (zCo P_ d_ Mz m_) (a0_).toNat) ((u2_ + 1)).toNat u1_ by exact hpn_) (by omega)
          · skip
            exact absurd hc_20 (by decide)
  exact lp_5 _ 0 (by decide) (by decide) 0 (by decide) (by decide) (show 0 ≤ (0 : Int) by first | with_reducible assumption | assumption | omega) (show (0 : Int) ≤ gN T_ by first | with_reducible assumption | assumption | omega) (show zImg (fun m_ => (a1_).toNat.testBit m_ = true) (fun m_ => gdg (zCo P_ d_ Mz m_) (a0_).toNat) ((0 : Int)).toNat (0 : Int) by exact zImg_0) (Nat.lt_succ_self _)
set_option maxHeartbeats 4000000 in
theorem u_Group_reachOfG (l : Launch) (d_ : Nat) (Mz : zMem) (hW : zKW d_ Mz) (a0_ : Int) (ha0_a : -2147483648 ≤ a0_) (ha0_b : a0_ < 2147483648) (T_ : zGT) (hT_ : T_ ∈ gTabs) (P_ : Nat) (mv_ : List Nat) (p0_ : zMvK mv_ P_ d_ Mz) (p1_ : zGc mv_ P_ T_ d_ Mz) (p2_ : zTt T_ d_ Mz) (p3_ : 0 ≤ a0_) (p4_ : a0_ < (P_ : Int)) : zC l m_Group_reachOf 0 0 [.ref (d_ + 1), .int (Int32.ofInt a0_)] Mz (zqcI d_ [] [] [] [] Mz (fun v N => zImg (fun _ => True) (fun m_ => gdg (zCo P_ d_ Mz m_) (a0_).toNat) (gN T_) v)) := by
  refine zC_of (L0 := [some (.ref (d_ + 1)), some (.int (Int32.ofInt a0_))]) md_Group_reachOf (Nat.le_of_ble_eq_true rfl) rfl ?_ zQ0
  have hf : zFc d_ [] [] [] [] Mz Mz := zFc.rf
  refine zw_aload_n (pc := 0) (n := 0) (x := (d_ + 1)) rfl (zdal_p dlB_Group_reachOf_41 (i := 0) rfl) ?_
  refine zw_iload_n (pc := 1) (n := 1) (x := Int32.ofInt a0_) rfl (zdal_p dlB_Group_reachOf_41 (i := 1) rfl) ?_
  refine zw_aload_n (pc := 2) (n := 0) (x := (d_ + 1)) rfl (zdal_p dlB_Group_reachOf_41 (i := 2) rfl) ?_
  refine zk_callV hf.x (pc := 3) [] [.int (Int32.ofInt a0_), .ref (d_ + 1)] l_Group_93 (u_Group_everyoneG l d_ Mz (hf.w hW) T_ hT_ p2_) rfl rfl ((hf.w hW).kr (o := 1) (by decide)) (by decide) (by decide) (Nat.le_of_ble_eq_true rfl) (zdal_p dlB_Group_reachOf_41 (i := 3) rfl) ?_
  rintro _ N1_ ⟨v2_, rfl, ⟨hv2_a, hv2_b⟩, hsN1_, ⟨hp0_N1_, hp1_N1_, hp2_N1_⟩⟩
  obtain rfl := hsN1_.eq.symm
  show zW l m_Group_reachOf (zn Mz + 0, zw Mz + 0) Mz 6 [some (.ref (d_ + 1)), some (.int (Int32.ofInt a0_))] [.int (Int32.ofInt v2_), .int (Int32.ofInt a0_), .ref (d_ + 1)] _
  have hev_ := hp0_N1_
  refine zk_callV hf.x (pc := 6) [.int (Int32.ofInt a0_), .int (Int32.ofInt v2_)] [] l_Group_103 (u_Group_placesReachedG l d_ Mz (hf.w hW) a0_ ha0_a ha0_b v2_ hv2_a hv2_b T_ hT_ P_ mv_ p0_ p1_ (show 0 ≤ a0_ by first | with_reducible assumption | assumption | omega) (show a0_ < (P_ : Int) by first | with_reducible assumption | assumption | omega) (show 0 ≤ v2_ by first | with_reducible assumption | assumption | omega) (show v2_ < 16777216 by first | with_reducible assumption | assumption | omega)) rfl rfl ((hf.w hW).kr (o := 1) (by decide)) (by decide) (by decide) (Nat.le_of_ble_eq_true rfl) (zdal_p dlB_Group_reachOf_41 (i := 4) rfl) ?_
  rintro _ N3_ ⟨v4_, rfl, ⟨hv4_a, hv4_b⟩, hsN3_, hp0_N3_⟩
  obtain rfl := hsN3_.eq.symm
  replace hp0_N3_ : zImg (fun m_ => (v2_).toNat.testBit m_ = true) (fun m_ => gdg (zCo P_ d_ Mz m_) (a0_).toNat) (gN T_) v4_ := hp0_N3_
  show zW l m_Group_reachOf (zn Mz + 0, zw Mz + 0) Mz 9 [some (.ref (d_ + 1)), some (.int (Int32.ofInt a0_))] [.int (Int32.ofInt v4_)] _
  have hpi_ := hp0_N3_
  rw [hev_, Int.toNat_natCast] at hpi_
  exact zk_iret (pc := 9) (ty := .int) rfl rfl ⟨by omega, by omega⟩ hf (show zImg (fun _ => True) (fun m_ => gdg (zCo P_ d_ Mz m_) (a0_).toNat) (gN T_) v4_ by exact zImg_e hpi_ (fun m_ hm_ => by rw [Nat.testBit_two_pow_sub_one, decide_eq_true_iff]; exact ⟨fun _ => trivial, fun _ => hm_⟩)) (zdal_p dlB_Group_reachOf_41 (i := 5) rfl)
set_option maxHeartbeats 4000000 in
theorem u_T_orbitG (l : Launch) (d_ : Nat) (Mz : zMem) (hW : zKW d_ Mz) (hnow : zf Mz 0 2 = some (d_ + 0)) (a0_ : Int) (ha0_a : -2147483648 ≤ a0_) (ha0_b : a0_ < 2147483648) (T_ : zGT) (hT_ : T_ ∈ gTabs) (P_ : Nat) (mv_ : List Nat) (p0_ : zMvK mv_ P_ d_ Mz) (p1_ : zGc mv_ P_ T_ d_ Mz) (p2_ : zTt T_ d_ Mz) : zC l m_T_orbit 0 0 [.ref 0, .int (Int32.ofInt a0_)] Mz (zqcI d_ [] [] [] [] Mz (fun v N => (((0 ≤ a0_ ∧ a0_ < (P_ : Int) ∧ ∃ c_ : Nat → Nat, gTb mv_ c_ T_ ∧ zImg (fun _ => True) (fun m_ => gdg (c_ m_) (a0_).toNat) (gN T_) v) ∨ (¬ (0 ≤ a0_ ∧ a0_ < (P_ : Int)) ∧ v = (-1 : Int)))))) := by
  refine zC_of (L0 := [some (.ref 0), some (.int (Int32.ofInt a0_))]) md_T_orbit (Nat.le_of_ble_eq_true rfl) rfl ?_ zQ0
  have hf : zFc d_ [] [] [] [] Mz Mz := zFc.rf
  have r_D1_5 := ze_r Mz (d_ + 1) 5
  have hO_ := gTabs_ok T_ hT_
  have hG_ := hO_.1
  have hn24_ := hG_.2.1
  have hn1_ := hG_.1
  obtain ⟨⟨hP0_, hP1_, hP6_⟩, -⟩ := id p0_
  refine zw_aload_n (pc := 0) (n := 0) (x := 0) rfl (zdal_p dlB_T_orbit_40 (i := 0) rfl) ?_
  refine zw_getF (pc := 1) f_T_28 rfl ((hf.w hW).ka (o := 0) (by decide)) (hf.now hnow) (zdal_p dlB_T_orbit_40 (i := 1) rfl) ?_
  refine zw_getF (pc := 4) f_T_61 rfl ((hf.w hW).kr (o := 0) (by decide)) ((hf.w hW).lr (o := 0) (s := 0) (r := 1) (by decide)) (zdal_p dlB_T_orbit_40 (i := 2) rfl) ?_
  refine zw_iload_n (pc := 7) (n := 1) (x := Int32.ofInt a0_) rfl (zdal_p dlB_T_orbit_40 (i := 3) rfl) ?_
  refine zk_callV hf.x (pc := 8) [.int (Int32.ofInt a0_)] [] l_T_111 (u_Group_hasPlaceG l d_ Mz (hf.w hW) a0_ ha0_a ha0_b) rfl rfl ((hf.w hW).kr (o := 1) (by decide)) (by decide) (by decide) (Nat.le_of_ble_eq_true rfl) (zdal_p dlB_T_orbit_40 (i := 4) rfl) ?_
  rintro _ N1_ ⟨v2_, rfl, ⟨hv2_a, hv2_b⟩, hsN1_, hp0_N1_⟩
  obtain rfl := hsN1_.eq.symm
  replace hp0_N1_ : ((v2_ = 1 ∧ 0 ≤ a0_ ∧ a0_ < ze Mz (d_ + 1) 5) ∨ (v2_ = 0 ∧ (a0_ < 0 ∨ ze Mz (d_ + 1) 5 ≤ a0_))) := hp0_N1_
  rcases hp0_N1_ with ⟨rfl, ha8_0_hp0_N1_, ha8_1_hp0_N1_⟩ | ⟨rfl, ha8_0_hp0_N1_⟩
  · skip
    show zW l m_T_orbit (zn Mz + 0, zw Mz + 0) Mz 11 [some (.ref 0), some (.int (Int32.ofInt a0_))] [.int (Int32.ofInt 1)] _
    refine zr_if_eq (pc := 11) (tgt := 28) ⟨(by decide), (by decide)⟩ (by decide) (zdal_p dlB_T_orbit_40 (i := 5) rfl) (fun hc_11 => ?_) (fun hc_11 => ?_)
    · skip
      exact absurd hc_11 (by decide)
    · skip
      refine zw_aload_n (pc := 14) (n := 0) (x := 0) rfl (zdal_p dlB_T_orbit_40 (i := 6) rfl) ?_
      refine zw_getF (pc := 15) f_T_28 rfl ((hf.w hW).ka (o := 0) (by decide)) (hf.now hnow) (zdal_p dlB_T_orbit_40 (i := 7) rfl) ?_
      refine zw_getF (pc := 18) f_T_61 rfl ((hf.w hW).kr (o := 0) (by decide)) ((hf.w hW).lr (o := 0) (s := 0) (r := 1) (by decide)) (zdal_p dlB_T_orbit_40 (i := 8) rfl) ?_
      refine zw_iload_n (pc := 21) (n := 1) (x := Int32.ofInt a0_) rfl (zdal_p dlB_T_orbit_40 (i := 9) rfl) ?_
      refine zk_callV hf.x (pc := 22) [.int (Int32.ofInt a0_)] [] l_T_195 (u_Group_reachOfG l d_ Mz (hf.w hW) a0_ ha0_a ha0_b T_ hT_ P_ mv_ p0_ p1_ p2_ (show 0 ≤ a0_ by first | with_reducible assumption | assumption | omega) (show a0_ < (P_ : Int) by first | with_reducible assumption | assumption | omega)) rfl rfl ((hf.w hW).kr (o := 1) (by decide)) (by decide) (by decide) (Nat.le_of_ble_eq_true rfl) (zdal_p dlB_T_orbit_40 (i := 10) rfl) ?_
      rintro _ N3_ ⟨v4_, rfl, ⟨hv4_a, hv4_b⟩, hsN3_, hp0_N3_⟩
      obtain rfl := hsN3_.eq.symm
      replace hp0_N3_ : zImg (fun _ => True) (fun m_ => gdg (zCo P_ d_ Mz m_) (a0_).toNat) (gN T_) v4_ := hp0_N3_
      show zW l m_T_orbit (zn Mz + 0, zw Mz + 0) Mz 25 [some (.ref 0), some (.int (Int32.ofInt a0_))] [.int (Int32.ofInt v4_)] _
      refine zw_goto (pc := 25) (tgt := 29) (by decide) (zdal_p dlB_T_orbit_40 (i := 11) rfl) ?_
      exact zk_iret (pc := 29) (ty := .int) rfl rfl ⟨by omega, by omega⟩ hf (show ((0 ≤ a0_ ∧ a0_ < (P_ : Int) ∧ ∃ c_ : Nat → Nat, gTb mv_ c_ T_ ∧ zImg (fun _ => True) (fun m_ => gdg (c_ m_) (a0_).toNat) (gN T_) v4_) ∨ (¬ (0 ≤ a0_ ∧ a0_ < (P_ : Int)) ∧ v4_ = (-1 : Int))) by first | exact Or.inr ⟨by omega, rfl⟩ | exact Or.inl ⟨by omega, by omega, _, p1_.1, by assumption⟩) (zdal_p dlB_T_orbit_40 (i := 13) rfl)
  · skip
    show zW l m_T_orbit (zn Mz + 0, zw Mz + 0) Mz 11 [some (.ref 0), some (.int (Int32.ofInt a0_))] [.int (Int32.ofInt 0)] _
    refine zr_if_eq (pc := 11) (tgt := 28) ⟨(by decide), (by decide)⟩ (by decide) (zdal_p dlB_T_orbit_40 (i := 5) rfl) (fun hc_11 => ?_) (fun hc_11 => ?_)
    · skip
      refine zw_iconst (pc := 28) (v := Int32.ofInt (-1)) (by decide) (zdal_p dlB_T_orbit_40 (i := 12) rfl) ?_
      exact zk_iret (pc := 29) (ty := .int) rfl rfl ⟨by omega, by omega⟩ hf (show ((0 ≤ a0_ ∧ a0_ < (P_ : Int) ∧ ∃ c_ : Nat → Nat, gTb mv_ c_ T_ ∧ zImg (fun _ => True) (fun m_ => gdg (c_ m_) (a0_).toNat) (gN T_) ((-1))) ∨ (¬ (0 ≤ a0_ ∧ a0_ < (P_ : Int)) ∧ ((-1)) = (-1 : Int))) by first | exact Or.inr ⟨by omega, rfl⟩ | exact Or.inl ⟨by omega, by omega, _, p1_.1, by assumption⟩) (zdal_p dlB_T_orbit_40 (i := 13) rfl)
    · skip
      exact absurd hc_11 (by decide)
