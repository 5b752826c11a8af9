set_option maxHeartbeats 4000000 in
theorem u_Group_placesReachedG (l : Launch) (d_ : Nat) (Mz : zMem) (hW : zKW d_ Mz) (a0_ : Int) (ha0_a : -2147483648 ≤ a0_) (ha0_b : a0_ < 2147483648) (a1_ : Int) (ha1_a : -2147483648 ≤ a1_) (ha1_b : a1_ < 2147483648) (T_ : zGT) (hT_ : T_ ∈ gTabs) (P_ : Nat) (mv_ : List Nat) (p0_ : zMvK mv_ P_ d_ Mz) (p1_ : zGc mv_ P_ T_ d_ Mz) (p2_ : 0 ≤ a0_) (p3_ : a0_ < (P_ : Int)) (p4_ : 0 ≤ a1_) (p5_ : a1_ < 16777216) : zC l m_Group_placesReached 0 0 [.ref (d_ + 1), .int (Int32.ofInt a0_), .int (Int32.ofInt a1_)] Mz (zqcI d_ [] [] [] [] Mz (fun v N => zImg (fun m_ => (a1_).toNat.testBit m_ = true) (fun m_ => gdg (zCo P_ d_ Mz m_) (a0_).toNat) (gN T_) v)) := by
  refine zC_of (L0 := [some (.ref (d_ + 1)), some (.int (Int32.ofInt a0_)), some (.int (Int32.ofInt a1_)), none, none]) md_Group_placesReached (Nat.le_of_ble_eq_true rfl) rfl ?_ zQ0
  have hf : zFc d_ [] [] [] [] Mz Mz := zFc.rf
  have r_D1_7 := ze_r Mz (d_ + 1) 7
  have hO_ := gTabs_ok T_ hT_
  have hG_ := hO_.1
  have hn24_ := hG_.2.1
  have hn1_ := hG_.1
  obtain ⟨⟨hP0_, hP1_, hP6_⟩, -⟩ := id p0_
  have hsz_ := p1_.2.1
  refine zw_iconst (pc := 0) (v := Int32.ofInt 0) (by decide) (zdal_p dlB_Group_placesReached_42 (i := 0) rfl) ?_
  refine zw_istore_n (pc := 1) (i := 3) (L2 := [some (.ref (d_ + 1)), some (.int (Int32.ofInt a0_)), some (.int (Int32.ofInt a1_)), some (.int (Int32.ofInt 0)), none]) rfl (by decide) rfl (zdal_p dlB_Group_placesReached_42 (i := 1) rfl) ?_
  refine zw_iconst (pc := 2) (v := Int32.ofInt 0) (by decide) (zdal_p dlB_Group_placesReached_42 (i := 2) rfl) ?_
  refine zw_istore (pc := 3) (i := 4) (L2 := [some (.ref (d_ + 1)), some (.int (Int32.ofInt a0_)), some (.int (Int32.ofInt a1_)), some (.int (Int32.ofInt 0)), some (.int (Int32.ofInt 0))]) (by decide) rfl (zdal_p dlB_Group_placesReached_42 (i := 3) rfl) ?_
  have lp_5 : ∀ (n : Nat) (u1_ : Int) (hu1_a : -2147483648 ≤ u1_) (hu1_b : u1_ < 2147483648) (u2_ : Int) (hu2_a : -2147483648 ≤ u2_) (hu2_b : u2_ < 2147483648) (i3_ : 0 ≤ u2_) (i4_ : u2_ ≤ gN T_) (i5_ : zImg (fun m_ => (a1_).toNat.testBit m_ = true) (fun m_ => gdg (zCo P_ d_ Mz m_) (a0_).toNat) (u2_).toNat u1_), (gN T_ - u2_).toNat < n → zW l m_Group_placesReached (zn Mz + 0, zw Mz + 0) Mz 5 [some (.ref (d_ + 1)), some (.int (Int32.ofInt a0_)), some (.int (Int32.ofInt a1_)), some (.int (Int32.ofInt u1_)), some (.int (Int32.ofInt u2_))] [] (zqcI d_ [] [] [] [] Mz (fun v N => zImg (fun m_ => (a1_).toNat.testBit m_ = true) (fun m_ => gdg (zCo P_ d_ Mz m_) (a0_).toNat) (gN T_) v)) := by
    intro n
    induction n with
    | zero =>
      intro u1_ hu1_a hu1_b u2_ hu2_a hu2_b i3_ i4_ i5_ h0
      exact absurd h0 (Nat.not_lt_zero _)
    | succ n ih_5 =>
      intro u1_ hu1_a hu1_b u2_ hu2_a hu2_b i3_ i4_ i5_ hlt_5
      have hpi_ := (show zImg (fun m_ => (a1_).toNat.testBit m_ = true) (fun m_ => gdg (zCo P_ d_ Mz m_) (a0_).toNat) (u2_).toNat u1_ by first | with_reducible assumption | assumption)
      have hpr_ := hpi_.1
      refine zw_iload (pc := 5) (i := 4) (x := Int32.ofInt u2_) rfl (zdal_p dlB_Group_placesReached_42 (i := 4) rfl) ?_
      refine zw_aload_n (pc := 7) (n := 0) (x := (d_ + 1)) rfl (zdal_p dlB_Group_placesReached_42 (i := 5) rfl) ?_
      refine zk_getI (pc := 8) f_Group_39 rfl ((hf.w hW).kr (o := 1) (by decide)) (zdal_p dlB_Group_placesReached_42 (i := 6) rfl) ?_
      refine zr_icmp_ge (pc := 11) (tgt := 47) ⟨hu2_a, hu2_b⟩ ⟨(ze_r Mz (d_ + 1) 7).1, (ze_r Mz (d_ + 1) 7).2⟩ (by decide) (zdal_p dlB_Group_placesReached_42 (i := 7) rfl) (fun hc_11 => ?_) (fun hc_11 => ?_)
      · skip
        refine zw_iload_n (pc := 47) (n := 3) (x := Int32.ofInt u1_) rfl (zdal_p dlB_Group_placesReached_43 (i := 1) rfl) ?_
        exact zk_iret (pc := 48) (ty := .int) rfl rfl ⟨by omega, by omega⟩ hf (show zImg (fun m_ => (a1_).toNat.testBit m_ = true) (fun m_ => gdg (zCo P_ d_ Mz m_) (a0_).toNat) (gN T_) u1_ by rw [show gN T_ = (u2_).toNat by omega]; exact hpi_) (zdal_p dlB_Group_placesReached_43 (i := 2) rfl)
      · skip
        refine zw_iload_n (pc := 14) (n := 2) (x := Int32.ofInt a1_) rfl (zdal_p dlB_Group_placesReached_42 (i := 8) rfl) ?_
        refine zw_iload (pc := 15) (i := 4) (x := Int32.ofInt u2_) rfl (zdal_p dlB_Group_placesReached_42 (i := 9) rfl) ?_
        refine zr_callS hf.x (pc := 17) [.int (Int32.ofInt a1_), .int (Int32.ofInt u2_)] [] l_Group_73 (u_T_isIn l d_ Mz (hf.w hW) a1_ ha1_a ha1_b u2_ hu2_a hu2_b (show 0 ≤ a1_ by first | with_reducible assumption | assumption | omega) (show a1_ < 2147483648 by first | with_reducible assumption | assumption | omega) (show 0 ≤ u2_ by first | with_reducible assumption | assumption | omega) (show u2_ < 31 by first | with_reducible assumption | assumption | omega)) rfl rfl (by decide) (Nat.le_of_ble_eq_true rfl) (zdal_p dlB_Group_placesReached_42 (i := 10) rfl) ?_
        rintro _ N6_ ⟨v7_, rfl, ⟨hv7_a, hv7_b⟩, hsN6_, hp0_N6_⟩
        obtain rfl := hsN6_.eq.symm
        replace hp0_N6_ : ((v7_ = 1 ∧ zbt a1_ u2_) ∨ (v7_ = 0 ∧ ¬ zbt a1_ u2_)) := hp0_N6_
        rcases hp0_N6_ with ⟨rfl, ha17_0_hp0_N6_⟩ | ⟨rfl, ha17_0_hp0_N6_⟩
        · skip
          have hin_ := ha17_0_hp0_N6_
          show zW l m_Group_placesReached (zn Mz + 0, zw Mz + 0) Mz 20 [some (.ref (d_ + 1)), some (.int (Int32.ofInt a0_)), some (.int (Int32.ofInt a1_)), some (.int (Int32.ofInt u1_)), some (.int (Int32.ofInt u2_))] [.int (Int32.ofInt 1)] _
          refine zr_if_eq (pc := 20) (tgt := 41) ⟨(by decide), (by decide)⟩ (by decide) (zdal_p dlB_Group_placesReached_42 (i := 11) rfl) (fun hc_20 => ?_) (fun hc_20 => ?_)
          · skip
            exact absurd hc_20 (by decide)
          · skip
            refine zw_iload_n (pc := 23) (n := 3) (x := Int32.ofInt u1_) rfl (zdal_p dlB_Group_placesReached_42 (i := 12) rfl) ?_
            refine zw_iconst (pc := 24) (v := Int32.ofInt 1) (by decide) (zdal_p dlB_Group_placesReached_42 (i := 13) rfl) ?_
            refine zw_aload_n (pc := 25) (n := 0) (x := (d_ + 1)) rfl (zdal_p dlB_Group_placesReached_42 (i := 14) rfl) ?_
            refine zw_getF (pc := 26) f_Group_20 rfl ((hf.w hW).kr (o := 1) (by decide)) ((hf.w hW).lr (o := 1) (s := 1) (r := 4) (by decide)) (zdal_p dlB_Group_placesReached_42 (i := 15) rfl) ?_
            refine zw_iload (pc := 29) (i := 4) (x := Int32.ofInt u2_) rfl (zdal_p dlB_Group_placesReached_42 (i := 16) rfl) ?_
            refine zk_at hf.x (pc := 31) l_Group_54 ((hf.w hW).kr (o := 4) (by decide)) ((hf.w hW).lr (o := 4) (s := 0) (r := 5) (by decide)) ((hf.w hW).rr (o := 5) (t := 1) (n := 24) (by decide)) (by decide) (by omega) (by omega) (by decide) (Nat.le_of_ble_eq_true rfl) (zdal_p dlB_Group_placesReached_42 (i := 17) rfl) (fun v8_ hv8_ hv8_a hv8_b => ?_)
            have hc1_ := hv8_
            have hc2_ := p1_.2.2 (u2_).toNat (by omega)
            rw [← hc1_] at hc2_
            have hc3_ := hc2_.1
            have hc4_ := hc2_.2.1
            refine zw_iload_n (pc := 34) (n := 1) (x := Int32.ofInt a0_) rfl (zdal_p dlB_Group_placesReached_42 (i := 18) rfl) ?_
            refine zr_callS hf.x (pc := 35) [.int (Int32.ofInt v8_), .int (Int32.ofInt a0_)] [.int (Int32.ofInt 1), .int (Int32.ofInt u1_)] l_Group_64 (u_T_placeIn l d_ Mz (hf.w hW) v8_ hv8_a hv8_b a0_ ha0_a ha0_b (show 0 ≤ v8_ by first | with_reducible assumption | assumption | omega) (show v8_ < 262144 by first | with_reducible assumption | assumption | omega) (show 0 ≤ a0_ by first | with_reducible assumption | assumption | omega) (show a0_ ≤ 5 by first | with_reducible assumption | assumption | omega)) rfl rfl (by decide) (Nat.le_of_ble_eq_true rfl) (zdal_p dlB_Group_placesReached_42 (i := 19) rfl) ?_
            rintro _ N9_ ⟨v10_, rfl, ⟨hv10_a, hv10_b⟩, hsN9_, hp0_N9_⟩
            obtain rfl := hsN9_.eq.symm
            replace hp0_N9_ : v10_ = (gdg (v8_).toNat (a0_).toNat : Nat) := hp0_N9_
            show zW l m_Group_placesReached (zn Mz + 0, zw Mz + 0) Mz 38 [some (.ref (d_ + 1)), some (.int (Int32.ofInt a0_)), some (.int (Int32.ofInt a1_)), some (.int (Int32.ofInt u1_)), some (.int (Int32.ofInt u2_))] [.int (Int32.ofInt v10_), .int (Int32.ofInt 1), .int (Int32.ofInt u1_)] _
            have hd_ := hp0_N9_
            rw [hc1_, p1_.dg hP6_ (by omega) (by omega)] at hd_
            have hd8_ := gdg_lt (zCo P_ d_ Mz (u2_).toNat) (a0_).toNat
            refine zr_ishl (pc := 38) (zdal_p dlB_Group_placesReached_42 (i := 20) rfl) ?_
            have hr11_ := zshl_r 1 v10_
            refine zr_ior (pc := 39) (zdal_p dlB_Group_placesReached_42 (i := 21) rfl) ?_
            have hr12_ := zor_r u1_ (zshl 1 v10_)
            have hpn_ := zImg_1 (q := (fun m_ => (a1_).toNat.testBit m_ = true)) (g := (fun m_ => gdg (zCo P_ d_ Mz m_) (a0_).toNat)) (by omega) hpi_ hin_ hd_ (show gdg _ _ < 24 by omega)
            refine zw_istore_n (pc := 40) (i := 3) (L2 := [some (.ref (d_ + 1)), some (.int (Int32.ofInt a0_)), some (.int (Int32.ofInt a1_)), some (.int (Int32.ofInt (zor u1_ (zshl 1 v10_)))), some (.int (Int32.ofInt u2_))]) rfl (by decide) rfl (zdal_p dlB_Group_placesReached_42 (i := 22) rfl) ?_
            refine zr_iinc (pc := 41) (i := 4) (a := u2_) (n := 1) (L2 := [some (.ref (d_ + 1)), some (.int (Int32.ofInt a0_)), some (.int (Int32.ofInt a1_)), some (.int (Int32.ofInt (zor u1_ (zshl 1 v10_)))), some (.int (Int32.ofInt (u2_ + 1)))]) rfl (by decide) rfl (zdal_p dlB_Group_placesReached_42 (i := 23) rfl) ?_
            refine zw_goto (pc := 44) (tgt := 5) (by decide) (zdal_p dlB_Group_placesReached_43 (i := 0) rfl) ?_
            exact ih_5 (zor u1_ (zshl 1 v10_)) (by omega) (by omega) (u2_ + 1) (by omega) (by omega) (show 0 ≤ (u2_ + 1) by first | with_reducible assumption | assumption | omega) (show (u2_ + 1) ≤ gN T_ by first | with_reducible assumption | assumption | omega) (show zImg (fun m_ => (a1_).toNat.testBit m_ = true) (fun m_ => gdg (zCo P_ d_ Mz m_) (a0_).toNat) ((u2_ + 1)).toNat (zor u1_ (zshl 1 v10_)) by exact hpn_) (by omega)
        · skip
          have hpn_ := zImg_n (q := (fun m_ => (a1_).toNat.testBit m_ = true)) (g := (fun m_ => gdg (zCo P_ d_ Mz m_) (a0_).toNat)) (by omega) hpi_ ha17_0_hp0_N6_
          show zW l m_Group_placesReached (zn Mz + 0, zw Mz + 0) Mz 20 [some (.ref (d_ + 1)), some (.int (Int32.ofInt a0_)), some (.int (Int32.ofInt a1_)), some (.int (Int32.ofInt u1_)), some (.int (Int32.ofInt u2_))] [.int (Int32.ofInt 0)] _
          refine zr_if_eq (pc := 20) (tgt := 41) ⟨(by decide), (by decide)⟩ (by decide) (zdal_p dlB_Group_placesReached_42 (i := 11) rfl) (fun hc_20 => ?_) (fun hc_20 => ?_)
          · skip
            refine zr_iinc (pc := 41) (i := 4) (a := u2_) (n := 1) (L2 := [some (.ref (d_ + 1)), some (.int (Int32.ofInt a0_)), some (.int (Int32.ofInt a1_)), some (.int (Int32.ofInt u1_)), some (.int (Int32.ofInt (u2_ + 1)))]) rfl (by decide) rfl (zdal_p dlB_Group_placesReached_42 (i := 23) rfl) ?_
            refine zw_goto (pc := 44) (tgt := 5) (by decide) (zdal_p dlB_Group_placesReached_43 (i := 0) rfl) ?_
            exact ih_5 u1_ hu1_a hu1_b (u2_ + 1) (by omega) (by omega) (show 0 ≤ (u2_ + 1) by first | with_reducible assumption | assumption | omega) (show (u2_ + 1) ≤ gN T_ by first | with_reducible assumption | assumption | omega) (show zImg (fun m_ => (a1_).toNat.testBit m_ = true) (fun m_ => gdg (zCo P_ d_ Mz m_) (a0_).toNat) ((u2_ + 1)).toNat u1_ by exact hpn_) (by omega)
          · skip
            exact absurd hc_20 (by decide)
  exact lp_5 _ 0 (by decide) (by decide) 0 (by decide) (by decide) (show 0 ≤ (0 : Int) by first | with_reducible assumption | assumption | omega) (show (0 : Int) ≤ gN T_ by first | with_reducible assumption | assumption | omega) (show zImg (fun m_ => (a1_).toNat.testBit m_ = true) (fun m_ => gdg (zCo P_ d_ Mz m_) (a0_).toNat) ((0 : Int)).toNat (0 : Int) by exact zImg_0) (Nat.lt_succ_self _)
