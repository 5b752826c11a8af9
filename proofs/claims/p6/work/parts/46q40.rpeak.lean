set_option maxHeartbeats 4000000 in
theorem c_M_sortOf (l : Launch) (Mz : zMem) (hW : zMt Mz) (a0_ : Int) (ha0_a : -2147483648 ≤ a0_) (ha0_b : a0_ < 2147483648) (T : zGT) (hO : gOK T) (p0_ : zGB T Mz) : zC l m_M_sortOf 0 0 [.ref 81, .int (Int32.ofInt a0_)] Mz (zpI [] [] Mz (fun v N => True)) := by
  refine zC_of (L0 := [some (.ref 81), some (.int (Int32.ofInt a0_))]) md_M_sortOf (Nat.le_of_ble_eq_true rfl) rfl ?_ zQ0
  have hf : zFr [] [] Mz Mz := zFr.rf
  have r_26 := ze_r Mz 81 26
  have hG := hO.1
  have g24 := hG.2.1
  have g1 := hG.1
  have dv0 : zTab T Mz := p0_.1
  have dv1 : zB 85 144 0 5 Mz := p0_.2.1
  have dv2 : zJX T Mz := p0_.2.2.1
  have dv3 : zFirs T Mz := p0_.2.2.2.1
  have dv4 : zSSm T Mz := p0_.2.2.2.2.1
  have dv5 : zGD Mz := zGB.d hO p0_
  have gb := dv5.1
  have gn := dv0.1
  refine zw_aload_n (pc := 0) (n := 0) (x := 81) rfl (zdal_p dlD_M_sortOf_12 (i := 0) rfl) ?_
  refine zw_iload_n (pc := 1) (n := 1) (x := Int32.ofInt a0_) rfl (zdal_p dlD_M_sortOf_12 (i := 1) rfl) ?_
  refine zr_callV (hf.w hW) hf.x (pc := 2) [.int (Int32.ofInt a0_)] [] l_M_408 (c_M_areMembers l Mz (hf.w hW) a0_ ha0_a ha0_b T hO p0_) rfl rfl rfl (by decide) (Nat.le_of_ble_eq_true rfl) (zdal_p dlD_M_sortOf_12 (i := 2) rfl) ?_
  rintro _ N1_ ⟨v2_, rfl, ⟨hv2_a, hv2_b⟩, hsN1_, hp0_N1_⟩
  obtain rfl := hsN1_.eq.symm
  replace hp0_N1_ : ((v2_ = 1 ∧ gIn T a0_) ∨ (v2_ = 0)) := hp0_N1_
  rcases hp0_N1_ with ⟨rfl, ha2_0_hp0_N1_⟩ | rfl
  · skip
    show zW l m_M_sortOf (zn Mz + 0, zw Mz + 0) Mz 5 [some (.ref 81), some (.int (Int32.ofInt a0_))] [.int (Int32.ofInt 1)] (zpI [] [] Mz (fun v N => True))
    refine zr_if_eq (pc := 5) (tgt := 20) ⟨(by decide), (by decide)⟩ (by decide) (zdal_p dlD_M_sortOf_12 (i := 3) rfl) (fun hc_5 => ?_) (fun hc_5 => ?_)
    · skip
      exact absurd hc_5 (by decide)
    · skip
      refine zw_aload_n (pc := 8) (n := 0) (x := 81) rfl (zdal_p dlD_M_sortOf_12 (i := 4) rfl) ?_
      refine zw_aload_n (pc := 9) (n := 0) (x := 81) rfl (zdal_p dlD_M_sortOf_12 (i := 5) rfl) ?_
      refine zw_iload_n (pc := 10) (n := 1) (x := Int32.ofInt a0_) rfl (zdal_p dlD_M_sortOf_12 (i := 6) rfl) ?_
      refine zr_callV (hf.w hW) hf.x (pc := 11) [.int (Int32.ofInt a0_)] [.ref 81] l_M_229 (c_M_closed l Mz (hf.w hW) a0_ ha0_a ha0_b T hG dv0 (show gIn T a0_ by first | with_reducible assumption | assumption | omega)) rfl rfl rfl (by decide) (Nat.le_of_ble_eq_true rfl) (zdal_p dlD_M_sortOf_12 (i := 7) rfl) ?_
      rintro _ N3_ ⟨v4_, rfl, ⟨hv4_a, hv4_b⟩, hsN3_, ⟨hp0_N3_, hp1_N3_, hp2_N3_⟩⟩
      obtain rfl := hsN3_.eq.symm
      show zW l m_M_sortOf (zn Mz + 0, zw Mz + 0) Mz 14 [some (.ref 81), some (.int (Int32.ofInt a0_))] [.int (Int32.ofInt v4_), .ref 81] (zpI [] [] Mz (fun v N => True))
      have hm_Mz := gMe_c hO hp0_N3_ (by (exact hp1_N3_))
      refine zr_callV (hf.w hW) hf.x (pc := 14) [.int (Int32.ofInt v4_)] [] l_M_411 (c_M_sortOfSet l Mz (hf.w hW) v4_ hv4_a hv4_b T hO p0_ (show gMe T v4_ by first | with_reducible assumption | assumption)) rfl rfl rfl (by decide) (Nat.le_of_ble_eq_true rfl) (zdal_p dlD_M_sortOf_12 (i := 8) rfl) ?_
      rintro _ N5_ ⟨v6_, rfl, ⟨hv6_a, hv6_b⟩, hsN5_, ⟨hp0_N5_, hp1_N5_⟩⟩
      obtain rfl := hsN5_.eq.symm
      show zW l m_M_sortOf (zn Mz + 0, zw Mz + 0) Mz 17 [some (.ref 81), some (.int (Int32.ofInt a0_))] [.int (Int32.ofInt v6_)] (zpI [] [] Mz (fun v N => True))
      refine zw_goto (pc := 17) (tgt := 21) (by decide) (zdal_p dlD_M_sortOf_12 (i := 9) rfl) ?_
      exact zr_iret (pc := 21) (ty := .int) rfl rfl ⟨by (exact hv6_a), by (exact hv6_b)⟩ hf trivial (zdal_p dlD_M_sortOf_12 (i := 11) rfl)
  · skip
    show zW l m_M_sortOf (zn Mz + 0, zw Mz + 0) Mz 5 [some (.ref 81), some (.int (Int32.ofInt a0_))] [.int (Int32.ofInt 0)] (zpI [] [] Mz (fun v N => True))
    refine zr_if_eq (pc := 5) (tgt := 20) ⟨(by decide), (by decide)⟩ (by decide) (zdal_p dlD_M_sortOf_12 (i := 3) rfl) (fun hc_5 => ?_) (fun hc_5 => ?_)
    · skip
      refine zw_iconst (pc := 20) (v := Int32.ofInt (-1)) (by decide) (zdal_p dlD_M_sortOf_12 (i := 10) rfl) ?_
      exact zr_iret (pc := 21) (ty := .int) rfl rfl ⟨by (decide), by (decide)⟩ hf trivial (zdal_p dlD_M_sortOf_12 (i := 11) rfl)
    · skip
      exact absurd hc_5 (by decide)
set_option maxHeartbeats 4000000 in
theorem c_M_timesOf (l : Launch) (Mz : zMem) (hW : zMt Mz) (a0_ : Int) (ha0_a : -2147483648 ≤ a0_) (ha0_b : a0_ < 2147483648) (T : zGT) (hO : gOK T) (hX : gEx T) (p0_ : zGB T Mz) (p1_ : 0 ≤ a0_) (p2_ : a0_ < ze Mz 81 20) : zC l m_M_timesOf 0 0 [.ref 81, .int (Int32.ofInt a0_)] Mz (zpI [] [] Mz (fun v N => True)) := by
  refine zC_of (L0 := [some (.ref 81), some (.int (Int32.ofInt a0_)), none, none]) md_M_timesOf (Nat.le_of_ble_eq_true rfl) rfl ?_ zQ0
  have hf : zFr [] [] Mz Mz := zFr.rf
  have r_20 := ze_r Mz 81 20
  have hG := hO.1
  have g24 := hG.2.1
  have g1 := hG.1
  have dv0 : zTab T Mz := p0_.1
  have dv1 : zB 85 144 0 5 Mz := p0_.2.1
  have dv2 : zJX T Mz := p0_.2.2.1
  have dv3 : zFirs T Mz := p0_.2.2.2.1
  have dv4 : zSSm T Mz := p0_.2.2.2.2.1
  have dv5 : zGD Mz := zGB.d hO p0_
  have gb := dv5.1
  have gn := dv0.1
  obtain ⟨K, hK1, hK2⟩ := hX.1 (a0_).toNat (by (exact zo_983 gb.2.1 gn p1_ p2_))
  refine zw_iconst (pc := 0) (v := Int32.ofInt 1) (by decide) (zdal_p dlD_M_timesOf_5 (i := 0) rfl) ?_
  refine zw_istore_n (pc := 1) (i := 2) (L2 := [some (.ref 81), some (.int (Int32.ofInt a0_)), some (.int (Int32.ofInt 1)), none]) rfl (by decide) rfl (zdal_p dlD_M_timesOf_5 (i := 1) rfl) ?_
  refine zw_iload_n (pc := 2) (n := 1) (x := Int32.ofInt a0_) rfl (zdal_p dlD_M_timesOf_5 (i := 2) rfl) ?_
  refine zw_istore_n (pc := 3) (i := 3) (L2 := [some (.ref 81), some (.int (Int32.ofInt a0_)), some (.int (Int32.ofInt 1)), some (.int (Int32.ofInt a0_))]) rfl (by decide) rfl (zdal_p dlD_M_timesOf_5 (i := 3) rfl) ?_
  have lp_4 : ∀ (n : Nat) (u1_ : Int) (hu1_a : -2147483648 ≤ u1_) (hu1_b : u1_ < 2147483648) (u2_ : Int) (hu2_a : -2147483648 ≤ u2_) (hu2_b : u2_ < 2147483648) (i3_ : 1 ≤ u1_) (i4_ : u1_ - 1 ≤ K) (i5_ : u2_ = ((gpw T (a0_).toNat (u1_ - 1).toNat : Nat) : Int)) (i6_ : 0 ≤ u2_) (i7_ : u2_ < ze Mz 81 20), ((K : Int) + 1 - u1_).toNat < n → zW l m_M_timesOf (zn Mz + 0, zw Mz + 0) Mz 4 [some (.ref 81), some (.int (Int32.ofInt a0_)), some (.int (Int32.ofInt u1_)), some (.int (Int32.ofInt u2_))] [] (zpI [] [] Mz (fun v N => True)) := by
    intro n
    induction n with
    | zero =>
      intro u1_ hu1_a hu1_b u2_ hu2_a hu2_b i3_ i4_ i5_ i6_ i7_ h0
      exact absurd h0 (Nat.not_lt_zero _)
    | succ n ih_4 =>
      intro u1_ hu1_a hu1_b u2_ hu2_a hu2_b i3_ i4_ i5_ i6_ i7_ hlt_4
      refine zw_iload_n (pc := 4) (n := 3) (x := Int32.ofInt u2_) rfl (zdal_p dlD_M_timesOf_5 (i := 4) rfl) ?_
      refine zr_if_eq (pc := 5) (tgt := 21) ⟨hu2_a, hu2_b⟩ (by decide) (zdal_p dlD_M_timesOf_5 (i := 5) rfl) (fun hc_5 => ?_) (fun hc_5 => ?_)
      · skip
        refine zw_iload_n (pc := 21) (n := 2) (x := Int32.ofInt u1_) rfl (zdal_p dlD_M_timesOf_5 (i := 13) rfl) ?_
        exact zr_iret (pc := 22) (ty := .int) rfl rfl ⟨by (exact hu1_a), by (exact hu1_b)⟩ hf trivial (zdal_p dlD_M_timesOf_5 (i := 14) rfl)
      · skip
        obtain ⟨w_, hw_⟩ : ∃ w_ : Int, w_ = u1_ - 1 := ⟨_, rfl⟩
        have hx_ : u2_ = ((gpw T (a0_).toNat w_.toNat : Nat) : Int) := by rw [hw_]; assumption
        have hne_ := gpw_n hK2 (show u2_ = ((gpw T (a0_).toNat (u1_ - 1).toNat : Nat) : Int) by first | with_reducible assumption | assumption) (by (exact hc_5)) (by (exact zo_132 i3_))
        refine zr_iinc (pc := 8) (i := 2) (a := u1_) (n := 1) (L2 := [some (.ref 81), some (.int (Int32.ofInt a0_)), some (.int (Int32.ofInt (u1_ + 1))), some (.int (Int32.ofInt u2_))]) rfl (by decide) rfl (zdal_p dlD_M_timesOf_5 (i := 6) rfl) ?_
        refine zw_aload_n (pc := 11) (n := 0) (x := 81) rfl (zdal_p dlD_M_timesOf_5 (i := 7) rfl) ?_
        refine zw_iload_n (pc := 12) (n := 3) (x := Int32.ofInt u2_) rfl (zdal_p dlD_M_timesOf_5 (i := 8) rfl) ?_
        refine zw_iload_n (pc := 13) (n := 1) (x := Int32.ofInt a0_) rfl (zdal_p dlD_M_timesOf_5 (i := 9) rfl) ?_
        refine zr_callV (hf.w hW) hf.x (pc := 14) [.int (Int32.ofInt u2_), .int (Int32.ofInt a0_)] [] l_M_216 (c_M_by l Mz (hf.w hW) u2_ hu2_a hu2_b a0_ ha0_a ha0_b T hG dv0 (show 0 ≤ u2_ by first | with_reducible assumption | assumption | omega) (show u2_ < ze Mz 81 20 by first | with_reducible assumption | assumption | omega) (show 0 ≤ a0_ by first | with_reducible assumption | assumption | omega) (show a0_ < ze Mz 81 20 by first | with_reducible assumption | assumption | omega)) rfl rfl rfl (by decide) (Nat.le_of_ble_eq_true rfl) (zdal_p dlD_M_timesOf_5 (i := 10) rfl) ?_
        rintro _ N8_ ⟨v9_, rfl, ⟨hv9_a, hv9_b⟩, hsN8_, ⟨hp0_N8_, hp1_N8_, hp2_N8_⟩⟩
        obtain rfl := hsN8_.eq.symm
        show zW l m_M_timesOf (zn Mz + 0, zw Mz + 0) Mz 17 [some (.ref 81), some (.int (Int32.ofInt a0_)), some (.int (Int32.ofInt (u1_ + 1))), some (.int (Int32.ofInt u2_))] [.int (Int32.ofInt v9_)] (zpI [] [] Mz (fun v N => True))
        have hpw := gpw_s (by (exact zo_984 hw_ i3_)) hx_ hp0_N8_
        refine zw_istore_n (pc := 17) (i := 3) (L2 := [some (.ref 81), some (.int (Int32.ofInt a0_)), some (.int (Int32.ofInt (u1_ + 1))), some (.int (Int32.ofInt v9_))]) rfl (by decide) rfl (zdal_p dlD_M_timesOf_5 (i := 11) rfl) ?_
        refine zw_goto (pc := 18) (tgt := 4) (by decide) (zdal_p dlD_M_timesOf_5 (i := 12) rfl) ?_
        exact ih_4 (u1_ + 1) (by (exact zo_576 i3_)) (by (exact zo_985 hK1 hu1_b i4_)) v9_ hv9_a hv9_b (show 1 ≤ (u1_ + 1) by first | with_reducible assumption | (exact zo_577 i3_) | assumption) (show (u1_ + 1) - 1 ≤ K by first | with_reducible assumption | (exact zo_986 hu1_b i4_ hne_) | assumption) (show v9_ = ((gpw T (a0_).toNat ((u1_ + 1) - 1).toNat : Nat) : Int) by rw [show (u1_ + 1) - 1 = w_ + 1 by (exact zo_987 hw_)]; exact hpw) (show 0 ≤ v9_ by first | with_reducible assumption | assumption | omega) (show v9_ < ze Mz 81 20 by first | with_reducible assumption | assumption | omega) (by omega)
  exact lp_4 _ 1 (by decide) (by decide) a0_ ha0_a ha0_b (show 1 ≤ (1 : Int) by first | with_reducible assumption | (decide) | assumption) (show (1 : Int) - 1 ≤ K by first | with_reducible assumption | (exact zo_988) | assumption) (show a0_ = ((gpw T (a0_).toNat ((1 : Int) - 1).toNat : Nat) : Int) by show a0_ = (((a0_).toNat : Nat) : Int); (exact zo_989 p1_)) (show 0 ≤ a0_ by first | with_reducible assumption | assumption | omega) (show a0_ < ze Mz 81 20 by first | with_reducible assumption | assumption | omega) (Nat.lt_succ_self _)
set_option maxHeartbeats 4000000 in
theorem c_M_order (l : Launch) (Mz : zMem) (hW : zMt Mz) (a0_ : Int) (ha0_a : -2147483648 ≤ a0_) (ha0_b : a0_ < 2147483648) (T : zGT) (hO : gOK T) (hX : gEx T) (p0_ : zGB T Mz) : zC l m_M_order 0 0 [.ref 81, .int (Int32.ofInt a0_)] Mz (zpI [] [] Mz (fun v N => True)) := by
  refine zC_of (L0 := [some (.ref 81), some (.int (Int32.ofInt a0_))]) md_M_order (Nat.le_of_ble_eq_true rfl) rfl ?_ zQ0
  have hf : zFr [] [] Mz Mz := zFr.rf
  have r_20 := ze_r Mz 81 20
  have hG := hO.1
  have g24 := hG.2.1
  have g1 := hG.1
  have dv0 : zTab T Mz := p0_.1
  have dv1 : zB 85 144 0 5 Mz := p0_.2.1
  have dv2 : zJX T Mz := p0_.2.2.1
  have dv3 : zFirs T Mz := p0_.2.2.2.1
  have dv4 : zSSm T Mz := p0_.2.2.2.2.1
  have dv5 : zGD Mz := zGB.d hO p0_
  have gb := dv5.1
  have gn := dv0.1
  refine zw_aload_n (pc := 0) (n := 0) (x := 81) rfl (zdal_p dlD_M_order_4 (i := 0) rfl) ?_
  refine zw_iload_n (pc := 1) (n := 1) (x := Int32.ofInt a0_) rfl (zdal_p dlD_M_order_4 (i := 1) rfl) ?_
  refine zr_callV (hf.w hW) hf.x (pc := 2) [.int (Int32.ofInt a0_)] [] l_M_400 (c_M_isMember l Mz (hf.w hW) a0_ ha0_a ha0_b T hO p0_) rfl rfl rfl (by decide) (Nat.le_of_ble_eq_true rfl) (zdal_p dlD_M_order_4 (i := 2) rfl) ?_
  rintro _ N1_ ⟨v2_, rfl, ⟨hv2_a, hv2_b⟩, hsN1_, hp0_N1_⟩
  obtain rfl := hsN1_.eq.symm
  replace hp0_N1_ : ((v2_ = 1 ∧ 0 ≤ a0_ ∧ a0_ < ze Mz 81 20) ∨ (v2_ = 0)) := hp0_N1_
  rcases hp0_N1_ with ⟨rfl, ha2_0_hp0_N1_, ha2_1_hp0_N1_⟩ | rfl
  · skip
    show zW l m_M_order (zn Mz + 0, zw Mz + 0) Mz 5 [some (.ref 81), some (.int (Int32.ofInt a0_))] [.int (Int32.ofInt 1)] (zpI [] [] Mz (fun v N => True))
    refine zr_if_eq (pc := 5) (tgt := 16) ⟨(by decide), (by decide)⟩ (by decide) (zdal_p dlD_M_order_4 (i := 3) rfl) (fun hc_5 => ?_) (fun hc_5 => ?_)
    · skip
      exact absurd hc_5 (by decide)
    · skip
      refine zw_aload_n (pc := 8) (n := 0) (x := 81) rfl (zdal_p dlD_M_order_4 (i := 4) rfl) ?_
      refine zw_iload_n (pc := 9) (n := 1) (x := Int32.ofInt a0_) rfl (zdal_p dlD_M_order_4 (i := 5) rfl) ?_
      refine zr_callV (hf.w hW) hf.x (pc := 10) [.int (Int32.ofInt a0_)] [] l_M_403 (c_M_timesOf l Mz (hf.w hW) a0_ ha0_a ha0_b T hO hX p0_ (show 0 ≤ a0_ by first | with_reducible assumption | assumption | omega) (show a0_ < ze Mz 81 20 by first | with_reducible assumption | assumption | omega)) rfl rfl rfl (by decide) (Nat.le_of_ble_eq_true rfl) (zdal_p dlD_M_order_4 (i := 6) rfl) ?_
      rintro _ N3_ ⟨v4_, rfl, ⟨hv4_a, hv4_b⟩, hsN3_, -⟩
      obtain rfl := hsN3_.eq.symm
      show zW l m_M_order (zn Mz + 0, zw Mz + 0) Mz 13 [some (.ref 81), some (.int (Int32.ofInt a0_))] [.int (Int32.ofInt v4_)] (zpI [] [] Mz (fun v N => True))
      refine zw_goto (pc := 13) (tgt := 17) (by decide) (zdal_p dlD_M_order_4 (i := 7) rfl) ?_
      exact zr_iret (pc := 17) (ty := .int) rfl rfl ⟨by (exact hv4_a), by (exact hv4_b)⟩ hf trivial (zdal_p dlD_M_order_4 (i := 9) rfl)
  · skip
    show zW l m_M_order (zn Mz + 0, zw Mz + 0) Mz 5 [some (.ref 81), some (.int (Int32.ofInt a0_))] [.int (Int32.ofInt 0)] (zpI [] [] Mz (fun v N => True))
    refine zr_if_eq (pc := 5) (tgt := 16) ⟨(by decide), (by decide)⟩ (by decide) (zdal_p dlD_M_order_4 (i := 3) rfl) (fun hc_5 => ?_) (fun hc_5 => ?_)
    · skip
      refine zw_iconst (pc := 16) (v := Int32.ofInt (-1)) (by decide) (zdal_p dlD_M_order_4 (i := 8) rfl) ?_
      exact zr_iret (pc := 17) (ty := .int) rfl rfl ⟨by (decide), by (decide)⟩ hf trivial (zdal_p dlD_M_order_4 (i := 9) rfl)
    · skip
      exact absurd hc_5 (by decide)
set_option maxHeartbeats 4000000 in
theorem c_M_orders (l : Launch) (Mz : zMem) (hW : zMt Mz) (a0_ : Int) (ha0_a : -2147483648 ≤ a0_) (ha0_b : a0_ < 2147483648) (T : zGT) (hO : gOK T) (hX : gEx T) (p0_ : zGB T Mz) : zC l m_M_orders 0 0 [.ref 81, .int (Int32.ofInt a0_)] Mz (zpI [] [] Mz (fun v N => True)) := by
  refine zC_of (L0 := [some (.ref 81), some (.int (Int32.ofInt a0_)), none, none]) md_M_orders (Nat.le_of_ble_eq_true rfl) rfl ?_ zQ0
  have hf : zFr [] [] Mz Mz := zFr.rf
  have r_20 := ze_r Mz 81 20
  have hG := hO.1
  have g24 := hG.2.1
  have g1 := hG.1
  have dv0 : zTab T Mz := p0_.1
  have dv1 : zB 85 144 0 5 Mz := p0_.2.1
  have dv2 : zJX T Mz := p0_.2.2.1
  have dv3 : zFirs T Mz := p0_.2.2.2.1
  have dv4 : zSSm T Mz := p0_.2.2.2.2.1
  have dv5 : zGD Mz := zGB.d hO p0_
  have gb := dv5.1
  have gn := dv0.1
  refine zw_iload_n (pc := 0) (n := 1) (x := Int32.ofInt a0_) rfl (zdal_p dlD_M_orders_6 (i := 0) rfl) ?_
  refine zr_i2l (pc := 1) ⟨ha0_a, ha0_b⟩ (zdal_p dlD_M_orders_6 (i := 1) rfl) ?_
  refine zw_lconst (pc := 2) (v := Int64.ofInt 1) (by decide) (zdal_p dlD_M_orders_6 (i := 2) rfl) ?_
  refine zr_ldc2 (pc := 3) (n := 24) (by decide) k_M_406 (zdal_p dlD_M_orders_6 (i := 3) rfl) ?_
  refine zr_callS hf.x (pc := 6) [.long (Int64.ofInt a0_), .long (Int64.ofInt 1), .long (Int64.ofInt 24)] [] l_M_131 (c_M_isIn l Mz (hf.w hW) a0_ (by (exact zo_282 ha0_a)) (by (exact zo_283 ha0_b)) 1 (by decide) (by decide) 24 (by decide) (by decide)) rfl rfl (by decide) (Nat.le_of_ble_eq_true rfl) (zdal_p dlD_M_orders_6 (i := 4) rfl) ?_
  rintro _ N1_ ⟨v2_, rfl, ⟨hv2_a, hv2_b⟩, hsN1_, hp0_N1_⟩
  obtain rfl := hsN1_.eq.symm
  replace hp0_N1_ : ((v2_ = 1 ∧ 1 ≤ a0_ ∧ a0_ ≤ 24) ∨ (v2_ = 0 ∧ (a0_ < 1 ∨ 24 < a0_))) := hp0_N1_
  rcases hp0_N1_ with ⟨rfl, ha6_0_hp0_N1_, ha6_1_hp0_N1_⟩ | ⟨rfl, ha6_0_hp0_N1_⟩
  · skip
    show zW l m_M_orders (zn Mz + 0, zw Mz + 0) Mz 9 [some (.ref 81), some (.int (Int32.ofInt a0_)), none, none] [.int (Int32.ofInt 1)] (zpI [] [] Mz (fun v N => True))
    refine zr_if_ne (pc := 9) (tgt := 14) ⟨(by decide), (by decide)⟩ (by decide) (zdal_p dlD_M_orders_6 (i := 5) rfl) (fun hc_9 => ?_) (fun hc_9 => ?_)
    · skip
      refine zw_iconst (pc := 14) (v := Int32.ofInt 0) (by decide) (zdal_p dlD_M_orders_6 (i := 8) rfl) ?_
      refine zw_istore_n (pc := 15) (i := 2) (L2 := [some (.ref 81), some (.int (Int32.ofInt a0_)), some (.int (Int32.ofInt 0)), none]) rfl (by decide) rfl (zdal_p dlD_M_orders_6 (i := 9) rfl) ?_
      refine zw_iconst (pc := 16) (v := Int32.ofInt 0) (by decide) (zdal_p dlD_M_orders_6 (i := 10) rfl) ?_
      refine zw_istore_n (pc := 17) (i := 3) (L2 := [some (.ref 81), some (.int (Int32.ofInt a0_)), some (.int (Int32.ofInt 0)), some (.int (Int32.ofInt 0))]) rfl (by decide) rfl (zdal_p dlD_M_orders_6 (i := 11) rfl) ?_
      have lp_18 : ∀ (n : Nat) (u3_ : Int) (hu3_a : -2147483648 ≤ u3_) (hu3_b : u3_ < 2147483648) (u4_ : Int) (hu4_a : -2147483648 ≤ u4_) (hu4_b : u4_ < 2147483648) (i5_ : 0 ≤ u4_), (ze Mz 81 20 - u4_).toNat < n → zW l m_M_orders (zn Mz + 0, zw Mz + 0) Mz 18 [some (.ref 81), some (.int (Int32.ofInt a0_)), some (.int (Int32.ofInt u3_)), some (.int (Int32.ofInt u4_))] [] (zpI [] [] Mz (fun v N => True)) := by
        intro n
        induction n with
        | zero =>
          intro u3_ hu3_a hu3_b u4_ hu4_a hu4_b i5_ h0
          exact absurd h0 (Nat.not_lt_zero _)
        | succ n ih_18 =>
          intro u3_ hu3_a hu3_b u4_ hu4_a hu4_b i5_ hlt_18
          refine zw_iload_n (pc := 18) (n := 3) (x := Int32.ofInt u4_) rfl (zdal_p dlD_M_orders_6 (i := 12) rfl) ?_
          refine zw_aload_n (pc := 19) (n := 0) (x := 81) rfl (zdal_p dlD_M_orders_6 (i := 13) rfl) ?_
          refine zr_getI0 hf hW (pc := 20) (by decide) f_M_196 rfl (zdal_p dlD_M_orders_6 (i := 14) rfl) ?_
          refine zr_icmp_ge (pc := 23) (tgt := 52) ⟨hu4_a, hu4_b⟩ ⟨(ze_r Mz 81 20).1, (ze_r Mz 81 20).2⟩ (by decide) (zdal_p dlD_M_orders_6 (i := 15) rfl) (fun hc_23 => ?_) (fun hc_23 => ?_)
          · skip
            refine zw_iload_n (pc := 52) (n := 2) (x := Int32.ofInt u3_) rfl (zdal_p dlD_M_orders_7 (i := 6) rfl) ?_
            exact zr_iret (pc := 53) (ty := .int) rfl rfl ⟨by (exact hu3_a), by (exact hu3_b)⟩ hf trivial (zdal_p dlD_M_orders_7 (i := 7) rfl)
          · skip
            refine zw_iload_n (pc := 26) (n := 2) (x := Int32.ofInt u3_) rfl (zdal_p dlD_M_orders_6 (i := 16) rfl) ?_
            refine zw_aload_n (pc := 27) (n := 0) (x := 81) rfl (zdal_p dlD_M_orders_6 (i := 17) rfl) ?_
            refine zw_iload_n (pc := 28) (n := 3) (x := Int32.ofInt u4_) rfl (zdal_p dlD_M_orders_6 (i := 18) rfl) ?_
            refine zr_callV (hf.w hW) hf.x (pc := 29) [.int (Int32.ofInt u4_)] [.int (Int32.ofInt u3_)] l_M_403 (c_M_timesOf l Mz (hf.w hW) u4_ hu4_a hu4_b T hO hX p0_ (show 0 ≤ u4_ by first | with_reducible assumption | assumption | omega) (show u4_ < ze Mz 81 20 by first | with_reducible assumption | assumption | omega)) rfl rfl rfl (by decide) (Nat.le_of_ble_eq_true rfl) (zdal_p dlD_M_orders_6 (i := 19) rfl) ?_
            rintro _ N6_ ⟨v7_, rfl, ⟨hv7_a, hv7_b⟩, hsN6_, -⟩
            obtain rfl := hsN6_.eq.symm
            show zW l m_M_orders (zn Mz + 0, zw Mz + 0) Mz 32 [some (.ref 81), some (.int (Int32.ofInt a0_)), some (.int (Int32.ofInt u3_)), some (.int (Int32.ofInt u4_))] [.int (Int32.ofInt v7_), .int (Int32.ofInt u3_)] (zpI [] [] Mz (fun v N => True))
            refine zw_iload_n (pc := 32) (n := 1) (x := Int32.ofInt a0_) rfl (zdal_p dlD_M_orders_6 (i := 20) rfl) ?_
            refine zr_icmp_ne (pc := 33) (tgt := 40) ⟨hv7_a, hv7_b⟩ ⟨ha0_a, ha0_b⟩ (by decide) (zdal_p dlD_M_orders_6 (i := 21) rfl) (fun hc_33 => ?_) (fun hc_33 => ?_)
            · skip
              refine zw_iconst (pc := 40) (v := Int32.ofInt 0) (by decide) (zdal_p dlD_M_orders_7 (i := 0) rfl) ?_
              refine zr_callS hf.x (pc := 41) [.int (Int32.ofInt 0)] [.int (Int32.ofInt u3_)] l_M_256 (c_M_truth l Mz (hf.w hW) 0 (by decide) (by decide) (by (decide))) rfl rfl (by decide) (Nat.le_of_ble_eq_true rfl) (zdal_p dlD_M_orders_7 (i := 1) rfl) ?_
              rintro _ N8_ ⟨v9_, rfl, ⟨hv9_a, hv9_b⟩, hsN8_, hp0_N8_⟩
              obtain rfl := hsN8_.eq.symm
              replace hp0_N8_ : v9_ = 0 := hp0_N8_
              show zW l m_M_orders (zn Mz + 0, zw Mz + 0) Mz 44 [some (.ref 81), some (.int (Int32.ofInt a0_)), some (.int (Int32.ofInt u3_)), some (.int (Int32.ofInt u4_))] [.int (Int32.ofInt v9_), .int (Int32.ofInt u3_)] (zpI [] [] Mz (fun v N => True))
              refine zr_iadd (pc := 44) (zdal_p dlD_M_orders_7 (i := 2) rfl) ?_
              refine zr_nmI (fun v10_ hv10_ => ?_)
              obtain ⟨hv10_a, hv10_b⟩ := hv10_
              refine zw_istore_n (pc := 45) (i := 2) (L2 := [some (.ref 81), some (.int (Int32.ofInt a0_)), some (.int (Int32.ofInt v10_)), some (.int (Int32.ofInt u4_))]) rfl (by decide) rfl (zdal_p dlD_M_orders_7 (i := 3) rfl) ?_
              refine zr_iinc (pc := 46) (i := 3) (a := u4_) (n := 1) (L2 := [some (.ref 81), some (.int (Int32.ofInt a0_)), some (.int (Int32.ofInt v10_)), some (.int (Int32.ofInt (u4_ + 1)))]) rfl (by decide) rfl (zdal_p dlD_M_orders_7 (i := 4) rfl) ?_
              refine zw_goto (pc := 49) (tgt := 18) (by decide) (zdal_p dlD_M_orders_7 (i := 5) rfl) ?_
              exact ih_18 v10_ hv10_a hv10_b (u4_ + 1) (by (exact zo_74 i5_)) (by (exact zo_919 gb.2.1 hc_23)) (show 0 ≤ (u4_ + 1) by first | with_reducible assumption | (exact zo_76 i5_) | assumption) (by (exact zo_147 hc_23 hlt_18))
            · skip
              refine zw_iconst (pc := 36) (v := Int32.ofInt 1) (by decide) (zdal_p dlD_M_orders_6 (i := 22) rfl) ?_
              refine zw_goto (pc := 37) (tgt := 41) (by decide) (zdal_p dlD_M_orders_6 (i := 23) rfl) ?_
              refine zr_callS hf.x (pc := 41) [.int (Int32.ofInt 1)] [.int (Int32.ofInt u3_)] l_M_256 (c_M_truth l Mz (hf.w hW) 1 (by decide) (by decide) (by (decide))) rfl rfl (by decide) (Nat.le_of_ble_eq_true rfl) (zdal_p dlD_M_orders_7 (i := 1) rfl) ?_
              rintro _ N11_ ⟨v12_, rfl, ⟨hv12_a, hv12_b⟩, hsN11_, hp0_N11_⟩
              obtain rfl := hsN11_.eq.symm
              replace hp0_N11_ : v12_ = 1 := hp0_N11_
              show zW l m_M_orders (zn Mz + 0, zw Mz + 0) Mz 44 [some (.ref 81), some (.int (Int32.ofInt a0_)), some (.int (Int32.ofInt u3_)), some (.int (Int32.ofInt u4_))] [.int (Int32.ofInt v12_), .int (Int32.ofInt u3_)] (zpI [] [] Mz (fun v N => True))
              refine zr_iadd (pc := 44) (zdal_p dlD_M_orders_7 (i := 2) rfl) ?_
              refine zr_nmI (fun v13_ hv13_ => ?_)
              obtain ⟨hv13_a, hv13_b⟩ := hv13_
              refine zw_istore_n (pc := 45) (i := 2) (L2 := [some (.ref 81), some (.int (Int32.ofInt a0_)), some (.int (Int32.ofInt v13_)), some (.int (Int32.ofInt u4_))]) rfl (by decide) rfl (zdal_p dlD_M_orders_7 (i := 3) rfl) ?_
              refine zr_iinc (pc := 46) (i := 3) (a := u4_) (n := 1) (L2 := [some (.ref 81), some (.int (Int32.ofInt a0_)), some (.int (Int32.ofInt v13_)), some (.int (Int32.ofInt (u4_ + 1)))]) rfl (by decide) rfl (zdal_p dlD_M_orders_7 (i := 4) rfl) ?_
              refine zw_goto (pc := 49) (tgt := 18) (by decide) (zdal_p dlD_M_orders_7 (i := 5) rfl) ?_
              exact ih_18 v13_ hv13_a hv13_b (u4_ + 1) (by (exact zo_74 i5_)) (by (exact zo_919 gb.2.1 hc_23)) (show 0 ≤ (u4_ + 1) by first | with_reducible assumption | (exact zo_76 i5_) | assumption) (by (exact zo_147 hc_23 hlt_18))
      exact lp_18 _ 0 (by decide) (by decide) 0 (by decide) (by decide) (show 0 ≤ (0 : Int) by first | with_reducible assumption | (decide) | assumption) (Nat.lt_succ_self _)
    · skip
      exact absurd hc_9 (by decide)
  · skip
    show zW l m_M_orders (zn Mz + 0, zw Mz + 0) Mz 9 [some (.ref 81), some (.int (Int32.ofInt a0_)), none, none] [.int (Int32.ofInt 0)] (zpI [] [] Mz (fun v N => True))
    refine zr_if_ne (pc := 9) (tgt := 14) ⟨(by decide), (by decide)⟩ (by decide) (zdal_p dlD_M_orders_6 (i := 5) rfl) (fun hc_9 => ?_) (fun hc_9 => ?_)
    · skip
      exact absurd hc_9 (by decide)
    · skip
      refine zw_iconst (pc := 12) (v := Int32.ofInt (-1)) (by decide) (zdal_p dlD_M_orders_6 (i := 6) rfl) ?_
      exact zr_iret (pc := 13) (ty := .int) rfl rfl ⟨by (decide), by (decide)⟩ hf trivial (zdal_p dlD_M_orders_6 (i := 7) rfl)
set_option maxHeartbeats 4000000 in
theorem c_M_moebius (l : Launch) (Mz : zMem) (hW : zMt Mz) (a0_ : Int) (ha0_a : -2147483648 ≤ a0_) (ha0_b : a0_ < 2147483648) (T : zGT) (hO : gOK T) (p0_ : zGB T Mz) : zC l m_M_moebius 0 0 [.ref 81, .int (Int32.ofInt a0_)] Mz (zpI [] [106] Mz (fun v N => True)) := by
  refine zC_of (L0 := [some (.ref 81), some (.int (Int32.ofInt a0_)), none, none, none]) md_M_moebius (Nat.le_of_ble_eq_true rfl) rfl ?_ zQ0
  have hf : zFr [] [106] Mz Mz := zFr.rf
  have r_20 := ze_r Mz 81 20
  have r_25 := ze_r Mz 81 25
  have r_26 := ze_r Mz 81 26
  have hG := hO.1
  have g24 := hG.2.1
  have g1 := hG.1
  have dv0 : zTab T Mz := p0_.1
  have dv1 : zB 85 144 0 5 Mz := p0_.2.1
  have dv2 : zJX T Mz := p0_.2.2.1
  have dv3 : zFirs T Mz := p0_.2.2.2.1
  have dv4 : zSSm T Mz := p0_.2.2.2.2.1
  have dv5 : zGD Mz := zGB.d hO p0_
  have gb := dv5.1
  have gn := dv0.1
  refine zw_aload_n (pc := 0) (n := 0) (x := 81) rfl (zdal_p dlD_M_moebius_48 (i := 0) rfl) ?_
  refine zw_iload_n (pc := 1) (n := 1) (x := Int32.ofInt a0_) rfl (zdal_p dlD_M_moebius_48 (i := 1) rfl) ?_
  refine zr_callV (hf.w hW) hf.x (pc := 2) [.int (Int32.ofInt a0_)] [] l_M_414 (c_M_isSort l Mz (hf.w hW) a0_ ha0_a ha0_b T hO p0_) rfl rfl rfl (by decide) (Nat.le_of_ble_eq_true rfl) (zdal_p dlD_M_moebius_48 (i := 2) rfl) ?_
  rintro _ N1_ ⟨v2_, rfl, ⟨hv2_a, hv2_b⟩, hsN1_, hp0_N1_⟩
  obtain rfl := hsN1_.eq.symm
  replace hp0_N1_ : ((v2_ = 1 ∧ 0 ≤ a0_ ∧ a0_ < ze Mz 81 26) ∨ (v2_ = 0)) := hp0_N1_
  rcases hp0_N1_ with ⟨rfl, ha2_0_hp0_N1_, ha2_1_hp0_N1_⟩ | rfl
  · skip
    show zW l m_M_moebius (zn Mz + 0, zw Mz + 0) Mz 5 [some (.ref 81), some (.int (Int32.ofInt a0_)), none, none, none] [.int (Int32.ofInt 1)] (zpI [] [106] Mz (fun v N => True))
    refine zr_if_ne (pc := 5) (tgt := 12) ⟨(by decide), (by decide)⟩ (by decide) (zdal_p dlD_M_moebius_48 (i := 3) rfl) (fun hc_5 => ?_) (fun hc_5 => ?_)
    · skip
      refine zw_aload_n (pc := 12) (n := 0) (x := 81) rfl (zdal_p dlD_M_moebius_48 (i := 6) rfl) ?_
      refine zr_getI0 hf hW (pc := 13) (by decide) f_M_196 rfl (zdal_p dlD_M_moebius_48 (i := 7) rfl) ?_
      refine zw_istore_n (pc := 16) (i := 2) (L2 := [some (.ref 81), some (.int (Int32.ofInt a0_)), some (.int (Int32.ofInt (ze Mz 81 20))), none, none]) rfl (by decide) rfl (zdal_p dlD_M_moebius_48 (i := 8) rfl) ?_
      have lp_17 : ∀ (n : Nat) (u3_ : Int) (hu3_a : -2147483648 ≤ u3_) (hu3_b : u3_ < 2147483648) (N4_ : zMem) (hs5_ : zFr [] [106] Mz N4_) (i6_ : u3_ ≤ ze Mz 81 20) (i7_ : u3_ ≥ 0 ∨ u3_ = ze Mz 81 20), u3_.toNat < n → zW l m_M_moebius (zn Mz + 0, zw Mz + 0) N4_ 17 [some (.ref 81), some (.int (Int32.ofInt a0_)), some (.int (Int32.ofInt u3_)), none, none] [] (zpI [] [106] Mz (fun v N => True)) := by
        intro n
        induction n with
        | zero =>
          intro u3_ hu3_a hu3_b N4_ hs5_ i6_ i7_ h0
          exact absurd h0 (Nat.not_lt_zero _)
        | succ n ih_17 =>
          intro u3_ hu3_a hu3_b N4_ hs5_ i6_ i7_ hlt_17
          have hf_N4_ : zFr [] [106] Mz N4_ := hf.tr hs5_ (by decide) (by decide)
          have e25_N4_ : ze N4_ 81 25 = ze Mz 81 25 := hs5_.e (by decide)
          have c11_ : zJX T N4_ := zJX.fr hs5_ dv2 (by decide) (by decide)
          refine zw_iload_n (pc := 17) (n := 2) (x := Int32.ofInt u3_) rfl (zdal_p dlD_M_moebius_48 (i := 9) rfl) ?_
          refine zr_if_le (pc := 18) (tgt := 148) ⟨hu3_a, hu3_b⟩ (by decide) (zdal_p dlD_M_moebius_48 (i := 10) rfl) (fun hc_18 => ?_) (fun hc_18 => ?_)
          · skip
            refine zw_aload_n (pc := 148) (n := 0) (x := 81) rfl (zdal_p dlD_M_moebius_51 (i := 7) rfl) ?_
            refine zr_getF (r := 106) (hf_N4_.w hW) (pc := 149) f_M_90 rfl (zh_106 (hf_N4_.w hW)).1 (zdal_p dlD_M_moebius_51 (i := 8) rfl) ?_
            refine zw_aload_n (pc := 152) (n := 0) (x := 81) rfl (zdal_p dlD_M_moebius_51 (i := 9) rfl) ?_
            refine zw_aload_n (pc := 153) (n := 0) (x := 81) rfl (zdal_p dlD_M_moebius_51 (i := 10) rfl) ?_
            refine zr_getF (r := 91) (hf_N4_.w hW) (pc := 154) f_M_44 rfl (zh_91 (hf_N4_.w hW)).1 (zdal_p dlD_M_moebius_51 (i := 11) rfl) ?_
            refine zw_iload_n (pc := 157) (n := 1) (x := Int32.ofInt a0_) rfl (zdal_p dlD_M_moebius_51 (i := 12) rfl) ?_
            refine zr_ialdn (pc := 158) (zh_91 (hf_N4_.w hW)).2 (by decide) (by (exact ha2_0_hp0_N1_)) (by (exact zo_906 gb.2.2.2.2.2 ha0_b ha2_1_hp0_N1_)) (zdal_p dlD_M_moebius_51 (i := 13) rfl) (fun v15_ hv15_ hv15_a hv15_b => ?_)
            rw [hf_N4_.ie (by decide) (by decide)] at hv15_
            have hf_x := dv3.g hO (e := a0_) (by (exact ha2_0_hp0_N1_)) (by (exact ha2_1_hp0_N1_))
            refine zr_toI (show v15_ = ze Mz 91 (a0_).toNat by (exact hv15_)) ?_
            refine zr_callV (hf_N4_.w hW) hf_N4_.x (pc := 159) [.int (Int32.ofInt (ze Mz 91 (a0_).toNat))] [.ref 106] l_M_232 (c_M_subIndex l N4_ (hf_N4_.w hW) (ze Mz 91 (a0_).toNat) (by (exact zo_168 hf_x.2.1)) (by (exact zo_550 hv15_ hv15_b)) (show 0 ≤ ze N4_ 81 25 by first | with_reducible assumption | (exact zo_568 e25_N4_ gb.2.2.1) | assumption) (show ze N4_ 81 25 ≤ 128 by first | with_reducible assumption | (exact zo_990 e25_N4_ gb.2.2.2.1) | assumption)) rfl rfl rfl (by decide) (Nat.le_of_ble_eq_true rfl) (zdal_p dlD_M_moebius_51 (i := 14) rfl) ?_
            rintro _ N16_ ⟨v17_, rfl, ⟨hv17_a, hv17_b⟩, hsN16_, hp0_N16_⟩
            obtain rfl := hsN16_.eq.symm
            replace hp0_N16_ : ((0 ≤ v17_ ∧ v17_ < ze N4_ 81 25 ∧ ze N4_ 89 (v17_).toNat = (ze Mz 91 (a0_).toNat)) ∨ (v17_ = -1 ∧ ∀ k : Nat, (k : Int) < ze N4_ 81 25 → ze N4_ 89 k ≠ (ze Mz 91 (a0_).toNat))) := hp0_N16_
            rcases hp0_N16_ with ⟨ha159_0_hp0_N16_, ha159_1_hp0_N16_, ha159_2_hp0_N16_⟩ | ⟨rfl, ha159_0_hp0_N16_⟩
            · skip
              show zW l m_M_moebius (zn Mz + 0, zw Mz + 0) N4_ 162 [some (.ref 81), some (.int (Int32.ofInt a0_)), some (.int (Int32.ofInt u3_)), none, none] [.int (Int32.ofInt v17_), .ref 106] (zpI [] [106] Mz (fun v N => True))
              refine zr_ialdn (pc := 162) (zh_106 (hf_N4_.w hW)).2 (by decide) (by (exact ha159_0_hp0_N16_)) (by (exact zo_991 e25_N4_ gb.2.2.2.1 ha159_1_hp0_N16_ hv17_b)) (zdal_p dlD_M_moebius_51 (i := 15) rfl) (fun v18_ hv18_ hv18_a hv18_b => ?_)
              exact zr_iret (pc := 163) (ty := .int) rfl rfl ⟨by (exact hv18_a), by (exact hv18_b)⟩ hf_N4_ trivial (zdal_p dlD_M_moebius_51 (i := 16) rfl)
            · skip
              obtain ⟨i0, hi0, hi1⟩ := (hf_x.1).f hO c11_
              exact absurd hi1 (ha159_0_hp0_N16_ i0 hi0)
          · skip
            refine zw_iconst (pc := 21) (v := Int32.ofInt 0) (by decide) (zdal_p dlD_M_moebius_48 (i := 11) rfl) ?_
            refine zw_istore_n (pc := 22) (i := 3) (L2 := [some (.ref 81), some (.int (Int32.ofInt a0_)), some (.int (Int32.ofInt u3_)), some (.int (Int32.ofInt 0)), none]) rfl (by decide) rfl (zdal_p dlD_M_moebius_48 (i := 12) rfl) ?_
            have lp_23 : ∀ (n : Nat) (u19_ : Int) (hu19_a : -2147483648 ≤ u19_) (hu19_b : u19_ < 2147483648) (N20_ : zMem) (hs21_ : zFr [] [106] N4_ N20_) (i22_ : 0 ≤ u19_), (ze Mz 81 25 - u19_).toNat < n → zW l m_M_moebius (zn Mz + 0, zw Mz + 0) N20_ 23 [some (.ref 81), some (.int (Int32.ofInt a0_)), some (.int (Int32.ofInt u3_)), some (.int (Int32.ofInt u19_)), none] [] (zpI [] [106] Mz (fun v N => True)) := by
              intro n
              induction n with
              | zero =>
                intro u19_ hu19_a hu19_b N20_ hs21_ i22_ h0
                exact absurd h0 (Nat.not_lt_zero _)
              | succ n ih_23 =>
                intro u19_ hu19_a hu19_b N20_ hs21_ i22_ hlt_23
                have hf_N20_ : zFr [] [106] Mz N20_ := hf_N4_.tr hs21_ (by decide) (by decide)
                have hb0_N20_ : zFr [] [106] Mz N20_ := hs5_.tr hs21_ (by decide) (by decide)
                refine zw_iload_n (pc := 23) (n := 3) (x := Int32.ofInt u19_) rfl (zdal_p dlD_M_moebius_48 (i := 13) rfl) ?_
                refine zw_aload_n (pc := 24) (n := 0) (x := 81) rfl (zdal_p dlD_M_moebius_48 (i := 14) rfl) ?_
                refine zr_getI0 hf_N20_ hW (pc := 25) (by decide) f_M_220 rfl (zdal_p dlD_M_moebius_48 (i := 15) rfl) ?_
                refine zr_icmp_ge (pc := 28) (tgt := 142) ⟨hu19_a, hu19_b⟩ ⟨(ze_r Mz 81 25).1, (ze_r Mz 81 25).2⟩ (by decide) (zdal_p dlD_M_moebius_48 (i := 16) rfl) (fun hc_28 => ?_) (fun hc_28 => ?_)
                · skip
                  refine zr_iinc (pc := 142) (i := 2) (a := u3_) (n := -1) (L2 := [some (.ref 81), some (.int (Int32.ofInt a0_)), some (.int (Int32.ofInt (u3_ + (-1)))), some (.int (Int32.ofInt u19_)), none]) rfl (by decide) rfl (zdal_p dlD_M_moebius_51 (i := 5) rfl) ?_
                  refine zw_goto (pc := 145) (tgt := 17) (by decide) (zdal_p dlD_M_moebius_51 (i := 6) rfl) ?_
                  refine zW_le [some (.ref 81), some (.int (Int32.ofInt a0_)), some (.int (Int32.ofInt (u3_ + (-1)))), none, none] (⟨rfl, rfl, rfl, trivial⟩) ?_
                  exact ih_17 (u3_ + (-1)) (by (exact zo_992 hc_18)) (by (exact zo_893 hu3_b)) N20_ hb0_N20_ (show (u3_ + (-1)) ≤ ze Mz 81 20 by first | with_reducible assumption | (exact zo_993 i6_) | assumption) (show (u3_ + (-1)) ≥ 0 ∨ (u3_ + (-1)) = ze Mz 81 20 by first | with_reducible assumption | (exact zo_994 gb.1 hc_18) | assumption) (by (exact zo_995 hc_18 hlt_17 hu3_b))
                · skip
                  refine zw_aload_n (pc := 31) (n := 0) (x := 81) rfl (zdal_p dlD_M_moebius_48 (i := 17) rfl) ?_
                  refine zr_getF (r := 89) (hf_N20_.w hW) (pc := 32) f_M_38 rfl (zh_89 (hf_N20_.w hW)).1 (zdal_p dlD_M_moebius_48 (i := 18) rfl) ?_
                  refine zw_iload_n (pc := 35) (n := 3) (x := Int32.ofInt u19_) rfl (zdal_p dlD_M_moebius_48 (i := 19) rfl) ?_
                  refine zr_ialdn (pc := 36) (zh_89 (hf_N20_.w hW)).2 (by decide) (by (exact i22_)) (by (exact zo_907 gb.2.2.2.1 hc_28)) (zdal_p dlD_M_moebius_48 (i := 20) rfl) (fun v30_ hv30_ hv30_a hv30_b => ?_)
                  rw [hf_N20_.ie (by decide) (by decide)] at hv30_
                  have hs_xN20_ := dv2.g hO (e := u19_) (by (exact i22_)) (by (exact hc_28))
                  refine zr_toI (show v30_ = ze Mz 89 (u19_).toNat by (exact hv30_)) ?_
                  refine zr_callS hf_N20_.x (pc := 37) [.int (Int32.ofInt (ze Mz 89 (u19_).toNat))] [] l_M_253 (c_M_ones l N20_ (hf_N20_.w hW) (ze Mz 89 (u19_).toNat) (by (exact zo_168 hs_xN20_.2.1)) (by (exact zo_550 hv30_ hv30_b)) (show 0 ≤ (ze Mz 89 (u19_).toNat) by first | with_reducible assumption | (exact zo_57 hs_xN20_.2.1) | assumption)) rfl rfl (by decide) (Nat.le_of_ble_eq_true rfl) (zdal_p dlD_M_moebius_48 (i := 21) rfl) ?_
                  rintro _ N31_ ⟨v32_, rfl, ⟨hv32_a, hv32_b⟩, hsN31_, ⟨hp0_N31_, hp1_N31_, hp2_N31_⟩⟩
                  obtain rfl := hsN31_.eq.symm
                  show zW l m_M_moebius (zn Mz + 0, zw Mz + 0) N20_ 40 [some (.ref 81), some (.int (Int32.ofInt a0_)), some (.int (Int32.ofInt u3_)), some (.int (Int32.ofInt u19_)), none] [.int (Int32.ofInt v32_)] (zpI [] [106] Mz (fun v N => True))
                  refine zw_iload_n (pc := 40) (n := 2) (x := Int32.ofInt u3_) rfl (zdal_p dlD_M_moebius_48 (i := 22) rfl) ?_
                  refine zr_icmp_eq (pc := 41) (tgt := 47) ⟨hv32_a, hv32_b⟩ ⟨hu3_a, hu3_b⟩ (by decide) (zdal_p dlD_M_moebius_48 (i := 23) rfl) (fun hc_41 => ?_) (fun hc_41 => ?_)
                  · skip
                    refine zw_aload_n (pc := 47) (n := 0) (x := 81) rfl (zdal_p dlD_M_moebius_49 (i := 1) rfl) ?_
                    refine zr_getF (r := 106) (hf_N20_.w hW) (pc := 48) f_M_90 rfl (zh_106 (hf_N20_.w hW)).1 (zdal_p dlD_M_moebius_49 (i := 2) rfl) ?_
                    refine zw_iload_n (pc := 51) (n := 3) (x := Int32.ofInt u19_) rfl (zdal_p dlD_M_moebius_49 (i := 3) rfl) ?_
                    refine zw_iload_n (pc := 52) (n := 2) (x := Int32.ofInt u3_) rfl (zdal_p dlD_M_moebius_49 (i := 4) rfl) ?_
                    refine zw_aload_n (pc := 53) (n := 0) (x := 81) rfl (zdal_p dlD_M_moebius_49 (i := 5) rfl) ?_
                    refine zr_getI0 hf_N20_ hW (pc := 54) (by decide) f_M_196 rfl (zdal_p dlD_M_moebius_49 (i := 6) rfl) ?_
                    refine zr_icmp_ne (pc := 57) (tgt := 64) ⟨hu3_a, hu3_b⟩ ⟨(ze_r Mz 81 20).1, (ze_r Mz 81 20).2⟩ (by decide) (zdal_p dlD_M_moebius_49 (i := 7) rfl) (fun hc_57 => ?_) (fun hc_57 => ?_)
                    · skip
                      refine zw_iconst (pc := 64) (v := Int32.ofInt 0) (by decide) (zdal_p dlD_M_moebius_49 (i := 10) rfl) ?_
                      refine zr_callS hf_N20_.x (pc := 65) [.int (Int32.ofInt 0)] [.int (Int32.ofInt u19_), .ref 106] l_M_256 (c_M_truth l N20_ (hf_N20_.w hW) 0 (by decide) (by decide) (by (decide))) rfl rfl (by decide) (Nat.le_of_ble_eq_true rfl) (zdal_p dlD_M_moebius_49 (i := 11) rfl) ?_
                      rintro _ N33_ ⟨v34_, rfl, ⟨hv34_a, hv34_b⟩, hsN33_, hp0_N33_⟩
                      obtain rfl := hsN33_.eq.symm
                      replace hp0_N33_ : v34_ = 0 := hp0_N33_
                      show zW l m_M_moebius (zn Mz + 0, zw Mz + 0) N20_ 68 [some (.ref 81), some (.int (Int32.ofInt a0_)), some (.int (Int32.ofInt u3_)), some (.int (Int32.ofInt u19_)), none] [.int (Int32.ofInt v34_), .int (Int32.ofInt u19_), .ref 106] (zpI [] [106] Mz (fun v N => True))
                      refine zr_iast (pc := 68) (zh_106 (hf_N20_.w hW)).2 (by decide) (by decide) (by (exact i22_)) (by (exact zo_907 gb.2.2.2.1 hc_28)) (zdal_p dlD_M_moebius_49 (i := 12) rfl) (fun N35_ hN35_ hsN35_ => ?_)
                      have hf_N35_ : zFr [] [106] Mz N35_ := hf_N20_.tr hsN35_ (by decide) (by decide)
                      have hb0_N35_ : zFr [] [106] Mz N35_ := hb0_N20_.tr hsN35_ (by decide) (by decide)
                      have hb1_N35_ : zFr [] [106] N4_ N35_ := hs21_.tr hsN35_ (by decide) (by decide)
                      refine zw_iconst (pc := 69) (v := Int32.ofInt 0) (by decide) (zdal_p dlD_M_moebius_49 (i := 13) rfl) ?_
                      refine zw_istore (pc := 70) (i := 4) (L2 := [some (.ref 81), some (.int (Int32.ofInt a0_)), some (.int (Int32.ofInt u3_)), some (.int (Int32.ofInt u19_)), some (.int (Int32.ofInt 0))]) (by decide) rfl (zdal_p dlD_M_moebius_49 (i := 14) rfl) ?_
                      have lp_72 : ∀ (n : Nat) (u43_ : Int) (hu43_a : -2147483648 ≤ u43_) (hu43_b : u43_ < 2147483648) (N44_ : zMem) (hs45_ : zFr [] [106] N35_ N44_) (i46_ : 0 ≤ u43_), (ze Mz 81 25 - u43_).toNat < n → zW l m_M_moebius (zn Mz + 0, zw Mz + 0) N44_ 72 [some (.ref 81), some (.int (Int32.ofInt a0_)), some (.int (Int32.ofInt u3_)), some (.int (Int32.ofInt u19_)), some (.int (Int32.ofInt u43_))] [] (zpI [] [106] Mz (fun v N => True)) := by
                        intro n
                        induction n with
                        | zero =>
                          intro u43_ hu43_a hu43_b N44_ hs45_ i46_ h0
                          exact absurd h0 (Nat.not_lt_zero _)
                        | succ n ih_72 =>
                          intro u43_ hu43_a hu43_b N44_ hs45_ i46_ hlt_72
                          have hf_N44_ : zFr [] [106] Mz N44_ := hf_N35_.tr hs45_ (by decide) (by decide)
                          have hb0_N44_ : zFr [] [106] Mz N44_ := hb0_N35_.tr hs45_ (by decide) (by decide)
                          have hb1_N44_ : zFr [] [106] N4_ N44_ := hb1_N35_.tr hs45_ (by decide) (by decide)
                          refine zw_iload (pc := 72) (i := 4) (x := Int32.ofInt u43_) rfl (zdal_p dlD_M_moebius_49 (i := 15) rfl) ?_
                          refine zw_aload_n (pc := 74) (n := 0) (x := 81) rfl (zdal_p dlD_M_moebius_49 (i := 16) rfl) ?_
                          refine zr_getI0 hf_N44_ hW (pc := 75) (by decide) f_M_220 rfl (zdal_p dlD_M_moebius_49 (i := 17) rfl) ?_
                          refine zr_icmp_ge (pc := 78) (tgt := 136) ⟨hu43_a, hu43_b⟩ ⟨(ze_r Mz 81 25).1, (ze_r Mz 81 25).2⟩ (by decide) (zdal_p dlD_M_moebius_49 (i := 18) rfl) (fun hc_78 => ?_) (fun hc_78 => ?_)
                          · skip
                            refine zr_iinc (pc := 136) (i := 3) (a := u19_) (n := 1) (L2 := [some (.ref 81), some (.int (Int32.ofInt a0_)), some (.int (Int32.ofInt u3_)), some (.int (Int32.ofInt (u19_ + 1))), some (.int (Int32.ofInt u43_))]) rfl (by decide) rfl (zdal_p dlD_M_moebius_51 (i := 3) rfl) ?_
                            refine zw_goto (pc := 139) (tgt := 23) (by decide) (zdal_p dlD_M_moebius_51 (i := 4) rfl) ?_
                            refine zW_le [some (.ref 81), some (.int (Int32.ofInt a0_)), some (.int (Int32.ofInt u3_)), some (.int (Int32.ofInt (u19_ + 1))), none] (⟨rfl, rfl, rfl, rfl, trivial⟩) ?_
                            exact ih_23 (u19_ + 1) (by (exact zo_74 i22_)) (by (exact zo_832 gb.2.2.2.1 hc_28)) N44_ hb1_N44_ (show 0 ≤ (u19_ + 1) by first | with_reducible assumption | (exact zo_76 i22_) | assumption) (by (exact zo_147 hc_28 hlt_23))
                          · skip
                            refine zw_aload_n (pc := 81) (n := 0) (x := 81) rfl (zdal_p dlD_M_moebius_49 (i := 19) rfl) ?_
                            refine zr_getF (r := 89) (hf_N44_.w hW) (pc := 82) f_M_38 rfl (zh_89 (hf_N44_.w hW)).1 (zdal_p dlD_M_moebius_49 (i := 20) rfl) ?_
                            refine zw_iload (pc := 85) (i := 4) (x := Int32.ofInt u43_) rfl (zdal_p dlD_M_moebius_49 (i := 21) rfl) ?_
                            refine zr_ialdn (pc := 87) (zh_89 (hf_N44_.w hW)).2 (by decide) (by (exact i46_)) (by (exact zo_907 gb.2.2.2.1 hc_78)) (zdal_p dlD_M_moebius_49 (i := 22) rfl) (fun v54_ hv54_ hv54_a hv54_b => ?_)
                            rw [hf_N44_.ie (by decide) (by decide)] at hv54_
                            have hs_xN44_ := dv2.g hO (e := u43_) (by (exact i46_)) (by (exact hc_78))
                            refine zr_toI (show v54_ = ze Mz 89 (u43_).toNat by (exact hv54_)) ?_
                            refine zr_callS hf_N44_.x (pc := 88) [.int (Int32.ofInt (ze Mz 89 (u43_).toNat))] [] l_M_253 (c_M_ones l N44_ (hf_N44_.w hW) (ze Mz 89 (u43_).toNat) (by (exact zo_168 hs_xN44_.2.1)) (by (exact zo_550 hv54_ hv54_b)) (show 0 ≤ (ze Mz 89 (u43_).toNat) by first | with_reducible assumption | (exact zo_57 hs_xN44_.2.1) | assumption)) rfl rfl (by decide) (Nat.le_of_ble_eq_true rfl) (zdal_p dlD_M_moebius_49 (i := 23) rfl) ?_
                            rintro _ N55_ ⟨v56_, rfl, ⟨hv56_a, hv56_b⟩, hsN55_, ⟨hp0_N55_, hp1_N55_, hp2_N55_⟩⟩
                            obtain rfl := hsN55_.eq.symm
                            show zW l m_M_moebius (zn Mz + 0, zw Mz + 0) N44_ 91 [some (.ref 81), some (.int (Int32.ofInt a0_)), some (.int (Int32.ofInt u3_)), some (.int (Int32.ofInt u19_)), some (.int (Int32.ofInt u43_))] [.int (Int32.ofInt v56_)] (zpI [] [106] Mz (fun v N => True))
                            refine zw_iload_n (pc := 91) (n := 2) (x := Int32.ofInt u3_) rfl (zdal_p dlD_M_moebius_50 (i := 0) rfl) ?_
                            refine zr_icmp_le (pc := 92) (tgt := 130) ⟨hv56_a, hv56_b⟩ ⟨hu3_a, hu3_b⟩ (by decide) (zdal_p dlD_M_moebius_50 (i := 1) rfl) (fun hc_92 => ?_) (fun hc_92 => ?_)
                            · skip
                              refine zr_iinc (pc := 130) (i := 4) (a := u43_) (n := 1) (L2 := [some (.ref 81), some (.int (Int32.ofInt a0_)), some (.int (Int32.ofInt u3_)), some (.int (Int32.ofInt u19_)), some (.int (Int32.ofInt (u43_ + 1)))]) rfl (by decide) rfl d_M_moebius_130 ?_
                              refine zw_goto (pc := 133) (tgt := 72) (by decide) d_M_moebius_133 ?_
                              exact ih_72 (u43_ + 1) (by (exact zo_74 i46_)) (by (exact zo_832 gb.2.2.2.1 hc_78)) N44_ hs45_ (show 0 ≤ (u43_ + 1) by first | with_reducible assumption | (exact zo_76 i46_) | assumption) (by (exact zo_147 hc_78 hlt_72))
                            · skip
                              refine zw_aload_n (pc := 95) (n := 0) (x := 81) rfl (zdal_p dlD_M_moebius_50 (i := 2) rfl) ?_
                              refine zr_getF (r := 89) (hf_N44_.w hW) (pc := 96) f_M_38 rfl (zh_89 (hf_N44_.w hW)).1 (zdal_p dlD_M_moebius_50 (i := 3) rfl) ?_
                              refine zw_iload_n (pc := 99) (n := 3) (x := Int32.ofInt u19_) rfl (zdal_p dlD_M_moebius_50 (i := 4) rfl) ?_
                              refine zr_ialdn (pc := 100) (zh_89 (hf_N44_.w hW)).2 (by decide) (by (exact i22_)) (by (exact zo_907 gb.2.2.2.1 hc_28)) (zdal_p dlD_M_moebius_50 (i := 5) rfl) (fun v57_ hv57_ hv57_a hv57_b => ?_)
                              rw [hf_N44_.ie (by decide) (by decide)] at hv57_
                              refine zw_aload_n (pc := 101) (n := 0) (x := 81) rfl (zdal_p dlD_M_moebius_50 (i := 6) rfl) ?_
                              refine zr_getF (r := 89) (hf_N44_.w hW) (pc := 102) f_M_38 rfl (zh_89 (hf_N44_.w hW)).1 (zdal_p dlD_M_moebius_50 (i := 7) rfl) ?_
                              refine zw_iload (pc := 105) (i := 4) (x := Int32.ofInt u43_) rfl (zdal_p dlD_M_moebius_50 (i := 8) rfl) ?_
                              refine zr_ialdn (pc := 107) (zh_89 (hf_N44_.w hW)).2 (by decide) (by (exact i46_)) (by (exact zo_907 gb.2.2.2.1 hc_78)) (zdal_p dlD_M_moebius_50 (i := 9) rfl) (fun v58_ hv58_ hv58_a hv58_b => ?_)
                              rw [hf_N44_.ie (by decide) (by decide)] at hv58_
                              refine zw_iconst (pc := 108) (v := Int32.ofInt (-1)) (by decide) (zdal_p dlD_M_moebius_50 (i := 10) rfl) ?_
                              refine zr_ixor (pc := 109) (zdal_p dlD_M_moebius_50 (i := 11) rfl) ?_
                              have hr59_ := zxor_r v58_ ((-1))
                              refine zr_iand (pc := 110) (zdal_p dlD_M_moebius_50 (i := 12) rfl) ?_
                              have hr60_ := zand_r v57_ (zxor v58_ ((-1)))
                              refine zr_if_ne (pc := 111) (tgt := 130) ⟨(by (exact zo_284 hr60_.1)), (by (exact zo_285 hr60_.2))⟩ (by decide) (zdal_p dlD_M_moebius_50 (i := 13) rfl) (fun hc_111 => ?_) (fun hc_111 => ?_)
                              · skip
                                refine zr_iinc (pc := 130) (i := 4) (a := u43_) (n := 1) (L2 := [some (.ref 81), some (.int (Int32.ofInt a0_)), some (.int (Int32.ofInt u3_)), some (.int (Int32.ofInt u19_)), some (.int (Int32.ofInt (u43_ + 1)))]) rfl (by decide) rfl d_M_moebius_130 ?_
                                refine zw_goto (pc := 133) (tgt := 72) (by decide) d_M_moebius_133 ?_
                                exact ih_72 (u43_ + 1) (by (exact zo_74 i46_)) (by (exact zo_832 gb.2.2.2.1 hc_78)) N44_ hs45_ (show 0 ≤ (u43_ + 1) by first | with_reducible assumption | (exact zo_76 i46_) | assumption) (by (exact zo_147 hc_78 hlt_72))
                              · skip
                                refine zw_aload_n (pc := 114) (n := 0) (x := 81) rfl (zdal_p dlD_M_moebius_50 (i := 14) rfl) ?_
                                refine zr_getF (r := 106) (hf_N44_.w hW) (pc := 115) f_M_90 rfl (zh_106 (hf_N44_.w hW)).1 (zdal_p dlD_M_moebius_50 (i := 15) rfl) ?_
                                refine zw_iload_n (pc := 118) (n := 3) (x := Int32.ofInt u19_) rfl (zdal_p dlD_M_moebius_50 (i := 16) rfl) ?_
                                refine zw_dup2 (pc := 119) rfl rfl (zdal_p dlD_M_moebius_50 (i := 17) rfl) ?_
                                refine zr_ialdn (pc := 120) (zh_106 (hf_N44_.w hW)).2 (by decide) (by (exact i22_)) (by (exact zo_907 gb.2.2.2.1 hc_28)) (zdal_p dlD_M_moebius_50 (i := 18) rfl) (fun v61_ hv61_ hv61_a hv61_b => ?_)
                                refine zw_aload_n (pc := 121) (n := 0) (x := 81) rfl (zdal_p dlD_M_moebius_50 (i := 19) rfl) ?_
                                refine zr_getF (r := 106) (hf_N44_.w hW) (pc := 122) f_M_90 rfl (zh_106 (hf_N44_.w hW)).1 (zdal_p dlD_M_moebius_50 (i := 20) rfl) ?_
                                refine zw_iload (pc := 125) (i := 4) (x := Int32.ofInt u43_) rfl (zdal_p dlD_M_moebius_50 (i := 21) rfl) ?_
                                refine zr_ialdn (pc := 127) (zh_106 (hf_N44_.w hW)).2 (by decide) (by (exact i46_)) (by (exact zo_907 gb.2.2.2.1 hc_78)) (zdal_p dlD_M_moebius_50 (i := 22) rfl) (fun v62_ hv62_ hv62_a hv62_b => ?_)
                                refine zr_isub (pc := 128) (zdal_p dlD_M_moebius_50 (i := 23) rfl) ?_
                                refine zr_nmI (fun v63_ hv63_ => ?_)
                                obtain ⟨hv63_a, hv63_b⟩ := hv63_
                                refine zr_iast (pc := 129) (zh_106 (hf_N44_.w hW)).2 (by decide) (by decide) (by (exact i22_)) (by (exact zo_907 gb.2.2.2.1 hc_28)) (zdal_p dlD_M_moebius_51 (i := 0) rfl) (fun N64_ hN64_ hsN64_ => ?_)
                                have hf_N64_ : zFr [] [106] Mz N64_ := hf_N44_.tr hsN64_ (by decide) (by decide)
                                have hb0_N64_ : zFr [] [106] Mz N64_ := hb0_N44_.tr hsN64_ (by decide) (by decide)
                                have hb1_N64_ : zFr [] [106] N4_ N64_ := hb1_N44_.tr hsN64_ (by decide) (by decide)
                                have hb2_N64_ : zFr [] [106] N35_ N64_ := hs45_.tr hsN64_ (by decide) (by decide)
                                refine zr_iinc (pc := 130) (i := 4) (a := u43_) (n := 1) (L2 := [some (.ref 81), some (.int (Int32.ofInt a0_)), some (.int (Int32.ofInt u3_)), some (.int (Int32.ofInt u19_)), some (.int (Int32.ofInt (u43_ + 1)))]) rfl (by decide) rfl d_M_moebius_130 ?_
                                refine zw_goto (pc := 133) (tgt := 72) (by decide) d_M_moebius_133 ?_
                                exact ih_72 (u43_ + 1) (by (exact zo_74 i46_)) (by (exact zo_832 gb.2.2.2.1 hc_78)) N64_ hb2_N64_ (show 0 ≤ (u43_ + 1) by first | with_reducible assumption | (exact zo_76 i46_) | assumption) (by (exact zo_147 hc_78 hlt_72))
                      exact lp_72 _ 0 (by decide) (by decide) N35_ zFr.rf (show 0 ≤ (0 : Int) by first | with_reducible assumption | (decide) | assumption) (Nat.lt_succ_self _)
                    · skip
                      refine zw_iconst (pc := 60) (v := Int32.ofInt 1) (by decide) (zdal_p dlD_M_moebius_49 (i := 8) rfl) ?_
                      refine zw_goto (pc := 61) (tgt := 65) (by decide) (zdal_p dlD_M_moebius_49 (i := 9) rfl) ?_
                      refine zr_callS hf_N20_.x (pc := 65) [.int (Int32.ofInt 1)] [.int (Int32.ofInt u19_), .ref 106] l_M_256 (c_M_truth l N20_ (hf_N20_.w hW) 1 (by decide) (by decide) (by (decide))) rfl rfl (by decide) (Nat.le_of_ble_eq_true rfl) (zdal_p dlD_M_moebius_49 (i := 11) rfl) ?_
                      rintro _ N72_ ⟨v73_, rfl, ⟨hv73_a, hv73_b⟩, hsN72_, hp0_N72_⟩
                      obtain rfl := hsN72_.eq.symm
                      replace hp0_N72_ : v73_ = 1 := hp0_N72_
                      show zW l m_M_moebius (zn Mz + 0, zw Mz + 0) N20_ 68 [some (.ref 81), some (.int (Int32.ofInt a0_)), some (.int (Int32.ofInt u3_)), some (.int (Int32.ofInt u19_)), none] [.int (Int32.ofInt v73_), .int (Int32.ofInt u19_), .ref 106] (zpI [] [106] Mz (fun v N => True))
                      refine zr_iast (pc := 68) (zh_106 (hf_N20_.w hW)).2 (by decide) (by decide) (by (exact i22_)) (by (exact zo_907 gb.2.2.2.1 hc_28)) (zdal_p dlD_M_moebius_49 (i := 12) rfl) (fun N74_ hN74_ hsN74_ => ?_)
                      have hf_N74_ : zFr [] [106] Mz N74_ := hf_N20_.tr hsN74_ (by decide) (by decide)
                      have hb0_N74_ : zFr [] [106] Mz N74_ := hb0_N20_.tr hsN74_ (by decide) (by decide)
                      have hb1_N74_ : zFr [] [106] N4_ N74_ := hs21_.tr hsN74_ (by decide) (by decide)
                      refine zw_iconst (pc := 69) (v := Int32.ofInt 0) (by decide) (zdal_p dlD_M_moebius_49 (i := 13) rfl) ?_
                      refine zw_istore (pc := 70) (i := 4) (L2 := [some (.ref 81), some (.int (Int32.ofInt a0_)), some (.int (Int32.ofInt u3_)), some (.int (Int32.ofInt u19_)), some (.int (Int32.ofInt 0))]) (by decide) rfl (zdal_p dlD_M_moebius_49 (i := 14) rfl) ?_
                      have lp_72 : ∀ (n : Nat) (u82_ : Int) (hu82_a : -2147483648 ≤ u82_) (hu82_b : u82_ < 2147483648) (N83_ : zMem) (hs84_ : zFr [] [106] N74_ N83_) (i85_ : 0 ≤ u82_), (ze Mz 81 25 - u82_).toNat < n → zW l m_M_moebius (zn Mz + 0, zw Mz + 0) N83_ 72 [some (.ref 81), some (.int (Int32.ofInt a0_)), some (.int (Int32.ofInt u3_)), some (.int (Int32.ofInt u19_)), some (.int (Int32.ofInt u82_))] [] (zpI [] [106] Mz (fun v N => True)) := by
                        intro n
                        induction n with
                        | zero =>
                          intro u82_ hu82_a hu82_b N83_ hs84_ i85_ h0
                          exact absurd h0 (Nat.not_lt_zero _)
                        | succ n ih_72 =>
                          intro u82_ hu82_a hu82_b N83_ hs84_ i85_ hlt_72
                          have hf_N83_ : zFr [] [106] Mz N83_ := hf_N74_.tr hs84_ (by decide) (by decide)
                          have hb0_N83_ : zFr [] [106] Mz N83_ := hb0_N74_.tr hs84_ (by decide) (by decide)
                          have hb1_N83_ : zFr [] [106] N4_ N83_ := hb1_N74_.tr hs84_ (by decide) (by decide)
                          refine zw_iload (pc := 72) (i := 4) (x := Int32.ofInt u82_) rfl (zdal_p dlD_M_moebius_49 (i := 15) rfl) ?_
                          refine zw_aload_n (pc := 74) (n := 0) (x := 81) rfl (zdal_p dlD_M_moebius_49 (i := 16) rfl) ?_
                          refine zr_getI0 hf_N83_ hW (pc := 75) (by decide) f_M_220 rfl (zdal_p dlD_M_moebius_49 (i := 17) rfl) ?_
                          refine zr_icmp_ge (pc := 78) (tgt := 136) ⟨hu82_a, hu82_b⟩ ⟨(ze_r Mz 81 25).1, (ze_r Mz 81 25).2⟩ (by decide) (zdal_p dlD_M_moebius_49 (i := 18) rfl) (fun hc_78 => ?_) (fun hc_78 => ?_)
                          · skip
                            refine zr_iinc (pc := 136) (i := 3) (a := u19_) (n := 1) (L2 := [some (.ref 81), some (.int (Int32.ofInt a0_)), some (.int (Int32.ofInt u3_)), some (.int (Int32.ofInt (u19_ + 1))), some (.int (Int32.ofInt u82_))]) rfl (by decide) rfl (zdal_p dlD_M_moebius_51 (i := 3) rfl) ?_
                            refine zw_goto (pc := 139) (tgt := 23) (by decide) (zdal_p dlD_M_moebius_51 (i := 4) rfl) ?_
                            refine zW_le [some (.ref 81), some (.int (Int32.ofInt a0_)), some (.int (Int32.ofInt u3_)), some (.int (Int32.ofInt (u19_ + 1))), none] (⟨rfl, rfl, rfl, rfl, trivial⟩) ?_
                            exact ih_23 (u19_ + 1) (by (exact zo_74 i22_)) (by (exact zo_832 gb.2.2.2.1 hc_28)) N83_ hb1_N83_ (show 0 ≤ (u19_ + 1) by first | with_reducible assumption | (exact zo_76 i22_) | assumption) (by (exact zo_147 hc_28 hlt_23))
                          · skip
                            refine zw_aload_n (pc := 81) (n := 0) (x := 81) rfl (zdal_p dlD_M_moebius_49 (i := 19) rfl) ?_
                            refine zr_getF (r := 89) (hf_N83_.w hW) (pc := 82) f_M_38 rfl (zh_89 (hf_N83_.w hW)).1 (zdal_p dlD_M_moebius_49 (i := 20) rfl) ?_
                            refine zw_iload (pc := 85) (i := 4) (x := Int32.ofInt u82_) rfl (zdal_p dlD_M_moebius_49 (i := 21) rfl) ?_
                            refine zr_ialdn (pc := 87) (zh_89 (hf_N83_.w hW)).2 (by decide) (by (exact i85_)) (by (exact zo_907 gb.2.2.2.1 hc_78)) (zdal_p dlD_M_moebius_49 (i := 22) rfl) (fun v93_ hv93_ hv93_a hv93_b => ?_)
                            rw [hf_N83_.ie (by decide) (by decide)] at hv93_
                            have hs_xN83_ := dv2.g hO (e := u82_) (by (exact i85_)) (by (exact hc_78))
                            refine zr_toI (show v93_ = ze Mz 89 (u82_).toNat by (exact hv93_)) ?_
                            refine zr_callS hf_N83_.x (pc := 88) [.int (Int32.ofInt (ze Mz 89 (u82_).toNat))] [] l_M_253 (c_M_ones l N83_ (hf_N83_.w hW) (ze Mz 89 (u82_).toNat) (by (exact zo_168 hs_xN83_.2.1)) (by (exact zo_550 hv93_ hv93_b)) (show 0 ≤ (ze Mz 89 (u82_).toNat) by first | with_reducible assumption | (exact zo_57 hs_xN83_.2.1) | assumption)) rfl rfl (by decide) (Nat.le_of_ble_eq_true rfl) (zdal_p dlD_M_moebius_49 (i := 23) rfl) ?_
                            rintro _ N94_ ⟨v95_, rfl, ⟨hv95_a, hv95_b⟩, hsN94_, ⟨hp0_N94_, hp1_N94_, hp2_N94_⟩⟩
                            obtain rfl := hsN94_.eq.symm
                            show zW l m_M_moebius (zn Mz + 0, zw Mz + 0) N83_ 91 [some (.ref 81), some (.int (Int32.ofInt a0_)), some (.int (Int32.ofInt u3_)), some (.int (Int32.ofInt u19_)), some (.int (Int32.ofInt u82_))] [.int (Int32.ofInt v95_)] (zpI [] [106] Mz (fun v N => True))
                            refine zw_iload_n (pc := 91) (n := 2) (x := Int32.ofInt u3_) rfl (zdal_p dlD_M_moebius_50 (i := 0) rfl) ?_
                            refine zr_icmp_le (pc := 92) (tgt := 130) ⟨hv95_a, hv95_b⟩ ⟨hu3_a, hu3_b⟩ (by decide) (zdal_p dlD_M_moebius_50 (i := 1) rfl) (fun hc_92 => ?_) (fun hc_92 => ?_)
                            · skip
                              refine zr_iinc (pc := 130) (i := 4) (a := u82_) (n := 1) (L2 := [some (.ref 81), some (.int (Int32.ofInt a0_)), some (.int (Int32.ofInt u3_)), some (.int (Int32.ofInt u19_)), some (.int (Int32.ofInt (u82_ + 1)))]) rfl (by decide) rfl d_M_moebius_130 ?_
                              refine zw_goto (pc := 133) (tgt := 72) (by decide) d_M_moebius_133 ?_
                              exact ih_72 (u82_ + 1) (by (exact zo_74 i85_)) (by (exact zo_832 gb.2.2.2.1 hc_78)) N83_ hs84_ (show 0 ≤ (u82_ + 1) by first | with_reducible assumption | (exact zo_76 i85_) | assumption) (by (exact zo_147 hc_78 hlt_72))
                            · skip
                              refine zw_aload_n (pc := 95) (n := 0) (x := 81) rfl (zdal_p dlD_M_moebius_50 (i := 2) rfl) ?_
                              refine zr_getF (r := 89) (hf_N83_.w hW) (pc := 96) f_M_38 rfl (zh_89 (hf_N83_.w hW)).1 (zdal_p dlD_M_moebius_50 (i := 3) rfl) ?_
                              refine zw_iload_n (pc := 99) (n := 3) (x := Int32.ofInt u19_) rfl (zdal_p dlD_M_moebius_50 (i := 4) rfl) ?_
                              refine zr_ialdn (pc := 100) (zh_89 (hf_N83_.w hW)).2 (by decide) (by (exact i22_)) (by (exact zo_907 gb.2.2.2.1 hc_28)) (zdal_p dlD_M_moebius_50 (i := 5) rfl) (fun v96_ hv96_ hv96_a hv96_b => ?_)
                              rw [hf_N83_.ie (by decide) (by decide)] at hv96_
                              refine zw_aload_n (pc := 101) (n := 0) (x := 81) rfl (zdal_p dlD_M_moebius_50 (i := 6) rfl) ?_
                              refine zr_getF (r := 89) (hf_N83_.w hW) (pc := 102) f_M_38 rfl (zh_89 (hf_N83_.w hW)).1 (zdal_p dlD_M_moebius_50 (i := 7) rfl) ?_
                              refine zw_iload (pc := 105) (i := 4) (x := Int32.ofInt u82_) rfl (zdal_p dlD_M_moebius_50 (i := 8) rfl) ?_
                              refine zr_ialdn (pc := 107) (zh_89 (hf_N83_.w hW)).2 (by decide) (by (exact i85_)) (by (exact zo_907 gb.2.2.2.1 hc_78)) (zdal_p dlD_M_moebius_50 (i := 9) rfl) (fun v97_ hv97_ hv97_a hv97_b => ?_)
                              rw [hf_N83_.ie (by decide) (by decide)] at hv97_
                              refine zw_iconst (pc := 108) (v := Int32.ofInt (-1)) (by decide) (zdal_p dlD_M_moebius_50 (i := 10) rfl) ?_
                              refine zr_ixor (pc := 109) (zdal_p dlD_M_moebius_50 (i := 11) rfl) ?_
                              have hr98_ := zxor_r v97_ ((-1))
                              refine zr_iand (pc := 110) (zdal_p dlD_M_moebius_50 (i := 12) rfl) ?_
                              have hr99_ := zand_r v96_ (zxor v97_ ((-1)))
                              refine zr_if_ne (pc := 111) (tgt := 130) ⟨(by (exact zo_284 hr99_.1)), (by (exact zo_285 hr99_.2))⟩ (by decide) (zdal_p dlD_M_moebius_50 (i := 13) rfl) (fun hc_111 => ?_) (fun hc_111 => ?_)
                              · skip
                                refine zr_iinc (pc := 130) (i := 4) (a := u82_) (n := 1) (L2 := [some (.ref 81), some (.int (Int32.ofInt a0_)), some (.int (Int32.ofInt u3_)), some (.int (Int32.ofInt u19_)), some (.int (Int32.ofInt (u82_ + 1)))]) rfl (by decide) rfl d_M_moebius_130 ?_
                                refine zw_goto (pc := 133) (tgt := 72) (by decide) d_M_moebius_133 ?_
                                exact ih_72 (u82_ + 1) (by (exact zo_74 i85_)) (by (exact zo_832 gb.2.2.2.1 hc_78)) N83_ hs84_ (show 0 ≤ (u82_ + 1) by first | with_reducible assumption | (exact zo_76 i85_) | assumption) (by (exact zo_147 hc_78 hlt_72))
                              · skip
                                refine zw_aload_n (pc := 114) (n := 0) (x := 81) rfl (zdal_p dlD_M_moebius_50 (i := 14) rfl) ?_
                                refine zr_getF (r := 106) (hf_N83_.w hW) (pc := 115) f_M_90 rfl (zh_106 (hf_N83_.w hW)).1 (zdal_p dlD_M_moebius_50 (i := 15) rfl) ?_
                                refine zw_iload_n (pc := 118) (n := 3) (x := Int32.ofInt u19_) rfl (zdal_p dlD_M_moebius_50 (i := 16) rfl) ?_
                                refine zw_dup2 (pc := 119) rfl rfl (zdal_p dlD_M_moebius_50 (i := 17) rfl) ?_
                                refine zr_ialdn (pc := 120) (zh_106 (hf_N83_.w hW)).2 (by decide) (by (exact i22_)) (by (exact zo_907 gb.2.2.2.1 hc_28)) (zdal_p dlD_M_moebius_50 (i := 18) rfl) (fun v100_ hv100_ hv100_a hv100_b => ?_)
                                refine zw_aload_n (pc := 121) (n := 0) (x := 81) rfl (zdal_p dlD_M_moebius_50 (i := 19) rfl) ?_
                                refine zr_getF (r := 106) (hf_N83_.w hW) (pc := 122) f_M_90 rfl (zh_106 (hf_N83_.w hW)).1 (zdal_p dlD_M_moebius_50 (i := 20) rfl) ?_
                                refine zw_iload (pc := 125) (i := 4) (x := Int32.ofInt u82_) rfl (zdal_p dlD_M_moebius_50 (i := 21) rfl) ?_
                                refine zr_ialdn (pc := 127) (zh_106 (hf_N83_.w hW)).2 (by decide) (by (exact i85_)) (by (exact zo_907 gb.2.2.2.1 hc_78)) (zdal_p dlD_M_moebius_50 (i := 22) rfl) (fun v101_ hv101_ hv101_a hv101_b => ?_)
                                refine zr_isub (pc := 128) (zdal_p dlD_M_moebius_50 (i := 23) rfl) ?_
                                refine zr_nmI (fun v102_ hv102_ => ?_)
                                obtain ⟨hv102_a, hv102_b⟩ := hv102_
                                refine zr_iast (pc := 129) (zh_106 (hf_N83_.w hW)).2 (by decide) (by decide) (by (exact i22_)) (by (exact zo_907 gb.2.2.2.1 hc_28)) (zdal_p dlD_M_moebius_51 (i := 0) rfl) (fun N103_ hN103_ hsN103_ => ?_)
                                have hf_N103_ : zFr [] [106] Mz N103_ := hf_N83_.tr hsN103_ (by decide) (by decide)
                                have hb0_N103_ : zFr [] [106] Mz N103_ := hb0_N83_.tr hsN103_ (by decide) (by decide)
                                have hb1_N103_ : zFr [] [106] N4_ N103_ := hb1_N83_.tr hsN103_ (by decide) (by decide)
                                have hb2_N103_ : zFr [] [106] N74_ N103_ := hs84_.tr hsN103_ (by decide) (by decide)
                                refine zr_iinc (pc := 130) (i := 4) (a := u82_) (n := 1) (L2 := [some (.ref 81), some (.int (Int32.ofInt a0_)), some (.int (Int32.ofInt u3_)), some (.int (Int32.ofInt u19_)), some (.int (Int32.ofInt (u82_ + 1)))]) rfl (by decide) rfl d_M_moebius_130 ?_
                                refine zw_goto (pc := 133) (tgt := 72) (by decide) d_M_moebius_133 ?_
                                exact ih_72 (u82_ + 1) (by (exact zo_74 i85_)) (by (exact zo_832 gb.2.2.2.1 hc_78)) N103_ hb2_N103_ (show 0 ≤ (u82_ + 1) by first | with_reducible assumption | (exact zo_76 i85_) | assumption) (by (exact zo_147 hc_78 hlt_72))
                      exact lp_72 _ 0 (by decide) (by decide) N74_ zFr.rf (show 0 ≤ (0 : Int) by first | with_reducible assumption | (decide) | assumption) (Nat.lt_succ_self _)
                  · skip
                    refine zw_goto (pc := 44) (tgt := 136) (by decide) (zdal_p dlD_M_moebius_49 (i := 0) rfl) ?_
                    refine zr_iinc (pc := 136) (i := 3) (a := u19_) (n := 1) (L2 := [some (.ref 81), some (.int (Int32.ofInt a0_)), some (.int (Int32.ofInt u3_)), some (.int (Int32.ofInt (u19_ + 1))), none]) rfl (by decide) rfl (zdal_p dlD_M_moebius_51 (i := 3) rfl) ?_
                    refine zw_goto (pc := 139) (tgt := 23) (by decide) (zdal_p dlD_M_moebius_51 (i := 4) rfl) ?_
                    exact ih_23 (u19_ + 1) (by (exact zo_74 i22_)) (by (exact zo_832 gb.2.2.2.1 hc_28)) N20_ hs21_ (show 0 ≤ (u19_ + 1) by first | with_reducible assumption | (exact zo_76 i22_) | assumption) (by (exact zo_147 hc_28 hlt_23))
            exact lp_23 _ 0 (by decide) (by decide) N4_ zFr.rf (show 0 ≤ (0 : Int) by first | with_reducible assumption | (decide) | assumption) (Nat.lt_succ_self _)
      exact lp_17 _ (ze Mz 81 20) (ze_r Mz 81 20).1 (ze_r Mz 81 20).2 Mz zFr.rf (show (ze Mz 81 20) ≤ ze Mz 81 20 by first | with_reducible assumption | (exact zo_628) | assumption) (show (ze Mz 81 20) ≥ 0 ∨ (ze Mz 81 20) = ze Mz 81 20 by first | with_reducible assumption | (exact zo_996) | assumption) (Nat.lt_succ_self _)
    · skip
      exact absurd hc_5 (by decide)
  · skip
    show zW l m_M_moebius (zn Mz + 0, zw Mz + 0) Mz 5 [some (.ref 81), some (.int (Int32.ofInt a0_)), none, none, none] [.int (Int32.ofInt 0)] (zpI [] [106] Mz (fun v N => True))
    refine zr_if_ne (pc := 5) (tgt := 12) ⟨(by decide), (by decide)⟩ (by decide) (zdal_p dlD_M_moebius_48 (i := 3) rfl) (fun hc_5 => ?_) (fun hc_5 => ?_)
    · skip
      exact absurd hc_5 (by decide)
    · skip
      refine zw_ldcw (pc := 8) (v := Int32.ofInt (-1000000)) (by rw [show Int32.ofInt (-1000000) = ((-1000000) : Int32) by decide]; exact k_M_435) (zdal_p dlD_M_moebius_48 (i := 4) rfl) ?_
      exact zr_iret (pc := 11) (ty := .int) rfl rfl ⟨by (decide), by (decide)⟩ hf trivial (zdal_p dlD_M_moebius_48 (i := 5) rfl)
set_option maxHeartbeats 4000000 in
theorem c_M_divisor (l : Launch) (Mz : zMem) (hW : zMt Mz) (a0_ : Int) (ha0_a : -9223372036854775808 ≤ a0_) (ha0_b : a0_ < 9223372036854775808) (a1_ : Int) (ha1_a : -9223372036854775808 ≤ a1_) (ha1_b : a1_ < 9223372036854775808) (p0_ : -4611686018427387903 ≤ a0_) (p1_ : a0_ ≤ 4611686018427387903) (p2_ : 1 ≤ a1_) (p3_ : a1_ ≤ 4611686018427387903) : zC l m_M_divisor 0 0 [.long (Int64.ofInt a0_), .long (Int64.ofInt a1_)] Mz (zpJ [] [] Mz (fun v N => v = ((Int.gcd a0_ a1_ : Nat) : Int) ∧ 1 ≤ v ∧ v ≤ a1_)) := by
  refine zC_of (L0 := [some (.long (Int64.ofInt a0_)), none, some (.long (Int64.ofInt a1_)), none, none, none, none, none, none, none]) md_M_divisor (Nat.le_of_ble_eq_true rfl) rfl ?_ zQ0
  have hf : zFr [] [] Mz Mz := zFr.rf
  refine zw_lload_n (pc := 0) (n := 0) (x := Int64.ofInt a0_) rfl (zdal_p dlD_M_divisor_69 (i := 0) rfl) ?_
  refine zw_lconst (pc := 1) (v := Int64.ofInt 0) (by decide) (zdal_p dlD_M_divisor_69 (i := 1) rfl) ?_
  refine zr_lcmp (pc := 2) ⟨ha0_a, ha0_b⟩ ⟨(by decide), (by decide)⟩ (zdal_p dlD_M_divisor_69 (i := 2) rfl) ?_
  have hr1_ := zcmp_s a0_ 0
  refine zr_if_ge (pc := 3) (tgt := 11) ⟨(by (exact zo_71 hr1_)), (by (exact zo_72 hr1_))⟩ (by decide) (zdal_p dlD_M_divisor_69 (i := 3) rfl) (fun hc_3 => ?_) (fun hc_3 => ?_)
  · skip
    refine zw_lload_n (pc := 11) (n := 0) (x := Int64.ofInt a0_) rfl (zdal_p dlD_M_divisor_69 (i := 7) rfl) ?_
    refine zw_lstore (pc := 12) (i := 4) (L2 := [some (.long (Int64.ofInt a0_)), none, some (.long (Int64.ofInt a1_)), none, some (.long (Int64.ofInt a0_)), none, none, none, none, none]) (by decide) rfl (zdal_p dlD_M_divisor_69 (i := 8) rfl) ?_
    refine zw_lload_n (pc := 14) (n := 2) (x := Int64.ofInt a1_) rfl (zdal_p dlD_M_divisor_69 (i := 9) rfl) ?_
    refine zw_lstore (pc := 15) (i := 6) (L2 := [some (.long (Int64.ofInt a0_)), none, some (.long (Int64.ofInt a1_)), none, some (.long (Int64.ofInt a0_)), none, some (.long (Int64.ofInt a1_)), none, none, none]) (by decide) rfl (zdal_p dlD_M_divisor_69 (i := 10) rfl) ?_
    have lp_17 : ∀ (n : Nat) (u2_ : Int) (hu2_a : -9223372036854775808 ≤ u2_) (hu2_b : u2_ < 9223372036854775808) (u3_ : Int) (hu3_a : -9223372036854775808 ≤ u3_) (hu3_b : u3_ < 9223372036854775808) (i4_ : 0 ≤ u2_) (i5_ : u2_ ≤ 4611686018427387903) (i6_ : 0 ≤ u3_) (i7_ : u3_ ≤ 4611686018427387903) (i8_ : Int.gcd u2_ u3_ = Int.gcd a0_ a1_), (u3_).toNat < n → zW l m_M_divisor (zn Mz + 0, zw Mz + 0) Mz 17 [some (.long (Int64.ofInt a0_)), none, some (.long (Int64.ofInt a1_)), none, some (.long (Int64.ofInt u2_)), none, some (.long (Int64.ofInt u3_)), none, none, none] [] (zpJ [] [] Mz (fun v N => v = ((Int.gcd a0_ a1_ : Nat) : Int) ∧ 1 ≤ v ∧ v ≤ a1_)) := by
      intro n
      induction n with
      | zero =>
        intro u2_ hu2_a hu2_b u3_ hu3_a hu3_b i4_ i5_ i6_ i7_ i8_ h0
        exact absurd h0 (Nat.not_lt_zero _)
      | succ n ih_17 =>
        intro u2_ hu2_a hu2_b u3_ hu3_a hu3_b i4_ i5_ i6_ i7_ i8_ hlt_17
        refine zw_lload (pc := 17) (i := 6) (x := Int64.ofInt u3_) rfl (zdal_p dlD_M_divisor_69 (i := 11) rfl) ?_
        refine zw_lconst (pc := 19) (v := Int64.ofInt 0) (by decide) (zdal_p dlD_M_divisor_69 (i := 12) rfl) ?_
        refine zr_lcmp (pc := 20) ⟨hu3_a, hu3_b⟩ ⟨(by decide), (by decide)⟩ (zdal_p dlD_M_divisor_69 (i := 13) rfl) ?_
        have hr9_ := zcmp_s u3_ 0
        refine zr_if_eq (pc := 21) (tgt := 42) ⟨(by (exact zo_71 hr9_)), (by (exact zo_72 hr9_))⟩ (by decide) (zdal_p dlD_M_divisor_69 (i := 14) rfl) (fun hc_21 => ?_) (fun hc_21 => ?_)
        · skip
          refine zw_lload (pc := 42) (i := 4) (x := Int64.ofInt u2_) rfl (zdal_p dlD_M_divisor_70 (i := 0) rfl) ?_
          have hgp := zgc_p (a := a0_) (b := a1_) (by (exact p2_))
          have hge := (show Int.gcd u2_ u3_ = Int.gcd a0_ a1_ by first | with_reducible assumption | assumption)
          rw [show u3_ = 0 by omega] at hge
          have hgz : Int.gcd u2_ 0 = (u2_).natAbs := Nat.gcd_zero_right _
          exact zr_lret (pc := 44) rfl ⟨by (exact hu2_a), by (exact hu2_b)⟩ hf ⟨(show u2_ = ((Int.gcd a0_ a1_ : Nat) : Int) by first | with_reducible assumption | assumption | omega), (show 1 ≤ u2_ by first | with_reducible assumption | assumption | omega), (show u2_ ≤ a1_ by first | with_reducible assumption | assumption | omega)⟩ (zdal_p dlD_M_divisor_70 (i := 1) rfl)
        · skip
          refine zw_lload (pc := 24) (i := 4) (x := Int64.ofInt u2_) rfl (zdal_p dlD_M_divisor_69 (i := 15) rfl) ?_
          refine zw_lload (pc := 26) (i := 6) (x := Int64.ofInt u3_) rfl (zdal_p dlD_M_divisor_69 (i := 16) rfl) ?_
          refine zr_lrem (pc := 28) ⟨by (exact hu3_a), by (exact hu3_b)⟩ (by omega) (zdal_p dlD_M_divisor_69 (i := 17) rfl) ?_
          have hr10_ := zlrem_r u2_ u3_
          have hgs := zgc_s (x := u2_) (y := u3_) (by (exact i4_)) (by (exact i5_)) (by omega) (by (exact i7_)) (by first | with_reducible assumption | assumption)
          refine zw_lstore (pc := 29) (i := 8) (L2 := [some (.long (Int64.ofInt a0_)), none, some (.long (Int64.ofInt a1_)), none, some (.long (Int64.ofInt u2_)), none, some (.long (Int64.ofInt u3_)), none, some (.long (Int64.ofInt (zlrem u2_ u3_))), none]) (by decide) rfl (zdal_p dlD_M_divisor_69 (i := 18) rfl) ?_
          refine zw_lload (pc := 31) (i := 6) (x := Int64.ofInt u3_) rfl (zdal_p dlD_M_divisor_69 (i := 19) rfl) ?_
          refine zw_lstore (pc := 33) (i := 4) (L2 := [some (.long (Int64.ofInt a0_)), none, some (.long (Int64.ofInt a1_)), none, some (.long (Int64.ofInt u3_)), none, some (.long (Int64.ofInt u3_)), none, some (.long (Int64.ofInt (zlrem u2_ u3_))), none]) (by decide) rfl (zdal_p dlD_M_divisor_69 (i := 20) rfl) ?_
          refine zw_lload (pc := 35) (i := 8) (x := Int64.ofInt (zlrem u2_ u3_)) rfl (zdal_p dlD_M_divisor_69 (i := 21) rfl) ?_
          refine zw_lstore (pc := 37) (i := 6) (L2 := [some (.long (Int64.ofInt a0_)), none, some (.long (Int64.ofInt a1_)), none, some (.long (Int64.ofInt u3_)), none, some (.long (Int64.ofInt (zlrem u2_ u3_))), none, some (.long (Int64.ofInt (zlrem u2_ u3_))), none]) (by decide) rfl (zdal_p dlD_M_divisor_69 (i := 22) rfl) ?_
          refine zw_goto (pc := 39) (tgt := 17) (by decide) (zdal_p dlD_M_divisor_69 (i := 23) rfl) ?_
          refine zW_le [some (.long (Int64.ofInt a0_)), none, some (.long (Int64.ofInt a1_)), none, some (.long (Int64.ofInt u3_)), none, some (.long (Int64.ofInt (zlrem u2_ u3_))), none, none, none] (⟨rfl, rfl, rfl, rfl, trivial⟩) ?_
          exact ih_17 u3_ hu3_a hu3_b (zlrem u2_ u3_) (by (exact zo_997 hgs.1)) (by (exact zo_80 hr10_.2)) (show 0 ≤ u3_ by first | with_reducible assumption | assumption | omega) (show u3_ ≤ 4611686018427387903 by first | with_reducible assumption | assumption | omega) (show 0 ≤ (zlrem u2_ u3_) by first | with_reducible assumption | (exact zo_57 hgs.1) | assumption) (show (zlrem u2_ u3_) ≤ 4611686018427387903 by first | with_reducible assumption | assumption | omega) (show Int.gcd u3_ (zlrem u2_ u3_) = Int.gcd a0_ a1_ by exact hgs.2.2) (by (exact zo_998 hgs.1 hgs.2.1 hlt_17))
    exact lp_17 _ a0_ ha0_a ha0_b a1_ ha1_a ha1_b (show 0 ≤ a0_ by first | with_reducible assumption | assumption | omega) (show a0_ ≤ 4611686018427387903 by first | with_reducible assumption | assumption | omega) (show 0 ≤ a1_ by first | with_reducible assumption | (exact zo_564 p2_) | assumption) (show a1_ ≤ 4611686018427387903 by first | with_reducible assumption | assumption | omega) (show Int.gcd a0_ a1_ = Int.gcd a0_ a1_ by first | rfl | exact Int.neg_gcd) (Nat.lt_succ_self _)
  · skip
    refine zw_lload_n (pc := 6) (n := 0) (x := Int64.ofInt a0_) rfl (zdal_p dlD_M_divisor_69 (i := 4) rfl) ?_
    refine zr_lneg (pc := 7) (zdal_p dlD_M_divisor_69 (i := 5) rfl) ?_
    refine zw_goto (pc := 8) (tgt := 12) (by decide) (zdal_p dlD_M_divisor_69 (i := 6) rfl) ?_
    refine zw_lstore (pc := 12) (i := 4) (L2 := [some (.long (Int64.ofInt a0_)), none, some (.long (Int64.ofInt a1_)), none, some (.long (Int64.ofInt (-a0_))), none, none, none, none, none]) (by decide) rfl (zdal_p dlD_M_divisor_69 (i := 8) rfl) ?_
    refine zw_lload_n (pc := 14) (n := 2) (x := Int64.ofInt a1_) rfl (zdal_p dlD_M_divisor_69 (i := 9) rfl) ?_
    refine zw_lstore (pc := 15) (i := 6) (L2 := [some (.long (Int64.ofInt a0_)), none, some (.long (Int64.ofInt a1_)), none, some (.long (Int64.ofInt (-a0_))), none, some (.long (Int64.ofInt a1_)), none, none, none]) (by decide) rfl (zdal_p dlD_M_divisor_69 (i := 10) rfl) ?_
    have lp_17 : ∀ (n : Nat) (u11_ : Int) (hu11_a : -9223372036854775808 ≤ u11_) (hu11_b : u11_ < 9223372036854775808) (u12_ : Int) (hu12_a : -9223372036854775808 ≤ u12_) (hu12_b : u12_ < 9223372036854775808) (i13_ : 0 ≤ u11_) (i14_ : u11_ ≤ 4611686018427387903) (i15_ : 0 ≤ u12_) (i16_ : u12_ ≤ 4611686018427387903) (i17_ : Int.gcd u11_ u12_ = Int.gcd a0_ a1_), (u12_).toNat < n → zW l m_M_divisor (zn Mz + 0, zw Mz + 0) Mz 17 [some (.long (Int64.ofInt a0_)), none, some (.long (Int64.ofInt a1_)), none, some (.long (Int64.ofInt u11_)), none, some (.long (Int64.ofInt u12_)), none, none, none] [] (zpJ [] [] Mz (fun v N => v = ((Int.gcd a0_ a1_ : Nat) : Int) ∧ 1 ≤ v ∧ v ≤ a1_)) := by
      intro n
      induction n with
      | zero =>
        intro u11_ hu11_a hu11_b u12_ hu12_a hu12_b i13_ i14_ i15_ i16_ i17_ h0
        exact absurd h0 (Nat.not_lt_zero _)
      | succ n ih_17 =>
        intro u11_ hu11_a hu11_b u12_ hu12_a hu12_b i13_ i14_ i15_ i16_ i17_ hlt_17
        refine zw_lload (pc := 17) (i := 6) (x := Int64.ofInt u12_) rfl (zdal_p dlD_M_divisor_69 (i := 11) rfl) ?_
        refine zw_lconst (pc := 19) (v := Int64.ofInt 0) (by decide) (zdal_p dlD_M_divisor_69 (i := 12) rfl) ?_
        refine zr_lcmp (pc := 20) ⟨hu12_a, hu12_b⟩ ⟨(by decide), (by decide)⟩ (zdal_p dlD_M_divisor_69 (i := 13) rfl) ?_
        have hr18_ := zcmp_s u12_ 0
        refine zr_if_eq (pc := 21) (tgt := 42) ⟨(by (exact zo_71 hr18_)), (by (exact zo_72 hr18_))⟩ (by decide) (zdal_p dlD_M_divisor_69 (i := 14) rfl) (fun hc_21 => ?_) (fun hc_21 => ?_)
        · skip
          refine zw_lload (pc := 42) (i := 4) (x := Int64.ofInt u11_) rfl (zdal_p dlD_M_divisor_70 (i := 0) rfl) ?_
          have hgp := zgc_p (a := a0_) (b := a1_) (by (exact p2_))
          have hge := (show Int.gcd u11_ u12_ = Int.gcd a0_ a1_ by first | with_reducible assumption | assumption)
          rw [show u12_ = 0 by omega] at hge
          have hgz : Int.gcd u11_ 0 = (u11_).natAbs := Nat.gcd_zero_right _
          exact zr_lret (pc := 44) rfl ⟨by (exact hu11_a), by (exact hu11_b)⟩ hf ⟨(show u11_ = ((Int.gcd a0_ a1_ : Nat) : Int) by first | with_reducible assumption | assumption | omega), (show 1 ≤ u11_ by first | with_reducible assumption | assumption | omega), (show u11_ ≤ a1_ by first | with_reducible assumption | assumption | omega)⟩ (zdal_p dlD_M_divisor_70 (i := 1) rfl)
        · skip
          refine zw_lload (pc := 24) (i := 4) (x := Int64.ofInt u11_) rfl (zdal_p dlD_M_divisor_69 (i := 15) rfl) ?_
          refine zw_lload (pc := 26) (i := 6) (x := Int64.ofInt u12_) rfl (zdal_p dlD_M_divisor_69 (i := 16) rfl) ?_
          refine zr_lrem (pc := 28) ⟨by (exact hu12_a), by (exact hu12_b)⟩ (by omega) (zdal_p dlD_M_divisor_69 (i := 17) rfl) ?_
          have hr19_ := zlrem_r u11_ u12_
          have hgs := zgc_s (x := u11_) (y := u12_) (by (exact i13_)) (by (exact i14_)) (by omega) (by (exact i16_)) (by first | with_reducible assumption | assumption)
          refine zw_lstore (pc := 29) (i := 8) (L2 := [some (.long (Int64.ofInt a0_)), none, some (.long (Int64.ofInt a1_)), none, some (.long (Int64.ofInt u11_)), none, some (.long (Int64.ofInt u12_)), none, some (.long (Int64.ofInt (zlrem u11_ u12_))), none]) (by decide) rfl (zdal_p dlD_M_divisor_69 (i := 18) rfl) ?_
          refine zw_lload (pc := 31) (i := 6) (x := Int64.ofInt u12_) rfl (zdal_p dlD_M_divisor_69 (i := 19) rfl) ?_
          refine zw_lstore (pc := 33) (i := 4) (L2 := [some (.long (Int64.ofInt a0_)), none, some (.long (Int64.ofInt a1_)), none, some (.long (Int64.ofInt u12_)), none, some (.long (Int64.ofInt u12_)), none, some (.long (Int64.ofInt (zlrem u11_ u12_))), none]) (by decide) rfl (zdal_p dlD_M_divisor_69 (i := 20) rfl) ?_
          refine zw_lload (pc := 35) (i := 8) (x := Int64.ofInt (zlrem u11_ u12_)) rfl (zdal_p dlD_M_divisor_69 (i := 21) rfl) ?_
          refine zw_lstore (pc := 37) (i := 6) (L2 := [some (.long (Int64.ofInt a0_)), none, some (.long (Int64.ofInt a1_)), none, some (.long (Int64.ofInt u12_)), none, some (.long (Int64.ofInt (zlrem u11_ u12_))), none, some (.long (Int64.ofInt (zlrem u11_ u12_))), none]) (by decide) rfl (zdal_p dlD_M_divisor_69 (i := 22) rfl) ?_
          refine zw_goto (pc := 39) (tgt := 17) (by decide) (zdal_p dlD_M_divisor_69 (i := 23) rfl) ?_
          refine zW_le [some (.long (Int64.ofInt a0_)), none, some (.long (Int64.ofInt a1_)), none, some (.long (Int64.ofInt u12_)), none, some (.long (Int64.ofInt (zlrem u11_ u12_))), none, none, none] (⟨rfl, rfl, rfl, rfl, trivial⟩) ?_
          exact ih_17 u12_ hu12_a hu12_b (zlrem u11_ u12_) (by (exact zo_997 hgs.1)) (by (exact zo_80 hr19_.2)) (show 0 ≤ u12_ by first | with_reducible assumption | assumption | omega) (show u12_ ≤ 4611686018427387903 by first | with_reducible assumption | assumption | omega) (show 0 ≤ (zlrem u11_ u12_) by first | with_reducible assumption | (exact zo_57 hgs.1) | assumption) (show (zlrem u11_ u12_) ≤ 4611686018427387903 by first | with_reducible assumption | assumption | omega) (show Int.gcd u12_ (zlrem u11_ u12_) = Int.gcd a0_ a1_ by exact hgs.2.2) (by (exact zo_998 hgs.1 hgs.2.1 hlt_17))
    exact lp_17 _ (-a0_) (by (exact zo_84 ha0_b)) (by omega) a1_ ha1_a ha1_b (show 0 ≤ (-a0_) by first | with_reducible assumption | assumption | omega) (show (-a0_) ≤ 4611686018427387903 by first | with_reducible assumption | assumption | omega) (show 0 ≤ a1_ by first | with_reducible assumption | (exact zo_564 p2_) | assumption) (show a1_ ≤ 4611686018427387903 by first | with_reducible assumption | assumption | omega) (show Int.gcd (-a0_) a1_ = Int.gcd a0_ a1_ by first | rfl | exact Int.neg_gcd) (Nat.lt_succ_self _)
set_option maxHeartbeats 4000000 in
theorem c_M_sumWith (l : Launch) (Mz : zMem) (hW : zMt Mz) (a0_ : Int) (ha0_a : -9223372036854775808 ≤ a0_) (ha0_b : a0_ < 9223372036854775808) (a1_ : Int) (ha1_a : -9223372036854775808 ≤ a1_) (ha1_b : a1_ < 9223372036854775808) (p0_ : -1000000000 ≤ zg Mz 81 52) (p1_ : zg Mz 81 52 ≤ 1000000000) (p2_ : 1 ≤ zg Mz 81 53) (p3_ : zg Mz 81 53 ≤ 1000) (p4_ : -1000000000 ≤ a0_) (p5_ : a0_ ≤ 1000000000) (p6_ : 1 ≤ a1_) (p7_ : a1_ ≤ 1000) : zC l m_M_sumWith 0 0 [.ref 81, .long (Int64.ofInt a0_), .long (Int64.ofInt a1_)] Mz (zpV [52, 53] [] Mz (fun N => zSw (zg Mz 81 52) (zg Mz 81 53) a0_ a1_ (zg N 81 52) (zg N 81 53))) := by
  refine zC_of (L0 := [some (.ref 81), some (.long (Int64.ofInt a0_)), none, some (.long (Int64.ofInt a1_)), none, none, none, none, none, none, none]) md_M_sumWith (Nat.le_of_ble_eq_true rfl) rfl ?_ zQ0
  have hf : zFr [52, 53] [] Mz Mz := zFr.rf
  have hb_ := zsw_b p0_ p1_ p2_ p3_ p4_ p5_ p6_ p7_
  have hc_ := zgc_p (a := zg Mz 81 52 * a1_ + a0_ * zg Mz 81 53) (b := zg Mz 81 53 * a1_) hb_.2.2.1
  refine zw_aload_n (pc := 0) (n := 0) (x := 81) rfl (zdal_p dlD_M_sumWith_67 (i := 0) rfl) ?_
  refine zr_getJ (hf.w hW) (pc := 1) f_M_436 rfl (zdal_p dlD_M_sumWith_67 (i := 1) rfl) ?_
  have hr1_ := zg_r Mz 81 52
  refine zw_lload_n (pc := 4) (n := 3) (x := Int64.ofInt a1_) rfl (zdal_p dlD_M_sumWith_67 (i := 2) rfl) ?_
  refine zr_lmul (pc := 5) (zdal_p dlD_M_sumWith_67 (i := 3) rfl) ?_
  refine zw_lload_n (pc := 6) (n := 1) (x := Int64.ofInt a0_) rfl (zdal_p dlD_M_sumWith_67 (i := 4) rfl) ?_
  refine zw_aload_n (pc := 7) (n := 0) (x := 81) rfl (zdal_p dlD_M_sumWith_67 (i := 5) rfl) ?_
  refine zr_getJ (hf.w hW) (pc := 8) f_M_439 rfl (zdal_p dlD_M_sumWith_67 (i := 6) rfl) ?_
  have hr2_ := zg_r Mz 81 53
  refine zr_lmul (pc := 11) (zdal_p dlD_M_sumWith_67 (i := 7) rfl) ?_
  refine zr_ladd (pc := 12) (zdal_p dlD_M_sumWith_67 (i := 8) rfl) ?_
  refine zw_lstore (pc := 13) (i := 5) (L2 := [some (.ref 81), some (.long (Int64.ofInt a0_)), none, some (.long (Int64.ofInt a1_)), none, some (.long (Int64.ofInt (((zg Mz 81 52) * a1_) + (a0_ * (zg Mz 81 53))))), none, none, none, none, none]) (by decide) rfl (zdal_p dlD_M_sumWith_67 (i := 9) rfl) ?_
  refine zw_aload_n (pc := 15) (n := 0) (x := 81) rfl (zdal_p dlD_M_sumWith_67 (i := 10) rfl) ?_
  refine zr_getJ (hf.w hW) (pc := 16) f_M_439 rfl (zdal_p dlD_M_sumWith_67 (i := 11) rfl) ?_
  refine zw_lload_n (pc := 19) (n := 3) (x := Int64.ofInt a1_) rfl (zdal_p dlD_M_sumWith_67 (i := 12) rfl) ?_
  refine zr_lmul (pc := 20) (zdal_p dlD_M_sumWith_67 (i := 13) rfl) ?_
  refine zw_lstore (pc := 21) (i := 7) (L2 := [some (.ref 81), some (.long (Int64.ofInt a0_)), none, some (.long (Int64.ofInt a1_)), none, some (.long (Int64.ofInt (((zg Mz 81 52) * a1_) + (a0_ * (zg Mz 81 53))))), none, some (.long (Int64.ofInt ((zg Mz 81 53) * a1_))), none, none, none]) (by decide) rfl (zdal_p dlD_M_sumWith_67 (i := 14) rfl) ?_
  refine zw_lload (pc := 23) (i := 5) (x := Int64.ofInt (((zg Mz 81 52) * a1_) + (a0_ * (zg Mz 81 53)))) rfl (zdal_p dlD_M_sumWith_67 (i := 15) rfl) ?_
  refine zw_lload (pc := 25) (i := 7) (x := Int64.ofInt ((zg Mz 81 53) * a1_)) rfl (zdal_p dlD_M_sumWith_67 (i := 16) rfl) ?_
  refine zr_callS hf.x (pc := 27) [.long (Int64.ofInt (((zg Mz 81 52) * a1_) + (a0_ * (zg Mz 81 53)))), .long (Int64.ofInt ((zg Mz 81 53) * a1_))] [] l_M_442 (c_M_divisor l Mz (hf.w hW) (((zg Mz 81 52) * a1_) + (a0_ * (zg Mz 81 53))) (by omega) (by omega) ((zg Mz 81 53) * a1_) (by omega) (by omega) (show -4611686018427387903 ≤ (((zg Mz 81 52) * a1_) + (a0_ * (zg Mz 81 53))) by first | with_reducible assumption | assumption | omega) (show (((zg Mz 81 52) * a1_) + (a0_ * (zg Mz 81 53))) ≤ 4611686018427387903 by first | with_reducible assumption | assumption | omega) (show 1 ≤ ((zg Mz 81 53) * a1_) by first | with_reducible assumption | assumption | omega) (show ((zg Mz 81 53) * a1_) ≤ 4611686018427387903 by first | with_reducible assumption | assumption | omega)) rfl rfl (by decide) (Nat.le_of_ble_eq_true rfl) (zdal_p dlD_M_sumWith_67 (i := 17) rfl) ?_
  rintro _ N3_ ⟨v4_, rfl, ⟨hv4_a, hv4_b⟩, hsN3_, ⟨hp0_N3_, hp1_N3_, hp2_N3_⟩⟩
  obtain rfl := hsN3_.eq.symm
  show zW l m_M_sumWith (zn Mz + 0, zw Mz + 0) Mz 30 [some (.ref 81), some (.long (Int64.ofInt a0_)), none, some (.long (Int64.ofInt a1_)), none, some (.long (Int64.ofInt (((zg Mz 81 52) * a1_) + (a0_ * (zg Mz 81 53))))), none, some (.long (Int64.ofInt ((zg Mz 81 53) * a1_))), none, none, none] [.long (Int64.ofInt v4_)] _
  have hdv_ := hp0_N3_
  refine zw_lstore (pc := 30) (i := 9) (L2 := [some (.ref 81), some (.long (Int64.ofInt a0_)), none, some (.long (Int64.ofInt a1_)), none, some (.long (Int64.ofInt (((zg Mz 81 52) * a1_) + (a0_ * (zg Mz 81 53))))), none, some (.long (Int64.ofInt ((zg Mz 81 53) * a1_))), none, some (.long (Int64.ofInt v4_)), none]) (by decide) rfl (zdal_p dlD_M_sumWith_67 (i := 18) rfl) ?_
  refine zw_aload_n (pc := 32) (n := 0) (x := 81) rfl (zdal_p dlD_M_sumWith_67 (i := 19) rfl) ?_
  refine zw_lload (pc := 33) (i := 5) (x := Int64.ofInt (((zg Mz 81 52) * a1_) + (a0_ * (zg Mz 81 53)))) rfl (zdal_p dlD_M_sumWith_67 (i := 20) rfl) ?_
  refine zw_lload (pc := 35) (i := 9) (x := Int64.ofInt v4_) rfl (zdal_p dlD_M_sumWith_67 (i := 21) rfl) ?_
  refine zr_ldiv (pc := 37) ⟨by (exact hv4_a), by (exact hv4_b)⟩ (by (exact zo_999 hp1_N3_)) (zdal_p dlD_M_sumWith_67 (i := 22) rfl) ?_
  have hr5_ := zlquo_r (((zg Mz 81 52) * a1_) + (a0_ * (zg Mz 81 53))) v4_
  refine zr_putJ (hf.w hW) (pc := 38) f_M_436 rfl rfl rfl rfl (zdal_p dlD_M_sumWith_67 (i := 23) rfl) (fun N6_ hsN6_ hvN6_ => ?_)
  have hf_N6_ : zFr [52, 53] [] Mz N6_ := hf.tr hsN6_ (by decide) (by decide)
  refine zw_aload_n (pc := 41) (n := 0) (x := 81) rfl (zdal_p dlD_M_sumWith_68 (i := 0) rfl) ?_
  refine zw_lload (pc := 42) (i := 7) (x := Int64.ofInt ((zg Mz 81 53) * a1_)) rfl (zdal_p dlD_M_sumWith_68 (i := 1) rfl) ?_
  refine zw_lload (pc := 44) (i := 9) (x := Int64.ofInt v4_) rfl (zdal_p dlD_M_sumWith_68 (i := 2) rfl) ?_
  refine zr_ldiv (pc := 46) ⟨by (exact hv4_a), by (exact hv4_b)⟩ (by (exact zo_999 hp1_N3_)) (zdal_p dlD_M_sumWith_68 (i := 3) rfl) ?_
  have hr7_ := zlquo_r ((zg Mz 81 53) * a1_) v4_
  refine zr_putJ (hf_N6_.w hW) (pc := 47) f_M_439 rfl rfl rfl rfl (zdal_p dlD_M_sumWith_68 (i := 4) rfl) (fun N8_ hsN8_ hvN8_ => ?_)
  have hf_N8_ : zFr [52, 53] [] Mz N8_ := hf_N6_.tr hsN8_ (by decide) (by decide)
  have h53_ := hvN8_ ⟨by (exact zo_79 hr7_.1), by (exact zo_80 hr7_.2)⟩
  have h52_ := (hsN8_.g (j := 52) (by decide)).trans (hvN6_ ⟨by (exact zo_79 hr5_.1), by (exact zo_80 hr5_.2)⟩)
  exact zr_vret (pc := 50) rfl hf_N8_ (show zSw (zg Mz 81 52) (zg Mz 81 53) a0_ a1_ (zg N8_ 81 52) (zg N8_ 81 53) by exact zSw_i p0_ p1_ p2_ p3_ p4_ p5_ p6_ p7_ hdv_ h52_ h53_) (zdal_p dlD_M_sumWith_68 (i := 5) rfl)
set_option maxHeartbeats 40000000 in
theorem c_M_peaks (l : Launch) (Mz : zMem) (hW : zMt Mz) (a0_ : Int) (ha0_a : -2147483648 ≤ a0_) (ha0_b : a0_ < 2147483648) (T : zGT) (hO : gOK T) (D : Nat → Nat → Int) (hD : gDs T D) (p0_ : zGB T Mz) (p1_ : 0 ≤ a0_) (p2_ : a0_ < ze Mz 81 26) : zC l m_M_peaks 0 0 [.ref 81, .int (Int32.ofInt a0_)] Mz (zpV [52, 53] [107, 108] Mz (fun N => zPk T D (a0_).toNat 0 N)) := by
  refine zC_of (L0 := [some (.ref 81), some (.int (Int32.ofInt a0_)), none, none, none, none, none, none, none]) md_M_peaks (Nat.le_of_ble_eq_true rfl) rfl ?_ zQ0
  have hf : zFr [52, 53] [107, 108] Mz Mz := zFr.rf
  have r_26 := ze_r Mz 81 26
  have hG := hO.1
  have g24 := hG.2.1
  have g1 := hG.1
  have dv0 : zTab T Mz := p0_.1
  have dv1 : zB 85 144 0 5 Mz := p0_.2.1
  have dv2 : zJX T Mz := p0_.2.2.1
  have dv3 : zFirs T Mz := p0_.2.2.2.1
  have dv4 : zSSm T Mz := p0_.2.2.2.2.1
  have dv5 : zGD Mz := zGB.d hO p0_
  have gb := dv5.1
  have gn := dv0.1
  have gfl := dv3.1
  have gf6 := gF_pos hO
  refine zw_aload_n (pc := 0) (n := 0) (x := 81) rfl (zdal_p dlD_M_peaks_62 (i := 0) rfl) ?_
  refine zr_getI0 hf hW (pc := 1) (by decide) f_M_235 rfl (zdal_p dlD_M_peaks_62 (i := 1) rfl) ?_
  refine zw_iconst (pc := 4) (v := Int32.ofInt 1) (by decide) (zdal_p dlD_M_peaks_62 (i := 2) rfl) ?_
  refine zr_isub (pc := 5) (zdal_p dlD_M_peaks_62 (i := 3) rfl) ?_
  refine zw_istore_n (pc := 6) (i := 2) (L2 := [some (.ref 81), some (.int (Int32.ofInt a0_)), some (.int (Int32.ofInt ((ze Mz 81 26) - 1))), none, none, none, none, none, none]) rfl (by decide) rfl (zdal_p dlD_M_peaks_62 (i := 4) rfl) ?_
  have lp_7 : ∀ (n : Nat) (u1_ : Int) (hu1_a : -2147483648 ≤ u1_) (hu1_b : u1_ < 2147483648) (N2_ : zMem) (hs3_ : zFr [52, 53] [107, 108] Mz N2_) (i4_ : -1 ≤ u1_) (i5_ : u1_ < ze Mz 81 26) (i6_ : zPk T D (a0_).toNat (u1_ + 1).toNat N2_), (u1_ + 1).toNat < n → zW l m_M_peaks (zn Mz + 0, zw Mz + 0) N2_ 7 [some (.ref 81), some (.int (Int32.ofInt a0_)), some (.int (Int32.ofInt u1_)), none, none, none, none, none, none] [] (zpV [52, 53] [107, 108] Mz (fun N => zPk T D (a0_).toNat 0 N)) := by
    intro n
    induction n with
    | zero =>
      intro u1_ hu1_a hu1_b N2_ hs3_ i4_ i5_ i6_ h0
      exact absurd h0 (Nat.not_lt_zero _)
    | succ n ih_7 =>
      intro u1_ hu1_a hu1_b N2_ hs3_ i4_ i5_ i6_ hlt_7
      have hf_N2_ : zFr [52, 53] [107, 108] Mz N2_ := hf.tr hs3_ (by decide) (by decide)
      have e26_N2_ : ze N2_ 81 26 = ze Mz 81 26 := hs3_.e (by decide)
      have c7_ : zGB T N2_ := zGB.fr hs3_ p0_ (by decide) (by decide)
      have c8_ : zTab T N2_ := zTab.fr hs3_ dv0 (by decide) (by decide)
      have c9_ : zB 85 144 0 5 N2_ := zB.fr hs3_ dv1 (by decide) (by decide)
      have c10_ : zJX T N2_ := zJX.fr hs3_ dv2 (by decide) (by decide)
      have c11_ : zFirs T N2_ := zFirs.fr hs3_ dv3 (by decide) (by decide)
      have c12_ : zSSm T N2_ := zSSm.fr hs3_ dv4 (by decide) (by decide)
      have c13_ : zGD N2_ := zGD.fr hs3_ dv5 (by decide) (by decide)
      have zz26_N2_ : ze N2_ 81 26 = ze Mz 81 26 := hf_N2_.e (by decide)
      refine zw_iload_n (pc := 7) (n := 2) (x := Int32.ofInt u1_) rfl (zdal_p dlD_M_peaks_62 (i := 5) rfl) ?_
      refine zr_if_lt (pc := 8) (tgt := 166) ⟨hu1_a, hu1_b⟩ (by decide) (zdal_p dlD_M_peaks_62 (i := 6) rfl) (fun hc_8 => ?_) (fun hc_8 => ?_)
      · skip
        exact zr_vret (pc := 166) rfl hf_N2_ (show zPk T D (a0_).toNat 0 N2_ by have h := (show zPk T D (a0_).toNat (u1_ + 1).toNat N2_ by first | with_reducible assumption | assumption); rwa [show (u1_ + 1).toNat = 0 by (exact zo_1000 hc_8 i4_)] at h) (zdal_p dlD_M_peaks_66 (i := 7) rfl)
      · skip
        refine zw_aload_n (pc := 11) (n := 0) (x := 81) rfl (zdal_p dlD_M_peaks_62 (i := 7) rfl) ?_
        refine zw_iload_n (pc := 12) (n := 2) (x := Int32.ofInt u1_) rfl (zdal_p dlD_M_peaks_62 (i := 8) rfl) ?_
        refine zw_iload_n (pc := 13) (n := 1) (x := Int32.ofInt a0_) rfl (zdal_p dlD_M_peaks_62 (i := 9) rfl) ?_
        have j_22 : ∀ (u14_ : Int) (hu14_a : -2147483648 ≤ u14_) (hu14_b : u14_ < 2147483648) (hu14_z : u14_ = 0 ∨ u14_ = 1) (i15_ : u14_ = (if (u1_).toNat = (a0_).toNat then 1 else 0)), zW l m_M_peaks (zn Mz + 0, zw Mz + 0) N2_ 22 [some (.ref 81), some (.int (Int32.ofInt a0_)), some (.int (Int32.ofInt u1_)), none, none, none, none, none, none] [.int (Int32.ofInt u14_), .ref 81] (zpV [52, 53] [107, 108] Mz (fun N => zPk T D (a0_).toNat 0 N)) := by
          intro u14_ hu14_a hu14_b hu14_z i15_
          refine zr_callS hf_N2_.x (pc := 22) [.int (Int32.ofInt u14_)] [.ref 81] l_M_256 (c_M_truth l N2_ (hf_N2_.w hW) u14_ hu14_a hu14_b (by (exact hu14_z))) rfl rfl (by decide) (Nat.le_of_ble_eq_true rfl) (zdal_p dlD_M_peaks_62 (i := 14) rfl) ?_
          rintro _ N16_ ⟨v17_, rfl, ⟨hv17_a, hv17_b⟩, hsN16_, hp0_N16_⟩
          obtain rfl := hsN16_.eq.symm
          replace hp0_N16_ : v17_ = u14_ := hp0_N16_
          show zW l m_M_peaks (zn Mz + 0, zw Mz + 0) N2_ 25 [some (.ref 81), some (.int (Int32.ofInt a0_)), some (.int (Int32.ofInt u1_)), none, none, none, none, none, none] [.int (Int32.ofInt v17_), .ref 81] _
          refine zr_i2l (pc := 25) ⟨hv17_a, hv17_b⟩ (zdal_p dlD_M_peaks_62 (i := 15) rfl) ?_
          refine zr_putJ (hf_N2_.w hW) (pc := 26) f_M_436 rfl rfl rfl rfl (zdal_p dlD_M_peaks_62 (i := 16) rfl) (fun N18_ hsN18_ hvN18_ => ?_)
          have hf_N18_ : zFr [52, 53] [107, 108] Mz N18_ := hf_N2_.tr hsN18_ (by decide) (by decide)
          have hb0_N18_ : zFr [52, 53] [107, 108] Mz N18_ := hs3_.tr hsN18_ (by decide) (by decide)
          have e26_N18_ : ze N18_ 81 26 = ze N2_ 81 26 := hsN18_.e (by decide)
          have c19_ : zGB T N18_ := zGB.fr hsN18_ c7_ (by decide) (by decide)
          have c20_ : zTab T N18_ := zTab.fr hsN18_ c8_ (by decide) (by decide)
          have c21_ : zB 85 144 0 5 N18_ := zB.fr hsN18_ c9_ (by decide) (by decide)
          have c22_ : zJX T N18_ := zJX.fr hsN18_ c10_ (by decide) (by decide)
          have c23_ : zFirs T N18_ := zFirs.fr hsN18_ c11_ (by decide) (by decide)
          have c24_ : zSSm T N18_ := zSSm.fr hsN18_ c12_ (by decide) (by decide)
          have c25_ : zGD N18_ := zGD.fr hsN18_ c13_ (by decide) (by decide)
          refine zw_aload_n (pc := 29) (n := 0) (x := 81) rfl (zdal_p dlD_M_peaks_62 (i := 17) rfl) ?_
          refine zw_lconst (pc := 30) (v := Int64.ofInt 1) (by decide) (zdal_p dlD_M_peaks_62 (i := 18) rfl) ?_
          refine zr_putJ (hf_N18_.w hW) (pc := 31) f_M_439 rfl rfl rfl rfl (zdal_p dlD_M_peaks_62 (i := 19) rfl) (fun N26_ hsN26_ hvN26_ => ?_)
          have hf_N26_ : zFr [52, 53] [107, 108] Mz N26_ := hf_N18_.tr hsN26_ (by decide) (by decide)
          have hb0_N26_ : zFr [52, 53] [107, 108] Mz N26_ := hb0_N18_.tr hsN26_ (by decide) (by decide)
          have e26_N26_ : ze N26_ 81 26 = ze N18_ 81 26 := hsN26_.e (by decide)
          have c27_ : zGB T N26_ := zGB.fr hsN26_ c19_ (by decide) (by decide)
          have c28_ : zTab T N26_ := zTab.fr hsN26_ c20_ (by decide) (by decide)
          have c29_ : zB 85 144 0 5 N26_ := zB.fr hsN26_ c21_ (by decide) (by decide)
          have c30_ : zJX T N26_ := zJX.fr hsN26_ c22_ (by decide) (by decide)
          have c31_ : zFirs T N26_ := zFirs.fr hsN26_ c23_ (by decide) (by decide)
          have c32_ : zSSm T N26_ := zSSm.fr hsN26_ c24_ (by decide) (by decide)
          have c33_ : zGD N26_ := zGD.fr hsN26_ c25_ (by decide) (by decide)
          have h53_ := hvN26_ ⟨by (decide), by (decide)⟩
          have h52_ := (hsN26_.g (j := 52) (by decide)).trans (hvN18_ ⟨by (exact zo_282 hv17_a), by (exact zo_283 hv17_b)⟩)
          refine zw_iload_n (pc := 34) (n := 2) (x := Int32.ofInt u1_) rfl (zdal_p dlD_M_peaks_62 (i := 20) rfl) ?_
          refine zw_iconst (pc := 35) (v := Int32.ofInt 1) (by decide) (zdal_p dlD_M_peaks_62 (i := 21) rfl) ?_
          refine zr_iadd (pc := 36) (zdal_p dlD_M_peaks_62 (i := 22) rfl) ?_
          refine zw_istore_n (pc := 37) (i := 3) (L2 := [some (.ref 81), some (.int (Int32.ofInt a0_)), some (.int (Int32.ofInt u1_)), some (.int (Int32.ofInt (u1_ + 1))), none, none, none, none, none]) rfl (by decide) rfl (zdal_p dlD_M_peaks_62 (i := 23) rfl) ?_
          have lp_38 : ∀ (n : Nat) (u34_ : Int) (hu34_a : -2147483648 ≤ u34_) (hu34_b : u34_ < 2147483648) (N35_ : zMem) (hs36_ : zFr [52, 53] [] N26_ N35_) (i37_ : u1_ + 1 ≤ u34_) (i38_ : u34_ ≤ ze Mz 81 26) (i39_ : zg N35_ 81 53 = 1) (i40_ : zg N35_ 81 52 = gds T D (a0_).toNat (u1_).toNat (u34_ - u1_ - 1).toNat) (i41_ : zPk T D (a0_).toNat (u1_ + 1).toNat N35_), (ze Mz 81 26 - u34_).toNat < n → zW l m_M_peaks (zn Mz + 0, zw Mz + 0) N35_ 38 [some (.ref 81), some (.int (Int32.ofInt a0_)), some (.int (Int32.ofInt u1_)), some (.int (Int32.ofInt u34_)), none, none, none, none, none] [] (zpV [52, 53] [107, 108] Mz (fun N => zPk T D (a0_).toNat 0 N)) := by
            clear hu14_a hu14_b hu14_z hv17_a hv17_b hp0_N16_ hsN18_ hvN18_ hf_N18_ hb0_N18_ e26_N18_ c19_ c20_ c21_ c22_ c23_ c24_ c25_ hsN26_ e26_N26_
            intro n
            induction n with
            | zero =>
              intro u34_ hu34_a hu34_b N35_ hs36_ i37_ i38_ i39_ i40_ i41_ h0
              exact absurd h0 (Nat.not_lt_zero _)
            | succ n ih_38 =>
              intro u34_ hu34_a hu34_b N35_ hs36_ i37_ i38_ i39_ i40_ i41_ hlt_38
              have hf_N35_ : zFr [52, 53] [107, 108] Mz N35_ := hf_N26_.tr hs36_ (by decide) (by decide)
              have hb0_N35_ : zFr [52, 53] [107, 108] Mz N35_ := hb0_N26_.tr hs36_ (by decide) (by decide)
              have e26_N35_ : ze N35_ 81 26 = ze N26_ 81 26 := hs36_.e (by decide)
              have c42_ : zGB T N35_ := zGB.fr hs36_ c27_ (by decide) (by decide)
              have c43_ : zTab T N35_ := zTab.fr hs36_ c28_ (by decide) (by decide)
              have c44_ : zB 85 144 0 5 N35_ := zB.fr hs36_ c29_ (by decide) (by decide)
              have c45_ : zJX T N35_ := zJX.fr hs36_ c30_ (by decide) (by decide)
              have c46_ : zFirs T N35_ := zFirs.fr hs36_ c31_ (by decide) (by decide)
              have c47_ : zSSm T N35_ := zSSm.fr hs36_ c32_ (by decide) (by decide)
              have c48_ : zGD N35_ := zGD.fr hs36_ c33_ (by decide) (by decide)
              have zz26_N35_ : ze N35_ 81 26 = ze Mz 81 26 := hf_N35_.e (by decide)
              refine zw_iload_n (pc := 38) (n := 3) (x := Int32.ofInt u34_) rfl (zdal_p dlD_M_peaks_63 (i := 0) rfl) ?_
              refine zw_aload_n (pc := 39) (n := 0) (x := 81) rfl (zdal_p dlD_M_peaks_63 (i := 1) rfl) ?_
              refine zr_getI0 hf_N35_ hW (pc := 40) (by decide) f_M_235 rfl (zdal_p dlD_M_peaks_63 (i := 2) rfl) ?_
              refine zr_icmp_ge (pc := 43) (tgt := 107) ⟨hu34_a, hu34_b⟩ ⟨(ze_r Mz 81 26).1, (ze_r Mz 81 26).2⟩ (by decide) (zdal_p dlD_M_peaks_63 (i := 3) rfl) (fun hc_43 => ?_) (fun hc_43 => ?_)
              · skip
                have hDk_ := zpk_e hD (J := (a0_).toNat) (by (exact zo_1001 gb.2.2.2.2.2 gfl p1_ p2_)) (i := u34_) (k := u1_) (by (exact hc_8)) (by (exact zo_1002 gb.2.2.2.2.2 gf6.2 gfl hc_43 hc_8 i37_ i38_)) (by (exact zo_1003 i37_)) (show zg N35_ 81 52 = gds T D (a0_).toNat (u1_).toNat (u34_ - u1_ - 1).toNat by first | with_reducible assumption | assumption)
                refine zw_aload_n (pc := 107) (n := 0) (x := 81) rfl (zdal_p dlD_M_peaks_64 (i := 19) rfl) ?_
                refine zr_getJ (hf_N35_.w hW) (pc := 108) f_M_436 rfl (zdal_p dlD_M_peaks_64 (i := 20) rfl) ?_
                have hr49_ := zg_r N35_ 81 52
                refine zw_lstore_n (pc := 111) (i := 3) (L2 := [some (.ref 81), some (.int (Int32.ofInt a0_)), some (.int (Int32.ofInt u1_)), some (.long (Int64.ofInt (zg N35_ 81 52))), none, none, none, none, none]) rfl (by decide) rfl (zdal_p dlD_M_peaks_64 (i := 21) rfl) ?_
                refine zw_aload_n (pc := 112) (n := 0) (x := 81) rfl (zdal_p dlD_M_peaks_64 (i := 22) rfl) ?_
                refine zr_getJ (hf_N35_.w hW) (pc := 113) f_M_439 rfl (zdal_p dlD_M_peaks_64 (i := 23) rfl) ?_
                have hr50_ := zg_r N35_ 81 53
                refine zw_aload_n (pc := 116) (n := 0) (x := 81) rfl (zdal_p dlD_M_peaks_65 (i := 0) rfl) ?_
                refine zr_getF (r := 93) (hf_N35_.w hW) (pc := 117) f_M_50 rfl (zh_93 (hf_N35_.w hW)).1 (zdal_p dlD_M_peaks_65 (i := 1) rfl) ?_
                refine zw_bipush (pc := 120) (v := Int32.ofInt 64) (by decide) (zdal_p dlD_M_peaks_65 (i := 2) rfl) ?_
                refine zw_iload_n (pc := 122) (n := 2) (x := Int32.ofInt u1_) rfl (zdal_p dlD_M_peaks_65 (i := 3) rfl) ?_
                refine zr_imul (pc := 123) (zdal_p dlD_M_peaks_65 (i := 4) rfl) ?_
                refine zw_iload_n (pc := 124) (n := 2) (x := Int32.ofInt u1_) rfl (zdal_p dlD_M_peaks_65 (i := 5) rfl) ?_
                refine zr_iadd (pc := 125) (zdal_p dlD_M_peaks_65 (i := 6) rfl) ?_
                refine zr_ialdn (pc := 126) (zh_93 (hf_N35_.w hW)).2 (by decide) (by (exact zo_888 hc_8)) (by (exact zo_1004 gb.2.2.2.2.2 hu1_b i5_)) (zdal_p dlD_M_peaks_65 (i := 7) rfl) (fun v51_ hv51_ hv51_a hv51_b => ?_)
                rw [hf_N35_.ie (by decide) (by decide)] at hv51_
                have hmk_ := zGB_mk p0_ (i := u1_) (k := u1_) (by (exact hc_8)) (by (exact i5_)) (by (exact hc_8)) (by (exact i5_))
                have hmb_ := gmkI_b hG (u1_).toNat (u1_).toNat
                have hm1_ := gmkI_1 hO (i := (u1_).toNat) (by (exact zo_1001 gb.2.2.2.2.2 gfl hc_8 i5_))
                refine zr_toI (show v51_ = gmkI T (u1_).toNat (u1_).toNat by (exact zo_1005 hm1_ hmb_.2 hmk_ hv51_ hv51_a hv51_b)) ?_
                refine zr_i2l (pc := 127) ⟨(by (exact zo_168 hmb_.1)), (by (exact zo_1006 hmb_.2))⟩ (zdal_p dlD_M_peaks_65 (i := 8) rfl) ?_
                refine zr_lmul (pc := 128) (zdal_p dlD_M_peaks_65 (i := 9) rfl) ?_
                refine zr_toJ (show ((zg N35_ 81 53) * (gmkI T (u1_).toNat (u1_).toNat)) = gmkI T (u1_).toNat (u1_).toNat by rw [show zg N35_ 81 53 = 1 by assumption, Int.one_mul]) ?_
                refine zw_lstore (pc := 129) (i := 5) (L2 := [some (.ref 81), some (.int (Int32.ofInt a0_)), some (.int (Int32.ofInt u1_)), some (.long (Int64.ofInt (zg N35_ 81 52))), none, some (.long (Int64.ofInt (gmkI T (u1_).toNat (u1_).toNat))), none, none, none]) (by decide) rfl (zdal_p dlD_M_peaks_65 (i := 10) rfl) ?_
                refine zw_lload_n (pc := 131) (n := 3) (x := Int64.ofInt (zg N35_ 81 52)) rfl (zdal_p dlD_M_peaks_65 (i := 11) rfl) ?_
                refine zw_lload (pc := 132) (i := 5) (x := Int64.ofInt (gmkI T (u1_).toNat (u1_).toNat)) rfl (zdal_p dlD_M_peaks_65 (i := 12) rfl) ?_
                refine zr_callS hf_N35_.x (pc := 134) [.long (Int64.ofInt (zg N35_ 81 52)), .long (Int64.ofInt (gmkI T (u1_).toNat (u1_).toNat))] [] l_M_442 (c_M_divisor l N35_ (hf_N35_.w hW) (zg N35_ 81 52) (zg_r N35_ 81 52).1 (zg_r N35_ 81 52).2 (gmkI T (u1_).toNat (u1_).toNat) (by (exact zo_997 hmb_.1)) (by (exact zo_1007 hmb_.2)) (show -4611686018427387903 ≤ (zg N35_ 81 52) by first | with_reducible assumption | assumption | omega) (show (zg N35_ 81 52) ≤ 4611686018427387903 by first | with_reducible assumption | assumption | omega) (show 1 ≤ (gmkI T (u1_).toNat (u1_).toNat) by first | with_reducible assumption | assumption | omega) (show (gmkI T (u1_).toNat (u1_).toNat) ≤ 4611686018427387903 by first | with_reducible assumption | assumption | omega)) rfl rfl (by decide) (Nat.le_of_ble_eq_true rfl) (zdal_p dlD_M_peaks_65 (i := 13) rfl) ?_
                rintro _ N52_ ⟨v53_, rfl, ⟨hv53_a, hv53_b⟩, hsN52_, ⟨hp0_N52_, hp1_N52_, hp2_N52_⟩⟩
                obtain rfl := hsN52_.eq.symm
                show zW l m_M_peaks (zn Mz + 0, zw Mz + 0) N35_ 137 [some (.ref 81), some (.int (Int32.ofInt a0_)), some (.int (Int32.ofInt u1_)), some (.long (Int64.ofInt (zg N35_ 81 52))), none, some (.long (Int64.ofInt (gmkI T (u1_).toNat (u1_).toNat))), none, none, none] [.long (Int64.ofInt v53_)] _
                refine zw_lstore (pc := 137) (i := 7) (L2 := [some (.ref 81), some (.int (Int32.ofInt a0_)), some (.int (Int32.ofInt u1_)), some (.long (Int64.ofInt (zg N35_ 81 52))), none, some (.long (Int64.ofInt (gmkI T (u1_).toNat (u1_).toNat))), none, some (.long (Int64.ofInt v53_)), none]) (by decide) rfl (zdal_p dlD_M_peaks_65 (i := 14) rfl) ?_
                refine zw_aload_n (pc := 139) (n := 0) (x := 81) rfl (zdal_p dlD_M_peaks_65 (i := 15) rfl) ?_
                refine zr_getF (r := 107) (hf_N35_.w hW) (pc := 140) f_M_93 rfl (zh_107 (hf_N35_.w hW)).1 (zdal_p dlD_M_peaks_65 (i := 16) rfl) ?_
                refine zw_iload_n (pc := 143) (n := 2) (x := Int32.ofInt u1_) rfl (zdal_p dlD_M_peaks_65 (i := 17) rfl) ?_
                refine zw_lload_n (pc := 144) (n := 3) (x := Int64.ofInt (zg N35_ 81 52)) rfl (zdal_p dlD_M_peaks_65 (i := 18) rfl) ?_
                refine zw_lload (pc := 145) (i := 7) (x := Int64.ofInt v53_) rfl (zdal_p dlD_M_peaks_65 (i := 19) rfl) ?_
                refine zr_ldiv (pc := 147) ⟨by (exact hv53_a), by (exact hv53_b)⟩ (by (exact zo_999 hp1_N52_)) (zdal_p dlD_M_peaks_65 (i := 20) rfl) ?_
                have hr54_ := zlquo_r (zg N35_ 81 52) v53_
                refine zr_last (pc := 148) (zh_107 (hf_N35_.w hW)).2 (by decide) (by decide) (by (exact hc_8)) (by (exact zo_906 gb.2.2.2.2.2 hu1_b i5_)) (zdal_p dlD_M_peaks_65 (i := 21) rfl) (fun N55_ hN55_ hsN55_ => ?_)
                have hf_N55_ : zFr [52, 53] [107, 108] Mz N55_ := hf_N35_.tr hsN55_ (by decide) (by decide)
                have hb0_N55_ : zFr [52, 53] [107, 108] Mz N55_ := hb0_N35_.tr hsN55_ (by decide) (by decide)
                refine zw_aload_n (pc := 149) (n := 0) (x := 81) rfl (zdal_p dlD_M_peaks_65 (i := 22) rfl) ?_
                refine zr_getF (r := 108) (hf_N55_.w hW) (pc := 150) f_M_96 rfl (zh_108 (hf_N55_.w hW)).1 (zdal_p dlD_M_peaks_65 (i := 23) rfl) ?_
                refine zw_iload_n (pc := 153) (n := 2) (x := Int32.ofInt u1_) rfl (zdal_p dlD_M_peaks_66 (i := 0) rfl) ?_
                refine zw_lload (pc := 154) (i := 5) (x := Int64.ofInt (gmkI T (u1_).toNat (u1_).toNat)) rfl (zdal_p dlD_M_peaks_66 (i := 1) rfl) ?_
                refine zw_lload (pc := 156) (i := 7) (x := Int64.ofInt v53_) rfl (zdal_p dlD_M_peaks_66 (i := 2) rfl) ?_
                refine zr_ldiv (pc := 158) ⟨by (exact hv53_a), by (exact hv53_b)⟩ (by (exact zo_999 hp1_N52_)) (zdal_p dlD_M_peaks_66 (i := 3) rfl) ?_
                have hr63_ := zlquo_r (gmkI T (u1_).toNat (u1_).toNat) v53_
                refine zr_last (pc := 159) (zh_108 (hf_N55_.w hW)).2 (by decide) (by decide) (by (exact hc_8)) (by (exact zo_906 gb.2.2.2.2.2 hu1_b i5_)) (zdal_p dlD_M_peaks_66 (i := 4) rfl) (fun N64_ hN64_ hsN64_ => ?_)
                have hf_N64_ : zFr [52, 53] [107, 108] Mz N64_ := hf_N55_.tr hsN64_ (by decide) (by decide)
                have hb0_N64_ : zFr [52, 53] [107, 108] Mz N64_ := hb0_N55_.tr hsN64_ (by decide) (by decide)
                have hPn_ := zpk_n hO hD (j := (a0_).toNat) (k := (u1_).toNat) (by (exact zo_1001 gb.2.2.2.2.2 gfl p1_ p2_)) (by (exact zo_1001 gb.2.2.2.2.2 gfl hc_8 i5_)) (show zPk T D (a0_).toNat ((u1_).toNat + 1) N35_ by rw [show (u1_).toNat + 1 = (u1_ + 1).toNat by (exact zo_1008 hc_8)]; assumption) hDk_.1 rfl hp0_N52_ rfl rfl hN55_ hN64_
                have hPm_ : zPk T D (a0_).toNat (u1_ + (-1) + 1).toNat N64_ := by rw [show u1_ + (-1) + 1 = u1_ by (exact zo_1009)]; exact hPn_
                refine zr_iinc (pc := 160) (i := 2) (a := u1_) (n := -1) (L2 := [some (.ref 81), some (.int (Int32.ofInt a0_)), some (.int (Int32.ofInt (u1_ + (-1)))), some (.long (Int64.ofInt (zg N35_ 81 52))), none, some (.long (Int64.ofInt (gmkI T (u1_).toNat (u1_).toNat))), none, some (.long (Int64.ofInt v53_)), none]) rfl (by decide) rfl (zdal_p dlD_M_peaks_66 (i := 5) rfl) ?_
                refine zw_goto (pc := 163) (tgt := 7) (by decide) (zdal_p dlD_M_peaks_66 (i := 6) rfl) ?_
                refine zW_le [some (.ref 81), some (.int (Int32.ofInt a0_)), some (.int (Int32.ofInt (u1_ + (-1)))), none, none, none, none, none, none] (⟨rfl, rfl, rfl, trivial⟩) ?_
                exact ih_7 (u1_ + (-1)) (by (exact zo_892 hc_8)) (by (exact zo_893 hu1_b)) N64_ hb0_N64_ (show -1 ≤ (u1_ + (-1)) by first | with_reducible assumption | (exact zo_938 hc_8) | assumption) (show (u1_ + (-1)) < ze Mz 81 26 by first | with_reducible assumption | (exact zo_1010 i5_) | assumption) (show zPk T D (a0_).toNat ((u1_ + (-1)) + 1).toNat N64_ by first | with_reducible assumption | assumption | omega) (by (exact zo_896 hc_8 hlt_7 hu1_b))
              · skip
                refine zw_aload_n (pc := 46) (n := 0) (x := 81) rfl (zdal_p dlD_M_peaks_63 (i := 4) rfl) ?_
                refine zr_getF (r := 107) (hf_N35_.w hW) (pc := 47) f_M_93 rfl (zh_107 (hf_N35_.w hW)).1 (zdal_p dlD_M_peaks_63 (i := 5) rfl) ?_
                refine zw_iload_n (pc := 50) (n := 3) (x := Int32.ofInt u34_) rfl (zdal_p dlD_M_peaks_63 (i := 6) rfl) ?_
                have hpb_ := zPk.b hO hD (j := (a0_).toNat) (i := (u34_).toNat) (by (exact zo_1001 gb.2.2.2.2.2 gfl p1_ p2_)) (show zPk T D (a0_).toNat (u1_ + 1).toNat N35_ by first | with_reducible assumption | assumption) (by (exact zo_1011 hc_8 hu1_b i37_)) (by (exact zo_1012 gfl hc_43 hc_8 hu34_a i37_))
                refine zr_laldn (pc := 51) (zh_107 (hf_N35_.w hW)).2 (by decide) (by (exact zo_1013 hc_8 hu34_a i37_)) (by (exact zo_831 gb.2.2.2.2.2 hc_43)) (zdal_p dlD_M_peaks_63 (i := 7) rfl) (fun v72_ hv72_ hv72_a hv72_b => ?_)
                refine zw_lconst (pc := 52) (v := Int64.ofInt 0) (by decide) (zdal_p dlD_M_peaks_63 (i := 8) rfl) ?_
                refine zr_lcmp (pc := 53) ⟨hv72_a, hv72_b⟩ ⟨(by decide), (by decide)⟩ (zdal_p dlD_M_peaks_63 (i := 9) rfl) ?_
                have hr73_ := zcmp_s v72_ 0
                refine zr_if_eq (pc := 54) (tgt := 101) ⟨(by (exact zo_71 hr73_)), (by (exact zo_72 hr73_))⟩ (by decide) (zdal_p dlD_M_peaks_63 (i := 10) rfl) (fun hc_54 => ?_) (fun hc_54 => ?_)
                · skip
                  refine zr_iinc (pc := 101) (i := 3) (a := u34_) (n := 1) (L2 := [some (.ref 81), some (.int (Int32.ofInt a0_)), some (.int (Int32.ofInt u1_)), some (.int (Int32.ofInt (u34_ + 1))), none, none, none, none, none]) rfl (by decide) rfl (zdal_p dlD_M_peaks_64 (i := 17) rfl) ?_
                  refine zw_goto (pc := 104) (tgt := 38) (by decide) (zdal_p dlD_M_peaks_64 (i := 18) rfl) ?_
                  have hR_ : zg N35_ 81 53 = 1 ∧ zg N35_ 81 52 = gds T D (a0_).toNat (u1_).toNat ((u34_ + 1) - u1_ - 1).toNat := by first | exact hS_ | exact ⟨by assumption, zpk_i0 hO hD (by (exact hc_8)) (by (exact i37_)) (by (exact zo_1014 gfl hc_43)) (show zPk T D (a0_).toNat (u1_ + 1).toNat N35_ by first | with_reducible assumption | assumption) (by first | with_reducible assumption | assumption) (by omega)⟩
                  have hK_ : zPk T D (a0_).toNat (u1_ + 1).toNat N35_ := by first | with_reducible assumption | exact zPk.fr hsN35_ (by first | with_reducible assumption | assumption) (by decide) | assumption
                  exact ih_38 (u34_ + 1) (by (exact zo_679 hu34_a)) (by (exact zo_832 gb.2.2.2.2.2 hc_43)) N35_ hs36_ (show u1_ + 1 ≤ (u34_ + 1) by first | with_reducible assumption | (exact zo_900 i37_) | assumption) (show (u34_ + 1) ≤ ze Mz 81 26 by first | with_reducible assumption | assumption | omega) (show zg N35_ 81 53 = 1 by exact hR_.1) (show zg N35_ 81 52 = gds T D (a0_).toNat (u1_).toNat ((u34_ + 1) - u1_ - 1).toNat by exact hR_.2) (show zPk T D (a0_).toNat (u1_ + 1).toNat N35_ by exact hK_) (by (exact zo_147 hc_43 hlt_38))
                · skip
                  refine zw_aload_n (pc := 57) (n := 0) (x := 81) rfl (zdal_p dlD_M_peaks_63 (i := 11) rfl) ?_
                  refine zr_getF (r := 93) (hf_N35_.w hW) (pc := 58) f_M_50 rfl (zh_93 (hf_N35_.w hW)).1 (zdal_p dlD_M_peaks_63 (i := 12) rfl) ?_
                  refine zw_bipush (pc := 61) (v := Int32.ofInt 64) (by decide) (zdal_p dlD_M_peaks_63 (i := 13) rfl) ?_
                  refine zw_iload_n (pc := 63) (n := 3) (x := Int32.ofInt u34_) rfl (zdal_p dlD_M_peaks_63 (i := 14) rfl) ?_
                  refine zr_imul (pc := 64) (zdal_p dlD_M_peaks_63 (i := 15) rfl) ?_
                  refine zw_iload_n (pc := 65) (n := 2) (x := Int32.ofInt u1_) rfl (zdal_p dlD_M_peaks_63 (i := 16) rfl) ?_
                  refine zr_iadd (pc := 66) (zdal_p dlD_M_peaks_63 (i := 17) rfl) ?_
                  refine zr_ialdn (pc := 67) (zh_93 (hf_N35_.w hW)).2 (by decide) (by (exact zo_898 hc_8 i37_)) (by (exact zo_1015 gb.2.2.2.2.2 hc_43 i5_)) (zdal_p dlD_M_peaks_63 (i := 18) rfl) (fun v74_ hv74_ hv74_a hv74_b => ?_)
                  rw [hf_N35_.ie (by decide) (by decide)] at hv74_
                  have hmk_ := zGB_mk p0_ (i := u34_) (k := u1_) (by (exact zo_1013 hc_8 hu34_a i37_)) (by (exact hc_43)) (by (exact hc_8)) (by (exact i5_))
                  have hmb_ := gmkI_b hG (u34_).toNat (u1_).toNat
                  refine zr_if_eq (pc := 68) (tgt := 101) ⟨hv74_a, hv74_b⟩ (by decide) (zdal_p dlD_M_peaks_63 (i := 19) rfl) (fun hc_68 => ?_) (fun hc_68 => ?_)
                  · skip
                    refine zr_iinc (pc := 101) (i := 3) (a := u34_) (n := 1) (L2 := [some (.ref 81), some (.int (Int32.ofInt a0_)), some (.int (Int32.ofInt u1_)), some (.int (Int32.ofInt (u34_ + 1))), none, none, none, none, none]) rfl (by decide) rfl (zdal_p dlD_M_peaks_64 (i := 17) rfl) ?_
                    refine zw_goto (pc := 104) (tgt := 38) (by decide) (zdal_p dlD_M_peaks_64 (i := 18) rfl) ?_
                    have hR_ : zg N35_ 81 53 = 1 ∧ zg N35_ 81 52 = gds T D (a0_).toNat (u1_).toNat ((u34_ + 1) - u1_ - 1).toNat := by first | exact hS_ | exact ⟨by assumption, zpk_i0 hO hD (by (exact hc_8)) (by (exact i37_)) (by (exact zo_1014 gfl hc_43)) (show zPk T D (a0_).toNat (u1_ + 1).toNat N35_ by first | with_reducible assumption | assumption) (by first | with_reducible assumption | assumption) (by (exact zo_1016 hc_68 hmb_.1 hmb_.2 hmk_ hpb_.1.1 hv74_))⟩
                    have hK_ : zPk T D (a0_).toNat (u1_ + 1).toNat N35_ := by first | with_reducible assumption | exact zPk.fr hsN35_ (by first | with_reducible assumption | assumption) (by decide) | assumption
                    exact ih_38 (u34_ + 1) (by (exact zo_679 hu34_a)) (by (exact zo_832 gb.2.2.2.2.2 hc_43)) N35_ hs36_ (show u1_ + 1 ≤ (u34_ + 1) by first | with_reducible assumption | (exact zo_900 i37_) | assumption) (show (u34_ + 1) ≤ ze Mz 81 26 by first | with_reducible assumption | assumption | omega) (show zg N35_ 81 53 = 1 by exact hR_.1) (show zg N35_ 81 52 = gds T D (a0_).toNat (u1_).toNat ((u34_ + 1) - u1_ - 1).toNat by exact hR_.2) (show zPk T D (a0_).toNat (u1_ + 1).toNat N35_ by exact hK_) (by (exact zo_147 hc_43 hlt_38))
                  · skip
                    refine zw_aload_n (pc := 71) (n := 0) (x := 81) rfl (zdal_p dlD_M_peaks_63 (i := 20) rfl) ?_
                    refine zw_aload_n (pc := 72) (n := 0) (x := 81) rfl (zdal_p dlD_M_peaks_63 (i := 21) rfl) ?_
                    refine zr_getF (r := 107) (hf_N35_.w hW) (pc := 73) f_M_93 rfl (zh_107 (hf_N35_.w hW)).1 (zdal_p dlD_M_peaks_63 (i := 22) rfl) ?_
                    refine zw_iload_n (pc := 76) (n := 3) (x := Int32.ofInt u34_) rfl (zdal_p dlD_M_peaks_63 (i := 23) rfl) ?_
                    refine zr_laldn (pc := 77) (zh_107 (hf_N35_.w hW)).2 (by decide) (by (exact zo_1013 hc_8 hu34_a i37_)) (by (exact zo_831 gb.2.2.2.2.2 hc_43)) (zdal_p dlD_M_peaks_64 (i := 0) rfl) (fun v75_ hv75_ hv75_a hv75_b => ?_)
                    refine zr_lneg (pc := 78) (zdal_p dlD_M_peaks_64 (i := 1) rfl) ?_
                    refine zw_aload_n (pc := 79) (n := 0) (x := 81) rfl (zdal_p dlD_M_peaks_64 (i := 2) rfl) ?_
                    refine zr_getF (r := 93) (hf_N35_.w hW) (pc := 80) f_M_50 rfl (zh_93 (hf_N35_.w hW)).1 (zdal_p dlD_M_peaks_64 (i := 3) rfl) ?_
                    refine zw_bipush (pc := 83) (v := Int32.ofInt 64) (by decide) (zdal_p dlD_M_peaks_64 (i := 4) rfl) ?_
                    refine zw_iload_n (pc := 85) (n := 3) (x := Int32.ofInt u34_) rfl (zdal_p dlD_M_peaks_64 (i := 5) rfl) ?_
                    refine zr_imul (pc := 86) (zdal_p dlD_M_peaks_64 (i := 6) rfl) ?_
                    refine zw_iload_n (pc := 87) (n := 2) (x := Int32.ofInt u1_) rfl (zdal_p dlD_M_peaks_64 (i := 7) rfl) ?_
                    refine zr_iadd (pc := 88) (zdal_p dlD_M_peaks_64 (i := 8) rfl) ?_
                    refine zr_ialdn (pc := 89) (zh_93 (hf_N35_.w hW)).2 (by decide) (by (exact zo_898 hc_8 i37_)) (by (exact zo_1015 gb.2.2.2.2.2 hc_43 i5_)) (zdal_p dlD_M_peaks_64 (i := 9) rfl) (fun v76_ hv76_ hv76_a hv76_b => ?_)
                    rw [hf_N35_.ie (by decide) (by decide)] at hv76_
                    refine zr_i2l (pc := 90) ⟨hv76_a, hv76_b⟩ (zdal_p dlD_M_peaks_64 (i := 10) rfl) ?_
                    refine zr_lmul (pc := 91) (zdal_p dlD_M_peaks_64 (i := 11) rfl) ?_
                    have hpm_ : -24000 ≤ ((-v75_) * v76_) ∧ ((-v75_) * v76_) ≤ 24000 := zmb24 (by (exact zo_1017 hpb_.1.2 hv75_)) (by (exact zo_1018 hpb_.1.1 hv75_)) (by (exact zo_1019 hmb_.1 hmk_ hv76_ hv76_a)) (by (exact zo_1020 hmb_.2 hmk_ hv76_ hv76_b))
                    have hgb_ := gds_b hO hD (j := (a0_).toNat) (k := (u1_).toNat) (by (exact zo_1001 gb.2.2.2.2.2 gfl p1_ p2_)) (u34_ - u1_ - 1).toNat (by (exact zo_1021 gb.2.2.2.2.2 gfl hc_43 hc_8 i37_))
                    refine zw_aload_n (pc := 92) (n := 0) (x := 81) rfl (zdal_p dlD_M_peaks_64 (i := 12) rfl) ?_
                    refine zr_getF (r := 108) (hf_N35_.w hW) (pc := 93) f_M_96 rfl (zh_108 (hf_N35_.w hW)).1 (zdal_p dlD_M_peaks_64 (i := 13) rfl) ?_
                    refine zw_iload_n (pc := 96) (n := 3) (x := Int32.ofInt u34_) rfl (zdal_p dlD_M_peaks_64 (i := 14) rfl) ?_
                    refine zr_laldn (pc := 97) (zh_108 (hf_N35_.w hW)).2 (by decide) (by (exact zo_1022 hc_8 i37_)) (by (exact zo_831 gb.2.2.2.2.2 hc_43)) (zdal_p dlD_M_peaks_64 (i := 15) rfl) (fun v77_ hv77_ hv77_a hv77_b => ?_)
                    refine zr_callV (hf_N35_.w hW) hf_N35_.x (pc := 98) [.long (Int64.ofInt ((-v75_) * v76_)), .long (Int64.ofInt v77_)] [] l_M_446 (c_M_sumWith l N35_ (hf_N35_.w hW) ((-v75_) * v76_) (by omega) (by omega) v77_ hv77_a hv77_b (show -1000000000 ≤ zg N35_ 81 52 by first | with_reducible assumption | assumption | omega) (show zg N35_ 81 52 ≤ 1000000000 by first | with_reducible assumption | assumption | omega) (show 1 ≤ zg N35_ 81 53 by first | with_reducible assumption | (exact zo_712 i39_) | assumption) (show zg N35_ 81 53 ≤ 1000 by first | with_reducible assumption | (exact zo_1023 i39_) | assumption) (show -1000000000 ≤ ((-v75_) * v76_) by first | with_reducible assumption | assumption | omega) (show ((-v75_) * v76_) ≤ 1000000000 by first | with_reducible assumption | assumption | omega) (show 1 ≤ v77_ by first | with_reducible assumption | (exact zo_1024 hpb_.2.1 hv77_) | assumption) (show v77_ ≤ 1000 by first | with_reducible assumption | (exact zo_1025 hpb_.2.2 hv77_ hv77_b) | assumption)) rfl rfl rfl (by decide) (Nat.le_of_ble_eq_true rfl) (zdal_p dlD_M_peaks_64 (i := 16) rfl) ?_
                    rintro _ N78_ ⟨rfl, hsN78_, hp0_N78_⟩
                    replace hp0_N78_ : zSw (zg N35_ 81 52) (zg N35_ 81 53) ((-v75_) * v76_) v77_ (zg N78_ 81 52) (zg N78_ 81 53) := hp0_N78_
                    have hf_N78_ : zFr [52, 53] [107, 108] Mz N78_ := hf_N35_.tr hsN78_ (by decide) (by decide)
                    have hb0_N78_ : zFr [52, 53] [107, 108] Mz N78_ := hb0_N35_.tr hsN78_ (by decide) (by decide)
                    have hb1_N78_ : zFr [52, 53] [] N26_ N78_ := hs36_.tr hsN78_ (by decide) (by decide)
                    have e26_N78_ : ze N78_ 81 26 = ze N35_ 81 26 := hsN78_.e (by decide)
                    have c80_ : zGB T N78_ := zGB.fr hsN78_ c42_ (by decide) (by decide)
                    have c81_ : zTab T N78_ := zTab.fr hsN78_ c43_ (by decide) (by decide)
                    have c82_ : zB 85 144 0 5 N78_ := zB.fr hsN78_ c44_ (by decide) (by decide)
                    have c83_ : zJX T N78_ := zJX.fr hsN78_ c45_ (by decide) (by decide)
                    have c84_ : zFirs T N78_ := zFirs.fr hsN78_ c46_ (by decide) (by decide)
                    have c85_ : zSSm T N78_ := zSSm.fr hsN78_ c47_ (by decide) (by decide)
                    have c86_ : zGD N78_ := zGD.fr hsN78_ c48_ (by decide) (by decide)
                    show zW l m_M_peaks (zn Mz + 0, zw Mz + 0) N78_ 101 [some (.ref 81), some (.int (Int32.ofInt a0_)), some (.int (Int32.ofInt u1_)), some (.int (Int32.ofInt u34_)), none, none, none, none, none] [] _
                    have hS_ := zpk_i1 hO hD (i := u34_) (k := u1_) hp0_N78_ (by (exact hc_8)) (by (exact i37_)) (by (exact zo_1014 gfl hc_43)) (show zPk T D (a0_).toNat (u1_ + 1).toNat N35_ by first | with_reducible assumption | assumption) (by first | with_reducible assumption | assumption) (by first | with_reducible assumption | assumption) (by first | with_reducible assumption | assumption) (by (exact zo_1026 hmb_.1 hmb_.2 hmk_ hv76_ hv76_a hv76_b)) (by first | with_reducible assumption | assumption)
                    refine zr_iinc (pc := 101) (i := 3) (a := u34_) (n := 1) (L2 := [some (.ref 81), some (.int (Int32.ofInt a0_)), some (.int (Int32.ofInt u1_)), some (.int (Int32.ofInt (u34_ + 1))), none, none, none, none, none]) rfl (by decide) rfl (zdal_p dlD_M_peaks_64 (i := 17) rfl) ?_
                    refine zw_goto (pc := 104) (tgt := 38) (by decide) (zdal_p dlD_M_peaks_64 (i := 18) rfl) ?_
                    have hR_ : zg N78_ 81 53 = 1 ∧ zg N78_ 81 52 = gds T D (a0_).toNat (u1_).toNat ((u34_ + 1) - u1_ - 1).toNat := by first | exact hS_ | exact ⟨by assumption, zpk_i0 hO hD (by omega) (by omega) (by omega) (show zPk T D (a0_).toNat (u1_ + 1).toNat N78_ by first | with_reducible assumption | assumption) (by first | with_reducible assumption | assumption) (by omega)⟩
                    have hK_ : zPk T D (a0_).toNat (u1_ + 1).toNat N78_ := by first | with_reducible assumption | exact zPk.fr hsN78_ (by first | with_reducible assumption | assumption) (by decide) | assumption
                    exact ih_38 (u34_ + 1) (by (exact zo_1027 hc_8 i37_)) (by (exact zo_832 gb.2.2.2.2.2 hc_43)) N78_ hb1_N78_ (show u1_ + 1 ≤ (u34_ + 1) by first | with_reducible assumption | (exact zo_900 i37_) | assumption) (show (u34_ + 1) ≤ ze Mz 81 26 by first | with_reducible assumption | assumption | omega) (show zg N78_ 81 53 = 1 by exact hR_.1) (show zg N78_ 81 52 = gds T D (a0_).toNat (u1_).toNat ((u34_ + 1) - u1_ - 1).toNat by exact hR_.2) (show zPk T D (a0_).toNat (u1_ + 1).toNat N78_ by exact hK_) (by (exact zo_1028 gb.2.2.2.2.2 hc_43 hc_8 hlt_38 i37_))
          exact lp_38 _ (u1_ + 1) (by (exact zo_74 hc_8)) (by (exact zo_1029 gb.2.2.2.2.2 hu1_b i5_)) N26_ zFr.rf (show u1_ + 1 ≤ (u1_ + 1) by first | with_reducible assumption | (exact zo_902) | assumption) (show (u1_ + 1) ≤ ze Mz 81 26 by first | with_reducible assumption | assumption | omega) (show zg N26_ 81 53 = 1 by exact h53_) (show zg N26_ 81 52 = gds T D (a0_).toNat (u1_).toNat ((u1_ + 1) - u1_ - 1).toNat by rw [h52_, show ((u1_ + 1) - u1_ - 1).toNat = 0 by (exact zo_1030)]; show _ = (if (u1_).toNat = (a0_).toNat then (1 : Int) else 0); omega) (show zPk T D (a0_).toNat (u1_ + 1).toNat N26_ by exact zPk.fr hsN26_ (zPk.fr hsN18_ (by first | with_reducible assumption | assumption) (by decide)) (by decide)) (Nat.lt_succ_self _)
        refine zr_icmp_ne (pc := 14) (tgt := 21) ⟨hu1_a, hu1_b⟩ ⟨ha0_a, ha0_b⟩ (by decide) (zdal_p dlD_M_peaks_62 (i := 10) rfl) (fun hc_14 => ?_) (fun hc_14 => ?_)
        · skip
          refine zw_iconst (pc := 21) (v := Int32.ofInt 0) (by decide) (zdal_p dlD_M_peaks_62 (i := 13) rfl) ?_
          exact j_22 0 (by decide) (by decide) (by (decide)) (show 0 = (if (u1_).toNat = (a0_).toNat then 1 else 0) by first | (rw [if_pos (by omega)]) | (rw [if_neg (by (exact zo_1031 hc_8 p1_ hc_14))]))
        · skip
          refine zw_iconst (pc := 17) (v := Int32.ofInt 1) (by decide) (zdal_p dlD_M_peaks_62 (i := 11) rfl) ?_
          refine zw_goto (pc := 18) (tgt := 22) (by decide) (zdal_p dlD_M_peaks_62 (i := 12) rfl) ?_
          exact j_22 1 (by decide) (by decide) (by (decide)) (show 1 = (if (u1_).toNat = (a0_).toNat then 1 else 0) by first | (rw [if_pos (by (exact zo_1032 ha0_b hc_14 hc_8 hu1_b p1_))]) | (rw [if_neg (by omega)]))
  exact lp_7 _ ((ze Mz 81 26) - 1) (by (exact zo_63 gb.2.2.2.2.1)) (by (exact zo_903 gb.2.2.2.2.2)) Mz zFr.rf (show -1 ≤ ((ze Mz 81 26) - 1) by first | with_reducible assumption | (exact zo_973 gb.2.2.2.2.1) | assumption) (show ((ze Mz 81 26) - 1) < ze Mz 81 26 by first | with_reducible assumption | (exact zo_89) | assumption) (show zPk T D (a0_).toNat (((ze Mz 81 26) - 1) + 1).toNat Mz by exact zPk_0 (by (exact zo_1033 gf6.2 gfl))) (Nat.lt_succ_self _)
set_option maxHeartbeats 4000000 in
theorem c_M_peak (l : Launch) (Mz : zMem) (hW : zMt Mz) (a0_ : Int) (ha0_a : -2147483648 ≤ a0_) (ha0_b : a0_ < 2147483648) (a1_ : Int) (ha1_a : -2147483648 ≤ a1_) (ha1_b : a1_ < 2147483648) (a2_ : Int) (ha2_a : -2147483648 ≤ a2_) (ha2_b : a2_ < 2147483648) (T : zGT) (hO : gOK T) (D : Nat → Nat → Int) (hD : gDs T D) (p0_ : zGB T Mz) : zC l m_M_peak 0 0 [.ref 81, .int (Int32.ofInt a0_), .int (Int32.ofInt a1_), .int (Int32.ofInt a2_)] Mz (zpI [52, 53] [107, 108] Mz (fun v N => True)) := by
  refine zC_of (L0 := [some (.ref 81), some (.int (Int32.ofInt a0_)), some (.int (Int32.ofInt a1_)), some (.int (Int32.ofInt a2_))]) md_M_peak (Nat.le_of_ble_eq_true rfl) rfl ?_ zQ0
  have hf : zFr [52, 53] [107, 108] Mz Mz := zFr.rf
  have r_26 := ze_r Mz 81 26
  have hG := hO.1
  have g24 := hG.2.1
  have g1 := hG.1
  have dv0 : zTab T Mz := p0_.1
  have dv1 : zB 85 144 0 5 Mz := p0_.2.1
  have dv2 : zJX T Mz := p0_.2.2.1
  have dv3 : zFirs T Mz := p0_.2.2.2.1
  have dv4 : zSSm T Mz := p0_.2.2.2.2.1
  have dv5 : zGD Mz := zGB.d hO p0_
  have gb := dv5.1
  have gn := dv0.1
  refine zw_aload_n (pc := 0) (n := 0) (x := 81) rfl (zdal_p dlD_M_peak_60 (i := 0) rfl) ?_
  refine zw_iload_n (pc := 1) (n := 1) (x := Int32.ofInt a0_) rfl (zdal_p dlD_M_peak_60 (i := 1) rfl) ?_
  refine zr_callV (hf.w hW) hf.x (pc := 2) [.int (Int32.ofInt a0_)] [] l_M_414 (c_M_isSort l Mz (hf.w hW) a0_ ha0_a ha0_b T hO p0_) rfl rfl rfl (by decide) (Nat.le_of_ble_eq_true rfl) (zdal_p dlD_M_peak_60 (i := 2) rfl) ?_
  rintro _ N1_ ⟨v2_, rfl, ⟨hv2_a, hv2_b⟩, hsN1_, hp0_N1_⟩
  obtain rfl := hsN1_.eq.symm
  replace hp0_N1_ : ((v2_ = 1 ∧ 0 ≤ a0_ ∧ a0_ < ze Mz 81 26) ∨ (v2_ = 0)) := hp0_N1_
  rcases hp0_N1_ with ⟨rfl, ha2_0_hp0_N1_, ha2_1_hp0_N1_⟩ | rfl
  · skip
    show zW l m_M_peak (zn Mz + 0, zw Mz + 0) Mz 5 [some (.ref 81), some (.int (Int32.ofInt a0_)), some (.int (Int32.ofInt a1_)), some (.int (Int32.ofInt a2_))] [.int (Int32.ofInt 1)] _
    refine zr_if_eq (pc := 5) (tgt := 26) ⟨(by decide), (by decide)⟩ (by decide) (zdal_p dlD_M_peak_60 (i := 3) rfl) (fun hc_5 => ?_) (fun hc_5 => ?_)
    · skip
      exact absurd hc_5 (by decide)
    · skip
      refine zw_aload_n (pc := 8) (n := 0) (x := 81) rfl (zdal_p dlD_M_peak_60 (i := 4) rfl) ?_
      refine zw_iload_n (pc := 9) (n := 2) (x := Int32.ofInt a1_) rfl (zdal_p dlD_M_peak_60 (i := 5) rfl) ?_
      refine zr_callV (hf.w hW) hf.x (pc := 10) [.int (Int32.ofInt a1_)] [] l_M_414 (c_M_isSort l Mz (hf.w hW) a1_ ha1_a ha1_b T hO p0_) rfl rfl rfl (by decide) (Nat.le_of_ble_eq_true rfl) (zdal_p dlD_M_peak_60 (i := 6) rfl) ?_
      rintro _ N3_ ⟨v4_, rfl, ⟨hv4_a, hv4_b⟩, hsN3_, hp0_N3_⟩
      obtain rfl := hsN3_.eq.symm
      replace hp0_N3_ : ((v4_ = 1 ∧ 0 ≤ a1_ ∧ a1_ < ze Mz 81 26) ∨ (v4_ = 0)) := hp0_N3_
      rcases hp0_N3_ with ⟨rfl, ha10_0_hp0_N3_, ha10_1_hp0_N3_⟩ | rfl
      · skip
        show zW l m_M_peak (zn Mz + 0, zw Mz + 0) Mz 13 [some (.ref 81), some (.int (Int32.ofInt a0_)), some (.int (Int32.ofInt a1_)), some (.int (Int32.ofInt a2_))] [.int (Int32.ofInt 1)] _
        refine zr_if_eq (pc := 13) (tgt := 26) ⟨(by decide), (by decide)⟩ (by decide) (zdal_p dlD_M_peak_60 (i := 7) rfl) (fun hc_13 => ?_) (fun hc_13 => ?_)
        · skip
          exact absurd hc_13 (by decide)
        · skip
          refine zw_iload_n (pc := 16) (n := 3) (x := Int32.ofInt a2_) rfl (zdal_p dlD_M_peak_60 (i := 8) rfl) ?_
          refine zr_i2l (pc := 17) ⟨ha2_a, ha2_b⟩ (zdal_p dlD_M_peak_60 (i := 9) rfl) ?_
          refine zw_lconst (pc := 18) (v := Int64.ofInt 0) (by decide) (zdal_p dlD_M_peak_60 (i := 10) rfl) ?_
          refine zw_lconst (pc := 19) (v := Int64.ofInt 1) (by decide) (zdal_p dlD_M_peak_60 (i := 11) rfl) ?_
          refine zr_callS hf.x (pc := 20) [.long (Int64.ofInt a2_), .long (Int64.ofInt 0), .long (Int64.ofInt 1)] [] l_M_131 (c_M_isIn l Mz (hf.w hW) a2_ (by (exact zo_282 ha2_a)) (by (exact zo_283 ha2_b)) 0 (by decide) (by decide) 1 (by decide) (by decide)) rfl rfl (by decide) (Nat.le_of_ble_eq_true rfl) (zdal_p dlD_M_peak_60 (i := 12) rfl) ?_
          rintro _ N5_ ⟨v6_, rfl, ⟨hv6_a, hv6_b⟩, hsN5_, hp0_N5_⟩
          obtain rfl := hsN5_.eq.symm
          replace hp0_N5_ : ((v6_ = 1 ∧ 0 ≤ a2_ ∧ a2_ ≤ 1) ∨ (v6_ = 0 ∧ (a2_ < 0 ∨ 1 < a2_))) := hp0_N5_
          rcases hp0_N5_ with ⟨rfl, ha20_0_hp0_N5_, ha20_1_hp0_N5_⟩ | ⟨rfl, ha20_0_hp0_N5_⟩
          · skip
            show zW l m_M_peak (zn Mz + 0, zw Mz + 0) Mz 23 [some (.ref 81), some (.int (Int32.ofInt a0_)), some (.int (Int32.ofInt a1_)), some (.int (Int32.ofInt a2_))] [.int (Int32.ofInt 1)] _
            refine zr_if_ne (pc := 23) (tgt := 30) ⟨(by decide), (by decide)⟩ (by decide) (zdal_p dlD_M_peak_60 (i := 13) rfl) (fun hc_23 => ?_) (fun hc_23 => ?_)
            · skip
              refine zw_aload_n (pc := 30) (n := 0) (x := 81) rfl (zdal_p dlD_M_peak_60 (i := 16) rfl) ?_
              refine zw_iload_n (pc := 31) (n := 1) (x := Int32.ofInt a0_) rfl (zdal_p dlD_M_peak_60 (i := 17) rfl) ?_
              refine zr_callV (hf.w hW) hf.x (pc := 32) [.int (Int32.ofInt a0_)] [] l_M_450 (c_M_peaks l Mz (hf.w hW) a0_ ha0_a ha0_b T hO D hD p0_ (show 0 ≤ a0_ by first | with_reducible assumption | assumption | omega) (show a0_ < ze Mz 81 26 by first | with_reducible assumption | assumption | omega)) rfl rfl rfl (by decide) (Nat.le_of_ble_eq_true rfl) (zdal_p dlD_M_peak_60 (i := 18) rfl) ?_
              rintro _ N7_ ⟨rfl, hsN7_, hp0_N7_⟩
              replace hp0_N7_ : zPk T D (a0_).toNat 0 N7_ := hp0_N7_
              have hf_N7_ : zFr [52, 53] [107, 108] Mz N7_ := hf.tr hsN7_ (by decide) (by decide)
              show zW l m_M_peak (zn Mz + 0, zw Mz + 0) N7_ 35 [some (.ref 81), some (.int (Int32.ofInt a0_)), some (.int (Int32.ofInt a1_)), some (.int (Int32.ofInt a2_))] [] _
              refine zw_iload_n (pc := 35) (n := 3) (x := Int32.ofInt a2_) rfl (zdal_p dlD_M_peak_60 (i := 19) rfl) ?_
              refine zr_if_ne (pc := 36) (tgt := 48) ⟨ha2_a, ha2_b⟩ (by decide) (zdal_p dlD_M_peak_60 (i := 20) rfl) (fun hc_36 => ?_) (fun hc_36 => ?_)
              · skip
                refine zw_aload_n (pc := 48) (n := 0) (x := 81) rfl (zdal_p dlD_M_peak_61 (i := 2) rfl) ?_
                refine zr_getF (r := 108) (hf_N7_.w hW) (pc := 49) f_M_96 rfl (zh_108 (hf_N7_.w hW)).1 (zdal_p dlD_M_peak_61 (i := 3) rfl) ?_
                refine zw_iload_n (pc := 52) (n := 2) (x := Int32.ofInt a1_) rfl (zdal_p dlD_M_peak_61 (i := 4) rfl) ?_
                refine zr_laldn (pc := 53) (zh_108 (hf_N7_.w hW)).2 (by decide) (by (exact ha10_0_hp0_N3_)) (by (exact zo_837 gb.2.2.2.2.2 ha10_1_hp0_N3_ ha1_b)) (zdal_p dlD_M_peak_61 (i := 5) rfl) (fun v16_ hv16_ hv16_a hv16_b => ?_)
                refine zr_l2i (pc := 54) (zdal_p dlD_M_peak_61 (i := 6) rfl) ?_
                refine zr_nmI (fun v17_ hv17_ => ?_)
                obtain ⟨hv17_a, hv17_b⟩ := hv17_
                exact zr_iret (pc := 55) (ty := .int) rfl rfl ⟨by (exact hv17_a), by (exact hv17_b)⟩ hf_N7_ trivial (zdal_p dlD_M_peak_61 (i := 7) rfl)
              · skip
                refine zw_aload_n (pc := 39) (n := 0) (x := 81) rfl (zdal_p dlD_M_peak_60 (i := 21) rfl) ?_
                refine zr_getF (r := 107) (hf_N7_.w hW) (pc := 40) f_M_93 rfl (zh_107 (hf_N7_.w hW)).1 (zdal_p dlD_M_peak_60 (i := 22) rfl) ?_
                refine zw_iload_n (pc := 43) (n := 2) (x := Int32.ofInt a1_) rfl (zdal_p dlD_M_peak_60 (i := 23) rfl) ?_
                refine zr_laldn (pc := 44) (zh_107 (hf_N7_.w hW)).2 (by decide) (by (exact ha10_0_hp0_N3_)) (by (exact zo_837 gb.2.2.2.2.2 ha10_1_hp0_N3_ ha1_b)) (zdal_p dlD_M_peak_61 (i := 0) rfl) (fun v18_ hv18_ hv18_a hv18_b => ?_)
                refine zw_goto (pc := 45) (tgt := 54) (by decide) (zdal_p dlD_M_peak_61 (i := 1) rfl) ?_
                refine zr_l2i (pc := 54) (zdal_p dlD_M_peak_61 (i := 6) rfl) ?_
                refine zr_nmI (fun v19_ hv19_ => ?_)
                obtain ⟨hv19_a, hv19_b⟩ := hv19_
                exact zr_iret (pc := 55) (ty := .int) rfl rfl ⟨by (exact hv19_a), by (exact hv19_b)⟩ hf_N7_ trivial (zdal_p dlD_M_peak_61 (i := 7) rfl)
            · skip
              exact absurd hc_23 (by decide)
          · skip
            show zW l m_M_peak (zn Mz + 0, zw Mz + 0) Mz 23 [some (.ref 81), some (.int (Int32.ofInt a0_)), some (.int (Int32.ofInt a1_)), some (.int (Int32.ofInt a2_))] [.int (Int32.ofInt 0)] _
            refine zr_if_ne (pc := 23) (tgt := 30) ⟨(by decide), (by decide)⟩ (by decide) (zdal_p dlD_M_peak_60 (i := 13) rfl) (fun hc_23 => ?_) (fun hc_23 => ?_)
            · skip
              exact absurd hc_23 (by decide)
            · skip
              refine zw_ldcw (pc := 26) (v := Int32.ofInt (-1000000)) (by rw [show Int32.ofInt (-1000000) = ((-1000000) : Int32) by decide]; exact k_M_435) (zdal_p dlD_M_peak_60 (i := 14) rfl) ?_
              exact zr_iret (pc := 29) (ty := .int) rfl rfl ⟨by (decide), by (decide)⟩ hf trivial (zdal_p dlD_M_peak_60 (i := 15) rfl)
      · skip
        show zW l m_M_peak (zn Mz + 0, zw Mz + 0) Mz 13 [some (.ref 81), some (.int (Int32.ofInt a0_)), some (.int (Int32.ofInt a1_)), some (.int (Int32.ofInt a2_))] [.int (Int32.ofInt 0)] _
        refine zr_if_eq (pc := 13) (tgt := 26) ⟨(by decide), (by decide)⟩ (by decide) (zdal_p dlD_M_peak_60 (i := 7) rfl) (fun hc_13 => ?_) (fun hc_13 => ?_)
        · skip
          refine zw_ldcw (pc := 26) (v := Int32.ofInt (-1000000)) (by rw [show Int32.ofInt (-1000000) = ((-1000000) : Int32) by decide]; exact k_M_435) (zdal_p dlD_M_peak_60 (i := 14) rfl) ?_
          exact zr_iret (pc := 29) (ty := .int) rfl rfl ⟨by (decide), by (decide)⟩ hf trivial (zdal_p dlD_M_peak_60 (i := 15) rfl)
        · skip
          exact absurd hc_13 (by decide)
  · skip
    show zW l m_M_peak (zn Mz + 0, zw Mz + 0) Mz 5 [some (.ref 81), some (.int (Int32.ofInt a0_)), some (.int (Int32.ofInt a1_)), some (.int (Int32.ofInt a2_))] [.int (Int32.ofInt 0)] _
    refine zr_if_eq (pc := 5) (tgt := 26) ⟨(by decide), (by decide)⟩ (by decide) (zdal_p dlD_M_peak_60 (i := 3) rfl) (fun hc_5 => ?_) (fun hc_5 => ?_)
    · skip
      refine zw_ldcw (pc := 26) (v := Int32.ofInt (-1000000)) (by rw [show Int32.ofInt (-1000000) = ((-1000000) : Int32) by decide]; exact k_M_435) (zdal_p dlD_M_peak_60 (i := 14) rfl) ?_
      exact zr_iret (pc := 29) (ty := .int) rfl rfl ⟨by (decide), by (decide)⟩ hf trivial (zdal_p dlD_M_peak_60 (i := 15) rfl)
    · skip
      exact absurd hc_5 (by decide)
set_option maxHeartbeats 4000000 in
theorem c_M_holdsB (l : Launch) (Mz : zMem) (hW : zMt Mz) (a0_ : Int) (ha0_a : -2147483648 ≤ a0_) (ha0_b : a0_ < 2147483648) (a1_ : Int) (ha1_a : -2147483648 ≤ a1_) (ha1_b : a1_ < 2147483648) : zC l m_M_holds 0 0 [.int (Int32.ofInt a0_), .int (Int32.ofInt a1_)] Mz (zpI [] [] Mz (fun v N => ((v = 0 ∨ v = 1)))) := by
  refine zC_of (L0 := [some (.int (Int32.ofInt a0_)), some (.int (Int32.ofInt a1_))]) md_M_holds (Nat.le_of_ble_eq_true rfl) rfl ?_ zQ0
  have hf : zFr [] [] Mz Mz := zFr.rf
  refine zw_iload_n (pc := 0) (n := 0) (x := Int32.ofInt a0_) rfl (zdal_p dlC_M_holds_29 (i := 0) rfl) ?_
  refine zw_iload_n (pc := 1) (n := 1) (x := Int32.ofInt a1_) rfl (zdal_p dlC_M_holds_29 (i := 1) rfl) ?_
  refine zr_ishr (pc := 2) (zdal_p dlC_M_holds_29 (i := 2) rfl) ?_
  have hr1_ := zshr_r a0_ a1_
  refine zw_iconst (pc := 3) (v := Int32.ofInt 1) (by decide) (zdal_p dlC_M_holds_29 (i := 3) rfl) ?_
  refine zr_iand (pc := 4) (zdal_p dlC_M_holds_29 (i := 4) rfl) ?_
  have hr2_ := zand_r (zshr a0_ a1_) 1
  refine zw_iconst (pc := 5) (v := Int32.ofInt 1) (by decide) (zdal_p dlC_M_holds_29 (i := 5) rfl) ?_
  refine zr_icmp_ne (pc := 6) (tgt := 13) ⟨(by (exact zo_284 hr2_.1)), (by (exact zo_285 hr2_.2))⟩ ⟨(by decide), (by decide)⟩ (by decide) (zdal_p dlC_M_holds_29 (i := 6) rfl) (fun hc_6 => ?_) (fun hc_6 => ?_)
  · skip
    refine zw_iconst (pc := 13) (v := Int32.ofInt 0) (by decide) (zdal_p dlC_M_holds_29 (i := 9) rfl) ?_
    exact zr_iret (pc := 14) (ty := .boolean) rfl (z_narB (by (decide))) ⟨by (decide), by (decide)⟩ hf (show (0 = 0 ∨ 0 = 1) by first | with_reducible assumption | (decide) | assumption) (zdal_p dlC_M_holds_29 (i := 10) rfl)
  · skip
    refine zw_iconst (pc := 9) (v := Int32.ofInt 1) (by decide) (zdal_p dlC_M_holds_29 (i := 7) rfl) ?_
    refine zw_goto (pc := 10) (tgt := 14) (by decide) (zdal_p dlC_M_holds_29 (i := 8) rfl) ?_
    exact zr_iret (pc := 14) (ty := .boolean) rfl (z_narB (by (decide))) ⟨by (decide), by (decide)⟩ hf (show (1 = 0 ∨ 1 = 1) by first | with_reducible assumption | (decide) | assumption) (zdal_p dlC_M_holds_29 (i := 10) rfl)
set_option maxHeartbeats 40000000 in
theorem c_M_local (l : Launch) (Mz : zMem) (hW : zMt Mz) (a0_ : Int) (ha0_a : -2147483648 ≤ a0_) (ha0_b : a0_ < 2147483648) (a1_ : Int) (ha1_a : -2147483648 ≤ a1_) (ha1_b : a1_ < 2147483648) (a2_ : Int) (ha2_a : -2147483648 ≤ a2_) (ha2_b : a2_ < 2147483648) (a3_ : Int) (ha3_a : -2147483648 ≤ a3_) (ha3_b : a3_ < 2147483648) (T : zGT) (hO : gOK T) (D : Nat → Nat → Int) (hD : gDs T D) (p0_ : zGB T Mz) : zC l m_M_local 0 0 [.ref 81, .int (Int32.ofInt a0_), .int (Int32.ofInt a1_), .int (Int32.ofInt a2_), .int (Int32.ofInt a3_)] Mz (zpI [52, 53] [107, 108] Mz (fun v N => True)) := by
  refine zC_of (L0 := [some (.ref 81), some (.int (Int32.ofInt a0_)), some (.int (Int32.ofInt a1_)), some (.int (Int32.ofInt a2_)), some (.int (Int32.ofInt a3_)), none, none, none, none, none, none]) md_M_local (Nat.le_of_ble_eq_true rfl) rfl ?_ zQ0
  have hf : zFr [52, 53] [107, 108] Mz Mz := zFr.rf
  have r_26 := ze_r Mz 81 26
  have hG := hO.1
  have g24 := hG.2.1
  have g1 := hG.1
  have dv0 : zTab T Mz := p0_.1
  have dv1 : zB 85 144 0 5 Mz := p0_.2.1
  have dv2 : zJX T Mz := p0_.2.2.1
  have dv3 : zFirs T Mz := p0_.2.2.2.1
  have dv4 : zSSm T Mz := p0_.2.2.2.2.1
  have dv5 : zGD Mz := zGB.d hO p0_
  have gb := dv5.1
  have gn := dv0.1
  have gfl := dv3.1
  have gf6 := gF_pos hO
  refine zw_iload_n (pc := 0) (n := 1) (x := Int32.ofInt a0_) rfl (zdal_p dlD_M_local_71 (i := 0) rfl) ?_
  refine zr_callS hf.x (pc := 1) [.int (Int32.ofInt a0_)] [] l_M_426 (c_M_isPrime l Mz (hf.w hW) a0_ ha0_a ha0_b) rfl rfl (by decide) (Nat.le_of_ble_eq_true rfl) (zdal_p dlD_M_local_71 (i := 1) rfl) ?_
  rintro _ N1_ ⟨v2_, rfl, ⟨hv2_a, hv2_b⟩, hsN1_, hp0_N1_⟩
  obtain rfl := hsN1_.eq.symm
  replace hp0_N1_ : ((v2_ = 1 ∧ (a0_ = 2 ∨ a0_ = 3 ∨ a0_ = 5)) ∨ (v2_ = 0)) := hp0_N1_
  rcases hp0_N1_ with ⟨rfl, ha1_0_hp0_N1_⟩ | rfl
  · skip
    show zW l m_M_local (zn Mz + 0, zw Mz + 0) Mz 4 [some (.ref 81), some (.int (Int32.ofInt a0_)), some (.int (Int32.ofInt a1_)), some (.int (Int32.ofInt a2_)), some (.int (Int32.ofInt a3_)), none, none, none, none, none, none] [.int (Int32.ofInt 1)] _
    refine zr_if_eq (pc := 4) (tgt := 34) ⟨(by decide), (by decide)⟩ (by decide) (zdal_p dlD_M_local_71 (i := 2) rfl) (fun hc_4 => ?_) (fun hc_4 => ?_)
    · skip
      exact absurd hc_4 (by decide)
    · skip
      refine zw_aload_n (pc := 7) (n := 0) (x := 81) rfl (zdal_p dlD_M_local_71 (i := 3) rfl) ?_
      refine zw_iload_n (pc := 8) (n := 2) (x := Int32.ofInt a1_) rfl (zdal_p dlD_M_local_71 (i := 4) rfl) ?_
      refine zr_callV (hf.w hW) hf.x (pc := 9) [.int (Int32.ofInt a1_)] [] l_M_414 (c_M_isSort l Mz (hf.w hW) a1_ ha1_a ha1_b T hO p0_) rfl rfl rfl (by decide) (Nat.le_of_ble_eq_true rfl) (zdal_p dlD_M_local_71 (i := 5) rfl) ?_
      rintro _ N3_ ⟨v4_, rfl, ⟨hv4_a, hv4_b⟩, hsN3_, hp0_N3_⟩
      obtain rfl := hsN3_.eq.symm
      replace hp0_N3_ : ((v4_ = 1 ∧ 0 ≤ a1_ ∧ a1_ < ze Mz 81 26) ∨ (v4_ = 0)) := hp0_N3_
      rcases hp0_N3_ with ⟨rfl, ha9_0_hp0_N3_, ha9_1_hp0_N3_⟩ | rfl
      · skip
        show zW l m_M_local (zn Mz + 0, zw Mz + 0) Mz 12 [some (.ref 81), some (.int (Int32.ofInt a0_)), some (.int (Int32.ofInt a1_)), some (.int (Int32.ofInt a2_)), some (.int (Int32.ofInt a3_)), none, none, none, none, none, none] [.int (Int32.ofInt 1)] _
        refine zr_if_eq (pc := 12) (tgt := 34) ⟨(by decide), (by decide)⟩ (by decide) (zdal_p dlD_M_local_71 (i := 6) rfl) (fun hc_12 => ?_) (fun hc_12 => ?_)
        · skip
          exact absurd hc_12 (by decide)
        · skip
          refine zw_aload_n (pc := 15) (n := 0) (x := 81) rfl (zdal_p dlD_M_local_71 (i := 7) rfl) ?_
          refine zw_iload_n (pc := 16) (n := 3) (x := Int32.ofInt a2_) rfl (zdal_p dlD_M_local_71 (i := 8) rfl) ?_
          refine zr_callV (hf.w hW) hf.x (pc := 17) [.int (Int32.ofInt a2_)] [] l_M_414 (c_M_isSort l Mz (hf.w hW) a2_ ha2_a ha2_b T hO p0_) rfl rfl rfl (by decide) (Nat.le_of_ble_eq_true rfl) (zdal_p dlD_M_local_71 (i := 9) rfl) ?_
          rintro _ N5_ ⟨v6_, rfl, ⟨hv6_a, hv6_b⟩, hsN5_, hp0_N5_⟩
          obtain rfl := hsN5_.eq.symm
          replace hp0_N5_ : ((v6_ = 1 ∧ 0 ≤ a2_ ∧ a2_ < ze Mz 81 26) ∨ (v6_ = 0)) := hp0_N5_
          rcases hp0_N5_ with ⟨rfl, ha17_0_hp0_N5_, ha17_1_hp0_N5_⟩ | rfl
          · skip
            show zW l m_M_local (zn Mz + 0, zw Mz + 0) Mz 20 [some (.ref 81), some (.int (Int32.ofInt a0_)), some (.int (Int32.ofInt a1_)), some (.int (Int32.ofInt a2_)), some (.int (Int32.ofInt a3_)), none, none, none, none, none, none] [.int (Int32.ofInt 1)] _
            refine zr_if_eq (pc := 20) (tgt := 34) ⟨(by decide), (by decide)⟩ (by decide) (zdal_p dlD_M_local_71 (i := 10) rfl) (fun hc_20 => ?_) (fun hc_20 => ?_)
            · skip
              exact absurd hc_20 (by decide)
            · skip
              refine zw_iload (pc := 23) (i := 4) (x := Int32.ofInt a3_) rfl (zdal_p dlD_M_local_71 (i := 11) rfl) ?_
              refine zr_i2l (pc := 25) ⟨ha3_a, ha3_b⟩ (zdal_p dlD_M_local_71 (i := 12) rfl) ?_
              refine zw_lconst (pc := 26) (v := Int64.ofInt 0) (by decide) (zdal_p dlD_M_local_71 (i := 13) rfl) ?_
              refine zw_lconst (pc := 27) (v := Int64.ofInt 1) (by decide) (zdal_p dlD_M_local_71 (i := 14) rfl) ?_
              refine zr_callS hf.x (pc := 28) [.long (Int64.ofInt a3_), .long (Int64.ofInt 0), .long (Int64.ofInt 1)] [] l_M_131 (c_M_isIn l Mz (hf.w hW) a3_ (by (exact zo_282 ha3_a)) (by (exact zo_283 ha3_b)) 0 (by decide) (by decide) 1 (by decide) (by decide)) rfl rfl (by decide) (Nat.le_of_ble_eq_true rfl) (zdal_p dlD_M_local_71 (i := 15) rfl) ?_
              rintro _ N7_ ⟨v8_, rfl, ⟨hv8_a, hv8_b⟩, hsN7_, hp0_N7_⟩
              obtain rfl := hsN7_.eq.symm
              replace hp0_N7_ : ((v8_ = 1 ∧ 0 ≤ a3_ ∧ a3_ ≤ 1) ∨ (v8_ = 0 ∧ (a3_ < 0 ∨ 1 < a3_))) := hp0_N7_
              rcases hp0_N7_ with ⟨rfl, ha28_0_hp0_N7_, ha28_1_hp0_N7_⟩ | ⟨rfl, ha28_0_hp0_N7_⟩
              · skip
                show zW l m_M_local (zn Mz + 0, zw Mz + 0) Mz 31 [some (.ref 81), some (.int (Int32.ofInt a0_)), some (.int (Int32.ofInt a1_)), some (.int (Int32.ofInt a2_)), some (.int (Int32.ofInt a3_)), none, none, none, none, none, none] [.int (Int32.ofInt 1)] _
                refine zr_if_ne (pc := 31) (tgt := 38) ⟨(by decide), (by decide)⟩ (by decide) (zdal_p dlD_M_local_71 (i := 16) rfl) (fun hc_31 => ?_) (fun hc_31 => ?_)
                · skip
                  refine zw_aload_n (pc := 38) (n := 0) (x := 81) rfl (zdal_p dlD_M_local_71 (i := 19) rfl) ?_
                  refine zw_iload_n (pc := 39) (n := 2) (x := Int32.ofInt a1_) rfl (zdal_p dlD_M_local_71 (i := 20) rfl) ?_
                  refine zw_iload_n (pc := 40) (n := 1) (x := Int32.ofInt a0_) rfl (zdal_p dlD_M_local_71 (i := 21) rfl) ?_
                  refine zr_callV (hf.w hW) hf.x (pc := 41) [.int (Int32.ofInt a1_), .int (Int32.ofInt a0_)] [] l_M_432 (c_M_blockOf l Mz (hf.w hW) a1_ ha1_a ha1_b a0_ ha0_a ha0_b T hO p0_ (show 0 ≤ a1_ by first | with_reducible assumption | assumption | omega) (show a1_ < ze Mz 81 26 by first | with_reducible assumption | assumption | omega) (show 2 ≤ a0_ by first | with_reducible assumption | (exact zo_923 ha1_0_hp0_N1_) | assumption)) rfl rfl rfl (by decide) (Nat.le_of_ble_eq_true rfl) (zdal_p dlD_M_local_71 (i := 22) rfl) ?_
                  rintro _ N9_ ⟨v10_, rfl, ⟨hv10_a, hv10_b⟩, hsN9_, -⟩
                  obtain rfl := hsN9_.eq.symm
                  show zW l m_M_local (zn Mz + 0, zw Mz + 0) Mz 44 [some (.ref 81), some (.int (Int32.ofInt a0_)), some (.int (Int32.ofInt a1_)), some (.int (Int32.ofInt a2_)), some (.int (Int32.ofInt a3_)), none, none, none, none, none, none] [.int (Int32.ofInt v10_)] _
                  refine zw_istore (pc := 44) (i := 5) (L2 := [some (.ref 81), some (.int (Int32.ofInt a0_)), some (.int (Int32.ofInt a1_)), some (.int (Int32.ofInt a2_)), some (.int (Int32.ofInt a3_)), some (.int (Int32.ofInt v10_)), none, none, none, none, none]) (by decide) rfl (zdal_p dlD_M_local_71 (i := 23) rfl) ?_
                  refine zw_lconst (pc := 46) (v := Int64.ofInt 0) (by decide) (zdal_p dlD_M_local_72 (i := 0) rfl) ?_
                  refine zw_lstore (pc := 47) (i := 6) (L2 := [some (.ref 81), some (.int (Int32.ofInt a0_)), some (.int (Int32.ofInt a1_)), some (.int (Int32.ofInt a2_)), some (.int (Int32.ofInt a3_)), some (.int (Int32.ofInt v10_)), some (.long (Int64.ofInt 0)), none, none, none, none]) (by decide) rfl (zdal_p dlD_M_local_72 (i := 1) rfl) ?_
                  refine zw_lconst (pc := 49) (v := Int64.ofInt 1) (by decide) (zdal_p dlD_M_local_72 (i := 2) rfl) ?_
                  refine zw_lstore (pc := 50) (i := 8) (L2 := [some (.ref 81), some (.int (Int32.ofInt a0_)), some (.int (Int32.ofInt a1_)), some (.int (Int32.ofInt a2_)), some (.int (Int32.ofInt a3_)), some (.int (Int32.ofInt v10_)), some (.long (Int64.ofInt 0)), none, some (.long (Int64.ofInt 1)), none, none]) (by decide) rfl (zdal_p dlD_M_local_72 (i := 3) rfl) ?_
                  refine zw_iconst (pc := 52) (v := Int32.ofInt 0) (by decide) (zdal_p dlD_M_local_72 (i := 4) rfl) ?_
                  refine zw_istore (pc := 53) (i := 10) (L2 := [some (.ref 81), some (.int (Int32.ofInt a0_)), some (.int (Int32.ofInt a1_)), some (.int (Int32.ofInt a2_)), some (.int (Int32.ofInt a3_)), some (.int (Int32.ofInt v10_)), some (.long (Int64.ofInt 0)), none, some (.long (Int64.ofInt 1)), none, some (.int (Int32.ofInt 0))]) (by decide) rfl (zdal_p dlD_M_local_72 (i := 5) rfl) ?_
                  have lp_55 : ∀ (n : Nat) (u11_ : Int) (hu11_a : -9223372036854775808 ≤ u11_) (hu11_b : u11_ < 9223372036854775808) (u12_ : Int) (hu12_a : -9223372036854775808 ≤ u12_) (hu12_b : u12_ < 9223372036854775808) (u13_ : Int) (hu13_a : -2147483648 ≤ u13_) (hu13_b : u13_ < 2147483648) (N14_ : zMem) (hs15_ : zFr [52, 53] [107, 108] Mz N14_) (i16_ : 0 ≤ u13_) (i17_ : u13_ ≤ ze Mz 81 26) (i18_ : zLc T (a2_).toNat u13_ u11_ u12_), (ze Mz 81 26 - u13_).toNat < n → zW l m_M_local (zn Mz + 0, zw Mz + 0) N14_ 55 [some (.ref 81), some (.int (Int32.ofInt a0_)), some (.int (Int32.ofInt a1_)), some (.int (Int32.ofInt a2_)), some (.int (Int32.ofInt a3_)), some (.int (Int32.ofInt v10_)), some (.long (Int64.ofInt u11_)), none, some (.long (Int64.ofInt u12_)), none, some (.int (Int32.ofInt u13_))] [] (zpI [52, 53] [107, 108] Mz (fun v N => True)) := by
                    intro n
                    induction n with
                    | zero =>
                      intro u11_ hu11_a hu11_b u12_ hu12_a hu12_b u13_ hu13_a hu13_b N14_ hs15_ i16_ i17_ i18_ h0
                      exact absurd h0 (Nat.not_lt_zero _)
                    | succ n ih_55 =>
                      intro u11_ hu11_a hu11_b u12_ hu12_a hu12_b u13_ hu13_a hu13_b N14_ hs15_ i16_ i17_ i18_ hlt_55
                      have hf_N14_ : zFr [52, 53] [107, 108] Mz N14_ := hf.tr hs15_ (by decide) (by decide)
                      have e26_N14_ : ze N14_ 81 26 = ze Mz 81 26 := hs15_.e (by decide)
                      have c19_ : zGB T N14_ := zGB.fr hs15_ p0_ (by decide) (by decide)
                      have c20_ : zTab T N14_ := zTab.fr hs15_ dv0 (by decide) (by decide)
                      have c21_ : zB 85 144 0 5 N14_ := zB.fr hs15_ dv1 (by decide) (by decide)
                      have c22_ : zJX T N14_ := zJX.fr hs15_ dv2 (by decide) (by decide)
                      have c23_ : zFirs T N14_ := zFirs.fr hs15_ dv3 (by decide) (by decide)
                      have c24_ : zSSm T N14_ := zSSm.fr hs15_ dv4 (by decide) (by decide)
                      have c25_ : zGD N14_ := zGD.fr hs15_ dv5 (by decide) (by decide)
                      refine zw_iload (pc := 55) (i := 10) (x := Int32.ofInt u13_) rfl (zdal_p dlD_M_local_72 (i := 6) rfl) ?_
                      refine zw_aload_n (pc := 57) (n := 0) (x := 81) rfl (zdal_p dlD_M_local_72 (i := 7) rfl) ?_
                      refine zr_getI0 hf_N14_ hW (pc := 58) (by decide) f_M_235 rfl (zdal_p dlD_M_local_72 (i := 8) rfl) ?_
                      refine zr_icmp_ge (pc := 61) (tgt := 129) ⟨hu13_a, hu13_b⟩ ⟨(ze_r Mz 81 26).1, (ze_r Mz 81 26).2⟩ (by decide) (zdal_p dlD_M_local_72 (i := 9) rfl) (fun hc_61 => ?_) (fun hc_61 => ?_)
                      · skip
                        refine zw_iload (pc := 129) (i := 4) (x := Int32.ofInt a3_) rfl (zdal_p dlD_M_local_73 (i := 18) rfl) ?_
                        refine zr_if_ne (pc := 131) (tgt := 139) ⟨ha3_a, ha3_b⟩ (by decide) (zdal_p dlD_M_local_73 (i := 19) rfl) (fun hc_131 => ?_) (fun hc_131 => ?_)
                        · skip
                          refine zw_lload (pc := 139) (i := 8) (x := Int64.ofInt u12_) rfl (zdal_p dlD_M_local_73 (i := 22) rfl) ?_
                          refine zr_l2i (pc := 141) (zdal_p dlD_M_local_73 (i := 23) rfl) ?_
                          refine zr_nmI (fun v26_ hv26_ => ?_)
                          obtain ⟨hv26_a, hv26_b⟩ := hv26_
                          exact zr_iret (pc := 142) (ty := .int) rfl rfl ⟨by (exact hv26_a), by (exact hv26_b)⟩ hf_N14_ trivial (zdal_p dlD_M_local_74 (i := 0) rfl)
                        · skip
                          refine zw_lload (pc := 134) (i := 6) (x := Int64.ofInt u11_) rfl (zdal_p dlD_M_local_73 (i := 20) rfl) ?_
                          refine zw_goto (pc := 136) (tgt := 141) (by decide) (zdal_p dlD_M_local_73 (i := 21) rfl) ?_
                          refine zr_l2i (pc := 141) (zdal_p dlD_M_local_73 (i := 23) rfl) ?_
                          refine zr_nmI (fun v27_ hv27_ => ?_)
                          obtain ⟨hv27_a, hv27_b⟩ := hv27_
                          exact zr_iret (pc := 142) (ty := .int) rfl rfl ⟨by (exact hv27_a), by (exact hv27_b)⟩ hf_N14_ trivial (zdal_p dlD_M_local_74 (i := 0) rfl)
                      · skip
                        refine zw_iload (pc := 64) (i := 5) (x := Int32.ofInt v10_) rfl (zdal_p dlD_M_local_72 (i := 10) rfl) ?_
                        refine zw_iload (pc := 66) (i := 10) (x := Int32.ofInt u13_) rfl (zdal_p dlD_M_local_72 (i := 11) rfl) ?_
                        refine zr_callS hf_N14_.x (pc := 68) [.int (Int32.ofInt v10_), .int (Int32.ofInt u13_)] [] l_M_213 (c_M_holdsB l N14_ (hf_N14_.w hW) v10_ hv10_a hv10_b u13_ hu13_a hu13_b) rfl rfl (by decide) (Nat.le_of_ble_eq_true rfl) (zdal_p dlD_M_local_72 (i := 12) rfl) ?_
                        rintro _ N28_ ⟨v29_, rfl, ⟨hv29_a, hv29_b⟩, hsN28_, hp0_N28_⟩
                        obtain rfl := hsN28_.eq.symm
                        replace hp0_N28_ : (v29_ = 0 ∨ v29_ = 1) := hp0_N28_
                        show zW l m_M_local (zn Mz + 0, zw Mz + 0) N14_ 71 [some (.ref 81), some (.int (Int32.ofInt a0_)), some (.int (Int32.ofInt a1_)), some (.int (Int32.ofInt a2_)), some (.int (Int32.ofInt a3_)), some (.int (Int32.ofInt v10_)), some (.long (Int64.ofInt u11_)), none, some (.long (Int64.ofInt u12_)), none, some (.int (Int32.ofInt u13_))] [.int (Int32.ofInt v29_)] _
                        refine zr_if_ne (pc := 71) (tgt := 77) ⟨hv29_a, hv29_b⟩ (by decide) (zdal_p dlD_M_local_72 (i := 13) rfl) (fun hc_71 => ?_) (fun hc_71 => ?_)
                        · skip
                          refine zw_aload_n (pc := 77) (n := 0) (x := 81) rfl (zdal_p dlD_M_local_72 (i := 15) rfl) ?_
                          refine zw_iload (pc := 78) (i := 10) (x := Int32.ofInt u13_) rfl (zdal_p dlD_M_local_72 (i := 16) rfl) ?_
                          refine zr_callV (hf_N14_.w hW) hf_N14_.x (pc := 80) [.int (Int32.ofInt u13_)] [] l_M_450 (c_M_peaks l N14_ (hf_N14_.w hW) u13_ hu13_a hu13_b T hO D hD c19_ (show 0 ≤ u13_ by first | with_reducible assumption | assumption | omega) (show u13_ < ze N14_ 81 26 by first | with_reducible assumption | (exact zo_535 e26_N14_ hc_61) | assumption)) rfl rfl rfl (by decide) (Nat.le_of_ble_eq_true rfl) (zdal_p dlD_M_local_72 (i := 17) rfl) ?_
                          rintro _ N30_ ⟨rfl, hsN30_, hp0_N30_⟩
                          replace hp0_N30_ : zPk T D (u13_).toNat 0 N30_ := hp0_N30_
                          have hf_N30_ : zFr [52, 53] [107, 108] Mz N30_ := hf_N14_.tr hsN30_ (by decide) (by decide)
                          have hb0_N30_ : zFr [52, 53] [107, 108] Mz N30_ := hs15_.tr hsN30_ (by decide) (by decide)
                          have c32_ : zGB T N30_ := zGB.fr hsN30_ c19_ (by decide) (by decide)
                          have c33_ : zTab T N30_ := zTab.fr hsN30_ c20_ (by decide) (by decide)
                          have c34_ : zB 85 144 0 5 N30_ := zB.fr hsN30_ c21_ (by decide) (by decide)
                          have c35_ : zJX T N30_ := zJX.fr hsN30_ c22_ (by decide) (by decide)
                          have c36_ : zFirs T N30_ := zFirs.fr hsN30_ c23_ (by decide) (by decide)
                          have c37_ : zSSm T N30_ := zSSm.fr hsN30_ c24_ (by decide) (by decide)
                          have c38_ : zGD N30_ := zGD.fr hsN30_ c25_ (by decide) (by decide)
                          show zW l m_M_local (zn Mz + 0, zw Mz + 0) N30_ 83 [some (.ref 81), some (.int (Int32.ofInt a0_)), some (.int (Int32.ofInt a1_)), some (.int (Int32.ofInt a2_)), some (.int (Int32.ofInt a3_)), some (.int (Int32.ofInt v10_)), some (.long (Int64.ofInt u11_)), none, some (.long (Int64.ofInt u12_)), none, some (.int (Int32.ofInt u13_))] [] _
                          refine zw_aload_n (pc := 83) (n := 0) (x := 81) rfl (zdal_p dlD_M_local_72 (i := 18) rfl) ?_
                          refine zw_lload (pc := 84) (i := 6) (x := Int64.ofInt u11_) rfl (zdal_p dlD_M_local_72 (i := 19) rfl) ?_
                          refine zr_putJ (hf_N30_.w hW) (pc := 86) f_M_436 rfl rfl rfl rfl (zdal_p dlD_M_local_72 (i := 20) rfl) (fun N39_ hsN39_ hvN39_ => ?_)
                          have hf_N39_ : zFr [52, 53] [107, 108] Mz N39_ := hf_N30_.tr hsN39_ (by decide) (by decide)
                          have hb0_N39_ : zFr [52, 53] [107, 108] Mz N39_ := hb0_N30_.tr hsN39_ (by decide) (by decide)
                          have c40_ : zGB T N39_ := zGB.fr hsN39_ c32_ (by decide) (by decide)
                          have c41_ : zTab T N39_ := zTab.fr hsN39_ c33_ (by decide) (by decide)
                          have c42_ : zB 85 144 0 5 N39_ := zB.fr hsN39_ c34_ (by decide) (by decide)
                          have c43_ : zJX T N39_ := zJX.fr hsN39_ c35_ (by decide) (by decide)
                          have c44_ : zFirs T N39_ := zFirs.fr hsN39_ c36_ (by decide) (by decide)
                          have c45_ : zSSm T N39_ := zSSm.fr hsN39_ c37_ (by decide) (by decide)
                          have c46_ : zGD N39_ := zGD.fr hsN39_ c38_ (by decide) (by decide)
                          refine zw_aload_n (pc := 89) (n := 0) (x := 81) rfl (zdal_p dlD_M_local_72 (i := 21) rfl) ?_
                          refine zw_lload (pc := 90) (i := 8) (x := Int64.ofInt u12_) rfl (zdal_p dlD_M_local_72 (i := 22) rfl) ?_
                          refine zr_putJ (hf_N39_.w hW) (pc := 92) f_M_439 rfl rfl rfl rfl (zdal_p dlD_M_local_72 (i := 23) rfl) (fun N47_ hsN47_ hvN47_ => ?_)
                          have hf_N47_ : zFr [52, 53] [107, 108] Mz N47_ := hf_N39_.tr hsN47_ (by decide) (by decide)
                          have hb0_N47_ : zFr [52, 53] [107, 108] Mz N47_ := hb0_N39_.tr hsN47_ (by decide) (by decide)
                          have c48_ : zGB T N47_ := zGB.fr hsN47_ c40_ (by decide) (by decide)
                          have c49_ : zTab T N47_ := zTab.fr hsN47_ c41_ (by decide) (by decide)
                          have c50_ : zB 85 144 0 5 N47_ := zB.fr hsN47_ c42_ (by decide) (by decide)
                          have c51_ : zJX T N47_ := zJX.fr hsN47_ c43_ (by decide) (by decide)
                          have c52_ : zFirs T N47_ := zFirs.fr hsN47_ c44_ (by decide) (by decide)
                          have c53_ : zSSm T N47_ := zSSm.fr hsN47_ c45_ (by decide) (by decide)
                          have c54_ : zGD N47_ := zGD.fr hsN47_ c46_ (by decide) (by decide)
                          have h53_ := hvN47_ ⟨by (exact hu12_a), by (exact hu12_b)⟩
                          have h52_ := (hsN47_.g (j := 52) (by decide)).trans (hvN39_ ⟨by (exact hu11_a), by (exact hu11_b)⟩)
                          have hPk_ := zPk.fr hsN47_ (zPk.fr hsN39_ hp0_N30_ (by decide)) (by decide)
                          have hpb_ := zPk.b hO hD (j := (u13_).toNat) (by (exact zo_925 gfl hc_61 i16_)) hPk_ (i := (a2_).toNat) (by (exact zo_1034)) (by (exact zo_1001 gb.2.2.2.2.2 gfl ha17_0_hp0_N5_ ha17_1_hp0_N5_))
                          have hlb_ := zLc_b hO (i := (a2_).toNat) (by (exact zo_1001 gb.2.2.2.2.2 gfl ha17_0_hp0_N5_ ha17_1_hp0_N5_)) (by (exact i16_)) (by (exact zo_1035 gb.2.2.2.2.2 hc_61)) (show zLc T (a2_).toNat u13_ u11_ u12_ by first | with_reducible assumption | assumption)
                          refine zw_aload_n (pc := 95) (n := 0) (x := 81) rfl (zdal_p dlD_M_local_73 (i := 0) rfl) ?_
                          refine zw_aload_n (pc := 96) (n := 0) (x := 81) rfl (zdal_p dlD_M_local_73 (i := 1) rfl) ?_
                          refine zr_getF (r := 107) (hf_N47_.w hW) (pc := 97) f_M_93 rfl (zh_107 (hf_N47_.w hW)).1 (zdal_p dlD_M_local_73 (i := 2) rfl) ?_
                          refine zw_iload_n (pc := 100) (n := 3) (x := Int32.ofInt a2_) rfl (zdal_p dlD_M_local_73 (i := 3) rfl) ?_
                          refine zr_laldn (pc := 101) (zh_107 (hf_N47_.w hW)).2 (by decide) (by (exact ha17_0_hp0_N5_)) (by (exact zo_837 gb.2.2.2.2.2 ha17_1_hp0_N5_ ha2_b)) (zdal_p dlD_M_local_73 (i := 4) rfl) (fun v55_ hv55_ hv55_a hv55_b => ?_)
                          refine zw_aload_n (pc := 102) (n := 0) (x := 81) rfl (zdal_p dlD_M_local_73 (i := 5) rfl) ?_
                          refine zr_getF (r := 108) (hf_N47_.w hW) (pc := 103) f_M_96 rfl (zh_108 (hf_N47_.w hW)).1 (zdal_p dlD_M_local_73 (i := 6) rfl) ?_
                          refine zw_iload_n (pc := 106) (n := 3) (x := Int32.ofInt a2_) rfl (zdal_p dlD_M_local_73 (i := 7) rfl) ?_
                          refine zr_laldn (pc := 107) (zh_108 (hf_N47_.w hW)).2 (by decide) (by (exact ha17_0_hp0_N5_)) (by (exact zo_837 gb.2.2.2.2.2 ha17_1_hp0_N5_ ha2_b)) (zdal_p dlD_M_local_73 (i := 8) rfl) (fun v56_ hv56_ hv56_a hv56_b => ?_)
                          refine zr_callV (hf_N47_.w hW) hf_N47_.x (pc := 108) [.long (Int64.ofInt v55_), .long (Int64.ofInt v56_)] [] l_M_446 (c_M_sumWith l N47_ (hf_N47_.w hW) v55_ hv55_a hv55_b v56_ hv56_a hv56_b (show -1000000000 ≤ zg N47_ 81 52 by first | with_reducible assumption | assumption | omega) (show zg N47_ 81 52 ≤ 1000000000 by first | with_reducible assumption | assumption | omega) (show 1 ≤ zg N47_ 81 53 by first | with_reducible assumption | (exact zo_533 h53_ hlb_.2.1) | assumption) (show zg N47_ 81 53 ≤ 1000 by first | with_reducible assumption | (exact zo_1036 h53_ hlb_.2.2) | assumption) (show -1000000000 ≤ v55_ by first | with_reducible assumption | assumption | omega) (show v55_ ≤ 1000000000 by first | with_reducible assumption | assumption | omega) (show 1 ≤ v56_ by first | with_reducible assumption | (exact zo_1024 hpb_.2.1 hv56_) | assumption) (show v56_ ≤ 1000 by first | with_reducible assumption | (exact zo_1025 hpb_.2.2 hv56_ hv56_b) | assumption)) rfl rfl rfl (by decide) (Nat.le_of_ble_eq_true rfl) (zdal_p dlD_M_local_73 (i := 9) rfl) ?_
                          rintro _ N57_ ⟨rfl, hsN57_, hp0_N57_⟩
                          replace hp0_N57_ : zSw (zg N47_ 81 52) (zg N47_ 81 53) v55_ v56_ (zg N57_ 81 52) (zg N57_ 81 53) := hp0_N57_
                          have hf_N57_ : zFr [52, 53] [107, 108] Mz N57_ := hf_N47_.tr hsN57_ (by decide) (by decide)
                          have hb0_N57_ : zFr [52, 53] [107, 108] Mz N57_ := hb0_N47_.tr hsN57_ (by decide) (by decide)
                          have c59_ : zGB T N57_ := zGB.fr hsN57_ c48_ (by decide) (by decide)
                          have c60_ : zTab T N57_ := zTab.fr hsN57_ c49_ (by decide) (by decide)
                          have c61_ : zB 85 144 0 5 N57_ := zB.fr hsN57_ c50_ (by decide) (by decide)
                          have c62_ : zJX T N57_ := zJX.fr hsN57_ c51_ (by decide) (by decide)
                          have c63_ : zFirs T N57_ := zFirs.fr hsN57_ c52_ (by decide) (by decide)
                          have c64_ : zSSm T N57_ := zSSm.fr hsN57_ c53_ (by decide) (by decide)
                          have c65_ : zGD N57_ := zGD.fr hsN57_ c54_ (by decide) (by decide)
                          show zW l m_M_local (zn Mz + 0, zw Mz + 0) N57_ 111 [some (.ref 81), some (.int (Int32.ofInt a0_)), some (.int (Int32.ofInt a1_)), some (.int (Int32.ofInt a2_)), some (.int (Int32.ofInt a3_)), some (.int (Int32.ofInt v10_)), some (.long (Int64.ofInt u11_)), none, some (.long (Int64.ofInt u12_)), none, some (.int (Int32.ofInt u13_))] [] _
                          have hz_ := zLc_s hO hD (j := (u13_).toNat) (i := (a2_).toNat) (by (exact zo_925 gfl hc_61 i16_)) (by (exact zo_1001 gb.2.2.2.2.2 gfl ha17_0_hp0_N5_ ha17_1_hp0_N5_)) hPk_ (n := u13_) (show zLc T (a2_).toNat u13_ u11_ u12_ by first | with_reducible assumption | assumption) hp0_N57_ h52_ h53_ (by first | with_reducible assumption | assumption) (by first | with_reducible assumption | assumption)
                          refine zw_aload_n (pc := 111) (n := 0) (x := 81) rfl (zdal_p dlD_M_local_73 (i := 10) rfl) ?_
                          refine zr_getJ (hf_N57_.w hW) (pc := 112) f_M_436 rfl (zdal_p dlD_M_local_73 (i := 11) rfl) ?_
                          have hr66_ := zg_r N57_ 81 52
                          refine zw_lstore (pc := 115) (i := 6) (L2 := [some (.ref 81), some (.int (Int32.ofInt a0_)), some (.int (Int32.ofInt a1_)), some (.int (Int32.ofInt a2_)), some (.int (Int32.ofInt a3_)), some (.int (Int32.ofInt v10_)), some (.long (Int64.ofInt (zg N57_ 81 52))), none, some (.long (Int64.ofInt u12_)), none, some (.int (Int32.ofInt u13_))]) (by decide) rfl (zdal_p dlD_M_local_73 (i := 12) rfl) ?_
                          refine zw_aload_n (pc := 117) (n := 0) (x := 81) rfl (zdal_p dlD_M_local_73 (i := 13) rfl) ?_
                          refine zr_getJ (hf_N57_.w hW) (pc := 118) f_M_439 rfl (zdal_p dlD_M_local_73 (i := 14) rfl) ?_
                          have hr67_ := zg_r N57_ 81 53
                          refine zw_lstore (pc := 121) (i := 8) (L2 := [some (.ref 81), some (.int (Int32.ofInt a0_)), some (.int (Int32.ofInt a1_)), some (.int (Int32.ofInt a2_)), some (.int (Int32.ofInt a3_)), some (.int (Int32.ofInt v10_)), some (.long (Int64.ofInt (zg N57_ 81 52))), none, some (.long (Int64.ofInt (zg N57_ 81 53))), none, some (.int (Int32.ofInt u13_))]) (by decide) rfl (zdal_p dlD_M_local_73 (i := 15) rfl) ?_
                          refine zr_iinc (pc := 123) (i := 10) (a := u13_) (n := 1) (L2 := [some (.ref 81), some (.int (Int32.ofInt a0_)), some (.int (Int32.ofInt a1_)), some (.int (Int32.ofInt a2_)), some (.int (Int32.ofInt a3_)), some (.int (Int32.ofInt v10_)), some (.long (Int64.ofInt (zg N57_ 81 52))), none, some (.long (Int64.ofInt (zg N57_ 81 53))), none, some (.int (Int32.ofInt (u13_ + 1)))]) rfl (by decide) rfl (zdal_p dlD_M_local_73 (i := 16) rfl) ?_
                          refine zw_goto (pc := 126) (tgt := 55) (by decide) (zdal_p dlD_M_local_73 (i := 17) rfl) ?_
                          exact ih_55 (zg N57_ 81 52) (zg_r N57_ 81 52).1 (zg_r N57_ 81 52).2 (zg N57_ 81 53) (zg_r N57_ 81 53).1 (zg_r N57_ 81 53).2 (u13_ + 1) (by (exact zo_74 i16_)) (by (exact zo_832 gb.2.2.2.2.2 hc_61)) N57_ hb0_N57_ (show 0 ≤ (u13_ + 1) by first | with_reducible assumption | (exact zo_76 i16_) | assumption) (show (u13_ + 1) ≤ ze Mz 81 26 by first | with_reducible assumption | assumption | omega) (show zLc T (a2_).toNat (u13_ + 1) (zg N57_ 81 52) (zg N57_ 81 53) by first | exact hz_ | exact zLc_m (by first | with_reducible assumption | assumption)) (by (exact zo_147 hc_61 hlt_55))
                        · skip
                          refine zw_goto (pc := 74) (tgt := 123) (by decide) (zdal_p dlD_M_local_72 (i := 14) rfl) ?_
                          refine zr_iinc (pc := 123) (i := 10) (a := u13_) (n := 1) (L2 := [some (.ref 81), some (.int (Int32.ofInt a0_)), some (.int (Int32.ofInt a1_)), some (.int (Int32.ofInt a2_)), some (.int (Int32.ofInt a3_)), some (.int (Int32.ofInt v10_)), some (.long (Int64.ofInt u11_)), none, some (.long (Int64.ofInt u12_)), none, some (.int (Int32.ofInt (u13_ + 1)))]) rfl (by decide) rfl (zdal_p dlD_M_local_73 (i := 16) rfl) ?_
                          refine zw_goto (pc := 126) (tgt := 55) (by decide) (zdal_p dlD_M_local_73 (i := 17) rfl) ?_
                          exact ih_55 u11_ hu11_a hu11_b u12_ hu12_a hu12_b (u13_ + 1) (by (exact zo_74 i16_)) (by (exact zo_832 gb.2.2.2.2.2 hc_61)) N14_ hs15_ (show 0 ≤ (u13_ + 1) by first | with_reducible assumption | (exact zo_76 i16_) | assumption) (show (u13_ + 1) ≤ ze Mz 81 26 by first | with_reducible assumption | assumption | omega) (show zLc T (a2_).toNat (u13_ + 1) u11_ u12_ by first | exact hz_ | exact zLc_m (by first | with_reducible assumption | assumption)) (by (exact zo_147 hc_61 hlt_55))
                  exact lp_55 _ 0 (by decide) (by decide) 1 (by decide) (by decide) 0 (by decide) (by decide) Mz zFr.rf (show 0 ≤ (0 : Int) by first | with_reducible assumption | (decide) | assumption) (show (0 : Int) ≤ ze Mz 81 26 by first | with_reducible assumption | (exact zo_564 gb.2.2.2.2.1) | assumption) (show zLc T (a2_).toNat (0 : Int) (0 : Int) (1 : Int) by exact zLc_0) (Nat.lt_succ_self _)
                · skip
                  exact absurd hc_31 (by decide)
              · skip
                show zW l m_M_local (zn Mz + 0, zw Mz + 0) Mz 31 [some (.ref 81), some (.int (Int32.ofInt a0_)), some (.int (Int32.ofInt a1_)), some (.int (Int32.ofInt a2_)), some (.int (Int32.ofInt a3_)), none, none, none, none, none, none] [.int (Int32.ofInt 0)] _
                refine zr_if_ne (pc := 31) (tgt := 38) ⟨(by decide), (by decide)⟩ (by decide) (zdal_p dlD_M_local_71 (i := 16) rfl) (fun hc_31 => ?_) (fun hc_31 => ?_)
                · skip
                  exact absurd hc_31 (by decide)
                · skip
                  refine zw_ldcw (pc := 34) (v := Int32.ofInt (-1000000)) (by rw [show Int32.ofInt (-1000000) = ((-1000000) : Int32) by decide]; exact k_M_435) (zdal_p dlD_M_local_71 (i := 17) rfl) ?_
                  exact zr_iret (pc := 37) (ty := .int) rfl rfl ⟨by (decide), by (decide)⟩ hf trivial (zdal_p dlD_M_local_71 (i := 18) rfl)
          · skip
            show zW l m_M_local (zn Mz + 0, zw Mz + 0) Mz 20 [some (.ref 81), some (.int (Int32.ofInt a0_)), some (.int (Int32.ofInt a1_)), some (.int (Int32.ofInt a2_)), some (.int (Int32.ofInt a3_)), none, none, none, none, none, none] [.int (Int32.ofInt 0)] _
            refine zr_if_eq (pc := 20) (tgt := 34) ⟨(by decide), (by decide)⟩ (by decide) (zdal_p dlD_M_local_71 (i := 10) rfl) (fun hc_20 => ?_) (fun hc_20 => ?_)
            · skip
              refine zw_ldcw (pc := 34) (v := Int32.ofInt (-1000000)) (by rw [show Int32.ofInt (-1000000) = ((-1000000) : Int32) by decide]; exact k_M_435) (zdal_p dlD_M_local_71 (i := 17) rfl) ?_
              exact zr_iret (pc := 37) (ty := .int) rfl rfl ⟨by (decide), by (decide)⟩ hf trivial (zdal_p dlD_M_local_71 (i := 18) rfl)
            · skip
              exact absurd hc_20 (by decide)
      · skip
        show zW l m_M_local (zn Mz + 0, zw Mz + 0) Mz 12 [some (.ref 81), some (.int (Int32.ofInt a0_)), some (.int (Int32.ofInt a1_)), some (.int (Int32.ofInt a2_)), some (.int (Int32.ofInt a3_)), none, none, none, none, none, none] [.int (Int32.ofInt 0)] _
        refine zr_if_eq (pc := 12) (tgt := 34) ⟨(by decide), (by decide)⟩ (by decide) (zdal_p dlD_M_local_71 (i := 6) rfl) (fun hc_12 => ?_) (fun hc_12 => ?_)
        · skip
          refine zw_ldcw (pc := 34) (v := Int32.ofInt (-1000000)) (by rw [show Int32.ofInt (-1000000) = ((-1000000) : Int32) by decide]; exact k_M_435) (zdal_p dlD_M_local_71 (i := 17) rfl) ?_
          exact zr_iret (pc := 37) (ty := .int) rfl rfl ⟨by (decide), by (decide)⟩ hf trivial (zdal_p dlD_M_local_71 (i := 18) rfl)
        · skip
          exact absurd hc_12 (by decide)
  · skip
    show zW l m_M_local (zn Mz + 0, zw Mz + 0) Mz 4 [some (.ref 81), some (.int (Int32.ofInt a0_)), some (.int (Int32.ofInt a1_)), some (.int (Int32.ofInt a2_)), some (.int (Int32.ofInt a3_)), none, none, none, none, none, none] [.int (Int32.ofInt 0)] _
    refine zr_if_eq (pc := 4) (tgt := 34) ⟨(by decide), (by decide)⟩ (by decide) (zdal_p dlD_M_local_71 (i := 2) rfl) (fun hc_4 => ?_) (fun hc_4 => ?_)
    · skip
      refine zw_ldcw (pc := 34) (v := Int32.ofInt (-1000000)) (by rw [show Int32.ofInt (-1000000) = ((-1000000) : Int32) by decide]; exact k_M_435) (zdal_p dlD_M_local_71 (i := 17) rfl) ?_
      exact zr_iret (pc := 37) (ty := .int) rfl rfl ⟨by (decide), by (decide)⟩ hf trivial (zdal_p dlD_M_local_71 (i := 18) rfl)
    · skip
      exact absurd hc_4 (by decide)
def zMr (T : zGT) (M : zMem) : Prop := ∀ k : Nat, (k : Int) < ze M 81 55 → 0 ≤ ze M 109 k ∧ ze M 109 k < ((gF T).length : Int)
def zMq (T : zGT) (j : Int) (M : zMem) : Prop := (ze M 81 55 = ((gmm T ((gF T).getD j.toNat 0) : Nat) : Int) ∧ 1 ≤ ze M 81 55 ∧ ze M 81 55 ≤ 24) ∧ zMr T M ∧ ze M 109 0 = j ∧ ∀ k : Nat, 1 ≤ k → (k : Int) < ze M 81 55 → ze M 109 k ≠ j
theorem zMq.fr {S C : List Nat} {M N : zMem} {T : zGT} {j : Int} (hf : zFr S C M N) (h : zMq T j M) (hs : 55 ∉ S) (hc : 109 ∉ C) : zMq T j N := by
  unfold zMq zMr
  simp only [hf.e hs, hf.ie (by decide) hc]
  exact h
def zMl (T : zGT) (j : Int) (M : zMem) (x : Int) : Prop := (ze M 81 55 = ((gup (gmmF T ((gF T).getD j.toNat 0)) 0 x.toNat : Nat) : Int) ∧ 0 ≤ ze M 81 55 ∧ ze M 81 55 ≤ x) ∧ zMr T M ∧ (x = 0 ∨ (1 ≤ ze M 81 55 ∧ ze M 109 0 = j)) ∧ ∀ k : Nat, 1 ≤ k → (k : Int) < ze M 81 55 → ze M 109 k ≠ j
theorem zMl_0 {T : zGT} {j : Int} {M : zMem} (h : ze M 81 55 = 0) : zMl T j M 0 := by
  refine ⟨⟨h, by (exact zo_718 h), by (exact zo_2497 h)⟩, fun k hk => by omega, Or.inl rfl, fun k h1 h2 => by omega⟩
theorem zMl_e {T : zGT} {j x : Int} {M : zMem} (hG : gGd T) (h : zMl T j M x) (hx : x = (gN T : Int)) : zMq T j M := by
  obtain ⟨⟨a1, a2, a3⟩, a4, a5, a6⟩ := h
  have g1 := hG.1
  have g24 := hG.2.1
  have a7 : 1 ≤ ze M 81 55 ∧ ze M 109 0 = j := by rcases a5 with a5 | a5; omega; exact a5
  refine ⟨⟨?_, a7.1, by omega⟩, a4, a7.2, a6⟩
  rw [a1, hx, Int.toNat_natCast]
  rfl
theorem zMl_n {T : zGT} (hO : gOK T) (hX : gEx T) {j x F : Int} {M : zMem} (h : zMl T j M x) (x0 : 0 ≤ x) (j0 : 0 ≤ j) (j1 : j < ((gF T).length : Int)) (hF : F = (((gF T).getD j.toNat 0 : Nat) : Int)) (hn : gtr T F.toNat x.toNat ≠ F.toNat ∨ gcos T F.toNat x.toNat ≠ x.toNat) : zMl T j M (x + 1) := by
  obtain ⟨⟨a1, a2, a3⟩, a4, a5, a6⟩ := h
  have hm := gF_m (T := T) (i := j.toNat) (by (exact zo_1085 j0 j1))
  have hFn : F.toNat = (gF T).getD j.toNat 0 := by (exact zo_1103 hF)
  rw [hFn] at hn
  have hx : x ≠ 0 := by
    rintro rfl
    rcases hn with hn | hn
    · exact hn (hX.2.2.1 _ hm)
    · refine hn (Nat.le_zero.mp ?_)
      have := gcos_b hO.1 (S := (gF T).getD j.toNat 0) (x := 0) (by have := hO.1.1; omega) (gN T) (Nat.le_refl _)
      rw [gcos_e]
      exact this
  refine ⟨⟨?_, a2, by (exact zo_961 a3)⟩, a4, Or.inr (a5.resolve_left hx), a6⟩
  rw [gup_s _ _ x0, a1]
  generalize gup _ 0 x.toNat = r
  unfold gmmF
  rw [if_neg (by rintro ⟨h1, h2⟩; rcases hn with hn | hn; exact hn h1; exact hn h2)]
theorem zMl_s {T : zGT} (hO : gOK T) (hX : gEx T) {j x F R v : Int} {M N P : zMem} (hFi : zFirs T M) (h : zMl T j M x) (x0 : 0 ≤ x) (x1 : x < (gN T : Int)) (j0 : 0 ≤ j) (j1 : j < ((gF T).length : Int)) (hF : F = (((gF T).getD j.toNat 0 : Nat) : Int)) (ht : gtr T F.toNat x.toNat = F.toNat) (hc : gcos T F.toNat x.toNat = x.toNat) (hR : gLC T (F.toNat ||| 2 ^ x.toNat) R.toNat) (v0 : 0 ≤ v) (v1 : v < ((gF T).length : Int)) (hv : ze M 91 v.toNat = ((glt T R.toNat : Nat) : Int)) (hN : N = zsI M 109 (ze M 81 55).toNat (Int32.ofInt v)) (hP : zFr [55] [] N P) (he : ze P 81 55 = ze N 81 55 + 1) : zMl T j P (x + 1) := by
  obtain ⟨⟨a1, a2, a3⟩, a4, a5, a6⟩ := h
  have g24 := hO.1.2.1
  have hlen := hX.2.1
  have hm := gF_m (T := T) (i := j.toNat) (by (exact zo_1085 j0 j1))
  have hFn : F.toNat = (gF T).getD j.toNat 0 := by (exact zo_1103 hF)
  rw [hFn] at ht hc hR
  have hf1 : zFr [] [109] M N := by rw [hN]; exact zFr.sA (by decide)
  have e0 : ze N 81 55 = ze M 81 55 := hf1.e (by decide)
  have r1 : ze P 109 (ze M 81 55).toNat = v := by
    rw [hP.ie (by decide) (by decide)]
    exact zs_get hN ⟨by (exact zo_168 v0), by omega⟩
  have r2 : ∀ k : Nat, k ≠ (ze M 81 55).toNat → ze P 109 k = ze M 109 k := fun k hk => by
    rw [hP.ie (by decide) (by decide)]
    exact zs_oth hN hk
  have e1 : ze M 91 v.toNat = (((gF T).getD v.toNat 0 : Nat) : Int) := hFi.2 v.toNat (by (exact zo_1085 v0 v1))
  -- which sort it is
  have hj : v = j ↔ glt T R.toNat = (gF T).getD j.toNat 0 := by
    constructor
    · rintro rfl; omega
    · intro e
      rw [e] at hv
      rw [e1] at hv
      have e2 : (gF T).getD v.toNat 0 = (gF T).getD j.toNat 0 := by omega
      rcases Nat.lt_trichotomy v.toNat j.toNat with g | g | g
      · have := hO.2.2.1.2.2 v.toNat j.toNat g (by (exact zo_1085 j0 j1)); rw [e2] at this; omega
      · omega
      · have := hO.2.2.1.2.2 j.toNat v.toNat g (by (exact zo_1085 v0 v1)); rw [e2] at this; omega
  have hz : x = 0 → v = j := by
    rintro rfl
    obtain ⟨hFS, hFl⟩ := hO.2.2.1.2.1 _ hm
    obtain ⟨s1, s2, s3⟩ := (hO.2.1.2.2 _ hFS).1
    have : R.toNat = (gF T).getD j.toNat 0 := hR.uq ⟨s2, by
      refine gSb.or (gSb.rf _) (gSb.p2 s3.1), s3, fun C hC hs => fun k hk => hs k (gSb.ol _ _ k hk)⟩
    rw [hj, this, hFl]
  have hnz : x ≠ 0 → v ≠ j := fun hx e => hX.2.2.2.2.1 _ hm x.toNat (by (exact zo_1085 x0 x1)) (by omega) hc _ hR (hj.mp e)
  refine ⟨⟨?_, by omega, by omega⟩, fun k hk => ?_, Or.inr ⟨by omega, ?_⟩, fun k h1 h2 => ?_⟩
  · rw [he, e0, gup_s _ _ x0, a1]
    generalize gup _ 0 x.toNat = r
    unfold gmmF
    rw [if_pos ⟨ht, hc⟩]
    omega
  · by_cases e : k = (ze M 81 55).toNat
    · rw [e, r1]; exact ⟨v0, v1⟩
    · rw [r2 k e]; exact a4 k (by omega)
  · rcases a5 with a5 | a5
    · have : (ze M 81 55).toNat = 0 := by omega
      rw [← this, r1]
      exact hz a5
    · rw [r2 0 (by omega)]; exact a5.2
  · by_cases e : k = (ze M 81 55).toNat
    · rw [e, r1]
      rcases a5 with a5 | a5
      · omega
      · refine hnz ?_
        rintro rfl
        (exact zo_1329 a3 a5.1)
    · rw [r2 k e]; exact a6 k h1 (by omega)
def zus (M : zMem) (s : Int) : Nat → Int
  | 0 => 0
  | k + 1 => zus M s k + (if s.toNat.testBit (ze M 81 26 - 1 - ze M 109 k).toNat then -1 else 1)
theorem zus_b (M : zMem) (s : Int) : ∀ k : Nat, -(k : Int) ≤ zus M s k ∧ zus M s k ≤ k
  | 0 => ⟨Int.le_refl _, Int.le_refl _⟩
  | k + 1 => by
    have := zus_b M s k
    unfold zus
    split <;> omega
theorem zus_s {M : zMem} {s k n t i : Int} (k0 : 0 ≤ k) (h : n = zus M s k.toNat) (hi : i = ze M 81 26 - 1 - ze M 109 k.toNat) (ht : (t = -1 ∧ zbt s i) ∨ (t = 1 ∧ ¬ zbt s i)) : n + t = zus M s (k + 1).toNat := by
  rw [show (k + 1).toNat = k.toNat + 1 by (exact zo_1084 k0)]
  unfold zus
  unfold zbt at ht
  rw [← hi, h]
  rcases ht with ⟨h1, h2⟩ | ⟨h1, h2⟩
  · rw [if_pos h2, h1]
  · rw [if_neg h2, h1]
theorem zus_f {S C : List Nat} {M N : zMem} (hf : zFr S C M N) (hs : 26 ∉ S) (hc : 109 ∉ C) (s : Int) : ∀ k : Nat, zus N s k = zus M s k
  | 0 => rfl
  | k + 1 => by
    unfold zus
    rw [zus_f hf hs hc s k, hf.e hs, hf.ie (by decide) hc]
def zuk (M : zMem) (s : Int) : Prop := ze M 81 55 ∣ zus M s (ze M 81 55).toNat
theorem zbor {s b : Int} {d : Nat} (s0 : 0 ≤ s) (s1 : s < 2147483648) (hd : d < 31) (hb : b = zshl 1 (d : Int)) : (zor s b).toNat = s.toNat ||| 2 ^ d ∧ 0 ≤ zor s b := by
  rw [hb, zorb s0 s1 (by (exact zo_85)) (by omega), Int.toNat_natCast]
  exact ⟨rfl, by (exact zo_85)⟩
theorem zus_or {T : zGT} {M : zMem} {j s b : Int} {d : Nat} (hd : (d : Int) = ze M 81 26 - 1 - j) (hd1 : d < 31) (hlen : ze M 81 26 = ((gF T).length : Int)) (h : zMq T j M) (s0 : 0 ≤ s) (s1 : s < 2 ^ d) (hb : b = zshl 1 (d : Int)) : ∀ k : Nat, 1 ≤ k → (k : Int) ≤ ze M 81 55 → zus M (zor s b) k = zus M s k - 2
  | 0, h, _ => absurd h (by (decide))
  | k + 1, _, h2 => by
    have hp : (2 : Int) ^ d ≤ 2147483648 := by
      have : (2 : Nat) ^ d ≤ 2 ^ 31 := Nat.pow_le_pow_right (by (decide)) (by omega)
      have h3 : ((2 ^ d : Nat) : Int) = (2 : Int) ^ d := by rw [Int.natCast_pow]; rfl
      omega
    have ho := (zbor s0 (by omega) hd1 hb).1
    have hsn : s.toNat < 2 ^ d := by
      have h3 : ((2 ^ d : Nat) : Int) = (2 : Int) ^ d := by rw [Int.natCast_pow]; rfl
      omega
    have hq_ := h
    obtain ⟨-, a1, a2, a3⟩ := h
    have a1k := a1 k (by omega)
    show zus M (zor s b) k + _ = zus M s k + _ - 2
    rw [ho]
    by_cases e : k = 0
    · subst e
      rw [a2, show (ze M 81 26 - 1 - j).toNat = d by omega, Nat.testBit_or, Nat.testBit_two_pow_self, Bool.or_true, if_pos rfl, Nat.testBit_lt_two_pow hsn]
      rfl
    · rw [zus_or hd hd1 hlen hq_ s0 s1 hb k (by omega) (by omega), Nat.testBit_or, Nat.testBit_two_pow]
      have hne := a3 k (by omega) (by omega)
      rw [show decide (d = (ze M 81 26 - 1 - ze M 109 k).toNat) = false from decide_eq_false (by omega), Bool.or_false]
      omega
theorem zuk_2 {T : zGT} {M : zMem} {j s b : Int} {d : Nat} (hd : (d : Int) = ze M 81 26 - 1 - j) (hd1 : d < 31) (hlen : ze M 81 26 = ((gF T).length : Int)) (h : zMq T j M) (s0 : 0 ≤ s) (s1 : s < 2 ^ d) (hb : b = zshl 1 (d : Int)) (h1 : zuk M s) (h2 : zuk M (zor s b)) : ze M 81 55 ≤ 2 := by
  have h0 := h.1.2.1
  have h3 := zus_or hd hd1 hlen h s0 s1 hb (ze M 81 55).toNat (by omega) (by omega)
  unfold zuk at h1 h2
  rw [h3] at h2
  have h4 : ze M 81 55 ∣ 2 := by
    have := Int.dvd_sub h1 h2
    rwa [show zus M s (ze M 81 55).toNat - (zus M s (ze M 81 55).toNat - 2) = 2 by omega] at this
  exact Int.le_of_dvd (by (decide)) h4
def zkb (M : zMem) (s : Int) : Bool := decide (zus M s (ze M 81 55).toNat % ze M 81 55 = 0)
theorem zkb_t {M : zMem} {s : Int} : zkb M s = true ↔ zuk M s := by
  unfold zkb zuk
  rw [decide_eq_true_eq]
  exact (Int.dvd_iff_emod_eq_zero).symm
theorem zkb_n {M : zMem} {s : Int} (h : ¬ zuk M s) : zkb M s = false := by
  cases hb : zkb M s with
  | false => rfl
  | true => exact absurd (zkb_t.mp hb) h
theorem zkb_f {S C : List Nat} {M N : zMem} (hf : zFr S C M N) (hs : 26 ∉ S ∧ 55 ∉ S) (hc : 109 ∉ C) (s : Int) : zkb N s = zkb M s := by
  unfold zkb
  rw [hf.e hs.2, zus_f hf hs.1 hc]
def ucn (f : Nat → Bool) (a : Nat) : Nat → Nat
  | 0 => 0
  | n + 1 => ucn f a n + (f (a + n)).toNat
theorem ucn_l (f : Nat → Bool) (a : Nat) : ∀ n : Nat, ucn f a (n + 1) = (f a).toNat + ucn f (a + 1) n
  | 0 => by
    show 0 + (f (a + 0)).toNat = (f a).toNat + 0
    rw [Nat.zero_add, Nat.add_zero, Nat.add_zero]
  | n + 1 => by
    show ucn f a (n + 1) + (f (a + (n + 1))).toNat = (f a).toNat + (ucn f (a + 1) n + (f (a + 1 + n)).toNat)
    rw [ucn_l f a n, Nat.add_assoc, show a + (n + 1) = a + 1 + n by omega]
theorem ucn_c {f g : Nat → Bool} (a : Nat) : ∀ n : Nat, (∀ k, k < n → f (a + k) = g (a + k)) → ucn f a n = ucn g a n
  | 0, _ => rfl
  | n + 1, h => by
    unfold ucn
    rw [ucn_c a n (fun k hk => h k (by omega)), h n (by (exact zo_1083))]
theorem ubt (b : Bool) : b.toNat ≤ 1 := by cases b <;> decide
def uKf (M : zMem) : Nat → Bool := fun i => zkb M (ze M 110 i)
theorem uKf_s {M N : zMem} {p : Nat} {v : Int32} (hN : N = zsI M 110 p v) {i : Nat} (hi : i ≠ p) : uKf N i = uKf M i := by
  unfold uKf
  rw [zs_oth hN hi]
  exact zkb_f (S := []) (C := [110]) (by rw [hN]; exact zFr.sA (by decide)) (by decide) (by decide) _
def zUr (M : zMem) (n : Int) (d : Nat) : Prop := ∀ i : Nat, (i : Int) < n → 0 ≤ ze M 110 i ∧ ze M 110 i < ((2 ^ d : Nat) : Int)
theorem zUr_up {M : zMem} {n : Int} {d : Nat} (h : zUr M n d) : zUr M n (d + 1) := fun i hi => by
  have h1 := h i hi
  have h2 : (2 : Nat) ^ d ≤ 2 ^ (d + 1) := Nat.pow_le_pow_right (by (decide)) (by (exact zo_1081))
  omega
theorem zUr_s {M N : zMem} {n m p v : Int} {d : Nat} (h : zUr M n d) (hd : d ≤ 31) (p0 : 0 ≤ p) (hN : N = zsI M 110 p.toNat (Int32.ofInt v)) (hv : 0 ≤ v ∧ v < ((2 ^ d : Nat) : Int)) (hm : m ≤ n ∨ (p = n ∧ m = n + 1)) : zUr N m d := by
  have h3 : (2 : Nat) ^ d ≤ 2 ^ 31 := Nat.pow_le_pow_right (by (decide)) hd
  have h4 : (2 : Nat) ^ 31 = 2147483648 := rfl
  intro i hi
  by_cases e : i = p.toNat
  · rw [e, zs_get hN ⟨by (exact zo_168 hv.1), by omega⟩]
    exact hv
  · rw [zs_oth hN e]
    exact h i (by omega)
def zUa (M : zMem) (d : Nat) (um en k : Int) : Prop := (0 ≤ k ∧ k ≤ um ∧ um ≤ en ∧ en ≤ um + k) ∧ zUr M um d ∧ zUr M en (d + 1) ∧ (3 ≤ ze M 81 55 → en + (ucn (uKf M) 0 k.toNat : Int) ≤ um + k)
theorem zUa_0 {M : zMem} {d : Nat} {um : Int} (h0 : 0 ≤ um) (h : zUr M um d) : zUa M d um um 0 := by
  refine ⟨⟨by (decide), h0, by (exact zo_628), by (exact zo_972)⟩, h, zUr_up h, fun _ => ?_⟩
  show um + ((0 : Nat) : Int) ≤ um + 0
  omega
theorem zUa_s0 {M : zMem} {d : Nat} {um en k : Int} (h : zUa M d um en k) (hk : k < um) : zUa M d um en (k + 1) := by
  obtain ⟨h1, h2, h3, h4⟩ := h
  refine ⟨⟨by (exact zo_76 h1.1), by omega, by (exact zo_2544 h1.2.2.1), by (exact zo_970 h1.2.2.2)⟩, h2, h3, fun g => ?_⟩
  have := h4 g
  rw [show (k + 1).toNat = k.toNat + 1 by (exact zo_1084 h1.1)]
  have h5 := ubt (uKf M (0 + k.toNat))
  unfold ucn
  omega
theorem zUa_s1 {T : zGT} {M N : zMem} {d : Nat} {um en k j b s w : Int} (hd : (d : Int) = ze M 81 26 - 1 - j) (hd1 : d < 31) (hlen : ze M 81 26 = ((gF T).length : Int)) (hMd : zMq T j M) (hb : b = zshl 1 (d : Int)) (h : zUa M d um en k) (hk : k < um) (hs : s = ze M 110 k.toNat) (hz : zuk M (zor s b)) (hw : w = zor s b) (hN : N = zsI M 110 en.toNat (Int32.ofInt w)) : zUa N d um (en + 1) (k + 1) := by
  obtain ⟨h1, h2, h3, h4⟩ := h
  have hf1 : zFr [] [110] M N := by rw [hN]; exact zFr.sA (by decide)
  have hsr := h2 k.toNat (by omega)
  rw [← hs] at hsr
  have h31 : (2 : Nat) ^ d < 2 ^ 31 := Nat.pow_lt_pow_right (by (decide)) hd1
  have h32 : (2 : Nat) ^ 31 = 2147483648 := rfl
  have ho := zbor hsr.1 (by omega) hd1 hb
  have hor : s.toNat ||| 2 ^ d < 2 ^ (d + 1) := Nat.or_lt_two_pow (by
    have : (2 : Nat) ^ d ≤ 2 ^ (d + 1) := Nat.pow_le_pow_right (by (decide)) (by (exact zo_1081))
    omega) (Nat.pow_lt_pow_right (by (decide)) (by (exact zo_1083)))
  refine ⟨⟨by (exact zo_76 h1.1), by omega, by (exact zo_961 h1.2.2.1), by omega⟩, fun i hi => ?_, ?_, fun g => ?_⟩
  · rw [zs_oth hN (by omega)]
    exact h2 i hi
  · exact zUr_s h3 (by (exact zo_2549 hd1)) (by omega) hN (by rw [hw]; omega) (Or.inr ⟨rfl, rfl⟩)
  · have e55 : ze N 81 55 = ze M 81 55 := hf1.e (by decide)
    rw [e55] at g
    have := h4 g
    rw [show (k + 1).toNat = k.toNat + 1 by (exact zo_1084 h1.1)]
    unfold ucn
    rw [ucn_c (g := uKf M) 0 k.toNat (fun i hi => uKf_s hN (by omega)), uKf_s hN (by omega)]
    have hz0 : uKf M (0 + k.toNat) = false := by
      unfold uKf
      rw [Nat.zero_add, ← hs]
      refine zkb_n (fun hz1 => ?_)
      have := zuk_2 hd hd1 hlen hMd hsr.1 (by
        have h3 : ((2 ^ d : Nat) : Int) = (2 : Int) ^ d := by rw [Int.natCast_pow]; rfl
        omega) hb hz1 hz
      omega
    rw [hz0]
    show en + 1 + ((_ + 0 : Nat) : Int) ≤ _
    omega
def zUb (M : zMem) (d : Nat) (um en kp k : Int) : Prop := (0 ≤ kp ∧ kp ≤ k ∧ k ≤ um ∧ um ≤ en ∧ en ≤ 2 * um) ∧ zUr M en (d + 1) ∧ (3 ≤ ze M 81 55 → kp + (ucn (uKf M) k.toNat (um - k).toNat : Int) + en ≤ 2 * um)
theorem zUb_0 {M : zMem} {d : Nat} {um en k : Int} (h : zUa M d um en k) (hk : um ≤ k) : zUb M d um en 0 0 := by
  obtain ⟨h1, h2, h3, h4⟩ := h
  refine ⟨⟨by (decide), by (decide), by (exact zo_962 h1.1 h1.2.1), by (exact zo_2544 h1.2.2.1), by (exact zo_963 h1.2.1 h1.2.2.2)⟩, h3, fun g => ?_⟩
  have := h4 g
  rw [show (um - 0).toNat = k.toNat by omega]
  show 0 + (ucn (uKf M) 0 k.toNat : Int) + en ≤ 2 * um
  omega
theorem ucn_k {f : Nat → Bool} {k um : Int} (k0 : 0 ≤ k) (hk : k < um) : ucn f k.toNat (um - k).toNat = (f k.toNat).toNat + ucn f (k + 1).toNat (um - (k + 1)).toNat := by
  rw [show (um - k).toNat = (um - (k + 1)).toNat + 1 by omega, ucn_l, show (k + 1).toNat = k.toNat + 1 by (exact zo_1084 k0)]
theorem zUb_s0 {M : zMem} {d : Nat} {um en kp k : Int} (h : zUb M d um en kp k) (hk : k < um) : zUb M d um en kp (k + 1) := by
  obtain ⟨h1, h2, h3⟩ := h
  refine ⟨⟨by (exact zo_57 h1.1), by (exact zo_961 h1.2.1), by (exact zo_2559 hk), by (exact zo_2544 h1.2.2.2.1), by (exact zo_2560 h1.2.2.2.2)⟩, h2, fun g => ?_⟩
  have := h3 g
  rw [ucn_k (by (exact zo_962 h1.1 h1.2.1)) hk] at this
  omega
theorem zUb_s1 {M N : zMem} {d : Nat} (hd1 : d < 31) {um en kp k s : Int} (h : zUb M d um en kp k) (hk : k < um) (hs : s = ze M 110 k.toNat) (hz : zuk M s) (hN : N = zsI M 110 kp.toNat (Int32.ofInt s)) : zUb N d um en (kp + 1) (k + 1) := by
  obtain ⟨h1, h2, h3⟩ := h
  have hf1 : zFr [] [110] M N := by rw [hN]; exact zFr.sA (by decide)
  refine ⟨⟨by (exact zo_76 h1.1), by (exact zo_951 h1.2.1), by (exact zo_2559 hk), by (exact zo_2544 h1.2.2.2.1), by (exact zo_2560 h1.2.2.2.2)⟩, ?_, fun g => ?_⟩
  · refine zUr_s h2 (by (exact zo_2549 hd1)) (by (exact zo_57 h1.1)) hN ?_ (Or.inl (Int.le_refl _))
    rw [hs]
    exact h2 k.toNat (by omega)
  · have e55 : ze N 81 55 = ze M 81 55 := hf1.e (by decide)
    rw [e55] at g
    have := h3 g
    rw [ucn_k (by (exact zo_962 h1.1 h1.2.1)) hk] at this
    have h5 : uKf M k.toNat = true := by
      unfold uKf
      rw [← hs]
      exact zkb_t.mpr hz
    rw [h5] at this
    rw [ucn_c (g := uKf M) (k + 1).toNat _ (fun i hi => uKf_s hN (by omega))]
    have e1 : (true.toNat : Nat) = 1 := rfl
    rw [e1] at this
    omega
def zUc (M : zMem) (d : Nat) (um en kp k : Int) : Prop := (0 ≤ kp ∧ kp ≤ k ∧ um ≤ k ∧ k ≤ en ∧ en ≤ 2 * um) ∧ zUr M en (d + 1) ∧ (3 ≤ ze M 81 55 → kp + (en - k) ≤ um)
theorem zUc_0 {M : zMem} {d : Nat} {um en kp k : Int} (h : zUb M d um en kp k) (hk : um ≤ k) : zUc M d um en kp um := by
  obtain ⟨h1, h2, h3⟩ := h
  refine ⟨⟨by (exact zo_57 h1.1), by (exact zo_954 h1.2.1 h1.2.2.1), by (exact zo_628), by (exact zo_2544 h1.2.2.2.1), by (exact zo_2560 h1.2.2.2.2)⟩, h2, fun g => ?_⟩
  have := h3 g
  omega
theorem zUc_s {M N : zMem} {d : Nat} (hd1 : d < 31) {um en kp k s : Int} (h : zUc M d um en kp k) (hk : k < en) (hs : s = ze M 110 k.toNat) (hN : N = zsI M 110 kp.toNat (Int32.ofInt s)) : zUc N d um en (kp + 1) (k + 1) := by
  obtain ⟨h1, h2, h3⟩ := h
  have hf1 : zFr [] [110] M N := by rw [hN]; exact zFr.sA (by decide)
  refine ⟨⟨by (exact zo_76 h1.1), by (exact zo_951 h1.2.1), by (exact zo_961 h1.2.2.1), by (exact zo_2559 hk), by (exact zo_2560 h1.2.2.2.2)⟩, ?_, fun g => ?_⟩
  · refine zUr_s h2 (by (exact zo_2549 hd1)) (by (exact zo_57 h1.1)) hN ?_ (Or.inl (Int.le_refl _))
    rw [hs]
    exact h2 k.toNat (by omega)
  · have e55 : ze N 81 55 = ze M 81 55 := hf1.e (by decide)
    rw [e55] at g
    have := h3 g
    omega
def zUo (T : zGT) (M : zMem) (d : Nat) (um : Int) : Prop := 0 ≤ um ∧ um ≤ ((2 ^ gcu T d : Nat) : Int) ∧ zUr M um d
theorem gcu_m (T : zGT) : ∀ d e : Nat, gcu T d ≤ gcu T (d + e)
  | d, 0 => Nat.le_refl _
  | d, e + 1 => Nat.le_trans (gcu_m T d e) (Nat.le_add_right _ _)
theorem gcu_b {T : zGT} (hX : gEx T) {d : Nat} (hd : d ≤ (gF T).length) : (2 : Nat) ^ gcu T d ≤ 32768 := by
  have h1 := gcu_m T d ((gF T).length - d)
  rw [show d + ((gF T).length - d) = (gF T).length by omega] at h1
  have h2 := hX.2.2.2.1
  have h3 : (2 : Nat) ^ gcu T d ≤ 2 ^ 15 := Nat.pow_le_pow_right (by (decide)) (by omega)
  exact h3
theorem zUo_b {T : zGT} (hX : gEx T) {M : zMem} {d : Nat} {um : Int} (hd : d ≤ (gF T).length) (h : zUo T M d um) : 0 ≤ um ∧ um ≤ 32768 := by
  have h1 := gcu_b hX hd
  have h2 := h.1
  have h3 := h.2.1
  omega
theorem zUo_0 {T : zGT} {M : zMem} (h : ze M 110 0 = 0) : zUo T M 0 1 := ⟨by (decide), by
  show (1 : Int) ≤ ((2 ^ 0 : Nat) : Int)
  decide, fun i hi => by
  rw [show i = 0 by omega, h]
  decide⟩
theorem zUo_s {T : zGT} {M N : zMem} {d : Nat} {j um en kp k : Int} (hj : (d : Int) = ((gF T).length : Int) - 1 - j) (j0 : 0 ≤ j) (ho : um ≤ ((2 ^ gcu T d : Nat) : Int)) (hMd : zMq T j M) (h : zUc M d um en kp k) (hk : en ≤ k) (hN : ∀ i, ze N 110 i = ze M 110 i) : zUo T N (d + 1) kp := by
  obtain ⟨h1, h2, h3⟩ := h
  refine ⟨by (exact zo_57 h1.1), ?_, fun i hi => by rw [hN]; exact h2 i (by omega)⟩
  have hm := hMd.1.1
  have hg : gcu T (d + 1) = gcu T d + (if gmm T ((gF T).getD ((gF T).length - 1 - d) 0) ≤ 2 then 1 else 0) := rfl
  rw [show (gF T).length - 1 - d = j.toNat by omega] at hg
  by_cases e : gmm T ((gF T).getD j.toNat 0) ≤ 2
  · rw [if_pos e] at hg
    rw [hg, Nat.pow_succ]
    omega
  · rw [if_neg e] at hg
    rw [hg, Nat.add_zero]
    have := h3 (by omega)
    omega
theorem zor_p {x y : Int} (x0 : 0 ≤ x) (x1 : x < 2147483648) (y0 : 0 ≤ y) (y1 : y < 2147483648) : 0 ≤ zor x y := by
  obtain ⟨m, rfl⟩ := Int.eq_ofNat_of_zero_le x0
  obtain ⟨n, rfl⟩ := Int.eq_ofNat_of_zero_le y0
  rw [zor_n m n (by omega) (by omega)]
  omega
theorem zshl_p {k : Int} (k0 : 0 ≤ k) (k1 : k < 31) : 0 ≤ zshl 1 k := by
  obtain ⟨n, rfl⟩ := Int.eq_ofNat_of_zero_le k0
  rw [zshl1 n (by omega)]
  exact Int.natCast_nonneg _
theorem zUo.fr {S C : List Nat} {M N : zMem} {T : zGT} {d : Nat} {um : Int} (hf : zFr S C M N) (h : zUo T M d um) (hc : 110 ∉ C) : zUo T N d um := ⟨h.1, h.2.1, fun i hi => by rw [hf.ie (by decide) hc]; exact h.2.2 i hi⟩
theorem gp30 {d : Nat} (h : d ≤ 30) : ((2 ^ d : Nat) : Int) ≤ 1073741824 := by
  have : (2 : Nat) ^ d ≤ 2 ^ 30 := Nat.pow_le_pow_right (by (decide)) h
  have h4 : (2 : Nat) ^ 30 = 1073741824 := rfl
  omega
def zNo (T : zGT) (S : Nat) (v g : Int) : Prop := gIn T v ∧ (∀ x : Nat, (x : Int) < g → x < gN T → (v.toNat.testBit x = true ↔ gtr T S x = S)) ∧ ∀ x : Nat, g ≤ (x : Int) → v.toNat.testBit x = false
theorem zNo_0 (T : zGT) (S : Nat) : zNo T S 0 0 := ⟨gIn_0 T, fun x h => absurd h (by (exact zo_131)), fun x _ => Nat.zero_testBit x⟩
theorem zNo_s {T : zGT} (hG : gGd T) {S : Nat} {v g t : Int} (h : zNo T S v g) (g0 : 0 ≤ g) (g1 : g < gN T) (ht : (t = 1 ∧ gtr T S g.toNat = S) ∨ (t = 0 ∧ gtr T S g.toNat ≠ S)) : zNo T S (zor v (zshl t g)) (g + 1) := by
  obtain ⟨h1, h2, h3⟩ := h
  have hb := h1.b hG
  have h24 := hG.2.1
  refine ⟨gIn_t hG h1 (by omega) g0 g1, ?_⟩
  rcases ht with ⟨rfl, ht⟩ | ⟨rfl, ht⟩
  · rw [zorb hb.1 (by omega) g0 (by omega), Int.toNat_natCast]
    refine ⟨fun x hx hxn => ?_, fun x hx => ?_⟩
    · rw [Nat.testBit_or, Nat.testBit_two_pow, Bool.or_eq_true, decide_eq_true_eq]
      by_cases e : g.toNat = x
      · subst e
        exact ⟨fun _ => ht, fun _ => Or.inr rfl⟩
      · rw [← h2 x (by omega) hxn]
        exact ⟨fun h => h.resolve_right e, fun h => Or.inl h⟩
    · rw [Nat.testBit_or, Nat.testBit_two_pow, h3 x (by omega), Bool.false_or]
      exact decide_eq_false (by omega)
  · have e0 : zor v (zshl 0 g) = v := by
      obtain ⟨n, rfl⟩ := Int.eq_ofNat_of_zero_le g0
      obtain ⟨m, rfl⟩ := Int.eq_ofNat_of_zero_le hb.1
      rw [show zshl 0 (n : Int) = 0 from zshl0_k ⟨n, by omega⟩]
      have e3 : ((0 : Nat) : Int) = 0 := rfl
      rw [← e3, zor_n m 0 (by omega) (by (decide)), Nat.or_zero]
    rw [e0]
    refine ⟨fun x hx hxn => ?_, fun x hx => h3 x (by omega)⟩
    by_cases e : g.toNat = x
    · subst e
      rw [h3 g.toNat (by (exact zo_68))]
      exact ⟨fun h => (by cases h), fun h => absurd h ht⟩
    · exact h2 x (by omega) hxn
set_option maxHeartbeats 4000000 in
theorem c_M_normOfF (l : Launch) (Mz : zMem) (hW : zMt Mz) (a0_ : Int) (ha0_a : -2147483648 ≤ a0_) (ha0_b : a0_ < 2147483648) (T : zGT) (hO : gOK T) (p0_ : zGB T Mz) (p1_ : 0 ≤ a0_) (p2_ : a0_ < 16777216) : zC l m_M_normOf 0 0 [.ref 81, .int (Int32.ofInt a0_)] Mz (zpI [] [] Mz (fun v N => gIn T v ∧ 0 ≤ v ∧ ∀ g : Nat, g < gN T → ((v).toNat.testBit g = true ↔ gtr T (a0_).toNat g = (a0_).toNat))) := by
  refine zC_of (L0 := [some (.ref 81), some (.int (Int32.ofInt a0_)), none, none]) md_M_normOf (Nat.le_of_ble_eq_true rfl) rfl ?_ zQ0
  have hf : zFr [] [] Mz Mz := zFr.rf
  have r_20 := ze_r Mz 81 20
  have hG := hO.1
  have g24 := hG.2.1
  have g1 := hG.1
  have dv0 : zTab T Mz := p0_.1
  have dv1 : zB 85 144 0 5 Mz := p0_.2.1
  have dv2 : zJX T Mz := p0_.2.2.1
  have dv3 : zFirs T Mz := p0_.2.2.2.1
  have dv4 : zSSm T Mz := p0_.2.2.2.2.1
  have dv5 : zGD Mz := zGB.d hO p0_
  have gb := dv5.1
  have gn := dv0.1
  refine zw_iconst (pc := 0) (v := Int32.ofInt 0) (by decide) (zdal_p dlD_M_normOf_18 (i := 0) rfl) ?_
  refine zw_istore_n (pc := 1) (i := 2) (L2 := [some (.ref 81), some (.int (Int32.ofInt a0_)), some (.int (Int32.ofInt 0)), none]) rfl (by decide) rfl (zdal_p dlD_M_normOf_18 (i := 1) rfl) ?_
  refine zw_iconst (pc := 2) (v := Int32.ofInt 0) (by decide) (zdal_p dlD_M_normOf_18 (i := 2) rfl) ?_
  refine zw_istore_n (pc := 3) (i := 3) (L2 := [some (.ref 81), some (.int (Int32.ofInt a0_)), some (.int (Int32.ofInt 0)), some (.int (Int32.ofInt 0))]) rfl (by decide) rfl (zdal_p dlD_M_normOf_18 (i := 3) rfl) ?_
  have lp_4 : ∀ (n : Nat) (u1_ : Int) (hu1_a : -2147483648 ≤ u1_) (hu1_b : u1_ < 2147483648) (u2_ : Int) (hu2_a : -2147483648 ≤ u2_) (hu2_b : u2_ < 2147483648) (i3_ : 0 ≤ u2_) (i4_ : zNo T (a0_).toNat u1_ u2_) (i5_ : u2_ ≤ ze Mz 81 20), (ze Mz 81 20 - u2_).toNat < n → zW l m_M_normOf (zn Mz + 0, zw Mz + 0) Mz 4 [some (.ref 81), some (.int (Int32.ofInt a0_)), some (.int (Int32.ofInt u1_)), some (.int (Int32.ofInt u2_))] [] (zpI [] [] Mz (fun v N => gIn T v ∧ 0 ≤ v ∧ ∀ g : Nat, g < gN T → ((v).toNat.testBit g = true ↔ gtr T (a0_).toNat g = (a0_).toNat))) := by
    intro n
    induction n with
    | zero =>
      intro u1_ hu1_a hu1_b u2_ hu2_a hu2_b i3_ i4_ i5_ h0
      exact absurd h0 (Nat.not_lt_zero _)
    | succ n ih_4 =>
      intro u1_ hu1_a hu1_b u2_ hu2_a hu2_b i3_ i4_ i5_ hlt_4
      refine zw_iload_n (pc := 4) (n := 3) (x := Int32.ofInt u2_) rfl (zdal_p dlD_M_normOf_18 (i := 4) rfl) ?_
      refine zw_aload_n (pc := 5) (n := 0) (x := 81) rfl (zdal_p dlD_M_normOf_18 (i := 5) rfl) ?_
      refine zr_getI0 hf hW (pc := 6) (by decide) f_M_196 rfl (zdal_p dlD_M_normOf_18 (i := 6) rfl) ?_
      refine zr_icmp_ge (pc := 9) (tgt := 41) ⟨hu2_a, hu2_b⟩ ⟨(ze_r Mz 81 20).1, (ze_r Mz 81 20).2⟩ (by decide) (zdal_p dlD_M_normOf_18 (i := 7) rfl) (fun hc_9 => ?_) (fun hc_9 => ?_)
      · skip
        refine zw_iload_n (pc := 41) (n := 2) (x := Int32.ofInt u1_) rfl (zdal_p dlD_M_normOf_19 (i := 1) rfl) ?_
        have hnz_ := (show zNo T (a0_).toNat u1_ u2_ by first | with_reducible assumption | assumption)
        exact zr_iret (pc := 42) (ty := .int) rfl rfl ⟨by (exact hu1_a), by (exact hu1_b)⟩ hf ⟨(show gIn T u1_ by exact hnz_.1), (show 0 ≤ u1_ by exact hnz_.1.1), (show ∀ g : Nat, g < gN T → ((u1_).toNat.testBit g = true ↔ gtr T (a0_).toNat g = (a0_).toNat) by exact fun g hg => hnz_.2.1 g (by omega) hg)⟩ (zdal_p dlD_M_normOf_19 (i := 2) rfl)
      · skip
        refine zw_iload_n (pc := 12) (n := 2) (x := Int32.ofInt u1_) rfl (zdal_p dlD_M_normOf_18 (i := 8) rfl) ?_
        refine zw_aload_n (pc := 13) (n := 0) (x := 81) rfl (zdal_p dlD_M_normOf_18 (i := 9) rfl) ?_
        refine zw_iload_n (pc := 14) (n := 1) (x := Int32.ofInt a0_) rfl (zdal_p dlD_M_normOf_18 (i := 10) rfl) ?_
        refine zw_iload_n (pc := 15) (n := 3) (x := Int32.ofInt u2_) rfl (zdal_p dlD_M_normOf_18 (i := 11) rfl) ?_
        refine zr_callV (hf.w hW) hf.x (pc := 16) [.int (Int32.ofInt a0_), .int (Int32.ofInt u2_)] [.int (Int32.ofInt u1_)] l_M_223 (c_M_turned l Mz (hf.w hW) a0_ ha0_a ha0_b u2_ hu2_a hu2_b T hG dv0 (show 0 ≤ a0_ by first | with_reducible assumption | assumption | omega) (show 0 ≤ u2_ by first | with_reducible assumption | assumption | omega) (show u2_ < ze Mz 81 20 by first | with_reducible assumption | assumption | omega)) rfl rfl rfl (by decide) (Nat.le_of_ble_eq_true rfl) (zdal_p dlD_M_normOf_18 (i := 12) rfl) ?_
        rintro _ N6_ ⟨v7_, rfl, ⟨hv7_a, hv7_b⟩, hsN6_, ⟨hp0_N6_, hp1_N6_, hp2_N6_⟩⟩
        obtain rfl := hsN6_.eq.symm
        show zW l m_M_normOf (zn Mz + 0, zw Mz + 0) Mz 19 [some (.ref 81), some (.int (Int32.ofInt a0_)), some (.int (Int32.ofInt u1_)), some (.int (Int32.ofInt u2_))] [.int (Int32.ofInt v7_), .int (Int32.ofInt u1_)] _
        refine zw_iload_n (pc := 19) (n := 1) (x := Int32.ofInt a0_) rfl (zdal_p dlD_M_normOf_18 (i := 13) rfl) ?_
        refine zr_icmp_ne (pc := 20) (tgt := 27) ⟨hv7_a, hv7_b⟩ ⟨ha0_a, ha0_b⟩ (by decide) (zdal_p dlD_M_normOf_18 (i := 14) rfl) (fun hc_20 => ?_) (fun hc_20 => ?_)
        · skip
          refine zw_iconst (pc := 27) (v := Int32.ofInt 0) (by decide) (zdal_p dlD_M_normOf_18 (i := 17) rfl) ?_
          refine zr_callS hf.x (pc := 28) [.int (Int32.ofInt 0)] [.int (Int32.ofInt u1_)] l_M_256 (c_M_truth l Mz (hf.w hW) 0 (by decide) (by decide) (by (decide))) rfl rfl (by decide) (Nat.le_of_ble_eq_true rfl) (zdal_p dlD_M_normOf_18 (i := 18) rfl) ?_
          rintro _ N8_ ⟨v9_, rfl, ⟨hv9_a, hv9_b⟩, hsN8_, hp0_N8_⟩
          obtain rfl := hsN8_.eq.symm
          replace hp0_N8_ : v9_ = 0 := hp0_N8_
          show zW l m_M_normOf (zn Mz + 0, zw Mz + 0) Mz 31 [some (.ref 81), some (.int (Int32.ofInt a0_)), some (.int (Int32.ofInt u1_)), some (.int (Int32.ofInt u2_))] [.int (Int32.ofInt v9_), .int (Int32.ofInt u1_)] _
          have hnt_ : (v9_ = 1 ∧ gtr T (a0_).toNat (u2_).toNat = (a0_).toNat) ∨ (v9_ = 0 ∧ gtr T (a0_).toNat (u2_).toNat ≠ (a0_).toNat) := by omega
          have hno_ := zNo_s hG (show zNo T (a0_).toNat u1_ u2_ by first | with_reducible assumption | assumption) (by (exact i3_)) (by (exact zo_1014 gn hc_9)) hnt_
          refine zw_iload_n (pc := 31) (n := 3) (x := Int32.ofInt u2_) rfl (zdal_p dlD_M_normOf_18 (i := 19) rfl) ?_
          refine zr_ishl (pc := 32) (zdal_p dlD_M_normOf_18 (i := 20) rfl) ?_
          have hr10_ := zshl_r v9_ u2_
          refine zr_ior (pc := 33) (zdal_p dlD_M_normOf_18 (i := 21) rfl) ?_
          have hr11_ := zor_r u1_ (zshl v9_ u2_)
          refine zw_istore_n (pc := 34) (i := 2) (L2 := [some (.ref 81), some (.int (Int32.ofInt a0_)), some (.int (Int32.ofInt (zor u1_ (zshl v9_ u2_)))), some (.int (Int32.ofInt u2_))]) rfl (by decide) rfl (zdal_p dlD_M_normOf_18 (i := 22) rfl) ?_
          refine zr_iinc (pc := 35) (i := 3) (a := u2_) (n := 1) (L2 := [some (.ref 81), some (.int (Int32.ofInt a0_)), some (.int (Int32.ofInt (zor u1_ (zshl v9_ u2_)))), some (.int (Int32.ofInt (u2_ + 1)))]) rfl (by decide) rfl (zdal_p dlD_M_normOf_18 (i := 23) rfl) ?_
          refine zw_goto (pc := 38) (tgt := 4) (by decide) (zdal_p dlD_M_normOf_19 (i := 0) rfl) ?_
          exact ih_4 (zor u1_ (zshl v9_ u2_)) (by (exact zo_284 hr11_.1)) (by (exact zo_285 hr11_.2)) (u2_ + 1) (by (exact zo_74 i3_)) (by (exact zo_919 gb.2.1 hc_9)) (show 0 ≤ (u2_ + 1) by first | with_reducible assumption | (exact zo_76 i3_) | assumption) (show zNo T (a0_).toNat (zor u1_ (zshl v9_ u2_)) (u2_ + 1) by exact hno_) (show (u2_ + 1) ≤ ze Mz 81 20 by first | with_reducible assumption | assumption | omega) (by (exact zo_147 hc_9 hlt_4))
        · skip
          refine zw_iconst (pc := 23) (v := Int32.ofInt 1) (by decide) (zdal_p dlD_M_normOf_18 (i := 15) rfl) ?_
          refine zw_goto (pc := 24) (tgt := 28) (by decide) (zdal_p dlD_M_normOf_18 (i := 16) rfl) ?_
          refine zr_callS hf.x (pc := 28) [.int (Int32.ofInt 1)] [.int (Int32.ofInt u1_)] l_M_256 (c_M_truth l Mz (hf.w hW) 1 (by decide) (by decide) (by (decide))) rfl rfl (by decide) (Nat.le_of_ble_eq_true rfl) (zdal_p dlD_M_normOf_18 (i := 18) rfl) ?_
          rintro _ N12_ ⟨v13_, rfl, ⟨hv13_a, hv13_b⟩, hsN12_, hp0_N12_⟩
          obtain rfl := hsN12_.eq.symm
          replace hp0_N12_ : v13_ = 1 := hp0_N12_
          show zW l m_M_normOf (zn Mz + 0, zw Mz + 0) Mz 31 [some (.ref 81), some (.int (Int32.ofInt a0_)), some (.int (Int32.ofInt u1_)), some (.int (Int32.ofInt u2_))] [.int (Int32.ofInt v13_), .int (Int32.ofInt u1_)] _
          have hnt_ : (v13_ = 1 ∧ gtr T (a0_).toNat (u2_).toNat = (a0_).toNat) ∨ (v13_ = 0 ∧ gtr T (a0_).toNat (u2_).toNat ≠ (a0_).toNat) := by omega
          have hno_ := zNo_s hG (show zNo T (a0_).toNat u1_ u2_ by first | with_reducible assumption | assumption) (by (exact i3_)) (by (exact zo_1014 gn hc_9)) hnt_
          refine zw_iload_n (pc := 31) (n := 3) (x := Int32.ofInt u2_) rfl (zdal_p dlD_M_normOf_18 (i := 19) rfl) ?_
          refine zr_ishl (pc := 32) (zdal_p dlD_M_normOf_18 (i := 20) rfl) ?_
          have hr14_ := zshl_r v13_ u2_
          refine zr_ior (pc := 33) (zdal_p dlD_M_normOf_18 (i := 21) rfl) ?_
          have hr15_ := zor_r u1_ (zshl v13_ u2_)
          refine zw_istore_n (pc := 34) (i := 2) (L2 := [some (.ref 81), some (.int (Int32.ofInt a0_)), some (.int (Int32.ofInt (zor u1_ (zshl v13_ u2_)))), some (.int (Int32.ofInt u2_))]) rfl (by decide) rfl (zdal_p dlD_M_normOf_18 (i := 22) rfl) ?_
          refine zr_iinc (pc := 35) (i := 3) (a := u2_) (n := 1) (L2 := [some (.ref 81), some (.int (Int32.ofInt a0_)), some (.int (Int32.ofInt (zor u1_ (zshl v13_ u2_)))), some (.int (Int32.ofInt (u2_ + 1)))]) rfl (by decide) rfl (zdal_p dlD_M_normOf_18 (i := 23) rfl) ?_
          refine zw_goto (pc := 38) (tgt := 4) (by decide) (zdal_p dlD_M_normOf_19 (i := 0) rfl) ?_
          exact ih_4 (zor u1_ (zshl v13_ u2_)) (by (exact zo_284 hr15_.1)) (by (exact zo_285 hr15_.2)) (u2_ + 1) (by (exact zo_74 i3_)) (by (exact zo_919 gb.2.1 hc_9)) (show 0 ≤ (u2_ + 1) by first | with_reducible assumption | (exact zo_76 i3_) | assumption) (show zNo T (a0_).toNat (zor u1_ (zshl v13_ u2_)) (u2_ + 1) by exact hno_) (show (u2_ + 1) ≤ ze Mz 81 20 by first | with_reducible assumption | assumption | omega) (by (exact zo_147 hc_9 hlt_4))
  exact lp_4 _ 0 (by decide) (by decide) 0 (by decide) (by decide) (show 0 ≤ (0 : Int) by first | with_reducible assumption | (decide) | assumption) (show zNo T (a0_).toNat (0 : Int) (0 : Int) by exact zNo_0 T _) (show (0 : Int) ≤ ze Mz 81 20 by first | with_reducible assumption | (exact zo_564 gb.1) | assumption) (Nat.lt_succ_self _)
set_option maxHeartbeats 4000000 in
theorem c_M_sortOfSetF (l : Launch) (Mz : zMem) (hW : zMt Mz) (a0_ : Int) (ha0_a : -2147483648 ≤ a0_) (ha0_b : a0_ < 2147483648) (T : zGT) (hO : gOK T) (p0_ : zGB T Mz) (p1_ : gMe T a0_) : zC l m_M_sortOfSet 0 0 [.ref 81, .int (Int32.ofInt a0_)] Mz (zpI [] [] Mz (fun v N => 0 ≤ v ∧ v < ze Mz 81 26 ∧ ze Mz 91 (v).toNat = ((glt T (a0_).toNat : Nat) : Int))) := by
  refine zC_of (L0 := [some (.ref 81), some (.int (Int32.ofInt a0_))]) md_M_sortOfSet (Nat.le_of_ble_eq_true rfl) rfl ?_ zQ0
  have hf : zFr [] [] Mz Mz := zFr.rf
  have r_25 := ze_r Mz 81 25
  have r_26 := ze_r Mz 81 26
  have hG := hO.1
  have g24 := hG.2.1
  have g1 := hG.1
  have dv0 : zTab T Mz := p0_.1
  have dv1 : zB 85 144 0 5 Mz := p0_.2.1
  have dv2 : zJX T Mz := p0_.2.2.1
  have dv3 : zFirs T Mz := p0_.2.2.2.1
  have dv4 : zSSm T Mz := p0_.2.2.2.2.1
  have dv5 : zGD Mz := zGB.d hO p0_
  have gb := dv5.1
  have gn := dv0.1
  refine zw_aload_n (pc := 0) (n := 0) (x := 81) rfl (zdal_p dlD_M_sortOfSet_13 (i := 0) rfl) ?_
  refine zr_getF (r := 90) (hf.w hW) (pc := 1) f_M_41 rfl (zh_90 (hf.w hW)).1 (zdal_p dlD_M_sortOfSet_13 (i := 1) rfl) ?_
  refine zw_aload_n (pc := 4) (n := 0) (x := 81) rfl (zdal_p dlD_M_sortOfSet_13 (i := 2) rfl) ?_
  refine zw_iload_n (pc := 5) (n := 1) (x := Int32.ofInt a0_) rfl (zdal_p dlD_M_sortOfSet_13 (i := 3) rfl) ?_
  refine zr_callV (hf.w hW) hf.x (pc := 6) [.int (Int32.ofInt a0_)] [.ref 90] l_M_232 (c_M_subIndex l Mz (hf.w hW) a0_ ha0_a ha0_b (show 0 ≤ ze Mz 81 25 by first | with_reducible assumption | (exact zo_564 gb.2.2.1) | assumption) (show ze Mz 81 25 ≤ 128 by first | with_reducible assumption | (exact zo_579 gb.2.2.2.1) | assumption)) rfl rfl rfl (by decide) (Nat.le_of_ble_eq_true rfl) (zdal_p dlD_M_sortOfSet_13 (i := 4) rfl) ?_
  rintro _ N1_ ⟨v2_, rfl, ⟨hv2_a, hv2_b⟩, hsN1_, hp0_N1_⟩
  obtain rfl := hsN1_.eq.symm
  replace hp0_N1_ : ((0 ≤ v2_ ∧ v2_ < ze Mz 81 25 ∧ ze Mz 89 (v2_).toNat = a0_) ∨ (v2_ = -1 ∧ ∀ k : Nat, (k : Int) < ze Mz 81 25 → ze Mz 89 k ≠ a0_)) := hp0_N1_
  rcases hp0_N1_ with ⟨ha6_0_hp0_N1_, ha6_1_hp0_N1_, ha6_2_hp0_N1_⟩ | ⟨rfl, ha6_0_hp0_N1_⟩
  · skip
    show zW l m_M_sortOfSet (zn Mz + 0, zw Mz + 0) Mz 9 [some (.ref 81), some (.int (Int32.ofInt a0_))] [.int (Int32.ofInt v2_), .ref 90] _
    have hs := dv4 (v2_).toNat (by (exact zo_587 ha6_0_hp0_N1_ ha6_1_hp0_N1_))
    have hs3 : ze Mz 91 (ze Mz 90 (v2_).toNat).toNat = ((glt T (a0_).toNat : Nat) : Int) := by rw [hs.2.2, show ze Mz 89 (v2_).toNat = a0_ by assumption]
    refine zr_ialdn (pc := 9) (zh_90 (hf.w hW)).2 (by decide) (by (exact ha6_0_hp0_N1_)) (by omega) (zdal_p dlD_M_sortOfSet_13 (i := 5) rfl) (fun v3_ hv3_ hv3_a hv3_b => ?_)
    exact zr_iret (pc := 10) (ty := .int) rfl rfl ⟨by (exact hv3_a), by (exact hv3_b)⟩ hf ⟨(show 0 ≤ v3_ by first | with_reducible assumption | (exact zo_574 hs.1 hv3_ hv3_a) | assumption), (show v3_ < ze Mz 81 26 by first | with_reducible assumption | assumption | omega), (show ze Mz 91 (v3_).toNat = ((glt T (a0_).toNat : Nat) : Int) by rw [‹v3_ = ze Mz 90 _›]; exact hs3)⟩ (zdal_p dlD_M_sortOfSet_13 (i := 6) rfl)
  · skip
    obtain ⟨i0, hi0, hi1⟩ := (p1_).f hO dv2
    exact absurd hi1 (ha6_0_hp0_N1_ i0 hi0)
set_option maxHeartbeats 20000000 in
theorem c_M_laysMade (l : Launch) (Mz : zMem) (hW : zMt Mz) (a0_ : Int) (ha0_a : -2147483648 ≤ a0_) (ha0_b : a0_ < 2147483648) (T : zGT) (hO : gOK T) (hX : gEx T) (p0_ : zGB T Mz) (p1_ : 0 ≤ a0_) (p2_ : a0_ < ze Mz 81 26) : zC l m_M_laysMade 0 0 [.ref 81, .int (Int32.ofInt a0_)] Mz (zpV [55] [109] Mz (fun N => zMq T a0_ N ∧ 1 ≤ ze N 81 55 ∧ ze N 81 55 ≤ 24)) := by
  refine zC_of (L0 := [some (.ref 81), some (.int (Int32.ofInt a0_)), none, none, none]) md_M_laysMade (Nat.le_of_ble_eq_true rfl) rfl ?_ zQ0
  have hf : zFr [55] [109] Mz Mz := zFr.rf
  have r_20 := ze_r Mz 81 20
  have r_26 := ze_r Mz 81 26
  have r_55 := ze_r Mz 81 55
  have hG := hO.1
  have g24 := hG.2.1
  have g1 := hG.1
  have dv0 : zTab T Mz := p0_.1
  have dv1 : zB 85 144 0 5 Mz := p0_.2.1
  have dv2 : zJX T Mz := p0_.2.2.1
  have dv3 : zFirs T Mz := p0_.2.2.2.1
  have dv4 : zSSm T Mz := p0_.2.2.2.2.1
  have dv5 : zGD Mz := zGB.d hO p0_
  have gb := dv5.1
  have gn := dv0.1
  have gfl := dv3.1
  have gf6 := gF_pos hO
  have gxl := hX.2.1
  have hfz := dv3.2 (a0_).toNat (by (exact zo_1001 gb.2.2.2.2.2 gfl p1_ p2_))
  have hfg := dv3.g hO (e := a0_) (by (exact p1_)) (by (exact p2_))
  refine zw_aload_n (pc := 0) (n := 0) (x := 81) rfl (zdal_p dlD_M_laysMade_81 (i := 0) rfl) ?_
  refine zr_getF (r := 91) (hf.w hW) (pc := 1) f_M_44 rfl (zh_91 (hf.w hW)).1 (zdal_p dlD_M_laysMade_81 (i := 1) rfl) ?_
  refine zw_iload_n (pc := 4) (n := 1) (x := Int32.ofInt a0_) rfl (zdal_p dlD_M_laysMade_81 (i := 2) rfl) ?_
  refine zr_ialdn (pc := 5) (zh_91 (hf.w hW)).2 (by decide) (by (exact p1_)) (by (exact zo_906 gb.2.2.2.2.2 ha0_b p2_)) (zdal_p dlD_M_laysMade_81 (i := 3) rfl) (fun v1_ hv1_ hv1_a hv1_b => ?_)
  refine zr_toI (show v1_ = ze Mz 91 (a0_).toNat by (exact hv1_)) ?_
  refine zw_istore_n (pc := 6) (i := 2) (L2 := [some (.ref 81), some (.int (Int32.ofInt a0_)), some (.int (Int32.ofInt (ze Mz 91 (a0_).toNat))), none, none]) rfl (by decide) rfl (zdal_p dlD_M_laysMade_81 (i := 4) rfl) ?_
  refine zw_aload_n (pc := 7) (n := 0) (x := 81) rfl (zdal_p dlD_M_laysMade_81 (i := 5) rfl) ?_
  refine zw_iload_n (pc := 8) (n := 2) (x := Int32.ofInt (ze Mz 91 (a0_).toNat)) rfl (zdal_p dlD_M_laysMade_81 (i := 6) rfl) ?_
  refine zr_callV (hf.w hW) hf.x (pc := 9) [.int (Int32.ofInt (ze Mz 91 (a0_).toNat))] [] l_M_417 (c_M_normOfF l Mz (hf.w hW) (ze Mz 91 (a0_).toNat) (by (exact zo_168 hfg.2.1)) (by (exact zo_550 hv1_ hv1_b)) T hO p0_ (show 0 ≤ (ze Mz 91 (a0_).toNat) by first | with_reducible assumption | (exact zo_57 hfg.2.1) | assumption) (show (ze Mz 91 (a0_).toNat) < 16777216 by first | with_reducible assumption | assumption | omega)) rfl rfl rfl (by decide) (Nat.le_of_ble_eq_true rfl) (zdal_p dlD_M_laysMade_81 (i := 7) rfl) ?_
  rintro _ N2_ ⟨v3_, rfl, ⟨hv3_a, hv3_b⟩, hsN2_, ⟨hp0_N2_, hp1_N2_, hp2_N2_⟩⟩
  obtain rfl := hsN2_.eq.symm
  show zW l m_M_laysMade (zn Mz + 0, zw Mz + 0) Mz 12 [some (.ref 81), some (.int (Int32.ofInt a0_)), some (.int (Int32.ofInt (ze Mz 91 (a0_).toNat))), none, none] [.int (Int32.ofInt v3_)] _
  have hnm_ := hp2_N2_
  refine zw_istore_n (pc := 12) (i := 3) (L2 := [some (.ref 81), some (.int (Int32.ofInt a0_)), some (.int (Int32.ofInt (ze Mz 91 (a0_).toNat))), some (.int (Int32.ofInt v3_)), none]) rfl (by decide) rfl (zdal_p dlD_M_laysMade_81 (i := 8) rfl) ?_
  refine zw_aload_n (pc := 13) (n := 0) (x := 81) rfl (zdal_p dlD_M_laysMade_81 (i := 9) rfl) ?_
  refine zw_iconst (pc := 14) (v := Int32.ofInt 0) (by decide) (zdal_p dlD_M_laysMade_81 (i := 10) rfl) ?_
  refine zr_putI (hf.w hW) (pc := 15) f_M_453 rfl rfl ⟨by (decide), by (decide)⟩ rfl rfl (zdal_p dlD_M_laysMade_81 (i := 11) rfl) (fun N4_ hsN4_ hvN4_ => ?_)
  have hf_N4_ : zFr [55] [109] Mz N4_ := hf.tr hsN4_ (by decide) (by decide)
  have e20_N4_ : ze N4_ 81 20 = ze Mz 81 20 := hsN4_.e (by decide)
  have e26_N4_ : ze N4_ 81 26 = ze Mz 81 26 := hsN4_.e (by decide)
  have r55_N4_ := ze_r N4_ 81 55
  have c5_ : zGB T N4_ := zGB.fr hsN4_ p0_ (by decide) (by decide)
  have c6_ : zTab T N4_ := zTab.fr hsN4_ dv0 (by decide) (by decide)
  have c9_ : zFirs T N4_ := zFirs.fr hsN4_ dv3 (by decide) (by decide)
  refine zw_iconst (pc := 18) (v := Int32.ofInt 0) (by decide) (zdal_p dlD_M_laysMade_81 (i := 12) rfl) ?_
  refine zw_istore (pc := 19) (i := 4) (L2 := [some (.ref 81), some (.int (Int32.ofInt a0_)), some (.int (Int32.ofInt (ze Mz 91 (a0_).toNat))), some (.int (Int32.ofInt v3_)), some (.int (Int32.ofInt 0))]) (by decide) rfl (zdal_p dlD_M_laysMade_81 (i := 13) rfl) ?_
  have lp_21 : ∀ (n : Nat) (u12_ : Int) (hu12_a : -2147483648 ≤ u12_) (hu12_b : u12_ < 2147483648) (N13_ : zMem) (hs14_ : zFr [55] [109] N4_ N13_) (i15_ : 0 ≤ u12_) (i16_ : zMl T a0_ N13_ u12_) (i17_ : u12_ ≤ ze Mz 81 20) (i18_ : 0 ≤ ze N13_ 81 55) (i19_ : ze N13_ 81 55 ≤ u12_), (ze Mz 81 20 - u12_).toNat < n → zW l m_M_laysMade (zn Mz + 0, zw Mz + 0) N13_ 21 [some (.ref 81), some (.int (Int32.ofInt a0_)), some (.int (Int32.ofInt (ze Mz 91 (a0_).toNat))), some (.int (Int32.ofInt v3_)), some (.int (Int32.ofInt u12_))] [] (zpV [55] [109] Mz (fun N => zMq T a0_ N ∧ 1 ≤ ze N 81 55 ∧ ze N 81 55 ≤ 24)) := by
    intro n
    induction n with
    | zero =>
      intro u12_ hu12_a hu12_b N13_ hs14_ i15_ i16_ i17_ i18_ i19_ h0
      exact absurd h0 (Nat.not_lt_zero _)
    | succ n ih_21 =>
      intro u12_ hu12_a hu12_b N13_ hs14_ i15_ i16_ i17_ i18_ i19_ hlt_21
      have hf_N13_ : zFr [55] [109] Mz N13_ := hf_N4_.tr hs14_ (by decide) (by decide)
      have e20_N13_ : ze N13_ 81 20 = ze N4_ 81 20 := hs14_.e (by decide)
      have e26_N13_ : ze N13_ 81 26 = ze N4_ 81 26 := hs14_.e (by decide)
      have r55_N13_ := ze_r N13_ 81 55
      have c20_ : zGB T N13_ := zGB.fr hs14_ c5_ (by decide) (by decide)
      have c21_ : zTab T N13_ := zTab.fr hs14_ c6_ (by decide) (by decide)
      have c24_ : zFirs T N13_ := zFirs.fr hs14_ c9_ (by decide) (by decide)
      refine zw_iload (pc := 21) (i := 4) (x := Int32.ofInt u12_) rfl (zdal_p dlD_M_laysMade_81 (i := 14) rfl) ?_
      refine zw_aload_n (pc := 23) (n := 0) (x := 81) rfl (zdal_p dlD_M_laysMade_81 (i := 15) rfl) ?_
      refine zr_getI0 hf_N13_ hW (pc := 24) (by decide) f_M_196 rfl (zdal_p dlD_M_laysMade_81 (i := 16) rfl) ?_
      refine zr_icmp_ge (pc := 27) (tgt := 93) ⟨hu12_a, hu12_b⟩ ⟨(ze_r Mz 81 20).1, (ze_r Mz 81 20).2⟩ (by decide) (zdal_p dlD_M_laysMade_81 (i := 17) rfl) (fun hc_27 => ?_) (fun hc_27 => ?_)
      · skip
        have hMd_ := zMl_e hG (show zMl T a0_ N13_ u12_ by first | with_reducible assumption | assumption) (by omega)
        have hMd1_ := hMd_.1
        exact zr_vret (pc := 93) rfl hf_N13_ ⟨(show zMq T a0_ N13_ by exact hMd_), (show 1 ≤ ze N13_ 81 55 by first | with_reducible assumption | (exact zo_694 hMd1_.2.1) | assumption), (show ze N13_ 81 55 ≤ 24 by first | with_reducible assumption | (exact zo_0 hMd1_.2.2) | assumption)⟩ (zdal_p dlD_M_laysMade_83 (i := 3) rfl)
      · skip
        refine zw_iload_n (pc := 30) (n := 3) (x := Int32.ofInt v3_) rfl (zdal_p dlD_M_laysMade_81 (i := 18) rfl) ?_
        refine zw_iload (pc := 31) (i := 4) (x := Int32.ofInt u12_) rfl (zdal_p dlD_M_laysMade_81 (i := 19) rfl) ?_
        refine zr_callS hf_N13_.x (pc := 33) [.int (Int32.ofInt v3_), .int (Int32.ofInt u12_)] [] l_M_213 (c_M_holds l N13_ (hf_N13_.w hW) v3_ hv3_a hv3_b u12_ hu12_a hu12_b (show 0 ≤ v3_ by first | with_reducible assumption | assumption | omega) (show 0 ≤ u12_ by first | with_reducible assumption | assumption | omega) (show u12_ < 32 by first | with_reducible assumption | (exact zo_918 gb.2.1 hc_27) | assumption)) rfl rfl (by decide) (Nat.le_of_ble_eq_true rfl) (zdal_p dlD_M_laysMade_81 (i := 20) rfl) ?_
        rintro _ N27_ ⟨v28_, rfl, ⟨hv28_a, hv28_b⟩, hsN27_, hp0_N27_⟩
        obtain rfl := hsN27_.eq.symm
        replace hp0_N27_ : ((v28_ = 1 ∧ zbt v3_ u12_) ∨ (v28_ = 0 ∧ ¬ zbt v3_ u12_)) := hp0_N27_
        rcases hp0_N27_ with ⟨rfl, ha33_0_hp0_N27_⟩ | ⟨rfl, ha33_0_hp0_N27_⟩
        · skip
          have hnt_ := (hnm_ (u12_).toNat (by (exact zo_925 gn hc_27 i15_))).mp ha33_0_hp0_N27_
          show zW l m_M_laysMade (zn Mz + 0, zw Mz + 0) N13_ 36 [some (.ref 81), some (.int (Int32.ofInt a0_)), some (.int (Int32.ofInt (ze Mz 91 (a0_).toNat))), some (.int (Int32.ofInt v3_)), some (.int (Int32.ofInt u12_))] [.int (Int32.ofInt 1)] _
          refine zr_if_eq (pc := 36) (tgt := 87) ⟨(by decide), (by decide)⟩ (by decide) (zdal_p dlD_M_laysMade_81 (i := 21) rfl) (fun hc_36 => ?_) (fun hc_36 => ?_)
          · skip
            exact absurd hc_36 (by decide)
          · skip
            refine zw_aload_n (pc := 39) (n := 0) (x := 81) rfl (zdal_p dlD_M_laysMade_81 (i := 22) rfl) ?_
            refine zw_iload_n (pc := 40) (n := 2) (x := Int32.ofInt (ze Mz 91 (a0_).toNat)) rfl (zdal_p dlD_M_laysMade_81 (i := 23) rfl) ?_
            refine zw_iload (pc := 41) (i := 4) (x := Int32.ofInt u12_) rfl (zdal_p dlD_M_laysMade_82 (i := 0) rfl) ?_
            refine zr_callV (hf_N13_.w hW) hf_N13_.x (pc := 43) [.int (Int32.ofInt (ze Mz 91 (a0_).toNat)), .int (Int32.ofInt u12_)] [] l_M_247 (c_M_leastOf l N13_ (hf_N13_.w hW) (ze Mz 91 (a0_).toNat) (by (exact zo_168 hfg.2.1)) (by (exact zo_550 hv1_ hv1_b)) u12_ hu12_a hu12_b T hG c21_ (show 0 ≤ (ze Mz 91 (a0_).toNat) by first | with_reducible assumption | (exact zo_57 hfg.2.1) | assumption) (show 0 ≤ u12_ by first | with_reducible assumption | assumption | omega) (show u12_ < ze N13_ 81 20 by first | with_reducible assumption | assumption | omega)) rfl rfl rfl (by decide) (Nat.le_of_ble_eq_true rfl) (zdal_p dlD_M_laysMade_82 (i := 1) rfl) ?_
            rintro _ N29_ ⟨v30_, rfl, ⟨hv30_a, hv30_b⟩, hsN29_, ⟨hp0_N29_, hp1_N29_, hp2_N29_⟩⟩
            obtain rfl := hsN29_.eq.symm
            show zW l m_M_laysMade (zn Mz + 0, zw Mz + 0) N13_ 46 [some (.ref 81), some (.int (Int32.ofInt a0_)), some (.int (Int32.ofInt (ze Mz 91 (a0_).toNat))), some (.int (Int32.ofInt v3_)), some (.int (Int32.ofInt u12_))] [.int (Int32.ofInt v30_)] _
            refine zw_iload (pc := 46) (i := 4) (x := Int32.ofInt u12_) rfl (zdal_p dlD_M_laysMade_82 (i := 2) rfl) ?_
            refine zr_icmp_eq (pc := 48) (tgt := 54) ⟨hv30_a, hv30_b⟩ ⟨hu12_a, hu12_b⟩ (by decide) (zdal_p dlD_M_laysMade_82 (i := 3) rfl) (fun hc_48 => ?_) (fun hc_48 => ?_)
            · skip
              refine zw_aload_n (pc := 54) (n := 0) (x := 81) rfl (zdal_p dlD_M_laysMade_82 (i := 5) rfl) ?_
              refine zr_getF (r := 109) (hf_N13_.w hW) (pc := 55) f_M_99 rfl (zh_109 (hf_N13_.w hW)).1 (zdal_p dlD_M_laysMade_82 (i := 6) rfl) ?_
              refine zw_aload_n (pc := 58) (n := 0) (x := 81) rfl (zdal_p dlD_M_laysMade_82 (i := 7) rfl) ?_
              refine zr_getI (hf_N13_.w hW) (pc := 59) f_M_453 rfl (zdal_p dlD_M_laysMade_82 (i := 8) rfl) ?_
              refine zw_aload_n (pc := 62) (n := 0) (x := 81) rfl (zdal_p dlD_M_laysMade_82 (i := 9) rfl) ?_
              refine zw_aload_n (pc := 63) (n := 0) (x := 81) rfl (zdal_p dlD_M_laysMade_82 (i := 10) rfl) ?_
              refine zw_iload_n (pc := 64) (n := 2) (x := Int32.ofInt (ze Mz 91 (a0_).toNat)) rfl (zdal_p dlD_M_laysMade_82 (i := 11) rfl) ?_
              refine zw_iconst (pc := 65) (v := Int32.ofInt 1) (by decide) (zdal_p dlD_M_laysMade_82 (i := 12) rfl) ?_
              refine zw_iload (pc := 66) (i := 4) (x := Int32.ofInt u12_) rfl (zdal_p dlD_M_laysMade_82 (i := 13) rfl) ?_
              refine zr_ishl (pc := 68) (zdal_p dlD_M_laysMade_82 (i := 14) rfl) ?_
              have hr31_ := zshl_r 1 u12_
              have hgi_ := gIn_or hG (x := (ze Mz 91 (a0_).toNat)) (g := u12_) (by (exact zo_57 hfg.2.1)) (hfg.1.i hO).2 (by (exact i15_)) (by (exact zo_1014 gn hc_27))
              refine zr_ior (pc := 69) (zdal_p dlD_M_laysMade_82 (i := 15) rfl) ?_
              have hr32_ := zor_r (ze Mz 91 (a0_).toNat) (zshl 1 u12_)
              refine zr_callV (hf_N13_.w hW) hf_N13_.x (pc := 70) [.int (Int32.ofInt (zor (ze Mz 91 (a0_).toNat) (zshl 1 u12_)))] [.ref 81, .int (Int32.ofInt (ze N13_ 81 55)), .ref 109] l_M_229 (c_M_closed l N13_ (hf_N13_.w hW) (zor (ze Mz 91 (a0_).toNat) (zshl 1 u12_)) (by (exact zo_284 hr32_.1)) (by (exact zo_285 hr32_.2)) T hG c21_ (show gIn T (zor (ze Mz 91 (a0_).toNat) (zshl 1 u12_)) by exact hgi_.1)) rfl rfl rfl (by decide) (Nat.le_of_ble_eq_true rfl) (zdal_p dlD_M_laysMade_82 (i := 16) rfl) ?_
              rintro _ N33_ ⟨v34_, rfl, ⟨hv34_a, hv34_b⟩, hsN33_, ⟨hp0_N33_, hp1_N33_, hp2_N33_⟩⟩
              obtain rfl := hsN33_.eq.symm
              show zW l m_M_laysMade (zn Mz + 0, zw Mz + 0) N13_ 73 [some (.ref 81), some (.int (Int32.ofInt a0_)), some (.int (Int32.ofInt (ze Mz 91 (a0_).toNat))), some (.int (Int32.ofInt v3_)), some (.int (Int32.ofInt u12_))] [.int (Int32.ofInt v34_), .ref 81, .int (Int32.ofInt (ze N13_ 81 55)), .ref 109] _
              have hLC_ := hp0_N33_
              rw [hgi_.2] at hLC_
              have hm_N13_ := gMe_c hO hp0_N33_ (by (exact hp1_N33_))
              refine zr_callV (hf_N13_.w hW) hf_N13_.x (pc := 73) [.int (Int32.ofInt v34_)] [.int (Int32.ofInt (ze N13_ 81 55)), .ref 109] l_M_411 (c_M_sortOfSetF l N13_ (hf_N13_.w hW) v34_ hv34_a hv34_b T hO c20_ (show gMe T v34_ by first | with_reducible assumption | assumption)) rfl rfl rfl (by decide) (Nat.le_of_ble_eq_true rfl) (zdal_p dlD_M_laysMade_82 (i := 17) rfl) ?_
              rintro _ N35_ ⟨v36_, rfl, ⟨hv36_a, hv36_b⟩, hsN35_, ⟨hp0_N35_, hp1_N35_, hp2_N35_⟩⟩
              obtain rfl := hsN35_.eq.symm
              show zW l m_M_laysMade (zn Mz + 0, zw Mz + 0) N13_ 76 [some (.ref 81), some (.int (Int32.ofInt a0_)), some (.int (Int32.ofInt (ze Mz 91 (a0_).toNat))), some (.int (Int32.ofInt v3_)), some (.int (Int32.ofInt u12_))] [.int (Int32.ofInt v36_), .int (Int32.ofInt (ze N13_ 81 55)), .ref 109] _
              have hgl_ := hp2_N35_
              have hFi_ := c24_
              refine zr_iast (pc := 76) (zh_109 (hf_N13_.w hW)).2 (by decide) (by decide) (by (exact i18_)) (by omega) (zdal_p dlD_M_laysMade_82 (i := 18) rfl) (fun N37_ hN37_ hsN37_ => ?_)
              have hf_N37_ : zFr [55] [109] Mz N37_ := hf_N13_.tr hsN37_ (by decide) (by decide)
              have hb0_N37_ : zFr [55] [109] N4_ N37_ := hs14_.tr hsN37_ (by decide) (by decide)
              have e20_N37_ : ze N37_ 81 20 = ze N13_ 81 20 := hsN37_.e (by decide)
              have e26_N37_ : ze N37_ 81 26 = ze N13_ 81 26 := hsN37_.e (by decide)
              have e55_N37_ : ze N37_ 81 55 = ze N13_ 81 55 := hsN37_.e (by decide)
              refine zw_aload_n (pc := 77) (n := 0) (x := 81) rfl (zdal_p dlD_M_laysMade_82 (i := 19) rfl) ?_
              refine zw_dup (pc := 78) rfl (zdal_p dlD_M_laysMade_82 (i := 20) rfl) ?_
              refine zr_getI (hf_N37_.w hW) (pc := 79) f_M_453 rfl (zdal_p dlD_M_laysMade_82 (i := 21) rfl) ?_
              refine zw_iconst (pc := 82) (v := Int32.ofInt 1) (by decide) (zdal_p dlD_M_laysMade_82 (i := 22) rfl) ?_
              refine zr_iadd (pc := 83) (zdal_p dlD_M_laysMade_82 (i := 23) rfl) ?_
              refine zr_putI (hf_N37_.w hW) (pc := 84) f_M_453 rfl rfl ⟨by (exact zo_1205 e55_N37_ i18_), by omega⟩ rfl rfl (zdal_p dlD_M_laysMade_83 (i := 0) rfl) (fun N45_ hsN45_ hvN45_ => ?_)
              have hf_N45_ : zFr [55] [109] Mz N45_ := hf_N37_.tr hsN45_ (by decide) (by decide)
              have hb0_N45_ : zFr [55] [109] N4_ N45_ := hb0_N37_.tr hsN45_ (by decide) (by decide)
              have e20_N45_ : ze N45_ 81 20 = ze N37_ 81 20 := hsN45_.e (by decide)
              have e26_N45_ : ze N45_ 81 26 = ze N37_ 81 26 := hsN45_.e (by decide)
              have r55_N45_ := ze_r N45_ 81 55
              have hns_ := zMl_s hO hX hFi_ (show zMl T a0_ N13_ u12_ by first | with_reducible assumption | assumption) (by (exact i15_)) (by (exact zo_1014 gn hc_27)) (by (exact p1_)) (by (exact zo_2587 gb.2.2.2.2.2 gfl p2_)) (F := (ze Mz 91 (a0_).toNat)) (by (exact hfz)) hnt_ (by omega) hLC_ (by (exact hp0_N35_)) (by omega) hgl_ hN37_ hsN45_ (by (exact hvN45_))
              refine zr_iinc (pc := 87) (i := 4) (a := u12_) (n := 1) (L2 := [some (.ref 81), some (.int (Int32.ofInt a0_)), some (.int (Int32.ofInt (ze Mz 91 (a0_).toNat))), some (.int (Int32.ofInt v3_)), some (.int (Int32.ofInt (u12_ + 1)))]) rfl (by decide) rfl d_M_laysMade_87 ?_
              refine zw_goto (pc := 90) (tgt := 21) (by decide) d_M_laysMade_90 ?_
              exact ih_21 (u12_ + 1) (by (exact zo_74 i15_)) (by (exact zo_919 gb.2.1 hc_27)) N45_ hb0_N45_ (show 0 ≤ (u12_ + 1) by first | with_reducible assumption | (exact zo_76 i15_) | assumption) (show zMl T a0_ N45_ (u12_ + 1) by exact hns_) (show (u12_ + 1) ≤ ze Mz 81 20 by first | with_reducible assumption | assumption | omega) (show 0 ≤ ze N45_ 81 55 by first | with_reducible assumption | assumption | omega) (show ze N45_ 81 55 ≤ (u12_ + 1) by first | with_reducible assumption | assumption | omega) (by (exact zo_147 hc_27 hlt_21))
            · skip
              have hns_ := zMl_n hO hX (show zMl T a0_ N13_ u12_ by first | with_reducible assumption | assumption) (by (exact i15_)) (by (exact p1_)) (by (exact zo_2587 gb.2.2.2.2.2 gfl p2_)) (F := (ze Mz 91 (a0_).toNat)) (by (exact hfz)) (Or.inr (by omega))
              refine zw_goto (pc := 51) (tgt := 87) (by decide) (zdal_p dlD_M_laysMade_82 (i := 4) rfl) ?_
              refine zr_iinc (pc := 87) (i := 4) (a := u12_) (n := 1) (L2 := [some (.ref 81), some (.int (Int32.ofInt a0_)), some (.int (Int32.ofInt (ze Mz 91 (a0_).toNat))), some (.int (Int32.ofInt v3_)), some (.int (Int32.ofInt (u12_ + 1)))]) rfl (by decide) rfl d_M_laysMade_87 ?_
              refine zw_goto (pc := 90) (tgt := 21) (by decide) d_M_laysMade_90 ?_
              exact ih_21 (u12_ + 1) (by (exact zo_74 i15_)) (by (exact zo_919 gb.2.1 hc_27)) N13_ hs14_ (show 0 ≤ (u12_ + 1) by first | with_reducible assumption | (exact zo_76 i15_) | assumption) (show zMl T a0_ N13_ (u12_ + 1) by exact hns_) (show (u12_ + 1) ≤ ze Mz 81 20 by first | with_reducible assumption | assumption | omega) (show 0 ≤ ze N13_ 81 55 by first | with_reducible assumption | assumption | omega) (show ze N13_ 81 55 ≤ (u12_ + 1) by first | with_reducible assumption | (exact zo_961 i19_) | assumption) (by (exact zo_147 hc_27 hlt_21))
        · skip
          have hns_ := zMl_n hO hX (show zMl T a0_ N13_ u12_ by first | with_reducible assumption | assumption) (by (exact i15_)) (by (exact p1_)) (by (exact zo_2587 gb.2.2.2.2.2 gfl p2_)) (F := (ze Mz 91 (a0_).toNat)) (by (exact hfz)) (Or.inl (fun e => ha33_0_hp0_N27_ ((hnm_ (u12_).toNat (by (exact zo_925 gn hc_27 i15_))).mpr e)))
          show zW l m_M_laysMade (zn Mz + 0, zw Mz + 0) N13_ 36 [some (.ref 81), some (.int (Int32.ofInt a0_)), some (.int (Int32.ofInt (ze Mz 91 (a0_).toNat))), some (.int (Int32.ofInt v3_)), some (.int (Int32.ofInt u12_))] [.int (Int32.ofInt 0)] _
          refine zr_if_eq (pc := 36) (tgt := 87) ⟨(by decide), (by decide)⟩ (by decide) (zdal_p dlD_M_laysMade_81 (i := 21) rfl) (fun hc_36 => ?_) (fun hc_36 => ?_)
          · skip
            refine zr_iinc (pc := 87) (i := 4) (a := u12_) (n := 1) (L2 := [some (.ref 81), some (.int (Int32.ofInt a0_)), some (.int (Int32.ofInt (ze Mz 91 (a0_).toNat))), some (.int (Int32.ofInt v3_)), some (.int (Int32.ofInt (u12_ + 1)))]) rfl (by decide) rfl d_M_laysMade_87 ?_
            refine zw_goto (pc := 90) (tgt := 21) (by decide) d_M_laysMade_90 ?_
            exact ih_21 (u12_ + 1) (by (exact zo_74 i15_)) (by (exact zo_919 gb.2.1 hc_27)) N13_ hs14_ (show 0 ≤ (u12_ + 1) by first | with_reducible assumption | (exact zo_76 i15_) | assumption) (show zMl T a0_ N13_ (u12_ + 1) by exact hns_) (show (u12_ + 1) ≤ ze Mz 81 20 by first | with_reducible assumption | assumption | omega) (show 0 ≤ ze N13_ 81 55 by first | with_reducible assumption | assumption | omega) (show ze N13_ 81 55 ≤ (u12_ + 1) by first | with_reducible assumption | (exact zo_961 i19_) | assumption) (by (exact zo_147 hc_27 hlt_21))
          · skip
            exact absurd hc_36 (by decide)
  exact lp_21 _ 0 (by decide) (by decide) N4_ zFr.rf (show 0 ≤ (0 : Int) by first | with_reducible assumption | (decide) | assumption) (show zMl T a0_ N4_ (0 : Int) by exact zMl_0 (by (exact hvN4_))) (show (0 : Int) ≤ ze Mz 81 20 by first | with_reducible assumption | (exact zo_564 gb.1) | assumption) (show 0 ≤ ze N4_ 81 55 by first | with_reducible assumption | (exact zo_718 hvN4_) | assumption) (show ze N4_ 81 55 ≤ (0 : Int) by first | with_reducible assumption | (exact zo_2497 hvN4_) | assumption) (Nat.lt_succ_self _)
set_option maxHeartbeats 4000000 in
theorem c_M_isUnitAt (l : Launch) (Mz : zMem) (hW : zMt Mz) (a0_ : Int) (ha0_a : -2147483648 ≤ a0_) (ha0_b : a0_ < 2147483648) (a1_ : Int) (ha1_a : -2147483648 ≤ a1_) (ha1_b : a1_ < 2147483648) (T : zGT) (hO : gOK T) (hX : gEx T) (p0_ : zGB T Mz) (p1_ : 0 ≤ a0_) (p2_ : zMq T a1_ Mz) : zC l m_M_isUnitAt 0 0 [.ref 81, .int (Int32.ofInt a0_), .int (Int32.ofInt a1_)] Mz (zpI [] [] Mz (fun v N => (((v = 1 ∧ zuk Mz a0_) ∨ (v = 0 ∧ ¬ zuk Mz a0_))))) := by
  refine zC_of (L0 := [some (.ref 81), some (.int (Int32.ofInt a0_)), some (.int (Int32.ofInt a1_)), none, none]) md_M_isUnitAt (Nat.le_of_ble_eq_true rfl) rfl ?_ zQ0
  have hf : zFr [] [] Mz Mz := zFr.rf
  have r_26 := ze_r Mz 81 26
  have r_55 := ze_r Mz 81 55
  have hG := hO.1
  have g24 := hG.2.1
  have g1 := hG.1
  have dv0 : zTab T Mz := p0_.1
  have dv1 : zB 85 144 0 5 Mz := p0_.2.1
  have dv2 : zJX T Mz := p0_.2.2.1
  have dv3 : zFirs T Mz := p0_.2.2.2.1
  have dv4 : zSSm T Mz := p0_.2.2.2.2.1
  have dv5 : zGD Mz := zGB.d hO p0_
  have gb := dv5.1
  have gn := dv0.1
  have gfl := dv3.1
  have gf6 := gF_pos hO
  have gxl := hX.2.1
  have hmd1_ := p2_.1
  refine zw_iconst (pc := 0) (v := Int32.ofInt 0) (by decide) (zdal_p dlD_M_isUnitAt_84 (i := 0) rfl) ?_
  refine zw_istore_n (pc := 1) (i := 3) (L2 := [some (.ref 81), some (.int (Int32.ofInt a0_)), some (.int (Int32.ofInt a1_)), some (.int (Int32.ofInt 0)), none]) rfl (by decide) rfl (zdal_p dlD_M_isUnitAt_84 (i := 1) rfl) ?_
  refine zw_iconst (pc := 2) (v := Int32.ofInt 0) (by decide) (zdal_p dlD_M_isUnitAt_84 (i := 2) rfl) ?_
  refine zw_istore (pc := 3) (i := 4) (L2 := [some (.ref 81), some (.int (Int32.ofInt a0_)), some (.int (Int32.ofInt a1_)), some (.int (Int32.ofInt 0)), some (.int (Int32.ofInt 0))]) (by decide) rfl (zdal_p dlD_M_isUnitAt_84 (i := 3) rfl) ?_
  have lp_5 : ∀ (n : Nat) (u1_ : Int) (hu1_a : -2147483648 ≤ u1_) (hu1_b : u1_ < 2147483648) (u2_ : Int) (hu2_a : -2147483648 ≤ u2_) (hu2_b : u2_ < 2147483648) (i3_ : 0 ≤ u2_) (i4_ : u2_ ≤ ze Mz 81 55) (i5_ : u1_ = zus Mz a0_ (u2_).toNat), (ze Mz 81 55 - u2_).toNat < n → zW l m_M_isUnitAt (zn Mz + 0, zw Mz + 0) Mz 5 [some (.ref 81), some (.int (Int32.ofInt a0_)), some (.int (Int32.ofInt a1_)), some (.int (Int32.ofInt u1_)), some (.int (Int32.ofInt u2_))] [] (zpI [] [] Mz (fun v N => (((v = 1 ∧ zuk Mz a0_) ∨ (v = 0 ∧ ¬ zuk Mz a0_))))) := by
    intro n
    induction n with
    | zero =>
      intro u1_ hu1_a hu1_b u2_ hu2_a hu2_b i3_ i4_ i5_ h0
      exact absurd h0 (Nat.not_lt_zero _)
    | succ n ih_5 =>
      intro u1_ hu1_a hu1_b u2_ hu2_a hu2_b i3_ i4_ i5_ hlt_5
      have hzb_ := zus_b Mz a0_ (u2_).toNat
      refine zw_iload (pc := 5) (i := 4) (x := Int32.ofInt u2_) rfl (zdal_p dlD_M_isUnitAt_84 (i := 4) rfl) ?_
      refine zw_aload_n (pc := 7) (n := 0) (x := 81) rfl (zdal_p dlD_M_isUnitAt_84 (i := 5) rfl) ?_
      refine zr_getI0 hf hW (pc := 8) (by decide) f_M_453 rfl (zdal_p dlD_M_isUnitAt_84 (i := 6) rfl) ?_
      refine zr_icmp_ge (pc := 11) (tgt := 49) ⟨hu2_a, hu2_b⟩ ⟨(ze_r Mz 81 55).1, (ze_r Mz 81 55).2⟩ (by decide) (zdal_p dlD_M_isUnitAt_84 (i := 7) rfl) (fun hc_11 => ?_) (fun hc_11 => ?_)
      · skip
        refine zw_iload_n (pc := 49) (n := 3) (x := Int32.ofInt u1_) rfl (zdal_p dlD_M_isUnitAt_85 (i := 4) rfl) ?_
        refine zw_aload_n (pc := 50) (n := 0) (x := 81) rfl (zdal_p dlD_M_isUnitAt_85 (i := 5) rfl) ?_
        refine zr_getI0 hf hW (pc := 51) (by decide) f_M_453 rfl (zdal_p dlD_M_isUnitAt_85 (i := 6) rfl) ?_
        refine zr_irem (pc := 54) ⟨by omega, by (exact zo_1006 hmd1_.2.2)⟩ (by (exact zo_999 hmd1_.2.1)) (zdal_p dlD_M_isUnitAt_85 (i := 7) rfl) ?_
        have hr6_ := zrem_r u1_ (ze Mz 81 55)
        have hzd_ := zrem_d (a := u1_) (b := ze Mz 81 55) (by omega) (by omega) (by omega) (by omega)
        refine zr_if_ne (pc := 55) (tgt := 62) ⟨(by (exact zo_284 hr6_.1)), (by (exact zo_285 hr6_.2))⟩ (by decide) (zdal_p dlD_M_isUnitAt_85 (i := 8) rfl) (fun hc_55 => ?_) (fun hc_55 => ?_)
        · skip
          refine zw_iconst (pc := 62) (v := Int32.ofInt 0) (by decide) (zdal_p dlD_M_isUnitAt_85 (i := 11) rfl) ?_
          have hL_ : u1_ = zus Mz a0_ (ze Mz 81 55).toNat := by rw [show ze Mz 81 55 = u2_ by omega]; assumption
          exact zr_iret (pc := 63) (ty := .boolean) rfl (z_narB (by (decide))) ⟨by (decide), by (decide)⟩ hf (show ((0 = 1 ∧ zuk Mz a0_) ∨ (0 = 0 ∧ ¬ zuk Mz a0_)) from Or.inr (⟨(show 0 = 0 by first | rfl | (intro hk_; unfold zuk at hk_; rw [← hL_] at hk_; exact absurd (hzd_.mpr hk_) (by omega))), (show ¬ zuk Mz a0_ by first | rfl | (intro hk_; unfold zuk at hk_; rw [← hL_] at hk_; exact absurd (hzd_.mpr hk_) (by omega)))⟩)) (zdal_p dlD_M_isUnitAt_85 (i := 12) rfl)
        · skip
          refine zw_iconst (pc := 58) (v := Int32.ofInt 1) (by decide) (zdal_p dlD_M_isUnitAt_85 (i := 9) rfl) ?_
          refine zw_goto (pc := 59) (tgt := 63) (by decide) (zdal_p dlD_M_isUnitAt_85 (i := 10) rfl) ?_
          have hL_ : u1_ = zus Mz a0_ (ze Mz 81 55).toNat := by rw [show ze Mz 81 55 = u2_ by omega]; assumption
          exact zr_iret (pc := 63) (ty := .boolean) rfl (z_narB (by (decide))) ⟨by (decide), by (decide)⟩ hf (show ((1 = 1 ∧ zuk Mz a0_) ∨ (1 = 0 ∧ ¬ zuk Mz a0_)) from Or.inl (⟨(show 1 = 1 by first | rfl | (have h := hzd_.mp (by omega); rwa [hL_] at h)), (show zuk Mz a0_ by first | rfl | (have h := hzd_.mp (by (exact hc_55)); rwa [hL_] at h))⟩)) (zdal_p dlD_M_isUnitAt_85 (i := 12) rfl)
      · skip
        refine zw_iload_n (pc := 14) (n := 3) (x := Int32.ofInt u1_) rfl (zdal_p dlD_M_isUnitAt_84 (i := 8) rfl) ?_
        refine zw_iload_n (pc := 15) (n := 1) (x := Int32.ofInt a0_) rfl (zdal_p dlD_M_isUnitAt_84 (i := 9) rfl) ?_
        refine zw_aload_n (pc := 16) (n := 0) (x := 81) rfl (zdal_p dlD_M_isUnitAt_84 (i := 10) rfl) ?_
        refine zr_getI0 hf hW (pc := 17) (by decide) f_M_235 rfl (zdal_p dlD_M_isUnitAt_84 (i := 11) rfl) ?_
        refine zw_iconst (pc := 20) (v := Int32.ofInt 1) (by decide) (zdal_p dlD_M_isUnitAt_84 (i := 12) rfl) ?_
        refine zr_isub (pc := 21) (zdal_p dlD_M_isUnitAt_84 (i := 13) rfl) ?_
        refine zw_aload_n (pc := 22) (n := 0) (x := 81) rfl (zdal_p dlD_M_isUnitAt_84 (i := 14) rfl) ?_
        refine zr_getF (r := 109) (hf.w hW) (pc := 23) f_M_99 rfl (zh_109 (hf.w hW)).1 (zdal_p dlD_M_isUnitAt_84 (i := 15) rfl) ?_
        refine zw_iload (pc := 26) (i := 4) (x := Int32.ofInt u2_) rfl (zdal_p dlD_M_isUnitAt_84 (i := 16) rfl) ?_
        refine zr_ialdn (pc := 28) (zh_109 (hf.w hW)).2 (by decide) (by (exact i3_)) (by (exact zo_1374 hc_11 hmd1_.2.2)) (zdal_p dlD_M_isUnitAt_84 (i := 17) rfl) (fun v7_ hv7_ hv7_a hv7_b => ?_)
        have hmr_ := p2_.2.1 (u2_).toNat (by (exact zo_695 hc_11 i3_))
        refine zr_isub (pc := 29) (zdal_p dlD_M_isUnitAt_84 (i := 18) rfl) ?_
        have hix_ : (((ze Mz 81 26) - 1) - v7_) = ze Mz 81 26 - 1 - ze Mz 109 (u2_).toNat := by omega
        refine zr_callS hf.x (pc := 30) [.int (Int32.ofInt a0_), .int (Int32.ofInt (((ze Mz 81 26) - 1) - v7_))] [.int (Int32.ofInt u1_)] l_M_213 (c_M_holds l Mz (hf.w hW) a0_ ha0_a ha0_b (((ze Mz 81 26) - 1) - v7_) (by omega) (by omega) (show 0 ≤ a0_ by first | with_reducible assumption | assumption | omega) (show 0 ≤ (((ze Mz 81 26) - 1) - v7_) by first | with_reducible assumption | assumption | omega) (show (((ze Mz 81 26) - 1) - v7_) < 32 by first | with_reducible assumption | assumption | omega)) rfl rfl (by decide) (Nat.le_of_ble_eq_true rfl) (zdal_p dlD_M_isUnitAt_84 (i := 19) rfl) ?_
        rintro _ N8_ ⟨v9_, rfl, ⟨hv9_a, hv9_b⟩, hsN8_, hp0_N8_⟩
        obtain rfl := hsN8_.eq.symm
        replace hp0_N8_ : ((v9_ = 1 ∧ zbt a0_ (((ze Mz 81 26) - 1) - v7_)) ∨ (v9_ = 0 ∧ ¬ zbt a0_ (((ze Mz 81 26) - 1) - v7_))) := hp0_N8_
        rcases hp0_N8_ with ⟨rfl, ha30_0_hp0_N8_⟩ | ⟨rfl, ha30_0_hp0_N8_⟩
        · skip
          have hzs_ := zus_s (t := -1) (by (exact i3_)) (show u1_ = zus Mz a0_ (u2_).toNat by first | with_reducible assumption | assumption) hix_ (Or.inl ⟨rfl, ha30_0_hp0_N8_⟩)
          show zW l m_M_isUnitAt (zn Mz + 0, zw Mz + 0) Mz 33 [some (.ref 81), some (.int (Int32.ofInt a0_)), some (.int (Int32.ofInt a1_)), some (.int (Int32.ofInt u1_)), some (.int (Int32.ofInt u2_))] [.int (Int32.ofInt 1), .int (Int32.ofInt u1_)] _
          refine zr_if_eq (pc := 33) (tgt := 40) ⟨(by decide), (by decide)⟩ (by decide) (zdal_p dlD_M_isUnitAt_84 (i := 20) rfl) (fun hc_33 => ?_) (fun hc_33 => ?_)
          · skip
            exact absurd hc_33 (by decide)
          · skip
            refine zw_iconst (pc := 36) (v := Int32.ofInt (-1)) (by decide) (zdal_p dlD_M_isUnitAt_84 (i := 21) rfl) ?_
            refine zw_goto (pc := 37) (tgt := 41) (by decide) (zdal_p dlD_M_isUnitAt_84 (i := 22) rfl) ?_
            refine zr_iadd (pc := 41) (zdal_p dlD_M_isUnitAt_85 (i := 0) rfl) ?_
            refine zw_istore_n (pc := 42) (i := 3) (L2 := [some (.ref 81), some (.int (Int32.ofInt a0_)), some (.int (Int32.ofInt a1_)), some (.int (Int32.ofInt (u1_ + ((-1))))), some (.int (Int32.ofInt u2_))]) rfl (by decide) rfl (zdal_p dlD_M_isUnitAt_85 (i := 1) rfl) ?_
            refine zr_iinc (pc := 43) (i := 4) (a := u2_) (n := 1) (L2 := [some (.ref 81), some (.int (Int32.ofInt a0_)), some (.int (Int32.ofInt a1_)), some (.int (Int32.ofInt (u1_ + ((-1))))), some (.int (Int32.ofInt (u2_ + 1)))]) rfl (by decide) rfl (zdal_p dlD_M_isUnitAt_85 (i := 2) rfl) ?_
            refine zw_goto (pc := 46) (tgt := 5) (by decide) (zdal_p dlD_M_isUnitAt_85 (i := 3) rfl) ?_
            exact ih_5 (u1_ + ((-1))) (by omega) (by (exact zo_893 hu1_b)) (u2_ + 1) (by (exact zo_74 i3_)) (by (exact zo_1371 hc_11 hmd1_.2.2)) (show 0 ≤ (u2_ + 1) by first | with_reducible assumption | (exact zo_76 i3_) | assumption) (show (u2_ + 1) ≤ ze Mz 81 55 by first | with_reducible assumption | assumption | omega) (show (u1_ + ((-1))) = zus Mz a0_ ((u2_ + 1)).toNat by exact hzs_) (by omega)
        · skip
          have hzs_ := zus_s (t := 1) (by (exact i3_)) (show u1_ = zus Mz a0_ (u2_).toNat by first | with_reducible assumption | assumption) hix_ (Or.inr ⟨rfl, ha30_0_hp0_N8_⟩)
          show zW l m_M_isUnitAt (zn Mz + 0, zw Mz + 0) Mz 33 [some (.ref 81), some (.int (Int32.ofInt a0_)), some (.int (Int32.ofInt a1_)), some (.int (Int32.ofInt u1_)), some (.int (Int32.ofInt u2_))] [.int (Int32.ofInt 0), .int (Int32.ofInt u1_)] _
          refine zr_if_eq (pc := 33) (tgt := 40) ⟨(by decide), (by decide)⟩ (by decide) (zdal_p dlD_M_isUnitAt_84 (i := 20) rfl) (fun hc_33 => ?_) (fun hc_33 => ?_)
          · skip
            refine zw_iconst (pc := 40) (v := Int32.ofInt 1) (by decide) (zdal_p dlD_M_isUnitAt_84 (i := 23) rfl) ?_
            refine zr_iadd (pc := 41) (zdal_p dlD_M_isUnitAt_85 (i := 0) rfl) ?_
            refine zw_istore_n (pc := 42) (i := 3) (L2 := [some (.ref 81), some (.int (Int32.ofInt a0_)), some (.int (Int32.ofInt a1_)), some (.int (Int32.ofInt (u1_ + 1))), some (.int (Int32.ofInt u2_))]) rfl (by decide) rfl (zdal_p dlD_M_isUnitAt_85 (i := 1) rfl) ?_
            refine zr_iinc (pc := 43) (i := 4) (a := u2_) (n := 1) (L2 := [some (.ref 81), some (.int (Int32.ofInt a0_)), some (.int (Int32.ofInt a1_)), some (.int (Int32.ofInt (u1_ + 1))), some (.int (Int32.ofInt (u2_ + 1)))]) rfl (by decide) rfl (zdal_p dlD_M_isUnitAt_85 (i := 2) rfl) ?_
            refine zw_goto (pc := 46) (tgt := 5) (by decide) (zdal_p dlD_M_isUnitAt_85 (i := 3) rfl) ?_
            exact ih_5 (u1_ + 1) (by (exact zo_679 hu1_a)) (by omega) (u2_ + 1) (by (exact zo_74 i3_)) (by (exact zo_1371 hc_11 hmd1_.2.2)) (show 0 ≤ (u2_ + 1) by first | with_reducible assumption | (exact zo_76 i3_) | assumption) (show (u2_ + 1) ≤ ze Mz 81 55 by first | with_reducible assumption | assumption | omega) (show (u1_ + 1) = zus Mz a0_ ((u2_ + 1)).toNat by exact hzs_) (by omega)
          · skip
            exact absurd hc_33 (by decide)
  exact lp_5 _ 0 (by decide) (by decide) 0 (by decide) (by decide) (show 0 ≤ (0 : Int) by first | with_reducible assumption | (decide) | assumption) (show (0 : Int) ≤ ze Mz 81 55 by first | with_reducible assumption | (exact zo_564 hmd1_.2.1) | assumption) (show (0 : Int) = zus Mz a0_ ((0 : Int)).toNat by rfl) (Nat.lt_succ_self _)
