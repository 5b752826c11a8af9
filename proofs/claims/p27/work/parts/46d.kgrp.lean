set_option maxHeartbeats 4000000 in
theorem u_Group_begin (l : Launch) (d_ : Nat) (Mz : zMem) (hW : zKW d_ Mz) (a0_ : Int) (ha0_a : -2147483648 ≤ a0_) (ha0_b : a0_ < 2147483648) (P_ : Nat) (p0_ : a0_ = P_) (p1_ : 1 ≤ P_) (p2_ : P_ ≤ 6) : zC l m_Group_begin 0 0 [.ref (d_ + 1), .int (Int32.ofInt a0_)] Mz (zqcV d_ [] [] [(1, 5), (1, 6), (1, 7)] [5] Mz (fun N => zMvK [] P_ d_ N ∧ zGg [] P_ d_ N)) := by
  refine zC_of (L0 := [some (.ref (d_ + 1)), some (.int (Int32.ofInt a0_))]) md_Group_begin (Nat.le_of_ble_eq_true rfl) rfl ?_ zQ0
  have hf : zFc d_ [] [] [(1, 5), (1, 6), (1, 7)] [5] Mz Mz := zFc.rf
  have r_D1_5 := ze_r Mz (d_ + 1) 5
  have r_D1_6 := ze_r Mz (d_ + 1) 6
  have r_D1_7 := ze_r Mz (d_ + 1) 7
  refine zw_aload_n (pc := 0) (n := 0) (x := (d_ + 1)) rfl (zdal_p dlA_Group_begin_16 (i := 0) rfl) ?_
  refine zw_iload_n (pc := 1) (n := 1) (x := Int32.ofInt a0_) rfl (zdal_p dlA_Group_begin_16 (i := 1) rfl) ?_
  refine zk_putR (pc := 2) (o := 1) (by decide) f_Group_32 rfl rfl ((hf.w hW).kr (o := 1) (by decide)) ⟨by omega, by omega⟩ rfl rfl (zdal_p dlA_Group_begin_16 (i := 2) rfl) (fun N1_ hsN1_ hvN1_ => ?_)
  have hf_N1_ : zFc d_ [] [] [(1, 5), (1, 6), (1, 7)] [5] Mz N1_ := hf.tr hsN1_ (by decide) (by decide) (by decide) (by decide)
  have rD1_5_N1_ := ze_r N1_ (d_ + 1) 5
  have eD1_6_N1_ : ze N1_ (d_ + 1) 6 = ze Mz (d_ + 1) 6 := hsN1_.e (by decide)
  have eD1_7_N1_ : ze N1_ (d_ + 1) 7 = ze Mz (d_ + 1) 7 := hsN1_.e (by decide)
  refine zw_aload_n (pc := 5) (n := 0) (x := (d_ + 1)) rfl (zdal_p dlA_Group_begin_16 (i := 3) rfl) ?_
  refine zw_iconst (pc := 6) (v := Int32.ofInt 0) (by decide) (zdal_p dlA_Group_begin_16 (i := 4) rfl) ?_
  refine zk_putR (pc := 7) (o := 1) (by decide) f_Group_36 rfl rfl ((hf_N1_.w hW).kr (o := 1) (by decide)) ⟨by omega, by omega⟩ rfl rfl (zdal_p dlA_Group_begin_16 (i := 5) rfl) (fun N2_ hsN2_ hvN2_ => ?_)
  have hf_N2_ : zFc d_ [] [] [(1, 5), (1, 6), (1, 7)] [5] Mz N2_ := hf_N1_.tr hsN2_ (by decide) (by decide) (by decide) (by decide)
  have eD1_5_N2_ : ze N2_ (d_ + 1) 5 = ze N1_ (d_ + 1) 5 := hsN2_.e (by decide)
  have rD1_6_N2_ := ze_r N2_ (d_ + 1) 6
  have eD1_7_N2_ : ze N2_ (d_ + 1) 7 = ze N1_ (d_ + 1) 7 := hsN2_.e (by decide)
  refine zw_aload_n (pc := 10) (n := 0) (x := (d_ + 1)) rfl (zdal_p dlA_Group_begin_16 (i := 6) rfl) ?_
  refine zw_iconst (pc := 11) (v := Int32.ofInt 0) (by decide) (zdal_p dlA_Group_begin_16 (i := 7) rfl) ?_
  refine zk_putR (pc := 12) (o := 1) (by decide) f_Group_39 rfl rfl ((hf_N2_.w hW).kr (o := 1) (by decide)) ⟨by omega, by omega⟩ rfl rfl (zdal_p dlA_Group_begin_16 (i := 8) rfl) (fun N3_ hsN3_ hvN3_ => ?_)
  have hf_N3_ : zFc d_ [] [] [(1, 5), (1, 6), (1, 7)] [5] Mz N3_ := hf_N2_.tr hsN3_ (by decide) (by decide) (by decide) (by decide)
  have eD1_5_N3_ : ze N3_ (d_ + 1) 5 = ze N2_ (d_ + 1) 5 := hsN3_.e (by decide)
  have eD1_6_N3_ : ze N3_ (d_ + 1) 6 = ze N2_ (d_ + 1) 6 := hsN3_.e (by decide)
  have rD1_7_N3_ := ze_r N3_ (d_ + 1) 7
  have hm0_ : zMvK [] P_ d_ N3_ := ⟨⟨by omega, by omega, by omega⟩, by show _ = ((0 : Nat) : Int); omega, Nat.zero_le 4, fun k h => absurd h (Nat.not_lt_zero k)⟩
  refine zw_aload_n (pc := 15) (n := 0) (x := (d_ + 1)) rfl (zdal_p dlA_Group_begin_16 (i := 9) rfl) ?_
  refine zk_callV hf_N3_.x (pc := 16) [] [] l_Group_42 (u_Group_gather l d_ N3_ (hf_N3_.w hW) P_ [] hm0_) rfl rfl ((hf_N3_.w hW).kr (o := 1) (by decide)) (by decide) (by decide) (Nat.le_of_ble_eq_true rfl) (zdal_p dlA_Group_begin_16 (i := 10) rfl) ?_
  rintro _ N4_ ⟨v5_, rfl, ⟨hv5_a, hv5_b⟩, hsN4_, ⟨hp0_N4_, hp1_N4_⟩⟩
  have hf_N4_ : zFc d_ [] [] [(1, 5), (1, 6), (1, 7)] [5] Mz N4_ := hf_N3_.tr hsN4_ (by decide) (by decide) (by decide) (by decide)
  have eD1_5_N4_ : ze N4_ (d_ + 1) 5 = ze N3_ (d_ + 1) 5 := hsN4_.e (by decide)
  have eD1_6_N4_ : ze N4_ (d_ + 1) 6 = ze N3_ (d_ + 1) 6 := hsN4_.e (by decide)
  have rD1_7_N4_ := ze_r N4_ (d_ + 1) 7
  have c6_ : zMvK [] P_ d_ N4_ := zMvK.fr (hf_N3_.w hW) hsN4_ hm0_ (by decide)
  rcases hp1_N4_ with ⟨rfl, ha16_0_hp1_N4_⟩ | ⟨rfl, ha16_0_hp1_N4_⟩
  · skip
    have hg0_ := ha16_0_hp1_N4_
    show zW l m_Group_begin (zn Mz + 0, zw Mz + 0) N4_ 19 [some (.ref (d_ + 1)), some (.int (Int32.ofInt a0_))] [.int (Int32.ofInt 1)] _
    refine zw_pop (pc := 19) rfl (zdal_p dlA_Group_begin_16 (i := 11) rfl) ?_
    exact zk_vret (pc := 20) rfl hf_N4_ ⟨hp0_N4_, hg0_⟩ (zdal_p dlA_Group_begin_16 (i := 12) rfl)
  · skip
    exact absurd gFin_0 ha16_0_hp1_N4_
set_option maxHeartbeats 4000000 in
theorem u_Group_addMove (l : Launch) (d_ : Nat) (Mz : zMem) (hW : zKW d_ Mz) (a0_ : Int) (ha0_a : -2147483648 ≤ a0_) (ha0_b : a0_ < 2147483648) (P_ : Nat) (mv_ : List Nat) (p0_ : zMvK mv_ P_ d_ Mz) (p1_ : zkv P_ a0_) (p2_ : mv_.length ≤ 3) : zC l m_Group_addMove 0 0 [.ref (d_ + 1), .int (Int32.ofInt a0_)] Mz (zqcI d_ [] [] [(1, 6), (1, 7)] [3, 5] Mz (fun v N => zMvK (mv_ ++ [zkc P_ a0_]) P_ d_ N ∧ (((v = 1 ∧ zGg (mv_ ++ [zkc P_ a0_]) P_ d_ N) ∨ (v = 0 ∧ ¬ gFin (mv_ ++ [zkc P_ a0_])))))) := by
  refine zC_of (L0 := [some (.ref (d_ + 1)), some (.int (Int32.ofInt a0_))]) md_Group_addMove (Nat.le_of_ble_eq_true rfl) rfl ?_ zQ0
  have hf : zFc d_ [] [] [(1, 6), (1, 7)] [3, 5] Mz Mz := zFc.rf
  have r_D1_5 := ze_r Mz (d_ + 1) 5
  have r_D1_6 := ze_r Mz (d_ + 1) 6
  have hml_ := p0_.2.1
  refine zw_aload_n (pc := 0) (n := 0) (x := (d_ + 1)) rfl (zdal_p dlA_Group_addMove_102 (i := 0) rfl) ?_
  refine zk_getI (pc := 1) f_Group_36 rfl ((hf.w hW).kr (o := 1) (by decide)) (zdal_p dlA_Group_addMove_102 (i := 1) rfl) ?_
  refine zw_iconst (pc := 4) (v := Int32.ofInt 4) (by decide) (zdal_p dlA_Group_addMove_102 (i := 2) rfl) ?_
  refine zr_icmp_lt (pc := 5) (tgt := 10) ⟨(ze_r Mz (d_ + 1) 6).1, (ze_r Mz (d_ + 1) 6).2⟩ ⟨(by decide), (by decide)⟩ (by decide) (zdal_p dlA_Group_addMove_102 (i := 3) rfl) (fun hc_5 => ?_) (fun hc_5 => ?_)
  · skip
    refine zw_aload_n (pc := 10) (n := 0) (x := (d_ + 1)) rfl (zdal_p dlA_Group_addMove_102 (i := 6) rfl) ?_
    refine zw_getF (pc := 11) f_Group_14 rfl ((hf.w hW).kr (o := 1) (by decide)) ((hf.w hW).lr (o := 1) (s := 0) (r := 2) (by decide)) (zdal_p dlA_Group_addMove_102 (i := 7) rfl) ?_
    refine zw_aload_n (pc := 14) (n := 0) (x := (d_ + 1)) rfl (zdal_p dlA_Group_addMove_102 (i := 8) rfl) ?_
    refine zk_getI (pc := 15) f_Group_36 rfl ((hf.w hW).kr (o := 1) (by decide)) (zdal_p dlA_Group_addMove_102 (i := 9) rfl) ?_
    refine zw_iload_n (pc := 18) (n := 1) (x := Int32.ofInt a0_) rfl (zdal_p dlA_Group_addMove_102 (i := 10) rfl) ?_
    refine zk_st hf.x (pc := 19) (o := 3) (by decide) l_Group_46 ((hf.w hW).kr (o := 2) (by decide)) ((hf.w hW).lr (o := 2) (s := 0) (r := 3) (by decide)) ((hf.w hW).rr (o := 3) (t := 1) (n := 4) (by decide)) (by decide) (by omega) (by omega) (by decide) (Nat.le_of_ble_eq_true rfl) (zdal_p dlA_Group_addMove_102 (i := 11) rfl) (fun N1_ hN1_ hsN1_ => ?_)
    have hf_N1_ : zFc d_ [] [] [(1, 6), (1, 7)] [3, 5] Mz N1_ := hf.tr hsN1_ (by decide) (by decide) (by decide) (by decide)
    have eD1_5_N1_ : ze N1_ (d_ + 1) 5 = ze Mz (d_ + 1) 5 := hsN1_.e (by decide)
    have eD1_6_N1_ : ze N1_ (d_ + 1) 6 = ze Mz (d_ + 1) 6 := hsN1_.e (by decide)
    have hst_ := zs_get hN1_ ⟨by omega, by omega⟩
    have hot_ := fun (i : Nat) (hi : (i : Int) < ze Mz (d_ + 1) 6) => zs_oth hN1_ (j := i) (by omega)
    refine zw_aload_n (pc := 22) (n := 0) (x := (d_ + 1)) rfl (zdal_p dlA_Group_addMove_102 (i := 12) rfl) ?_
    refine zw_dup (pc := 23) rfl (zdal_p dlA_Group_addMove_102 (i := 13) rfl) ?_
    refine zk_getI (pc := 24) f_Group_36 rfl ((hf_N1_.w hW).kr (o := 1) (by decide)) (zdal_p dlA_Group_addMove_102 (i := 14) rfl) ?_
    refine zw_iconst (pc := 27) (v := Int32.ofInt 1) (by decide) (zdal_p dlA_Group_addMove_102 (i := 15) rfl) ?_
    refine zr_iadd (pc := 28) (zdal_p dlA_Group_addMove_102 (i := 16) rfl) ?_
    refine zk_putR (pc := 29) (o := 1) (by decide) f_Group_36 rfl rfl ((hf_N1_.w hW).kr (o := 1) (by decide)) ⟨by omega, by omega⟩ rfl rfl (zdal_p dlA_Group_addMove_102 (i := 17) rfl) (fun N2_ hsN2_ hvN2_ => ?_)
    have hf_N2_ : zFc d_ [] [] [(1, 6), (1, 7)] [3, 5] Mz N2_ := hf_N1_.tr hsN2_ (by decide) (by decide) (by decide) (by decide)
    have eD1_5_N2_ : ze N2_ (d_ + 1) 5 = ze N1_ (d_ + 1) 5 := hsN2_.e (by decide)
    have rD1_6_N2_ := ze_r N2_ (d_ + 1) 6
    have hm1_ := p0_.u (Nz := N2_) (by omega) (by omega) (by omega) p1_ ((hsN2_.r (by decide) _).trans hst_) (fun i hi => (hsN2_.r (by decide) i).trans (hot_ i hi))
    refine zw_aload_n (pc := 32) (n := 0) (x := (d_ + 1)) rfl (zdal_p dlA_Group_addMove_102 (i := 18) rfl) ?_
    refine zk_callV hf_N2_.x (pc := 33) [] [] l_Group_42 (u_Group_gather l d_ N2_ (hf_N2_.w hW) P_ (mv_ ++ [zkc P_ a0_]) hm1_) rfl rfl ((hf_N2_.w hW).kr (o := 1) (by decide)) (by decide) (by decide) (Nat.le_of_ble_eq_true rfl) (zdal_p dlA_Group_addMove_102 (i := 19) rfl) ?_
    rintro _ N3_ ⟨v4_, rfl, ⟨hv4_a, hv4_b⟩, hsN3_, ⟨hp0_N3_, hp1_N3_⟩⟩
    have hf_N3_ : zFc d_ [] [] [(1, 6), (1, 7)] [3, 5] Mz N3_ := hf_N2_.tr hsN3_ (by decide) (by decide) (by decide) (by decide)
    have eD1_5_N3_ : ze N3_ (d_ + 1) 5 = ze N2_ (d_ + 1) 5 := hsN3_.e (by decide)
    have eD1_6_N3_ : ze N3_ (d_ + 1) 6 = ze N2_ (d_ + 1) 6 := hsN3_.e (by decide)
    have c5_ : zMvK (mv_ ++ [zkc P_ a0_]) P_ d_ N3_ := zMvK.fr (hf_N2_.w hW) hsN3_ hm1_ (by decide)
    rcases hp1_N3_ with ⟨rfl, ha33_0_hp1_N3_⟩ | ⟨rfl, ha33_0_hp1_N3_⟩
    · skip
      have hg0_ := ha33_0_hp1_N3_
      have hmm_ := hp0_N3_
      show zW l m_Group_addMove (zn Mz + 0, zw Mz + 0) N3_ 36 [some (.ref (d_ + 1)), some (.int (Int32.ofInt a0_))] [.int (Int32.ofInt 1)] _
      exact zk_iret (pc := 36) (ty := .boolean) rfl (z_narB (by omega)) ⟨by omega, by omega⟩ hf_N3_ ⟨(show zMvK (mv_ ++ [zkc P_ a0_]) P_ d_ N3_ by first | exact hmm_ | (exfalso; omega)), (show ((1 = 1 ∧ zGg (mv_ ++ [zkc P_ a0_]) P_ d_ N3_) ∨ (1 = 0 ∧ ¬ gFin (mv_ ++ [zkc P_ a0_]))) from Or.inl (⟨(show 1 = 1 by first | rfl | exact hg0_ | (exfalso; omega)), (show zGg (mv_ ++ [zkc P_ a0_]) P_ d_ N3_ by first | rfl | exact hg0_ | (exfalso; omega))⟩))⟩ (zdal_p dlA_Group_addMove_102 (i := 20) rfl)
    · skip
      have hg0_ := ha33_0_hp1_N3_
      have hmm_ := hp0_N3_
      show zW l m_Group_addMove (zn Mz + 0, zw Mz + 0) N3_ 36 [some (.ref (d_ + 1)), some (.int (Int32.ofInt a0_))] [.int (Int32.ofInt 0)] _
      exact zk_iret (pc := 36) (ty := .boolean) rfl (z_narB (by omega)) ⟨by omega, by omega⟩ hf_N3_ ⟨(show zMvK (mv_ ++ [zkc P_ a0_]) P_ d_ N3_ by first | exact hmm_ | (exfalso; omega)), (show ((0 = 1 ∧ zGg (mv_ ++ [zkc P_ a0_]) P_ d_ N3_) ∨ (0 = 0 ∧ ¬ gFin (mv_ ++ [zkc P_ a0_]))) from Or.inr (⟨(show 0 = 0 by first | rfl | exact hg0_ | (exfalso; omega)), (show ¬ gFin (mv_ ++ [zkc P_ a0_]) by first | rfl | exact hg0_ | (exfalso; omega))⟩))⟩ (zdal_p dlA_Group_addMove_102 (i := 20) rfl)
  · skip
    refine zw_iconst (pc := 8) (v := Int32.ofInt 0) (by decide) (zdal_p dlA_Group_addMove_102 (i := 4) rfl) ?_
    exact zk_iret (pc := 9) (ty := .boolean) rfl (z_narB (by omega)) ⟨by omega, by omega⟩ hf ⟨(show zMvK (mv_ ++ [zkc P_ a0_]) P_ d_ Mz by first | exact hmm_ | (exfalso; omega)), (show ((0 = 1 ∧ zGg (mv_ ++ [zkc P_ a0_]) P_ d_ Mz) ∨ (0 = 0 ∧ ¬ gFin (mv_ ++ [zkc P_ a0_]))) from Or.inr (⟨(show 0 = 0 by first | rfl | exact hg0_ | (exfalso; omega)), (show ¬ gFin (mv_ ++ [zkc P_ a0_]) by first | rfl | exact hg0_ | (exfalso; omega))⟩))⟩ (zdal_p dlA_Group_addMove_102 (i := 5) rfl)
set_option maxHeartbeats 4000000 in
theorem u_Reader_readMove (l : Launch) (d_ : Nat) (Mz : zMem) (hW : zKW d_ Mz) (a0_ : Int) (ha0_a : -2147483648 ≤ a0_) (ha0_b : a0_ < 2147483648) (b_ : Nat → Int) (n_ : Nat) (P_ : Nat) (p0_ : zYb b_ n_ Mz) (p1_ : zYt b_ n_ Mz) (p2_ : a0_ = P_) (p3_ : P_ ≤ 6) : zC l m_Reader_readMove 0 0 [.ref 4, .int (Int32.ofInt a0_)] Mz (zqcI d_ [(1, 2), (1, 3), (1, 4), (1, 5), (4, 2), (4, 3)] [] [] [] Mz (fun v N => zYt b_ n_ N ∧ (((v = -1 ∧ zrm b_ n_ P_ P_ (ze Mz 1 2).toNat [] = none) ∨ (0 ≤ v ∧ (∃ l : List Nat, zrm b_ n_ P_ P_ (ze Mz 1 2).toNat [] = some ((ze N 1 2).toNat, l) ∧ zmV P_ l ∧ l.length = P_ ∧ v = ((zdc (fun p_ => l.getD p_ 0) P_ : Nat) : Int))))))) := by
  refine zC_of (L0 := [some (.ref 4), some (.int (Int32.ofInt a0_)), none, none, none, none]) md_Reader_readMove (Nat.le_of_ble_eq_true rfl) rfl ?_ zQ0
  have hf : zFc d_ [(1, 2), (1, 3), (1, 4), (1, 5), (4, 2), (4, 3)] [] [] [] Mz Mz := zFc.rf
  have r_A1_2 := ze_r Mz 1 2
  have r_A1_3 := ze_r Mz 1 3
  have r_A1_5 := ze_r Mz 1 5
  refine zw_iconst (pc := 0) (v := Int32.ofInt 0) (by decide) (zdal_p dlA_Reader_readMove_99 (i := 0) rfl) ?_
  refine zw_istore_n (pc := 1) (i := 2) (L2 := [some (.ref 4), some (.int (Int32.ofInt a0_)), some (.int (Int32.ofInt 0)), none, none, none]) rfl (by decide) rfl (zdal_p dlA_Reader_readMove_99 (i := 1) rfl) ?_
  refine zw_iconst (pc := 2) (v := Int32.ofInt 0) (by decide) (zdal_p dlA_Reader_readMove_99 (i := 2) rfl) ?_
  refine zw_istore_n (pc := 3) (i := 3) (L2 := [some (.ref 4), some (.int (Int32.ofInt a0_)), some (.int (Int32.ofInt 0)), some (.int (Int32.ofInt 0)), none, none]) rfl (by decide) rfl (zdal_p dlA_Reader_readMove_99 (i := 3) rfl) ?_
  refine zw_iconst (pc := 4) (v := Int32.ofInt 0) (by decide) (zdal_p dlA_Reader_readMove_99 (i := 4) rfl) ?_
  refine zw_istore (pc := 5) (i := 4) (L2 := [some (.ref 4), some (.int (Int32.ofInt a0_)), some (.int (Int32.ofInt 0)), some (.int (Int32.ofInt 0)), some (.int (Int32.ofInt 0)), none]) (by decide) rfl (zdal_p dlA_Reader_readMove_99 (i := 5) rfl) ?_
  have lp_7 : ∀ (n : Nat) (u1_ : Int) (hu1_a : -2147483648 ≤ u1_) (hu1_b : u1_ < 2147483648) (u2_ : Int) (hu2_a : -2147483648 ≤ u2_) (hu2_b : u2_ < 2147483648) (u3_ : Int) (hu3_a : -2147483648 ≤ u3_) (hu3_b : u3_ < 2147483648) (N4_ : zMem) (hs5_ : zFc d_ [(1, 2), (1, 3), (1, 4), (1, 5)] [] [] [] Mz N4_) (i6_ : 0 ≤ u3_) (i7_ : u3_ ≤ P_) (i8_ : ∃ l : List Nat, zrm b_ n_ P_ P_ (ze Mz 1 2).toNat [] = zrm b_ n_ P_ (P_ - (u3_).toNat) (ze N4_ 1 2).toNat l ∧ zmV P_ l ∧ (l.length : Int) = u3_ ∧ zmt u2_ l ∧ u1_ = (zdc (fun p_ => l.getD p_ 0) (u3_).toNat : Nat)) (i9_ : zYt b_ n_ N4_), (P_ - u3_).toNat < n → zW l m_Reader_readMove (zn Mz + 0, zw Mz + 0) N4_ 7 [some (.ref 4), some (.int (Int32.ofInt a0_)), some (.int (Int32.ofInt u1_)), some (.int (Int32.ofInt u2_)), some (.int (Int32.ofInt u3_)), none] [] (zqcI d_ [(1, 2), (1, 3), (1, 4), (1, 5), (4, 2), (4, 3)] [] [] [] Mz (fun v N => zYt b_ n_ N ∧ (((v = -1 ∧ zrm b_ n_ P_ P_ (ze Mz 1 2).toNat [] = none) ∨ (0 ≤ v ∧ (∃ l : List Nat, zrm b_ n_ P_ P_ (ze Mz 1 2).toNat [] = some ((ze N 1 2).toNat, l) ∧ zmV P_ l ∧ l.length = P_ ∧ v = ((zdc (fun p_ => l.getD p_ 0) P_ : Nat) : Int))))))) := by
    intro n
    induction n with
    | zero =>
      intro u1_ hu1_a hu1_b u2_ hu2_a hu2_b u3_ hu3_a hu3_b N4_ hs5_ i6_ i7_ i8_ i9_ h0
      exact absurd h0 (Nat.not_lt_zero _)
    | succ n ih_7 =>
      intro u1_ hu1_a hu1_b u2_ hu2_a hu2_b u3_ hu3_a hu3_b N4_ hs5_ i6_ i7_ i8_ i9_ hlt_7
      have hf_N4_ : zFc d_ [(1, 2), (1, 3), (1, 4), (1, 5), (4, 2), (4, 3)] [] [] [] Mz N4_ := hf.tr hs5_ (by decide) (by decide) (by decide) (by decide)
      have rA1_2_N4_ := ze_r N4_ 1 2
      have rA1_3_N4_ := ze_r N4_ 1 3
      have rA1_5_N4_ := ze_r N4_ 1 5
      have c10_ : zYb b_ n_ N4_ := zYb.fr (hf.w hW) hs5_ p0_ (by decide)
      obtain ⟨l_, hz1_, hz2_, hz3_, hz4_, hz5_⟩ := (show ∃ l : List Nat, zrm b_ n_ P_ P_ (ze Mz 1 2).toNat [] = zrm b_ n_ P_ (P_ - (u3_).toNat) (ze N4_ 1 2).toNat l ∧ zmV P_ l ∧ (l.length : Int) = u3_ ∧ zmt u2_ l ∧ u1_ = (zdc (fun p_ => l.getD p_ 0) (u3_).toNat : Nat) by assumption)
      obtain ⟨⟨ht1_, ht2_⟩, ht3_⟩ := id hz4_
      refine zw_iload (pc := 7) (i := 4) (x := Int32.ofInt u3_) rfl (zdal_p dlA_Reader_readMove_99 (i := 6) rfl) ?_
      refine zw_iload_n (pc := 9) (n := 1) (x := Int32.ofInt a0_) rfl (zdal_p dlA_Reader_readMove_99 (i := 7) rfl) ?_
      refine zr_icmp_ge (pc := 10) (tgt := 93) ⟨hu3_a, hu3_b⟩ ⟨ha0_a, ha0_b⟩ (by decide) (zdal_p dlA_Reader_readMove_99 (i := 8) rfl) (fun hc_10 => ?_) (fun hc_10 => ?_)
      · skip
        refine zw_iload_n (pc := 93) (n := 2) (x := Int32.ofInt u1_) rfl (zdal_p dlA_Reader_readMove_101 (i := 5) rfl) ?_
        exact zk_iret (pc := 94) (ty := .int) rfl rfl ⟨by omega, by omega⟩ hf_N4_ ⟨i9_, (show ((u1_ = -1 ∧ zrm b_ n_ P_ P_ (ze Mz 1 2).toNat [] = none) ∨ (0 ≤ u1_ ∧ (∃ l : List Nat, zrm b_ n_ P_ P_ (ze Mz 1 2).toNat [] = some ((ze N4_ 1 2).toNat, l) ∧ zmV P_ l ∧ l.length = P_ ∧ u1_ = ((zdc (fun p_ => l.getD p_ 0) P_ : Nat) : Int)))) from Or.inr (⟨(show 0 ≤ u1_ by first | omega | exact ⟨l_, hz1_.trans (by rw [show P_ - (u3_).toNat = 0 by omega]; rfl), hz2_, by omega, hz5_.trans (by rw [show (u3_).toNat = P_ by omega])⟩), (show (∃ l : List Nat, zrm b_ n_ P_ P_ (ze Mz 1 2).toNat [] = some ((ze N4_ 1 2).toNat, l) ∧ zmV P_ l ∧ l.length = P_ ∧ u1_ = ((zdc (fun p_ => l.getD p_ 0) P_ : Nat) : Int)) by first | omega | exact ⟨l_, hz1_.trans (by rw [show P_ - (u3_).toNat = 0 by omega]; rfl), hz2_, by omega, hz5_.trans (by rw [show (u3_).toNat = P_ by omega])⟩)⟩))⟩ (zdal_p dlA_Reader_readMove_101 (i := 6) rfl)
      · skip
        refine zw_aload_n (pc := 13) (n := 0) (x := 4) rfl (zdal_p dlA_Reader_readMove_99 (i := 9) rfl) ?_
        refine zw_getF (pc := 14) f_Reader_15 rfl ((hf_N4_.w hW).ka (o := 4) (by decide)) ((hf_N4_.w hW).la (o := 4) (s := 0) (r := 1) (by decide)) (zdal_p dlA_Reader_readMove_99 (i := 10) rfl) ?_
        refine zk_callV hf_N4_.x (pc := 17) [] [] l_Reader_53 (u_Tokens_isNumber l d_ N4_ (hf_N4_.w hW) b_ n_ i9_) rfl rfl ((hf_N4_.w hW).ka (o := 1) (by decide)) (by decide) (by decide) (Nat.le_of_ble_eq_true rfl) (zdal_p dlA_Reader_readMove_99 (i := 11) rfl) ?_
        rintro _ N11_ ⟨v12_, rfl, ⟨hv12_a, hv12_b⟩, hsN11_, hp0_N11_⟩
        obtain rfl := hsN11_.eq.symm
        replace hp0_N11_ : ((v12_ = 1 ∧ zkd b_ n_ (ze N4_ 1 2).toNat = 2) ∨ (v12_ = 0 ∧ zkd b_ n_ (ze N4_ 1 2).toNat ≠ 2)) := hp0_N11_
        rcases hp0_N11_ with ⟨rfl, ha17_0_hp0_N11_⟩ | ⟨rfl, ha17_0_hp0_N11_⟩
        · skip
          have hk2_ := ha17_0_hp0_N11_
          have hv2_ := i9_.v2 hk2_
          show zW l m_Reader_readMove (zn Mz + 0, zw Mz + 0) N4_ 20 [some (.ref 4), some (.int (Int32.ofInt a0_)), some (.int (Int32.ofInt u1_)), some (.int (Int32.ofInt u2_)), some (.int (Int32.ofInt u3_)), none] [.int (Int32.ofInt 1)] _
          refine zr_if_ne (pc := 20) (tgt := 31) ⟨(by decide), (by decide)⟩ (by decide) (zdal_p dlA_Reader_readMove_99 (i := 12) rfl) (fun hc_20 => ?_) (fun hc_20 => ?_)
          · skip
            refine zw_aload_n (pc := 31) (n := 0) (x := 4) rfl (zdal_p dlA_Reader_readMove_99 (i := 19) rfl) ?_
            refine zw_getF (pc := 32) f_Reader_15 rfl ((hf_N4_.w hW).ka (o := 4) (by decide)) ((hf_N4_.w hW).la (o := 4) (s := 0) (r := 1) (by decide)) (zdal_p dlA_Reader_readMove_99 (i := 20) rfl) ?_
            refine zk_getI (pc := 35) f_Reader_57 rfl ((hf_N4_.w hW).ka (o := 1) (by decide)) (zdal_p dlA_Reader_readMove_99 (i := 21) rfl) ?_
            refine zw_istore (pc := 38) (i := 5) (L2 := [some (.ref 4), some (.int (Int32.ofInt a0_)), some (.int (Int32.ofInt u1_)), some (.int (Int32.ofInt u2_)), some (.int (Int32.ofInt u3_)), some (.int (Int32.ofInt (ze N4_ 1 5)))]) (by decide) rfl (zdal_p dlA_Reader_readMove_99 (i := 22) rfl) ?_
            refine zw_iload (pc := 40) (i := 5) (x := Int32.ofInt (ze N4_ 1 5)) rfl (zdal_p dlA_Reader_readMove_99 (i := 23) rfl) ?_
            refine zw_iload_n (pc := 42) (n := 1) (x := Int32.ofInt a0_) rfl (zdal_p dlA_Reader_readMove_100 (i := 0) rfl) ?_
            refine zr_icmp_ge (pc := 43) (tgt := 55) ⟨(ze_r N4_ 1 5).1, (ze_r N4_ 1 5).2⟩ ⟨ha0_a, ha0_b⟩ (by decide) (zdal_p dlA_Reader_readMove_100 (i := 1) rfl) (fun hc_43 => ?_) (fun hc_43 => ?_)
            · skip
              refine zw_aload_n (pc := 55) (n := 0) (x := 4) rfl (zdal_p dlA_Reader_readMove_100 (i := 6) rfl) ?_
              refine zw_iconst (pc := 56) (v := Int32.ofInt 4) (by decide) (zdal_p dlA_Reader_readMove_100 (i := 7) rfl) ?_
              refine zk_callV hf_N4_.x (pc := 57) [.int (Int32.ofInt 4)] [] l_Reader_41 (u_Reader_refuse l d_ N4_ (hf_N4_.w hW) 4 (by decide) (by decide)) rfl rfl ((hf_N4_.w hW).ka (o := 4) (by decide)) (by decide) (by decide) (Nat.le_of_ble_eq_true rfl) (zdal_p dlA_Reader_readMove_100 (i := 8) rfl) ?_
              rintro _ N13_ ⟨v14_, rfl, ⟨hv14_a, hv14_b⟩, hsN13_, hp0_N13_⟩
              replace hp0_N13_ : ((v14_ = 0)) := hp0_N13_
              have hf_N13_ : zFc d_ [(1, 2), (1, 3), (1, 4), (1, 5), (4, 2), (4, 3)] [] [] [] Mz N13_ := hf_N4_.tr hsN13_ (by decide) (by decide) (by decide) (by decide)
              have eA1_2_N13_ : ze N13_ 1 2 = ze N4_ 1 2 := hsN13_.ea (hf_N4_.w hW) (by decide)
              have eA1_3_N13_ : ze N13_ 1 3 = ze N4_ 1 3 := hsN13_.ea (hf_N4_.w hW) (by decide)
              have eA1_5_N13_ : ze N13_ 1 5 = ze N4_ 1 5 := hsN13_.ea (hf_N4_.w hW) (by decide)
              have c15_ : zYb b_ n_ N13_ := zYb.fr (hf_N4_.w hW) hsN13_ c10_ (by decide)
              have c16_ : zYt b_ n_ N13_ := zYt.fr (hf_N4_.w hW) hsN13_ i9_ (by decide)
              rcases hp0_N13_ with rfl
              · skip
                show zW l m_Reader_readMove (zn Mz + 0, zw Mz + 0) N13_ 60 [some (.ref 4), some (.int (Int32.ofInt a0_)), some (.int (Int32.ofInt u1_)), some (.int (Int32.ofInt u2_)), some (.int (Int32.ofInt u3_)), some (.int (Int32.ofInt (ze N4_ 1 5)))] [.int (Int32.ofInt 0)] _
                refine zw_pop (pc := 60) rfl (zdal_p dlA_Reader_readMove_100 (i := 9) rfl) ?_
                refine zw_iconst (pc := 61) (v := Int32.ofInt (-1)) (by decide) (zdal_p dlA_Reader_readMove_100 (i := 10) rfl) ?_
                exact zk_iret (pc := 62) (ty := .int) rfl rfl ⟨by omega, by omega⟩ hf_N13_ ⟨c16_, (show ((((-1)) = -1 ∧ zrm b_ n_ P_ P_ (ze Mz 1 2).toNat [] = none) ∨ (0 ≤ ((-1)) ∧ (∃ l : List Nat, zrm b_ n_ P_ P_ (ze Mz 1 2).toNat [] = some ((ze N13_ 1 2).toNat, l) ∧ zmV P_ l ∧ l.length = P_ ∧ ((-1)) = ((zdc (fun p_ => l.getD p_ 0) P_ : Nat) : Int)))) from Or.inl (⟨(show ((-1)) = -1 by first | rfl | exact hrt_ | (rw [hz1_, show P_ - (u3_).toNat = (P_ - (u3_).toNat - 1) + 1 by omega]; exact zrm_f (fun q_ => by have := q_.2.1; omega))), (show zrm b_ n_ P_ P_ (ze Mz 1 2).toNat [] = none by first | rfl | exact hrt_ | (rw [hz1_, show P_ - (u3_).toNat = (P_ - (u3_).toNat - 1) + 1 by omega]; exact zrm_f (fun q_ => by have := q_.2.1; omega)))⟩))⟩ (zdal_p dlA_Reader_readMove_100 (i := 11) rfl)
            · skip
              refine zw_iload_n (pc := 46) (n := 3) (x := Int32.ofInt u2_) rfl (zdal_p dlA_Reader_readMove_100 (i := 2) rfl) ?_
              refine zw_iload (pc := 47) (i := 5) (x := Int32.ofInt (ze N4_ 1 5)) rfl (zdal_p dlA_Reader_readMove_100 (i := 3) rfl) ?_
              refine zr_callS hf_N4_.x (pc := 49) [.int (Int32.ofInt u2_), .int (Int32.ofInt (ze N4_ 1 5))] [] l_Reader_89 (u_T_isIn l d_ N4_ (hf_N4_.w hW) u2_ hu2_a hu2_b (ze N4_ 1 5) (ze_r N4_ 1 5).1 (ze_r N4_ 1 5).2 (show 0 ≤ u2_ by first | assumption | omega) (show u2_ < 2147483648 by first | assumption | omega) (show 0 ≤ (ze N4_ 1 5) by first | assumption | omega) (show (ze N4_ 1 5) < 31 by first | assumption | omega)) rfl rfl (by decide) (Nat.le_of_ble_eq_true rfl) (zdal_p dlA_Reader_readMove_100 (i := 4) rfl) ?_
              rintro _ N17_ ⟨v18_, rfl, ⟨hv18_a, hv18_b⟩, hsN17_, hp0_N17_⟩
              obtain rfl := hsN17_.eq.symm
              replace hp0_N17_ : ((v18_ = 1 ∧ zbt u2_ (ze N4_ 1 5)) ∨ (v18_ = 0 ∧ ¬ zbt u2_ (ze N4_ 1 5))) := hp0_N17_
              rcases hp0_N17_ with ⟨rfl, ha49_0_hp0_N17_⟩ | ⟨rfl, ha49_0_hp0_N17_⟩
              · skip
                have hin_ := ha49_0_hp0_N17_
                have hrt_ : zrm b_ n_ P_ P_ (ze Mz 1 2).toNat [] = none := by rw [hz1_, show P_ - (u3_).toNat = (P_ - (u3_).toNat - 1) + 1 by omega]; exact zrm_f (fun q_ => q_.2.2 (by have h3_ := (ht3_ ((ze N4_ 1 5)).toNat (by omega)).mp (by rw [Int.toNat_of_nonneg (by omega)]; exact hin_); rwa [ hv2_.1] at h3_))
                show zW l m_Reader_readMove (zn Mz + 0, zw Mz + 0) N4_ 52 [some (.ref 4), some (.int (Int32.ofInt a0_)), some (.int (Int32.ofInt u1_)), some (.int (Int32.ofInt u2_)), some (.int (Int32.ofInt u3_)), some (.int (Int32.ofInt (ze N4_ 1 5)))] [.int (Int32.ofInt 1)] _
                refine zr_if_eq (pc := 52) (tgt := 63) ⟨(by decide), (by decide)⟩ (by decide) (zdal_p dlA_Reader_readMove_100 (i := 5) rfl) (fun hc_52 => ?_) (fun hc_52 => ?_)
                · skip
                  exact absurd hc_52 (by decide)
                · skip
                  refine zw_aload_n (pc := 55) (n := 0) (x := 4) rfl (zdal_p dlA_Reader_readMove_100 (i := 6) rfl) ?_
                  refine zw_iconst (pc := 56) (v := Int32.ofInt 4) (by decide) (zdal_p dlA_Reader_readMove_100 (i := 7) rfl) ?_
                  refine zk_callV hf_N4_.x (pc := 57) [.int (Int32.ofInt 4)] [] l_Reader_41 (u_Reader_refuse l d_ N4_ (hf_N4_.w hW) 4 (by decide) (by decide)) rfl rfl ((hf_N4_.w hW).ka (o := 4) (by decide)) (by decide) (by decide) (Nat.le_of_ble_eq_true rfl) (zdal_p dlA_Reader_readMove_100 (i := 8) rfl) ?_
                  rintro _ N19_ ⟨v20_, rfl, ⟨hv20_a, hv20_b⟩, hsN19_, hp0_N19_⟩
                  replace hp0_N19_ : ((v20_ = 0)) := hp0_N19_
                  have hf_N19_ : zFc d_ [(1, 2), (1, 3), (1, 4), (1, 5), (4, 2), (4, 3)] [] [] [] Mz N19_ := hf_N4_.tr hsN19_ (by decide) (by decide) (by decide) (by decide)
                  have eA1_2_N19_ : ze N19_ 1 2 = ze N4_ 1 2 := hsN19_.ea (hf_N4_.w hW) (by decide)
                  have eA1_3_N19_ : ze N19_ 1 3 = ze N4_ 1 3 := hsN19_.ea (hf_N4_.w hW) (by decide)
                  have eA1_5_N19_ : ze N19_ 1 5 = ze N4_ 1 5 := hsN19_.ea (hf_N4_.w hW) (by decide)
                  have c21_ : zYb b_ n_ N19_ := zYb.fr (hf_N4_.w hW) hsN19_ c10_ (by decide)
                  have c22_ : zYt b_ n_ N19_ := zYt.fr (hf_N4_.w hW) hsN19_ i9_ (by decide)
                  rcases hp0_N19_ with rfl
                  · skip
                    show zW l m_Reader_readMove (zn Mz + 0, zw Mz + 0) N19_ 60 [some (.ref 4), some (.int (Int32.ofInt a0_)), some (.int (Int32.ofInt u1_)), some (.int (Int32.ofInt u2_)), some (.int (Int32.ofInt u3_)), some (.int (Int32.ofInt (ze N4_ 1 5)))] [.int (Int32.ofInt 0)] _
                    refine zw_pop (pc := 60) rfl (zdal_p dlA_Reader_readMove_100 (i := 9) rfl) ?_
                    refine zw_iconst (pc := 61) (v := Int32.ofInt (-1)) (by decide) (zdal_p dlA_Reader_readMove_100 (i := 10) rfl) ?_
                    exact zk_iret (pc := 62) (ty := .int) rfl rfl ⟨by omega, by omega⟩ hf_N19_ ⟨c22_, (show ((((-1)) = -1 ∧ zrm b_ n_ P_ P_ (ze Mz 1 2).toNat [] = none) ∨ (0 ≤ ((-1)) ∧ (∃ l : List Nat, zrm b_ n_ P_ P_ (ze Mz 1 2).toNat [] = some ((ze N19_ 1 2).toNat, l) ∧ zmV P_ l ∧ l.length = P_ ∧ ((-1)) = ((zdc (fun p_ => l.getD p_ 0) P_ : Nat) : Int)))) from Or.inl (⟨(show ((-1)) = -1 by first | rfl | exact hrt_ | (rw [hz1_, show P_ - (u3_).toNat = (P_ - (u3_).toNat - 1) + 1 by omega]; exact zrm_f (fun q_ => by have := q_.2.1; omega))), (show zrm b_ n_ P_ P_ (ze Mz 1 2).toNat [] = none by first | rfl | exact hrt_ | (rw [hz1_, show P_ - (u3_).toNat = (P_ - (u3_).toNat - 1) + 1 by omega]; exact zrm_f (fun q_ => by have := q_.2.1; omega)))⟩))⟩ (zdal_p dlA_Reader_readMove_100 (i := 11) rfl)
              · skip
                have hni_ := ha49_0_hp0_N17_
                have hnm_ : ((ze N4_ 1 5)).toNat ∉ l_ := fun q_ => hni_ (by have h3_ := (ht3_ ((ze N4_ 1 5)).toNat (by omega)).mpr q_; rwa [Int.toNat_of_nonneg (by omega)] at h3_)
                show zW l m_Reader_readMove (zn Mz + 0, zw Mz + 0) N4_ 52 [some (.ref 4), some (.int (Int32.ofInt a0_)), some (.int (Int32.ofInt u1_)), some (.int (Int32.ofInt u2_)), some (.int (Int32.ofInt u3_)), some (.int (Int32.ofInt (ze N4_ 1 5)))] [.int (Int32.ofInt 0)] _
                refine zr_if_eq (pc := 52) (tgt := 63) ⟨(by decide), (by decide)⟩ (by decide) (zdal_p dlA_Reader_readMove_100 (i := 5) rfl) (fun hc_52 => ?_) (fun hc_52 => ?_)
                · skip
                  refine zw_iload_n (pc := 63) (n := 3) (x := Int32.ofInt u2_) rfl (zdal_p dlA_Reader_readMove_100 (i := 12) rfl) ?_
                  refine zw_iconst (pc := 64) (v := Int32.ofInt 1) (by decide) (zdal_p dlA_Reader_readMove_100 (i := 13) rfl) ?_
                  refine zw_iload (pc := 65) (i := 5) (x := Int32.ofInt (ze N4_ 1 5)) rfl (zdal_p dlA_Reader_readMove_100 (i := 14) rfl) ?_
                  refine zr_ishl (pc := 67) (zdal_p dlA_Reader_readMove_100 (i := 15) rfl) ?_
                  have hr23_ := zshl_r 1 (ze N4_ 1 5)
                  refine zr_ior (pc := 68) (zdal_p dlA_Reader_readMove_100 (i := 16) rfl) ?_
                  have hr24_ := zor_r u2_ (zshl 1 (ze N4_ 1 5))
                  refine zw_istore_n (pc := 69) (i := 3) (L2 := [some (.ref 4), some (.int (Int32.ofInt a0_)), some (.int (Int32.ofInt u1_)), some (.int (Int32.ofInt (zor u2_ (zshl 1 (ze N4_ 1 5))))), some (.int (Int32.ofInt u3_)), some (.int (Int32.ofInt (ze N4_ 1 5)))]) rfl (by decide) rfl (zdal_p dlA_Reader_readMove_100 (i := 17) rfl) ?_
                  refine zw_iload_n (pc := 70) (n := 2) (x := Int32.ofInt u1_) rfl (zdal_p dlA_Reader_readMove_100 (i := 18) rfl) ?_
                  refine zw_iload (pc := 71) (i := 5) (x := Int32.ofInt (ze N4_ 1 5)) rfl (zdal_p dlA_Reader_readMove_100 (i := 19) rfl) ?_
                  refine zw_iload (pc := 73) (i := 4) (x := Int32.ofInt u3_) rfl (zdal_p dlA_Reader_readMove_100 (i := 20) rfl) ?_
                  refine zr_callS hf_N4_.x (pc := 75) [.int (Int32.ofInt (ze N4_ 1 5)), .int (Int32.ofInt u3_)] [.int (Int32.ofInt u1_)] l_Reader_92 (u_T_codeOf l d_ N4_ (hf_N4_.w hW) (ze N4_ 1 5) (ze_r N4_ 1 5).1 (ze_r N4_ 1 5).2 u3_ hu3_a hu3_b (show 0 ≤ (ze N4_ 1 5) by first | assumption | omega) (show (ze N4_ 1 5) ≤ 7 by first | assumption | omega) (show 0 ≤ u3_ by first | assumption | omega) (show u3_ ≤ 5 by first | assumption | omega)) rfl rfl (by decide) (Nat.le_of_ble_eq_true rfl) (zdal_p dlA_Reader_readMove_100 (i := 21) rfl) ?_
                  rintro _ N25_ ⟨v26_, rfl, ⟨hv26_a, hv26_b⟩, hsN25_, hp0_N25_⟩
                  obtain rfl := hsN25_.eq.symm
                  replace hp0_N25_ : v26_ = (((ze N4_ 1 5)).toNat * zw5 (u3_).toNat : Nat) := hp0_N25_
                  show zW l m_Reader_readMove (zn Mz + 0, zw Mz + 0) N4_ 78 [some (.ref 4), some (.int (Int32.ofInt a0_)), some (.int (Int32.ofInt u1_)), some (.int (Int32.ofInt (zor u2_ (zshl 1 (ze N4_ 1 5))))), some (.int (Int32.ofInt u3_)), some (.int (Int32.ofInt (ze N4_ 1 5)))] [.int (Int32.ofInt v26_), .int (Int32.ofInt u1_)] _
                  have hcw_ := hp0_N25_
                  obtain ⟨w_, hw_⟩ : ∃ w, w = v26_ := ⟨_, rfl⟩
                  rw [← hw_] at hcw_
                  obtain ⟨g1_, g2_, g3_, g4_⟩ := zmv_s p3_ hz2_ hz3_ hz4_ hz5_ (by omega) (by omega) (by omega) hnm_ hcw_
                  rw [hw_] at g4_
                  refine zr_ior (pc := 78) (zdal_p dlA_Reader_readMove_100 (i := 22) rfl) ?_
                  have hr27_ := zor_r u1_ v26_
                  refine zw_istore_n (pc := 79) (i := 2) (L2 := [some (.ref 4), some (.int (Int32.ofInt a0_)), some (.int (Int32.ofInt (zor u1_ v26_))), some (.int (Int32.ofInt (zor u2_ (zshl 1 (ze N4_ 1 5))))), some (.int (Int32.ofInt u3_)), some (.int (Int32.ofInt (ze N4_ 1 5)))]) rfl (by decide) rfl (zdal_p dlA_Reader_readMove_100 (i := 23) rfl) ?_
                  have hyt_ := i9_
                  have hyx_ := hyt_.x
                  refine zw_aload_n (pc := 80) (n := 0) (x := 4) rfl (zdal_p dlA_Reader_readMove_101 (i := 0) rfl) ?_
                  refine zw_getF (pc := 81) f_Reader_15 rfl ((hf_N4_.w hW).ka (o := 4) (by decide)) ((hf_N4_.w hW).la (o := 4) (s := 0) (r := 1) (by decide)) (zdal_p dlA_Reader_readMove_101 (i := 1) rfl) ?_
                  refine zk_callV hf_N4_.x (pc := 84) [] [] l_Reader_44 (u_Tokens_step l d_ N4_ (hf_N4_.w hW) b_ n_ c10_ (show 0 ≤ ze N4_ 1 3 by first | assumption | omega) (show ze N4_ 1 3 ≤ n_ by first | assumption | omega)) rfl rfl ((hf_N4_.w hW).ka (o := 1) (by decide)) (by decide) (by decide) (Nat.le_of_ble_eq_true rfl) (zdal_p dlA_Reader_readMove_101 (i := 2) rfl) ?_
                  rintro _ N28_ ⟨rfl, hsN28_, ⟨hp0_N28_, hp1_N28_⟩⟩
                  have hf_N28_ : zFc d_ [(1, 2), (1, 3), (1, 4), (1, 5), (4, 2), (4, 3)] [] [] [] Mz N28_ := hf_N4_.tr hsN28_ (by decide) (by decide) (by decide) (by decide)
                  have hb0_N28_ : zFc d_ [(1, 2), (1, 3), (1, 4), (1, 5)] [] [] [] Mz N28_ := hs5_.tr hsN28_ (by decide) (by decide) (by decide) (by decide)
                  have rA1_2_N28_ := ze_r N28_ 1 2
                  have rA1_3_N28_ := ze_r N28_ 1 3
                  have rA1_5_N28_ := ze_r N28_ 1 5
                  have c30_ : zYb b_ n_ N28_ := zYb.fr (hf_N4_.w hW) hsN28_ c10_ (by decide)
                  show zW l m_Reader_readMove (zn Mz + 0, zw Mz + 0) N28_ 87 [some (.ref 4), some (.int (Int32.ofInt a0_)), some (.int (Int32.ofInt (zor u1_ v26_))), some (.int (Int32.ofInt (zor u2_ (zshl 1 (ze N4_ 1 5))))), some (.int (Int32.ofInt u3_)), some (.int (Int32.ofInt (ze N4_ 1 5)))] [] _
                  have hnn_ := hyt_.n hp0_N28_
                  have hk_ : P_ - (u3_).toNat = (P_ - (u3_ + 1).toNat) + 1 := by omega
                  rw [show (ze N4_ 1 2).toNat = (ze N4_ 1 2).toNat by omega] at hnn_
                  refine zr_iinc (pc := 87) (i := 4) (a := u3_) (n := 1) (L2 := [some (.ref 4), some (.int (Int32.ofInt a0_)), some (.int (Int32.ofInt (zor u1_ v26_))), some (.int (Int32.ofInt (zor u2_ (zshl 1 (ze N4_ 1 5))))), some (.int (Int32.ofInt (u3_ + 1))), some (.int (Int32.ofInt (ze N4_ 1 5)))]) rfl (by decide) rfl (zdal_p dlA_Reader_readMove_101 (i := 3) rfl) ?_
                  refine zw_goto (pc := 90) (tgt := 7) (by decide) (zdal_p dlA_Reader_readMove_101 (i := 4) rfl) ?_
                  have hbk_ : zrm b_ n_ P_ P_ (ze Mz 1 2).toNat [] = zrm b_ n_ P_ (P_ - ((u3_ + 1)).toNat) (ze N28_ 1 2).toNat (l_ ++ [((ze N4_ 1 5)).toNat]) := by rw [hz1_, hk_, zrm_t ⟨hk2_, by omega, by rw [← hv2_.1]; exact hnm_⟩, hnn_.2, ← hv2_.1]
                  refine zW_le [some (.ref 4), some (.int (Int32.ofInt a0_)), some (.int (Int32.ofInt (zor u1_ v26_))), some (.int (Int32.ofInt (zor u2_ (zshl 1 (ze N4_ 1 5))))), some (.int (Int32.ofInt (u3_ + 1))), none] (⟨rfl, rfl, rfl, rfl, rfl, trivial⟩) ?_
                  exact ih_7 (zor u1_ v26_) (by omega) (by omega) (zor u2_ (zshl 1 (ze N4_ 1 5))) (by omega) (by omega) (u3_ + 1) (by omega) (by omega) N28_ hb0_N28_ (show 0 ≤ (u3_ + 1) by first | assumption | omega) (show (u3_ + 1) ≤ P_ by first | assumption | omega) (show ∃ l : List Nat, zrm b_ n_ P_ P_ (ze Mz 1 2).toNat [] = zrm b_ n_ P_ (P_ - ((u3_ + 1)).toNat) (ze N28_ 1 2).toNat l ∧ zmV P_ l ∧ (l.length : Int) = (u3_ + 1) ∧ zmt (zor u2_ (zshl 1 (ze N4_ 1 5))) l ∧ (zor u1_ v26_) = (zdc (fun p_ => l.getD p_ 0) ((u3_ + 1)).toNat : Nat) by exact ⟨_, hbk_, g1_, g2_, g3_, g4_⟩) hp1_N28_ (by omega)
                · skip
                  exact absurd hc_52 (by decide)
          · skip
            exact absurd hc_20 (by decide)
        · skip
          have hrt_ : zrm b_ n_ P_ P_ (ze Mz 1 2).toNat [] = none := by rw [hz1_, show P_ - (u3_).toNat = (P_ - (u3_).toNat - 1) + 1 by omega]; exact zrm_f (fun q_ => ha17_0_hp0_N11_ q_.1)
          show zW l m_Reader_readMove (zn Mz + 0, zw Mz + 0) N4_ 20 [some (.ref 4), some (.int (Int32.ofInt a0_)), some (.int (Int32.ofInt u1_)), some (.int (Int32.ofInt u2_)), some (.int (Int32.ofInt u3_)), none] [.int (Int32.ofInt 0)] _
          refine zr_if_ne (pc := 20) (tgt := 31) ⟨(by decide), (by decide)⟩ (by decide) (zdal_p dlA_Reader_readMove_99 (i := 12) rfl) (fun hc_20 => ?_) (fun hc_20 => ?_)
          · skip
            exact absurd hc_20 (by decide)
          · skip
            refine zw_aload_n (pc := 23) (n := 0) (x := 4) rfl (zdal_p dlA_Reader_readMove_99 (i := 13) rfl) ?_
            refine zw_iconst (pc := 24) (v := Int32.ofInt 2) (by decide) (zdal_p dlA_Reader_readMove_99 (i := 14) rfl) ?_
            refine zk_callV hf_N4_.x (pc := 25) [.int (Int32.ofInt 2)] [] l_Reader_41 (u_Reader_refuse l d_ N4_ (hf_N4_.w hW) 2 (by decide) (by decide)) rfl rfl ((hf_N4_.w hW).ka (o := 4) (by decide)) (by decide) (by decide) (Nat.le_of_ble_eq_true rfl) (zdal_p dlA_Reader_readMove_99 (i := 15) rfl) ?_
            rintro _ N31_ ⟨v32_, rfl, ⟨hv32_a, hv32_b⟩, hsN31_, hp0_N31_⟩
            replace hp0_N31_ : ((v32_ = 0)) := hp0_N31_
            have hf_N31_ : zFc d_ [(1, 2), (1, 3), (1, 4), (1, 5), (4, 2), (4, 3)] [] [] [] Mz N31_ := hf_N4_.tr hsN31_ (by decide) (by decide) (by decide) (by decide)
            have eA1_2_N31_ : ze N31_ 1 2 = ze N4_ 1 2 := hsN31_.ea (hf_N4_.w hW) (by decide)
            have eA1_3_N31_ : ze N31_ 1 3 = ze N4_ 1 3 := hsN31_.ea (hf_N4_.w hW) (by decide)
            have eA1_5_N31_ : ze N31_ 1 5 = ze N4_ 1 5 := hsN31_.ea (hf_N4_.w hW) (by decide)
            have c33_ : zYb b_ n_ N31_ := zYb.fr (hf_N4_.w hW) hsN31_ c10_ (by decide)
            have c34_ : zYt b_ n_ N31_ := zYt.fr (hf_N4_.w hW) hsN31_ i9_ (by decide)
            rcases hp0_N31_ with rfl
            · skip
              show zW l m_Reader_readMove (zn Mz + 0, zw Mz + 0) N31_ 28 [some (.ref 4), some (.int (Int32.ofInt a0_)), some (.int (Int32.ofInt u1_)), some (.int (Int32.ofInt u2_)), some (.int (Int32.ofInt u3_)), none] [.int (Int32.ofInt 0)] _
              refine zw_pop (pc := 28) rfl (zdal_p dlA_Reader_readMove_99 (i := 16) rfl) ?_
              refine zw_iconst (pc := 29) (v := Int32.ofInt (-1)) (by decide) (zdal_p dlA_Reader_readMove_99 (i := 17) rfl) ?_
              exact zk_iret (pc := 30) (ty := .int) rfl rfl ⟨by omega, by omega⟩ hf_N31_ ⟨c34_, (show ((((-1)) = -1 ∧ zrm b_ n_ P_ P_ (ze Mz 1 2).toNat [] = none) ∨ (0 ≤ ((-1)) ∧ (∃ l : List Nat, zrm b_ n_ P_ P_ (ze Mz 1 2).toNat [] = some ((ze N31_ 1 2).toNat, l) ∧ zmV P_ l ∧ l.length = P_ ∧ ((-1)) = ((zdc (fun p_ => l.getD p_ 0) P_ : Nat) : Int)))) from Or.inl (⟨(show ((-1)) = -1 by first | rfl | exact hrt_ | (rw [hz1_, show P_ - (u3_).toNat = (P_ - (u3_).toNat - 1) + 1 by omega]; exact zrm_f (fun q_ => by have := q_.2.1; omega))), (show zrm b_ n_ P_ P_ (ze Mz 1 2).toNat [] = none by first | rfl | exact hrt_ | (rw [hz1_, show P_ - (u3_).toNat = (P_ - (u3_).toNat - 1) + 1 by omega]; exact zrm_f (fun q_ => by have := q_.2.1; omega)))⟩))⟩ (zdal_p dlA_Reader_readMove_99 (i := 18) rfl)
  exact lp_7 _ 0 (by decide) (by decide) 0 (by decide) (by decide) 0 (by decide) (by decide) Mz zFc.rf (show 0 ≤ (0 : Int) by first | assumption | omega) (show (0 : Int) ≤ P_ by first | assumption | omega) (show ∃ l : List Nat, zrm b_ n_ P_ P_ (ze Mz 1 2).toNat [] = zrm b_ n_ P_ (P_ - ((0 : Int)).toNat) (ze Mz 1 2).toNat l ∧ zmV P_ l ∧ (l.length : Int) = (0 : Int) ∧ zmt (0 : Int) l ∧ (0 : Int) = (zdc (fun p_ => l.getD p_ 0) ((0 : Int)).toNat : Nat) by exact ⟨[], by rw [show P_ - (0 : Int).toNat = P_ from rfl], zmV_0 P_, rfl, zmt_0, rfl⟩) p1_ (Nat.lt_succ_self _)
set_option maxHeartbeats 4000000 in
theorem u_Reader_readMoves (l : Launch) (d_ : Nat) (Mz : zMem) (hW : zKW d_ Mz) (b_ : Nat → Int) (n_ : Nat) (P_ : Nat) (p0_ : zYb b_ n_ Mz) (p1_ : zYt b_ n_ Mz) (p2_ : zMvK [] P_ d_ Mz) (p3_ : zGg [] P_ d_ Mz) : zC l m_Reader_readMoves 0 0 [.ref 4, .ref (d_ + 0)] Mz (zqcI d_ [(1, 2), (1, 3), (1, 4), (1, 5), (4, 2), (4, 3)] [] [(1, 6), (1, 7)] [3, 5] Mz (fun v N => zYt b_ n_ N ∧ (((v = 1 ∧ (∃ mv : List Nat, zRg (zbs b_ n_ P_) (0, (ze Mz 1 2).toNat, []) (1, (ze N 1 2).toNat, mv) ∧ zMvK mv P_ d_ N ∧ zGg mv P_ d_ N ∧ ∀ g ∈ mv, gpm g)) ∨ (v = 0 ∧ zRg (zbs b_ n_ P_) (0, (ze Mz 1 2).toNat, []) zMf))))) := by
  refine zC_of (L0 := [some (.ref 4), some (.ref (d_ + 0)), none, none, none]) md_Reader_readMoves (Nat.le_of_ble_eq_true rfl) rfl ?_ zQ0
  have hf : zFc d_ [(1, 2), (1, 3), (1, 4), (1, 5), (4, 2), (4, 3)] [] [(1, 6), (1, 7)] [3, 5] Mz Mz := zFc.rf
  have r_A1_2 := ze_r Mz 1 2
  have r_A1_3 := ze_r Mz 1 3
  have r_D1_5 := ze_r Mz (d_ + 1) 5
  have r_D1_6 := ze_r Mz (d_ + 1) 6
  obtain ⟨⟨hP0_, hP1_, hP6_⟩, hc1_, hc2_, hc3_⟩ := id p2_
  refine zw_iconst (pc := 0) (v := Int32.ofInt 0) (by decide) (zdal_p dlA_Reader_readMoves_96 (i := 0) rfl) ?_
  refine zw_istore_n (pc := 1) (i := 2) (L2 := [some (.ref 4), some (.ref (d_ + 0)), some (.int (Int32.ofInt 0)), none, none]) rfl (by decide) rfl (zdal_p dlA_Reader_readMoves_96 (i := 1) rfl) ?_
  have lp_2 : ∀ (n : Nat) (u1_ : Int) (hu1_a : -2147483648 ≤ u1_) (hu1_b : u1_ < 2147483648) (N2_ : zMem) (hs3_ : zFc d_ [(1, 2), (1, 3), (1, 4), (1, 5), (4, 2), (4, 3)] [] [(1, 6), (1, 7)] [3, 5] Mz N2_) (i4_ : 0 ≤ u1_) (i5_ : u1_ ≤ ze N2_ (d_ + 1) 6) (i6_ : zYt b_ n_ N2_) (i7_ : ∃ mv : List Nat, zRg (zbs b_ n_ P_) (0, (ze Mz 1 2).toNat, []) (0, (ze N2_ 1 2).toNat, mv) ∧ zMvK mv P_ d_ N2_ ∧ zGg mv P_ d_ N2_ ∧ ∀ g ∈ mv, gpm g), (5 - u1_).toNat < n → zW l m_Reader_readMoves (zn Mz + 0, zw Mz + 0) N2_ 2 [some (.ref 4), some (.ref (d_ + 0)), some (.int (Int32.ofInt u1_)), none, none] [] (zqcI d_ [(1, 2), (1, 3), (1, 4), (1, 5), (4, 2), (4, 3)] [] [(1, 6), (1, 7)] [3, 5] Mz (fun v N => zYt b_ n_ N ∧ (((v = 1 ∧ (∃ mv : List Nat, zRg (zbs b_ n_ P_) (0, (ze Mz 1 2).toNat, []) (1, (ze N 1 2).toNat, mv) ∧ zMvK mv P_ d_ N ∧ zGg mv P_ d_ N ∧ ∀ g ∈ mv, gpm g)) ∨ (v = 0 ∧ zRg (zbs b_ n_ P_) (0, (ze Mz 1 2).toNat, []) zMf))))) := by
    intro n
    induction n with
    | zero =>
      intro u1_ hu1_a hu1_b N2_ hs3_ i4_ i5_ i6_ i7_ h0
      exact absurd h0 (Nat.not_lt_zero _)
    | succ n ih_2 =>
      intro u1_ hu1_a hu1_b N2_ hs3_ i4_ i5_ i6_ i7_ hlt_2
      have hf_N2_ : zFc d_ [(1, 2), (1, 3), (1, 4), (1, 5), (4, 2), (4, 3)] [] [(1, 6), (1, 7)] [3, 5] Mz N2_ := hf.tr hs3_ (by decide) (by decide) (by decide) (by decide)
      have rA1_2_N2_ := ze_r N2_ 1 2
      have rA1_3_N2_ := ze_r N2_ 1 3
      have eD1_5_N2_ : ze N2_ (d_ + 1) 5 = ze Mz (d_ + 1) 5 := hs3_.e (by decide)
      have rD1_6_N2_ := ze_r N2_ (d_ + 1) 6
      have c8_ : zYb b_ n_ N2_ := zYb.fr (hf.w hW) hs3_ p0_ (by decide)
      obtain ⟨mv_, hre_, hmv_, hgg_, hpm_⟩ := (show ∃ mv : List Nat, zRg (zbs b_ n_ P_) (0, (ze Mz 1 2).toNat, []) (0, (ze N2_ 1 2).toNat, mv) ∧ zMvK mv P_ d_ N2_ ∧ zGg mv P_ d_ N2_ ∧ ∀ g ∈ mv, gpm g by assumption)
      obtain ⟨⟨hQ0_, hQ1_, hQ6_⟩, hd1_, hd2_, hd3_⟩ := id hmv_
      refine zw_iload_n (pc := 2) (n := 2) (x := Int32.ofInt u1_) rfl (zdal_p dlA_Reader_readMoves_96 (i := 2) rfl) ?_
      refine zw_iconst (pc := 3) (v := Int32.ofInt 4) (by decide) (zdal_p dlA_Reader_readMoves_96 (i := 3) rfl) ?_
      refine zr_icmp_gt (pc := 4) (tgt := 106) ⟨hu1_a, hu1_b⟩ ⟨(by decide), (by decide)⟩ (by decide) (zdal_p dlA_Reader_readMoves_96 (i := 4) rfl) (fun hc_4 => ?_) (fun hc_4 => ?_)
      · skip
        refine zw_iconst (pc := 106) (v := Int32.ofInt 1) (by decide) (zdal_p dlA_Reader_readMoves_98 (i := 5) rfl) ?_
        exact zk_iret (pc := 107) (ty := .boolean) rfl (z_narB (by omega)) ⟨by omega, by omega⟩ hf_N2_ ⟨i6_, (show ((1 = 1 ∧ (∃ mv : List Nat, zRg (zbs b_ n_ P_) (0, (ze Mz 1 2).toNat, []) (1, (ze N2_ 1 2).toNat, mv) ∧ zMvK mv P_ d_ N2_ ∧ zGg mv P_ d_ N2_ ∧ ∀ g ∈ mv, gpm g)) ∨ (1 = 0 ∧ zRg (zbs b_ n_ P_) (0, (ze Mz 1 2).toNat, []) zMf)) from Or.inl (⟨(show 1 = 1 by first | rfl | exact ⟨mv_, hre_.tr (zRg.st (zbs_e hl1_)), hmv_, hgg_, hpm_⟩ | (exfalso; omega)), (show (∃ mv : List Nat, zRg (zbs b_ n_ P_) (0, (ze Mz 1 2).toNat, []) (1, (ze N2_ 1 2).toNat, mv) ∧ zMvK mv P_ d_ N2_ ∧ zGg mv P_ d_ N2_ ∧ ∀ g ∈ mv, gpm g) by first | rfl | exact ⟨mv_, hre_.tr (zRg.st (zbs_e hl1_)), hmv_, hgg_, hpm_⟩ | (exfalso; omega))⟩))⟩ (zdal_p dlA_Reader_readMoves_98 (i := 6) rfl)
      · skip
        refine zw_aload_n (pc := 7) (n := 0) (x := 4) rfl (zdal_p dlA_Reader_readMoves_96 (i := 5) rfl) ?_
        refine zw_getF (pc := 8) f_Reader_15 rfl ((hf_N2_.w hW).ka (o := 4) (by decide)) ((hf_N2_.w hW).la (o := 4) (s := 0) (r := 1) (by decide)) (zdal_p dlA_Reader_readMoves_96 (i := 6) rfl) ?_
        refine zw_ldcs (pc := 11) (i := 1) (List.mem_of_getElem? (i := 1) rfl) (zdal_p dlA_Reader_readMoves_96 (i := 7) rfl) ?_
        refine zk_callV hf_N2_.x (pc := 13) [.ref (zK 1)] [] l_Reader_49 (u_Tokens_isWord l d_ N2_ (hf_N2_.w hW) 1 (by decide) b_ n_ c8_ i6_) rfl rfl ((hf_N2_.w hW).ka (o := 1) (by decide)) (by decide) (by decide) (Nat.le_of_ble_eq_true rfl) (zdal_p dlA_Reader_readMoves_96 (i := 8) rfl) ?_
        rintro _ N9_ ⟨v10_, rfl, ⟨hv10_a, hv10_b⟩, hsN9_, hp0_N9_⟩
        obtain rfl := hsN9_.eq.symm
        replace hp0_N9_ : ((v10_ = 1 ∧ zkd b_ n_ (ze N2_ 1 2).toNat = 1 ∧ zkey b_ n_ (ze N2_ 1 2).toNat = zkw 1) ∨ (v10_ = 0 ∧ ¬ (zkd b_ n_ (ze N2_ 1 2).toNat = 1 ∧ zkey b_ n_ (ze N2_ 1 2).toNat = zkw 1))) := hp0_N9_
        rcases hp0_N9_ with ⟨rfl, ha13_0_hp0_N9_, ha13_1_hp0_N9_⟩ | ⟨rfl, ha13_0_hp0_N9_⟩
        · skip
          have hl0_ : zkd b_ n_ (ze N2_ 1 2).toNat = 1 ∧ zkey b_ n_ (ze N2_ 1 2).toNat = zkw 1 := ⟨ha13_0_hp0_N9_, ha13_1_hp0_N9_⟩
          show zW l m_Reader_readMoves (zn Mz + 0, zw Mz + 0) N2_ 16 [some (.ref 4), some (.ref (d_ + 0)), some (.int (Int32.ofInt u1_)), none, none] [.int (Int32.ofInt 1)] _
          refine zr_if_eq (pc := 16) (tgt := 106) ⟨(by decide), (by decide)⟩ (by decide) (zdal_p dlA_Reader_readMoves_96 (i := 9) rfl) (fun hc_16 => ?_) (fun hc_16 => ?_)
          · skip
            exact absurd hc_16 (by decide)
          · skip
            refine zw_aload_n (pc := 19) (n := 0) (x := 4) rfl (zdal_p dlA_Reader_readMoves_96 (i := 10) rfl) ?_
            refine zw_getF (pc := 20) f_Reader_15 rfl ((hf_N2_.w hW).ka (o := 4) (by decide)) ((hf_N2_.w hW).la (o := 4) (s := 0) (r := 1) (by decide)) (zdal_p dlA_Reader_readMoves_96 (i := 11) rfl) ?_
            refine zk_getI (pc := 23) f_Reader_30 rfl ((hf_N2_.w hW).ka (o := 1) (by decide)) (zdal_p dlA_Reader_readMoves_96 (i := 12) rfl) ?_
            refine zw_istore_n (pc := 26) (i := 3) (L2 := [some (.ref 4), some (.ref (d_ + 0)), some (.int (Int32.ofInt u1_)), some (.int (Int32.ofInt (ze N2_ 1 2))), none]) rfl (by decide) rfl (zdal_p dlA_Reader_readMoves_96 (i := 13) rfl) ?_
            refine zw_aload_n (pc := 27) (n := 1) (x := (d_ + 0)) rfl (zdal_p dlA_Reader_readMoves_96 (i := 14) rfl) ?_
            refine zw_getF (pc := 28) f_Reader_71 rfl ((hf_N2_.w hW).kr (o := 0) (by decide)) ((hf_N2_.w hW).lr (o := 0) (s := 0) (r := 1) (by decide)) (zdal_p dlA_Reader_readMoves_96 (i := 15) rfl) ?_
            refine zk_getI (pc := 31) f_Reader_75 rfl ((hf_N2_.w hW).kr (o := 1) (by decide)) (zdal_p dlA_Reader_readMoves_96 (i := 16) rfl) ?_
            refine zw_iconst (pc := 34) (v := Int32.ofInt 4) (by decide) (zdal_p dlA_Reader_readMoves_96 (i := 17) rfl) ?_
            refine zr_icmp_lt (pc := 35) (tgt := 44) ⟨(ze_r N2_ (d_ + 1) 6).1, (ze_r N2_ (d_ + 1) 6).2⟩ ⟨(by decide), (by decide)⟩ (by decide) (zdal_p dlA_Reader_readMoves_96 (i := 18) rfl) (fun hc_35 => ?_) (fun hc_35 => ?_)
            · skip
              have hyt_ := i6_
              have hyx_ := hyt_.x
              refine zw_aload_n (pc := 44) (n := 0) (x := 4) rfl (zdal_p dlA_Reader_readMoves_96 (i := 23) rfl) ?_
              refine zw_getF (pc := 45) f_Reader_15 rfl ((hf_N2_.w hW).ka (o := 4) (by decide)) ((hf_N2_.w hW).la (o := 4) (s := 0) (r := 1) (by decide)) (zdal_p dlA_Reader_readMoves_97 (i := 0) rfl) ?_
              refine zk_callV hf_N2_.x (pc := 48) [] [] l_Reader_44 (u_Tokens_step l d_ N2_ (hf_N2_.w hW) b_ n_ c8_ (show 0 ≤ ze N2_ 1 3 by first | assumption | omega) (show ze N2_ 1 3 ≤ n_ by first | assumption | omega)) rfl rfl ((hf_N2_.w hW).ka (o := 1) (by decide)) (by decide) (by decide) (Nat.le_of_ble_eq_true rfl) (zdal_p dlA_Reader_readMoves_97 (i := 1) rfl) ?_
              rintro _ N11_ ⟨rfl, hsN11_, ⟨hp0_N11_, hp1_N11_⟩⟩
              have hf_N11_ : zFc d_ [(1, 2), (1, 3), (1, 4), (1, 5), (4, 2), (4, 3)] [] [(1, 6), (1, 7)] [3, 5] Mz N11_ := hf_N2_.tr hsN11_ (by decide) (by decide) (by decide) (by decide)
              have hb0_N11_ : zFc d_ [(1, 2), (1, 3), (1, 4), (1, 5), (4, 2), (4, 3)] [] [(1, 6), (1, 7)] [3, 5] Mz N11_ := hs3_.tr hsN11_ (by decide) (by decide) (by decide) (by decide)
              have rA1_2_N11_ := ze_r N11_ 1 2
              have rA1_3_N11_ := ze_r N11_ 1 3
              have eD1_5_N11_ : ze N11_ (d_ + 1) 5 = ze N2_ (d_ + 1) 5 := hsN11_.e (by decide)
              have eD1_6_N11_ : ze N11_ (d_ + 1) 6 = ze N2_ (d_ + 1) 6 := hsN11_.e (by decide)
              have c13_ : zYb b_ n_ N11_ := zYb.fr (hf_N2_.w hW) hsN11_ c8_ (by decide)
              have c14_ : zMvK mv_ P_ d_ N11_ := zMvK.fr (hf_N2_.w hW) hsN11_ hmv_ (by decide)
              have c15_ : zGg mv_ P_ d_ N11_ := zGg.fr (hf_N2_.w hW) hsN11_ hgg_ (by decide)
              show zW l m_Reader_readMoves (zn Mz + 0, zw Mz + 0) N11_ 51 [some (.ref 4), some (.ref (d_ + 0)), some (.int (Int32.ofInt u1_)), some (.int (Int32.ofInt (ze N2_ 1 2))), none] [] _
              have hnn_ := hyt_.n hp0_N11_
              have hx1_ : (ze N11_ 1 2).toNat = znx b_ n_ (ze N2_ 1 2).toNat := hnn_.2.trans (by rw [show ze N2_ 1 2 = ze N2_ 1 2 by omega])
              refine zw_aload_n (pc := 51) (n := 0) (x := 4) rfl (zdal_p dlA_Reader_readMoves_97 (i := 2) rfl) ?_
              refine zw_aload_n (pc := 52) (n := 1) (x := (d_ + 0)) rfl (zdal_p dlA_Reader_readMoves_97 (i := 3) rfl) ?_
              refine zw_getF (pc := 53) f_Reader_71 rfl ((hf_N11_.w hW).kr (o := 0) (by decide)) ((hf_N11_.w hW).lr (o := 0) (s := 0) (r := 1) (by decide)) (zdal_p dlA_Reader_readMoves_97 (i := 4) rfl) ?_
              refine zk_getI (pc := 56) f_Reader_80 rfl ((hf_N11_.w hW).kr (o := 1) (by decide)) (zdal_p dlA_Reader_readMoves_97 (i := 5) rfl) ?_
              rw [hf_N11_.e (by decide)]
              refine zk_callV hf_N11_.x (pc := 59) [.int (Int32.ofInt (ze Mz (d_ + 1) 5))] [] l_Reader_82 (u_Reader_readMove l d_ N11_ (hf_N11_.w hW) (ze Mz (d_ + 1) 5) (ze_r Mz (d_ + 1) 5).1 (ze_r Mz (d_ + 1) 5).2 b_ n_ P_ c13_ hp1_N11_ (show (ze Mz (d_ + 1) 5) = P_ by first | assumption | omega) (show P_ ≤ 6 by first | assumption | omega)) rfl rfl ((hf_N11_.w hW).ka (o := 4) (by decide)) (by decide) (by decide) (Nat.le_of_ble_eq_true rfl) (zdal_p dlA_Reader_readMoves_97 (i := 6) rfl) ?_
              rintro _ N16_ ⟨v17_, rfl, ⟨hv17_a, hv17_b⟩, hsN16_, ⟨hp0_N16_, hp1_N16_⟩⟩
              have hf_N16_ : zFc d_ [(1, 2), (1, 3), (1, 4), (1, 5), (4, 2), (4, 3)] [] [(1, 6), (1, 7)] [3, 5] Mz N16_ := hf_N11_.tr hsN16_ (by decide) (by decide) (by decide) (by decide)
              have hb0_N16_ : zFc d_ [(1, 2), (1, 3), (1, 4), (1, 5), (4, 2), (4, 3)] [] [(1, 6), (1, 7)] [3, 5] Mz N16_ := hb0_N11_.tr hsN16_ (by decide) (by decide) (by decide) (by decide)
              have rA1_2_N16_ := ze_r N16_ 1 2
              have rA1_3_N16_ := ze_r N16_ 1 3
              have eD1_5_N16_ : ze N16_ (d_ + 1) 5 = ze N11_ (d_ + 1) 5 := hsN16_.e (by decide)
              have eD1_6_N16_ : ze N16_ (d_ + 1) 6 = ze N11_ (d_ + 1) 6 := hsN16_.e (by decide)
              have c18_ : zYb b_ n_ N16_ := zYb.fr (hf_N11_.w hW) hsN16_ c13_ (by decide)
              have c19_ : zMvK mv_ P_ d_ N16_ := zMvK.fr (hf_N11_.w hW) hsN16_ c14_ (by decide)
              have c20_ : zGg mv_ P_ d_ N16_ := zGg.fr (hf_N11_.w hW) hsN16_ c15_ (by decide)
              rcases hp1_N16_ with ⟨rfl, ha59_0_hp1_N16_⟩ | ⟨ha59_0_hp1_N16_, ha59_1_hp1_N16_⟩
              · skip
                have hr0_ := ha59_0_hp1_N16_
                rw [hx1_] at hr0_
                have hrt_ := hre_.tr (zRg.st (zbs_n hl0_ hr0_))
                show zW l m_Reader_readMoves (zn Mz + 0, zw Mz + 0) N16_ 62 [some (.ref 4), some (.ref (d_ + 0)), some (.int (Int32.ofInt u1_)), some (.int (Int32.ofInt (ze N2_ 1 2))), none] [.int (Int32.ofInt ((-1)))] _
                refine zw_istore (pc := 62) (i := 4) (L2 := [some (.ref 4), some (.ref (d_ + 0)), some (.int (Int32.ofInt u1_)), some (.int (Int32.ofInt (ze N2_ 1 2))), some (.int (Int32.ofInt ((-1))))]) (by decide) rfl (zdal_p dlA_Reader_readMoves_97 (i := 7) rfl) ?_
                refine zw_iload (pc := 64) (i := 4) (x := Int32.ofInt ((-1))) rfl (zdal_p dlA_Reader_readMoves_97 (i := 8) rfl) ?_
                refine zw_iconst (pc := 66) (v := Int32.ofInt (-1)) (by decide) (zdal_p dlA_Reader_readMoves_97 (i := 9) rfl) ?_
                refine zr_icmp_eq (pc := 67) (tgt := 79) ⟨(by decide), (by decide)⟩ ⟨(by decide), (by decide)⟩ (by decide) (zdal_p dlA_Reader_readMoves_97 (i := 10) rfl) (fun hc_67 => ?_) (fun hc_67 => ?_)
                · skip
                  refine zw_iconst (pc := 79) (v := Int32.ofInt 0) (by decide) (zdal_p dlA_Reader_readMoves_97 (i := 15) rfl) ?_
                  exact zk_iret (pc := 80) (ty := .boolean) rfl (z_narB (by omega)) ⟨by omega, by omega⟩ hf_N16_ ⟨hp0_N16_, (show ((0 = 1 ∧ (∃ mv : List Nat, zRg (zbs b_ n_ P_) (0, (ze Mz 1 2).toNat, []) (1, (ze N16_ 1 2).toNat, mv) ∧ zMvK mv P_ d_ N16_ ∧ zGg mv P_ d_ N16_ ∧ ∀ g ∈ mv, gpm g)) ∨ (0 = 0 ∧ zRg (zbs b_ n_ P_) (0, (ze Mz 1 2).toNat, []) zMf)) from Or.inr (⟨(show 0 = 0 by first | rfl | exact hrt_ | exact hre_.tr (zRg.st (zbs_4 hl0_ (by omega))) | (exfalso; omega)), (show zRg (zbs b_ n_ P_) (0, (ze Mz 1 2).toNat, []) zMf by first | rfl | exact hrt_ | exact hre_.tr (zRg.st (zbs_4 hl0_ (by omega))) | (exfalso; omega))⟩))⟩ (zdal_p dlA_Reader_readMoves_97 (i := 16) rfl)
                · skip
                  exact absurd hc_67 (by decide)
              · skip
                have hr0_ := ha59_0_hp1_N16_
                obtain ⟨l_, hr1_, hr2_, hr3_, hr4_⟩ := ha59_1_hp1_N16_
                rw [hx1_] at hr1_
                obtain ⟨hr5_, hr6_⟩ := zmc_z (by omega) hr2_ hr3_
                rw [← hr4_] at hr5_ hr6_
                show zW l m_Reader_readMoves (zn Mz + 0, zw Mz + 0) N16_ 62 [some (.ref 4), some (.ref (d_ + 0)), some (.int (Int32.ofInt u1_)), some (.int (Int32.ofInt (ze N2_ 1 2))), none] [.int (Int32.ofInt v17_)] _
                refine zw_istore (pc := 62) (i := 4) (L2 := [some (.ref 4), some (.ref (d_ + 0)), some (.int (Int32.ofInt u1_)), some (.int (Int32.ofInt (ze N2_ 1 2))), some (.int (Int32.ofInt v17_))]) (by decide) rfl (zdal_p dlA_Reader_readMoves_97 (i := 7) rfl) ?_
                refine zw_iload (pc := 64) (i := 4) (x := Int32.ofInt v17_) rfl (zdal_p dlA_Reader_readMoves_97 (i := 8) rfl) ?_
                refine zw_iconst (pc := 66) (v := Int32.ofInt (-1)) (by decide) (zdal_p dlA_Reader_readMoves_97 (i := 9) rfl) ?_
                refine zr_icmp_eq (pc := 67) (tgt := 79) ⟨hv17_a, hv17_b⟩ ⟨(by decide), (by decide)⟩ (by decide) (zdal_p dlA_Reader_readMoves_97 (i := 10) rfl) (fun hc_67 => ?_) (fun hc_67 => ?_)
                · skip
                  refine zw_iconst (pc := 79) (v := Int32.ofInt 0) (by decide) (zdal_p dlA_Reader_readMoves_97 (i := 15) rfl) ?_
                  exact zk_iret (pc := 80) (ty := .boolean) rfl (z_narB (by omega)) ⟨by omega, by omega⟩ hf_N16_ ⟨hp0_N16_, (show ((0 = 1 ∧ (∃ mv : List Nat, zRg (zbs b_ n_ P_) (0, (ze Mz 1 2).toNat, []) (1, (ze N16_ 1 2).toNat, mv) ∧ zMvK mv P_ d_ N16_ ∧ zGg mv P_ d_ N16_ ∧ ∀ g ∈ mv, gpm g)) ∨ (0 = 0 ∧ zRg (zbs b_ n_ P_) (0, (ze Mz 1 2).toNat, []) zMf)) from Or.inr (⟨(show 0 = 0 by first | rfl | exact hrt_ | exact hre_.tr (zRg.st (zbs_4 hl0_ (by omega))) | (exfalso; omega)), (show zRg (zbs b_ n_ P_) (0, (ze Mz 1 2).toNat, []) zMf by first | rfl | exact hrt_ | exact hre_.tr (zRg.st (zbs_4 hl0_ (by omega))) | (exfalso; omega))⟩))⟩ (zdal_p dlA_Reader_readMoves_97 (i := 16) rfl)
                · skip
                  refine zw_aload_n (pc := 70) (n := 0) (x := 4) rfl (zdal_p dlA_Reader_readMoves_97 (i := 11) rfl) ?_
                  refine zw_bipush (pc := 71) (v := Int32.ofInt 59) (by decide) (zdal_p dlA_Reader_readMoves_97 (i := 12) rfl) ?_
                  refine zk_callV hf_N16_.x (pc := 73) [.int (Int32.ofInt 59)] [] l_Reader_66 (u_Reader_passSign l d_ N16_ (hf_N16_.w hW) 59 (by decide) (by decide) b_ n_ c18_ hp0_N16_) rfl rfl ((hf_N16_.w hW).ka (o := 4) (by decide)) (by decide) (by decide) (Nat.le_of_ble_eq_true rfl) (zdal_p dlA_Reader_readMoves_97 (i := 13) rfl) ?_
                  rintro _ N21_ ⟨v22_, rfl, ⟨hv22_a, hv22_b⟩, hsN21_, ⟨hp0_N21_, hp1_N21_⟩⟩
                  have hf_N21_ : zFc d_ [(1, 2), (1, 3), (1, 4), (1, 5), (4, 2), (4, 3)] [] [(1, 6), (1, 7)] [3, 5] Mz N21_ := hf_N16_.tr hsN21_ (by decide) (by decide) (by decide) (by decide)
                  have hb0_N21_ : zFc d_ [(1, 2), (1, 3), (1, 4), (1, 5), (4, 2), (4, 3)] [] [(1, 6), (1, 7)] [3, 5] Mz N21_ := hb0_N16_.tr hsN21_ (by decide) (by decide) (by decide) (by decide)
                  have rA1_2_N21_ := ze_r N21_ 1 2
                  have rA1_3_N21_ := ze_r N21_ 1 3
                  have eD1_5_N21_ : ze N21_ (d_ + 1) 5 = ze N16_ (d_ + 1) 5 := hsN21_.e (by decide)
                  have eD1_6_N21_ : ze N21_ (d_ + 1) 6 = ze N16_ (d_ + 1) 6 := hsN21_.e (by decide)
                  have c23_ : zYb b_ n_ N21_ := zYb.fr (hf_N16_.w hW) hsN21_ c18_ (by decide)
                  have c24_ : zMvK mv_ P_ d_ N21_ := zMvK.fr (hf_N16_.w hW) hsN21_ c19_ (by decide)
                  have c25_ : zGg mv_ P_ d_ N21_ := zGg.fr (hf_N16_.w hW) hsN21_ c20_ (by decide)
                  rcases hp1_N21_ with ⟨rfl, ha73_0_hp1_N21_, ha73_1_hp1_N21_⟩ | ⟨rfl, ha73_0_hp1_N21_⟩
                  · skip
                    have hs1_ := ha73_0_hp1_N21_
                    have hs2_ := ha73_1_hp1_N21_
                    show zW l m_Reader_readMoves (zn Mz + 0, zw Mz + 0) N21_ 76 [some (.ref 4), some (.ref (d_ + 0)), some (.int (Int32.ofInt u1_)), some (.int (Int32.ofInt (ze N2_ 1 2))), some (.int (Int32.ofInt v17_))] [.int (Int32.ofInt 1)] _
                    refine zr_if_ne (pc := 76) (tgt := 81) ⟨(by decide), (by decide)⟩ (by decide) (zdal_p dlA_Reader_readMoves_97 (i := 14) rfl) (fun hc_76 => ?_) (fun hc_76 => ?_)
                    · skip
                      refine zw_aload_n (pc := 81) (n := 1) (x := (d_ + 0)) rfl (zdal_p dlA_Reader_readMoves_97 (i := 17) rfl) ?_
                      refine zw_getF (pc := 82) f_Reader_71 rfl ((hf_N21_.w hW).kr (o := 0) (by decide)) ((hf_N21_.w hW).lr (o := 0) (s := 0) (r := 1) (by decide)) (zdal_p dlA_Reader_readMoves_97 (i := 18) rfl) ?_
                      refine zw_iload (pc := 85) (i := 4) (x := Int32.ofInt v17_) rfl (zdal_p dlA_Reader_readMoves_97 (i := 19) rfl) ?_
                      refine zk_callV hf_N21_.x (pc := 87) [.int (Int32.ofInt v17_)] [] l_Reader_86 (u_Group_addMove l d_ N21_ (hf_N21_.w hW) v17_ hv17_a hv17_b P_ mv_ c24_ (show zkv P_ v17_ by first | assumption | omega) (show mv_.length ≤ 3 by first | assumption | omega)) rfl rfl ((hf_N21_.w hW).kr (o := 1) (by decide)) (by decide) (by decide) (Nat.le_of_ble_eq_true rfl) (zdal_p dlA_Reader_readMoves_97 (i := 20) rfl) ?_
                      rintro _ N26_ ⟨v27_, rfl, ⟨hv27_a, hv27_b⟩, hsN26_, ⟨hp0_N26_, hp1_N26_⟩⟩
                      have hf_N26_ : zFc d_ [(1, 2), (1, 3), (1, 4), (1, 5), (4, 2), (4, 3)] [] [(1, 6), (1, 7)] [3, 5] Mz N26_ := hf_N21_.tr hsN26_ (by decide) (by decide) (by decide) (by decide)
                      have hb0_N26_ : zFc d_ [(1, 2), (1, 3), (1, 4), (1, 5), (4, 2), (4, 3)] [] [(1, 6), (1, 7)] [3, 5] Mz N26_ := hb0_N21_.tr hsN26_ (by decide) (by decide) (by decide) (by decide)
                      have eA1_2_N26_ : ze N26_ 1 2 = ze N21_ 1 2 := hsN26_.ea (hf_N21_.w hW) (by decide)
                      have eA1_3_N26_ : ze N26_ 1 3 = ze N21_ 1 3 := hsN26_.ea (hf_N21_.w hW) (by decide)
                      have eD1_5_N26_ : ze N26_ (d_ + 1) 5 = ze N21_ (d_ + 1) 5 := hsN26_.e (by decide)
                      have rD1_6_N26_ := ze_r N26_ (d_ + 1) 6
                      have c28_ : zYb b_ n_ N26_ := zYb.fr (hf_N21_.w hW) hsN26_ c23_ (by decide)
                      have c29_ : zYt b_ n_ N26_ := zYt.fr (hf_N21_.w hW) hsN26_ hp0_N21_ (by decide)
                      rcases hp1_N26_ with ⟨rfl, ha87_0_hp1_N26_⟩ | ⟨rfl, ha87_0_hp1_N26_⟩
                      · skip
                        have hf0_ := ha87_0_hp1_N26_
                        have hf1_ := hp0_N26_
                        rw [hr6_] at hf0_ hf1_
                        have hbk_ := hre_.tr (zRg.st (zbs_t hl0_ (by omega) hr1_ ⟨hs1_, hf0_.2.2.2.2⟩))
                        rw [← hs2_, show (ze N21_ 1 2).toNat = (ze N26_ 1 2).toNat by rw [show ze N21_ 1 2 = ze N26_ 1 2 by omega]] at hbk_
                        show zW l m_Reader_readMoves (zn Mz + 0, zw Mz + 0) N26_ 90 [some (.ref 4), some (.ref (d_ + 0)), some (.int (Int32.ofInt u1_)), some (.int (Int32.ofInt (ze N2_ 1 2))), some (.int (Int32.ofInt v17_))] [.int (Int32.ofInt 1)] _
                        refine zr_if_ne (pc := 90) (tgt := 100) ⟨(by decide), (by decide)⟩ (by decide) (zdal_p dlA_Reader_readMoves_97 (i := 21) rfl) (fun hc_90 => ?_) (fun hc_90 => ?_)
                        · skip
                          refine zr_iinc (pc := 100) (i := 2) (a := u1_) (n := 1) (L2 := [some (.ref 4), some (.ref (d_ + 0)), some (.int (Int32.ofInt (u1_ + 1))), some (.int (Int32.ofInt (ze N2_ 1 2))), some (.int (Int32.ofInt v17_))]) rfl (by decide) rfl (zdal_p dlA_Reader_readMoves_98 (i := 3) rfl) ?_
                          refine zw_goto (pc := 103) (tgt := 2) (by decide) (zdal_p dlA_Reader_readMoves_98 (i := 4) rfl) ?_
                          refine zW_le [some (.ref 4), some (.ref (d_ + 0)), some (.int (Int32.ofInt (u1_ + 1))), none, none] (⟨rfl, rfl, rfl, trivial⟩) ?_
                          exact ih_2 (u1_ + 1) (by omega) (by omega) N26_ hb0_N26_ (show 0 ≤ (u1_ + 1) by first | assumption | omega) (show (u1_ + 1) ≤ ze N26_ (d_ + 1) 6 by have h1_ := hf1_.2.1; rw [List.length_append, List.length_singleton] at h1_; omega) c29_ (show ∃ mv : List Nat, zRg (zbs b_ n_ P_) (0, (ze Mz 1 2).toNat, []) (0, (ze N26_ 1 2).toNat, mv) ∧ zMvK mv P_ d_ N26_ ∧ zGg mv P_ d_ N26_ ∧ ∀ g ∈ mv, gpm g by exact ⟨_, hbk_, hf1_, hf0_, fun g hg => (List.mem_append.mp hg).elim (hpm_ g) (fun e_ => by rw [List.mem_singleton.mp e_]; exact (zmc_p (by omega) hr3_ hr2_).1)⟩) (by omega)
                        · skip
                          exact absurd hc_90 (by decide)
                      · skip
                        have hf0_ := ha87_0_hp1_N26_
                        rw [hr6_] at hf0_
                        have hrt_ := hre_.tr (zRg.st (zbs_f hl0_ hr1_ (fun q_ => hf0_ q_.2)))
                        show zW l m_Reader_readMoves (zn Mz + 0, zw Mz + 0) N26_ 90 [some (.ref 4), some (.ref (d_ + 0)), some (.int (Int32.ofInt u1_)), some (.int (Int32.ofInt (ze N2_ 1 2))), some (.int (Int32.ofInt v17_))] [.int (Int32.ofInt 0)] _
                        refine zr_if_ne (pc := 90) (tgt := 100) ⟨(by decide), (by decide)⟩ (by decide) (zdal_p dlA_Reader_readMoves_97 (i := 21) rfl) (fun hc_90 => ?_) (fun hc_90 => ?_)
                        · skip
                          exact absurd hc_90 (by decide)
                        · skip
                          refine zw_aload_n (pc := 93) (n := 0) (x := 4) rfl (zdal_p dlA_Reader_readMoves_97 (i := 22) rfl) ?_
                          refine zw_iconst (pc := 94) (v := Int32.ofInt 5) (by decide) (zdal_p dlA_Reader_readMoves_97 (i := 23) rfl) ?_
                          refine zw_iload_n (pc := 95) (n := 3) (x := Int32.ofInt (ze N2_ 1 2)) rfl (zdal_p dlA_Reader_readMoves_98 (i := 0) rfl) ?_
                          refine zk_callV hf_N26_.x (pc := 96) [.int (Int32.ofInt 5), .int (Int32.ofInt (ze N2_ 1 2))] [] l_Reader_33 (u_Reader_refuseAt l d_ N26_ (hf_N26_.w hW) 5 (by decide) (by decide) (ze N2_ 1 2) (ze_r N2_ 1 2).1 (ze_r N2_ 1 2).2) rfl rfl ((hf_N26_.w hW).ka (o := 4) (by decide)) (by decide) (by decide) (Nat.le_of_ble_eq_true rfl) (zdal_p dlA_Reader_readMoves_98 (i := 1) rfl) ?_
                          rintro _ N30_ ⟨v31_, rfl, ⟨hv31_a, hv31_b⟩, hsN30_, hp0_N30_⟩
                          replace hp0_N30_ : ((v31_ = 0)) := hp0_N30_
                          have hf_N30_ : zFc d_ [(1, 2), (1, 3), (1, 4), (1, 5), (4, 2), (4, 3)] [] [(1, 6), (1, 7)] [3, 5] Mz N30_ := hf_N26_.tr hsN30_ (by decide) (by decide) (by decide) (by decide)
                          have eA1_2_N30_ : ze N30_ 1 2 = ze N26_ 1 2 := hsN30_.ea (hf_N26_.w hW) (by decide)
                          have eA1_3_N30_ : ze N30_ 1 3 = ze N26_ 1 3 := hsN30_.ea (hf_N26_.w hW) (by decide)
                          have eD1_5_N30_ : ze N30_ (d_ + 1) 5 = ze N26_ (d_ + 1) 5 := hsN30_.e (by decide)
                          have eD1_6_N30_ : ze N30_ (d_ + 1) 6 = ze N26_ (d_ + 1) 6 := hsN30_.e (by decide)
                          have c32_ : zYb b_ n_ N30_ := zYb.fr (hf_N26_.w hW) hsN30_ c28_ (by decide)
                          have c33_ : zYt b_ n_ N30_ := zYt.fr (hf_N26_.w hW) hsN30_ c29_ (by decide)
                          rcases hp0_N30_ with rfl
                          · skip
                            show zW l m_Reader_readMoves (zn Mz + 0, zw Mz + 0) N30_ 99 [some (.ref 4), some (.ref (d_ + 0)), some (.int (Int32.ofInt u1_)), some (.int (Int32.ofInt (ze N2_ 1 2))), some (.int (Int32.ofInt v17_))] [.int (Int32.ofInt 0)] _
                            exact zk_iret (pc := 99) (ty := .boolean) rfl (z_narB (by omega)) ⟨by omega, by omega⟩ hf_N30_ ⟨c33_, (show ((0 = 1 ∧ (∃ mv : List Nat, zRg (zbs b_ n_ P_) (0, (ze Mz 1 2).toNat, []) (1, (ze N30_ 1 2).toNat, mv) ∧ zMvK mv P_ d_ N30_ ∧ zGg mv P_ d_ N30_ ∧ ∀ g ∈ mv, gpm g)) ∨ (0 = 0 ∧ zRg (zbs b_ n_ P_) (0, (ze Mz 1 2).toNat, []) zMf)) from Or.inr (⟨(show 0 = 0 by first | rfl | exact hrt_ | exact hre_.tr (zRg.st (zbs_4 hl0_ (by omega))) | (exfalso; omega)), (show zRg (zbs b_ n_ P_) (0, (ze Mz 1 2).toNat, []) zMf by first | rfl | exact hrt_ | exact hre_.tr (zRg.st (zbs_4 hl0_ (by omega))) | (exfalso; omega))⟩))⟩ (zdal_p dlA_Reader_readMoves_98 (i := 2) rfl)
                    · skip
                      exact absurd hc_76 (by decide)
                  · skip
                    have hrt_ := hre_.tr (zRg.st (zbs_f hl0_ hr1_ (fun q_ => ha73_0_hp1_N21_ q_.1)))
                    show zW l m_Reader_readMoves (zn Mz + 0, zw Mz + 0) N21_ 76 [some (.ref 4), some (.ref (d_ + 0)), some (.int (Int32.ofInt u1_)), some (.int (Int32.ofInt (ze N2_ 1 2))), some (.int (Int32.ofInt v17_))] [.int (Int32.ofInt 0)] _
                    refine zr_if_ne (pc := 76) (tgt := 81) ⟨(by decide), (by decide)⟩ (by decide) (zdal_p dlA_Reader_readMoves_97 (i := 14) rfl) (fun hc_76 => ?_) (fun hc_76 => ?_)
                    · skip
                      exact absurd hc_76 (by decide)
                    · skip
                      refine zw_iconst (pc := 79) (v := Int32.ofInt 0) (by decide) (zdal_p dlA_Reader_readMoves_97 (i := 15) rfl) ?_
                      exact zk_iret (pc := 80) (ty := .boolean) rfl (z_narB (by omega)) ⟨by omega, by omega⟩ hf_N21_ ⟨hp0_N21_, (show ((0 = 1 ∧ (∃ mv : List Nat, zRg (zbs b_ n_ P_) (0, (ze Mz 1 2).toNat, []) (1, (ze N21_ 1 2).toNat, mv) ∧ zMvK mv P_ d_ N21_ ∧ zGg mv P_ d_ N21_ ∧ ∀ g ∈ mv, gpm g)) ∨ (0 = 0 ∧ zRg (zbs b_ n_ P_) (0, (ze Mz 1 2).toNat, []) zMf)) from Or.inr (⟨(show 0 = 0 by first | rfl | exact hrt_ | exact hre_.tr (zRg.st (zbs_4 hl0_ (by omega))) | (exfalso; omega)), (show zRg (zbs b_ n_ P_) (0, (ze Mz 1 2).toNat, []) zMf by first | rfl | exact hrt_ | exact hre_.tr (zRg.st (zbs_4 hl0_ (by omega))) | (exfalso; omega))⟩))⟩ (zdal_p dlA_Reader_readMoves_97 (i := 16) rfl)
            · skip
              refine zw_aload_n (pc := 38) (n := 0) (x := 4) rfl (zdal_p dlA_Reader_readMoves_96 (i := 19) rfl) ?_
              refine zw_iconst (pc := 39) (v := Int32.ofInt 5) (by decide) (zdal_p dlA_Reader_readMoves_96 (i := 20) rfl) ?_
              refine zk_callV hf_N2_.x (pc := 40) [.int (Int32.ofInt 5)] [] l_Reader_41 (u_Reader_refuse l d_ N2_ (hf_N2_.w hW) 5 (by decide) (by decide)) rfl rfl ((hf_N2_.w hW).ka (o := 4) (by decide)) (by decide) (by decide) (Nat.le_of_ble_eq_true rfl) (zdal_p dlA_Reader_readMoves_96 (i := 21) rfl) ?_
              rintro _ N34_ ⟨v35_, rfl, ⟨hv35_a, hv35_b⟩, hsN34_, hp0_N34_⟩
              replace hp0_N34_ : ((v35_ = 0)) := hp0_N34_
              have hf_N34_ : zFc d_ [(1, 2), (1, 3), (1, 4), (1, 5), (4, 2), (4, 3)] [] [(1, 6), (1, 7)] [3, 5] Mz N34_ := hf_N2_.tr hsN34_ (by decide) (by decide) (by decide) (by decide)
              have eA1_2_N34_ : ze N34_ 1 2 = ze N2_ 1 2 := hsN34_.ea (hf_N2_.w hW) (by decide)
              have eA1_3_N34_ : ze N34_ 1 3 = ze N2_ 1 3 := hsN34_.ea (hf_N2_.w hW) (by decide)
              have eD1_5_N34_ : ze N34_ (d_ + 1) 5 = ze N2_ (d_ + 1) 5 := hsN34_.e (by decide)
              have eD1_6_N34_ : ze N34_ (d_ + 1) 6 = ze N2_ (d_ + 1) 6 := hsN34_.e (by decide)
              have c36_ : zYb b_ n_ N34_ := zYb.fr (hf_N2_.w hW) hsN34_ c8_ (by decide)
              have c37_ : zYt b_ n_ N34_ := zYt.fr (hf_N2_.w hW) hsN34_ i6_ (by decide)
              have c38_ : zMvK mv_ P_ d_ N34_ := zMvK.fr (hf_N2_.w hW) hsN34_ hmv_ (by decide)
              have c39_ : zGg mv_ P_ d_ N34_ := zGg.fr (hf_N2_.w hW) hsN34_ hgg_ (by decide)
              rcases hp0_N34_ with rfl
              · skip
                show zW l m_Reader_readMoves (zn Mz + 0, zw Mz + 0) N34_ 43 [some (.ref 4), some (.ref (d_ + 0)), some (.int (Int32.ofInt u1_)), some (.int (Int32.ofInt (ze N2_ 1 2))), none] [.int (Int32.ofInt 0)] _
                exact zk_iret (pc := 43) (ty := .boolean) rfl (z_narB (by omega)) ⟨by omega, by omega⟩ hf_N34_ ⟨c37_, (show ((0 = 1 ∧ (∃ mv : List Nat, zRg (zbs b_ n_ P_) (0, (ze Mz 1 2).toNat, []) (1, (ze N34_ 1 2).toNat, mv) ∧ zMvK mv P_ d_ N34_ ∧ zGg mv P_ d_ N34_ ∧ ∀ g ∈ mv, gpm g)) ∨ (0 = 0 ∧ zRg (zbs b_ n_ P_) (0, (ze Mz 1 2).toNat, []) zMf)) from Or.inr (⟨(show 0 = 0 by first | rfl | exact hrt_ | exact hre_.tr (zRg.st (zbs_4 hl0_ (by omega))) | (exfalso; omega)), (show zRg (zbs b_ n_ P_) (0, (ze Mz 1 2).toNat, []) zMf by first | rfl | exact hrt_ | exact hre_.tr (zRg.st (zbs_4 hl0_ (by omega))) | (exfalso; omega))⟩))⟩ (zdal_p dlA_Reader_readMoves_96 (i := 22) rfl)
        · skip
          have hl1_ := ha13_0_hp0_N9_
          show zW l m_Reader_readMoves (zn Mz + 0, zw Mz + 0) N2_ 16 [some (.ref 4), some (.ref (d_ + 0)), some (.int (Int32.ofInt u1_)), none, none] [.int (Int32.ofInt 0)] _
          refine zr_if_eq (pc := 16) (tgt := 106) ⟨(by decide), (by decide)⟩ (by decide) (zdal_p dlA_Reader_readMoves_96 (i := 9) rfl) (fun hc_16 => ?_) (fun hc_16 => ?_)
          · skip
            refine zw_iconst (pc := 106) (v := Int32.ofInt 1) (by decide) (zdal_p dlA_Reader_readMoves_98 (i := 5) rfl) ?_
            exact zk_iret (pc := 107) (ty := .boolean) rfl (z_narB (by omega)) ⟨by omega, by omega⟩ hf_N2_ ⟨i6_, (show ((1 = 1 ∧ (∃ mv : List Nat, zRg (zbs b_ n_ P_) (0, (ze Mz 1 2).toNat, []) (1, (ze N2_ 1 2).toNat, mv) ∧ zMvK mv P_ d_ N2_ ∧ zGg mv P_ d_ N2_ ∧ ∀ g ∈ mv, gpm g)) ∨ (1 = 0 ∧ zRg (zbs b_ n_ P_) (0, (ze Mz 1 2).toNat, []) zMf)) from Or.inl (⟨(show 1 = 1 by first | rfl | exact ⟨mv_, hre_.tr (zRg.st (zbs_e hl1_)), hmv_, hgg_, hpm_⟩ | (exfalso; omega)), (show (∃ mv : List Nat, zRg (zbs b_ n_ P_) (0, (ze Mz 1 2).toNat, []) (1, (ze N2_ 1 2).toNat, mv) ∧ zMvK mv P_ d_ N2_ ∧ zGg mv P_ d_ N2_ ∧ ∀ g ∈ mv, gpm g) by first | rfl | exact ⟨mv_, hre_.tr (zRg.st (zbs_e hl1_)), hmv_, hgg_, hpm_⟩ | (exfalso; omega))⟩))⟩ (zdal_p dlA_Reader_readMoves_98 (i := 6) rfl)
          · skip
            exact absurd hc_16 (by decide)
  exact lp_2 _ 0 (by decide) (by decide) Mz zFc.rf (show 0 ≤ (0 : Int) by first | assumption | omega) (show (0 : Int) ≤ ze Mz (d_ + 1) 6 by first | assumption | omega) p1_ (show ∃ mv : List Nat, zRg (zbs b_ n_ P_) (0, (ze Mz 1 2).toNat, []) (0, (ze Mz 1 2).toNat, mv) ∧ zMvK mv P_ d_ Mz ∧ zGg mv P_ d_ Mz ∧ ∀ g ∈ mv, gpm g by exact ⟨[], zRg.rf, p2_, p3_, fun g hg => absurd hg List.not_mem_nil⟩) (Nat.lt_succ_self _)
