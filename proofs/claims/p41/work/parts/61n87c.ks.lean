theorem mk_st2 {f : Nat → Int} {a b x k : Int} (h : ∀ i : Nat, (i : Int) < k → f i = a ∨ f i = b) (k0 : 0 ≤ k) (hx : x = f k.toNat) (hab : x = a ∨ x = b) : ∀ i : Nat, (i : Int) < k + 1 → f i = a ∨ f i = b := fun i hi => by
  by_cases g : (i : Int) = k
  · rw [show i = k.toNat by omega, ← hx]
    exact hab
  · exact h i (by omega)
set_option maxHeartbeats 4000000 in
theorem u_Sums_putMarksS (l : Launch) (d_ : Nat) (Mz : zMem) (hW : zKW d_ Mz) (a0_ : Int) (ha0_a : -2147483648 ≤ a0_) (ha0_b : a0_ < 2147483648) (F_ : Nat) (K_ : Nat → Nat → Int) (hA_ : zTA F_ K_) (p0_ : zKm F_ K_ d_ Mz) (p1_ : 0 ≤ a0_) (p2_ : a0_ ≤ 39) (p3_ : zlm F_ (zvc F_ d_ Mz a0_)) : zC l m_Sums_putMarks 0 0 [.ref (d_ + 23), .int (Int32.ofInt a0_)] Mz (zqcV d_ [] [] [] [27] Mz (fun N => (∀ j : Nat, j < F_ → zg N (d_ + 27) j = zmq F_ K_ (zvc F_ d_ Mz a0_) j))) := by
  refine zC_of (L0 := [some (.ref (d_ + 23)), some (.int (Int32.ofInt a0_)), none]) md_Sums_putMarks (Nat.le_of_ble_eq_true rfl) rfl ?_ zQ0
  have hf : zFc d_ [] [] [] [27] Mz Mz := zFc.rf
  have r_D12_7 := ze_r Mz (d_ + 12) 7
  obtain ⟨⟨hF1_, hF27_⟩, hAr_⟩ := id hA_
  obtain ⟨hFc_, hKt_⟩ := id p0_
  have hlx_ : ∀ i_, i_ < F_ → -10000000000000 ≤ (zvc F_ d_ Mz a0_) i_ ∧ (zvc F_ d_ Mz a0_) i_ ≤ 10000000000000 := fun i_ hi_ => by have h_ := p3_ i_ hi_; unfold zLim at h_; omega
  refine zw_iconst (pc := 0) (v := Int32.ofInt 0) (by decide) (zdal_p dlB_Sums_putMarks_111 (i := 0) rfl) ?_
  refine zw_istore_n (pc := 1) (i := 2) (L2 := [some (.ref (d_ + 23)), some (.int (Int32.ofInt a0_)), some (.int (Int32.ofInt 0))]) rfl (by decide) rfl (zdal_p dlB_Sums_putMarks_111 (i := 1) rfl) ?_
  have lp_2 : ∀ (n : Nat) (u1_ : Int) (hu1_a : -2147483648 ≤ u1_) (hu1_b : u1_ < 2147483648) (N2_ : zMem) (hs3_ : zFc d_ [] [] [] [27] Mz N2_) (i4_ : 0 ≤ u1_) (i5_ : u1_ ≤ F_) (i6_ : (∀ j : Nat, (j : Int) < u1_ → zg N2_ (d_ + 27) j = zmq F_ K_ (zvc F_ d_ Mz a0_) j)), (F_ - u1_).toNat < n → zW l m_Sums_putMarks (zn Mz + 0, zw Mz + 0) N2_ 2 [some (.ref (d_ + 23)), some (.int (Int32.ofInt a0_)), some (.int (Int32.ofInt u1_))] [] (zqcV d_ [] [] [] [27] Mz (fun N => (∀ j : Nat, j < F_ → zg N (d_ + 27) j = zmq F_ K_ (zvc F_ d_ Mz a0_) j))) := by
    intro n
    induction n with
    | zero =>
      intro u1_ hu1_a hu1_b N2_ hs3_ i4_ i5_ i6_ h0
      exact absurd h0 (Nat.not_lt_zero _)
    | succ n ih_2 =>
      intro u1_ hu1_a hu1_b N2_ hs3_ i4_ i5_ i6_ hlt_2
      have hf_N2_ : zFc d_ [] [] [] [27] Mz N2_ := hf.tr hs3_ (by decide) (by decide) (by decide) (by decide)
      have eD12_7_N2_ : ze N2_ (d_ + 12) 7 = ze Mz (d_ + 12) 7 := hs3_.e (by decide)
      have c7_ : zKm F_ K_ d_ N2_ := zKm.fr (hf.w hW) hs3_ p0_ (by decide)
      have hmo_ := (show (∀ j : Nat, (j : Int) < u1_ → zg N2_ (d_ + 27) j = zmq F_ K_ (zvc F_ d_ Mz a0_) j) by first | with_reducible assumption | assumption)
      refine zw_iload_n (pc := 2) (n := 2) (x := Int32.ofInt u1_) rfl (zdal_p dlB_Sums_putMarks_111 (i := 2) rfl) ?_
      refine zw_aload_n (pc := 3) (n := 0) (x := (d_ + 23)) rfl (zdal_p dlB_Sums_putMarks_111 (i := 3) rfl) ?_
      refine zw_getF (pc := 4) f_Sums_23 rfl ((hf_N2_.w hW).kr (o := 23) (by decide)) ((hf_N2_.w hW).lr (o := 23) (s := 0) (r := 12) (by decide)) (zdal_p dlB_Sums_putMarks_111 (i := 4) rfl) ?_
      refine zk_getI (pc := 7) f_Sums_35 rfl ((hf_N2_.w hW).kr (o := 12) (by decide)) (zdal_p dlB_Sums_putMarks_111 (i := 5) rfl) ?_
      rw [hf_N2_.e (by decide)]
      refine zr_icmp_ge (pc := 10) (tgt := 33) ⟨hu1_a, hu1_b⟩ ⟨(ze_r Mz (d_ + 12) 7).1, (ze_r Mz (d_ + 12) 7).2⟩ (by decide) (zdal_p dlB_Sums_putMarks_111 (i := 6) rfl) (fun hc_10 => ?_) (fun hc_10 => ?_)
      · skip
        exact zk_vret (pc := 33) rfl hf_N2_ (show (∀ j : Nat, j < F_ → zg N2_ (d_ + 27) j = zmq F_ K_ (zvc F_ d_ Mz a0_) j) by exact fun j_ hj_ => hmo_ j_ (by omega)) (zdal_p dlB_Sums_putMarks_111 (i := 17) rfl)
      · skip
        refine zw_aload_n (pc := 13) (n := 0) (x := (d_ + 23)) rfl (zdal_p dlB_Sums_putMarks_111 (i := 7) rfl) ?_
        refine zw_getF (pc := 14) f_Sums_20 rfl ((hf_N2_.w hW).kr (o := 23) (by decide)) ((hf_N2_.w hW).lr (o := 23) (s := 2) (r := 26) (by decide)) (zdal_p dlB_Sums_putMarks_111 (i := 8) rfl) ?_
        refine zw_iload_n (pc := 17) (n := 2) (x := Int32.ofInt u1_) rfl (zdal_p dlB_Sums_putMarks_111 (i := 9) rfl) ?_
        refine zw_aload_n (pc := 18) (n := 0) (x := (d_ + 23)) rfl (zdal_p dlB_Sums_putMarks_111 (i := 10) rfl) ?_
        refine zw_iload_n (pc := 19) (n := 1) (x := Int32.ofInt a0_) rfl (zdal_p dlB_Sums_putMarks_111 (i := 11) rfl) ?_
        refine zw_iload_n (pc := 20) (n := 2) (x := Int32.ofInt u1_) rfl (zdal_p dlB_Sums_putMarks_111 (i := 12) rfl) ?_
        refine zk_callV hf_N2_.x (pc := 21) [.int (Int32.ofInt a0_), .int (Int32.ofInt u1_)] [.int (Int32.ofInt u1_), .ref (d_ + 26)] l_Sums_50 (u_Sums_markOf l d_ N2_ (hf_N2_.w hW) a0_ ha0_a ha0_b u1_ hu1_a hu1_b F_ K_ hA_ c7_ (show 0 ≤ a0_ by first | with_reducible assumption | assumption | omega) (show a0_ ≤ 39 by first | with_reducible assumption | assumption | omega) (show 0 ≤ u1_ by first | with_reducible assumption | assumption | omega) (show u1_ < F_ by first | with_reducible assumption | assumption | omega)) rfl rfl ((hf_N2_.w hW).kr (o := 23) (by decide)) (by decide) (by decide) (Nat.le_of_ble_eq_true rfl) (zdal_p dlB_Sums_putMarks_111 (i := 13) rfl) ?_
        rintro _ N8_ ⟨v9_, rfl, ⟨hv9_a, hv9_b⟩, hsN8_, hp0_N8_⟩
        obtain rfl := hsN8_.eq.symm
        replace hp0_N8_ : Int64.ofInt v9_ = Int64.ofInt (zmq F_ K_ (zvc F_ d_ N2_ a0_) (u1_).toNat) := hp0_N8_
        show zW l m_Sums_putMarks (zn Mz + 0, zw Mz + 0) N2_ 24 [some (.ref (d_ + 23)), some (.int (Int32.ofInt a0_)), some (.int (Int32.ofInt u1_))] [.long (Int64.ofInt v9_), .int (Int32.ofInt u1_), .ref (d_ + 26)] _
        have hb_ := zmq_b (j := (u1_).toNat) hF27_ (fun i_ hi_ => hAr_.1 i_ _ hi_ (by omega)) hlx_
        have hmk_ := hp0_N8_
        rw [zvc_f (F := F_) hf_N2_ (by decide) a0_] at hmk_
        have hx_ := z64q ⟨by omega, by omega⟩ ⟨by omega, by omega⟩ hmk_
        refine zk_stJ hf_N2_.x (pc := 24) (o := 27) (by decide) l_Sums_31 ((hf_N2_.w hW).kr (o := 26) (by decide)) ((hf_N2_.w hW).lr (o := 26) (s := 0) (r := 27) (by decide)) ((hf_N2_.w hW).rr (o := 27) (t := 2) (n := 27) (by decide)) (by decide) (by omega) (by omega) (by decide) (Nat.le_of_ble_eq_true rfl) (zdal_p dlB_Sums_putMarks_111 (i := 14) rfl) (fun N10_ hN10_ hsN10_ => ?_)
        have hf_N10_ : zFc d_ [] [] [] [27] Mz N10_ := hf_N2_.tr hsN10_ (by decide) (by decide) (by decide) (by decide)
        have hb0_N10_ : zFc d_ [] [] [] [27] Mz N10_ := hs3_.tr hsN10_ (by decide) (by decide) (by decide) (by decide)
        have eD12_7_N10_ : ze N10_ (d_ + 12) 7 = ze N2_ (d_ + 12) 7 := hsN10_.e (by decide)
        have c11_ : zKm F_ K_ d_ N10_ := zKm.fr (hf_N2_.w hW) hsN10_ c7_ (by decide)
        have hmn_ : (∀ j : Nat, (j : Int) < u1_ + 1 → zg N10_ (d_ + 27) j = zmq F_ K_ (zvc F_ d_ Mz a0_) j) := fun k_ hk_ => by by_cases g_ : (k_ : Int) = u1_; (rw [show k_ = (u1_).toNat by omega, zs_getJ hN10_ ⟨by omega, by omega⟩]; exact hx_); (rw [zs_othJ hN10_ (by omega)]; exact hmo_ k_ (by omega))
        refine zr_iinc (pc := 27) (i := 2) (a := u1_) (n := 1) (L2 := [some (.ref (d_ + 23)), some (.int (Int32.ofInt a0_)), some (.int (Int32.ofInt (u1_ + 1)))]) rfl (by decide) rfl (zdal_p dlB_Sums_putMarks_111 (i := 15) rfl) ?_
        refine zw_goto (pc := 30) (tgt := 2) (by decide) (zdal_p dlB_Sums_putMarks_111 (i := 16) rfl) ?_
        exact ih_2 (u1_ + 1) (by omega) (by omega) N10_ hb0_N10_ (show 0 ≤ (u1_ + 1) by first | with_reducible assumption | assumption | omega) (show (u1_ + 1) ≤ F_ by first | with_reducible assumption | assumption | omega) (show (∀ j : Nat, (j : Int) < (u1_ + 1) → zg N10_ (d_ + 27) j = zmq F_ K_ (zvc F_ d_ Mz a0_) j) by exact hmn_) (by omega)
  exact lp_2 _ 0 (by decide) (by decide) Mz zFc.rf (show 0 ≤ (0 : Int) by first | with_reducible assumption | assumption | omega) (show (0 : Int) ≤ F_ by first | with_reducible assumption | assumption | omega) (show (∀ j : Nat, (j : Int) < (0 : Int) → zg Mz (d_ + 27) j = zmq F_ K_ (zvc F_ d_ Mz a0_) j) by exact fun j_ hj_ => absurd hj_ (by omega)) (Nat.lt_succ_self _)
set_option maxHeartbeats 4000000 in
theorem u_Sums_hasNoneBelowS (l : Launch) (d_ : Nat) (Mz : zMem) (hW : zKW d_ Mz) (a0_ : Int) (ha0_a : -2147483648 ≤ a0_) (ha0_b : a0_ < 2147483648) (F_ : Nat) (K_ : Nat → Nat → Int) (hA_ : zTA F_ K_) (p0_ : zKm F_ K_ d_ Mz) (p1_ : 0 ≤ a0_) (p2_ : a0_ ≤ 39) : zC l m_Sums_hasNoneBelow 0 0 [.ref (d_ + 23), .int (Int32.ofInt a0_)] Mz (zqcI d_ [] [] [] [] Mz (fun v N => (((v = 1 ∧ (∀ k : Nat, k < F_ → 0 ≤ (zvc F_ d_ Mz a0_) k)) ∨ (v = 0 ∧ ¬ (∀ k : Nat, k < F_ → 0 ≤ (zvc F_ d_ Mz a0_) k)))))) := by
  refine zC_of (L0 := [some (.ref (d_ + 23)), some (.int (Int32.ofInt a0_)), none]) md_Sums_hasNoneBelow (Nat.le_of_ble_eq_true rfl) rfl ?_ zQ0
  have hf : zFc d_ [] [] [] [] Mz Mz := zFc.rf
  have r_D12_7 := ze_r Mz (d_ + 12) 7
  obtain ⟨⟨hF1_, hF27_⟩, hAr_⟩ := id hA_
  obtain ⟨hFc_, hKt_⟩ := id p0_
  refine zw_iconst (pc := 0) (v := Int32.ofInt 0) (by decide) (zdal_p dlB_Sums_hasNoneBelow_117 (i := 0) rfl) ?_
  refine zw_istore_n (pc := 1) (i := 2) (L2 := [some (.ref (d_ + 23)), some (.int (Int32.ofInt a0_)), some (.int (Int32.ofInt 0))]) rfl (by decide) rfl (zdal_p dlB_Sums_hasNoneBelow_117 (i := 1) rfl) ?_
  have lp_2 : ∀ (n : Nat) (u1_ : Int) (hu1_a : -2147483648 ≤ u1_) (hu1_b : u1_ < 2147483648) (i2_ : 0 ≤ u1_) (i3_ : u1_ ≤ F_) (i4_ : (∀ k : Nat, (k : Int) < u1_ → 0 ≤ (zvc F_ d_ Mz a0_) k)), (F_ - u1_).toNat < n → zW l m_Sums_hasNoneBelow (zn Mz + 0, zw Mz + 0) Mz 2 [some (.ref (d_ + 23)), some (.int (Int32.ofInt a0_)), some (.int (Int32.ofInt u1_))] [] (zqcI d_ [] [] [] [] Mz (fun v N => (((v = 1 ∧ (∀ k : Nat, k < F_ → 0 ≤ (zvc F_ d_ Mz a0_) k)) ∨ (v = 0 ∧ ¬ (∀ k : Nat, k < F_ → 0 ≤ (zvc F_ d_ Mz a0_) k)))))) := by
    intro n
    induction n with
    | zero =>
      intro u1_ hu1_a hu1_b i2_ i3_ i4_ h0
      exact absurd h0 (Nat.not_lt_zero _)
    | succ n ih_2 =>
      intro u1_ hu1_a hu1_b i2_ i3_ i4_ hlt_2
      have hhb_ := (show (∀ k : Nat, (k : Int) < u1_ → 0 ≤ (zvc F_ d_ Mz a0_) k) by first | with_reducible assumption | assumption)
      refine zw_iload_n (pc := 2) (n := 2) (x := Int32.ofInt u1_) rfl (zdal_p dlB_Sums_hasNoneBelow_117 (i := 2) rfl) ?_
      refine zw_aload_n (pc := 3) (n := 0) (x := (d_ + 23)) rfl (zdal_p dlB_Sums_hasNoneBelow_117 (i := 3) rfl) ?_
      refine zw_getF (pc := 4) f_Sums_23 rfl ((hf.w hW).kr (o := 23) (by decide)) ((hf.w hW).lr (o := 23) (s := 0) (r := 12) (by decide)) (zdal_p dlB_Sums_hasNoneBelow_117 (i := 4) rfl) ?_
      refine zk_getI (pc := 7) f_Sums_35 rfl ((hf.w hW).kr (o := 12) (by decide)) (zdal_p dlB_Sums_hasNoneBelow_117 (i := 5) rfl) ?_
      refine zr_icmp_ge (pc := 10) (tgt := 32) ⟨hu1_a, hu1_b⟩ ⟨(ze_r Mz (d_ + 12) 7).1, (ze_r Mz (d_ + 12) 7).2⟩ (by decide) (zdal_p dlB_Sums_hasNoneBelow_117 (i := 6) rfl) (fun hc_10 => ?_) (fun hc_10 => ?_)
      · skip
        refine zw_iconst (pc := 32) (v := Int32.ofInt 1) (by decide) (zdal_p dlB_Sums_hasNoneBelow_117 (i := 18) rfl) ?_
        exact zk_iret (pc := 33) (ty := .boolean) rfl (z_narB (by omega)) ⟨by omega, by omega⟩ hf (show ((1 = 1 ∧ (∀ k : Nat, k < F_ → 0 ≤ (zvc F_ d_ Mz a0_) k)) ∨ (1 = 0 ∧ ¬ (∀ k : Nat, k < F_ → 0 ≤ (zvc F_ d_ Mz a0_) k))) from Or.inl (⟨(show 1 = 1 by first | rfl | exact fun k_ hk_ => hhb_ k_ (by omega)), (show (∀ k : Nat, k < F_ → 0 ≤ (zvc F_ d_ Mz a0_) k) by first | rfl | exact fun k_ hk_ => hhb_ k_ (by omega))⟩)) (zdal_p dlB_Sums_hasNoneBelow_117 (i := 19) rfl)
      · skip
        refine zw_aload_n (pc := 13) (n := 0) (x := (d_ + 23)) rfl (zdal_p dlB_Sums_hasNoneBelow_117 (i := 7) rfl) ?_
        refine zw_iload_n (pc := 14) (n := 1) (x := Int32.ofInt a0_) rfl (zdal_p dlB_Sums_hasNoneBelow_117 (i := 8) rfl) ?_
        refine zw_iload_n (pc := 15) (n := 2) (x := Int32.ofInt u1_) rfl (zdal_p dlB_Sums_hasNoneBelow_117 (i := 9) rfl) ?_
        refine zk_callV hf.x (pc := 16) [.int (Int32.ofInt a0_), .int (Int32.ofInt u1_)] [] l_Sums_67 (u_Sums_numberAt l d_ Mz (hf.w hW) a0_ ha0_a ha0_b u1_ hu1_a hu1_b (show 0 ≤ a0_ by first | with_reducible assumption | assumption | omega) (show a0_ ≤ 39 by first | with_reducible assumption | assumption | omega) (show 0 ≤ u1_ by first | with_reducible assumption | assumption | omega) (show u1_ ≤ 26 by first | with_reducible assumption | assumption | omega)) rfl rfl ((hf.w hW).kr (o := 23) (by decide)) (by decide) (by decide) (Nat.le_of_ble_eq_true rfl) (zdal_p dlB_Sums_hasNoneBelow_117 (i := 10) rfl) ?_
        rintro _ N5_ ⟨v6_, rfl, ⟨hv6_a, hv6_b⟩, hsN5_, hp0_N5_⟩
        obtain rfl := hsN5_.eq.symm
        replace hp0_N5_ : v6_ = zg Mz (d_ + 25) (a0_ * 27 + u1_).toNat := hp0_N5_
        show zW l m_Sums_hasNoneBelow (zn Mz + 0, zw Mz + 0) Mz 19 [some (.ref (d_ + 23)), some (.int (Int32.ofInt a0_)), some (.int (Int32.ofInt u1_))] [.long (Int64.ofInt v6_)] _
        have hx_ := zvc_at (F := F_) (k := (u1_).toNat) (s := a0_) (by omega) (by omega) hp0_N5_ (by omega)
        have hhn_ : 0 ≤ v6_ → ∀ k : Nat, (k : Int) < u1_ + 1 → 0 ≤ (zvc F_ d_ Mz a0_) k := fun z_ k_ hk_ => by by_cases g_ : (k_ : Int) = u1_; (rw [show k_ = (u1_).toNat by omega, ← hx_]; exact z_); exact hhb_ k_ (by omega)
        refine zw_lconst (pc := 19) (v := Int64.ofInt 0) (by decide) (zdal_p dlB_Sums_hasNoneBelow_117 (i := 11) rfl) ?_
        refine zr_lcmp (pc := 20) ⟨hv6_a, hv6_b⟩ ⟨(by decide), (by decide)⟩ (zdal_p dlB_Sums_hasNoneBelow_117 (i := 12) rfl) ?_
        have hr7_ := zcmp_s v6_ 0
        refine zr_if_ge (pc := 21) (tgt := 26) ⟨(by omega), (by omega)⟩ (by decide) (zdal_p dlB_Sums_hasNoneBelow_117 (i := 13) rfl) (fun hc_21 => ?_) (fun hc_21 => ?_)
        · skip
          refine zr_iinc (pc := 26) (i := 2) (a := u1_) (n := 1) (L2 := [some (.ref (d_ + 23)), some (.int (Int32.ofInt a0_)), some (.int (Int32.ofInt (u1_ + 1)))]) rfl (by decide) rfl (zdal_p dlB_Sums_hasNoneBelow_117 (i := 16) rfl) ?_
          refine zw_goto (pc := 29) (tgt := 2) (by decide) (zdal_p dlB_Sums_hasNoneBelow_117 (i := 17) rfl) ?_
          exact ih_2 (u1_ + 1) (by omega) (by omega) (show 0 ≤ (u1_ + 1) by first | with_reducible assumption | assumption | omega) (show (u1_ + 1) ≤ F_ by first | with_reducible assumption | assumption | omega) (show (∀ k : Nat, (k : Int) < (u1_ + 1) → 0 ≤ (zvc F_ d_ Mz a0_) k) by exact hhn_ (by omega)) (by omega)
        · skip
          refine zw_iconst (pc := 24) (v := Int32.ofInt 0) (by decide) (zdal_p dlB_Sums_hasNoneBelow_117 (i := 14) rfl) ?_
          exact zk_iret (pc := 25) (ty := .boolean) rfl (z_narB (by omega)) ⟨by omega, by omega⟩ hf (show ((0 = 1 ∧ (∀ k : Nat, k < F_ → 0 ≤ (zvc F_ d_ Mz a0_) k)) ∨ (0 = 0 ∧ ¬ (∀ k : Nat, k < F_ → 0 ≤ (zvc F_ d_ Mz a0_) k))) from Or.inr (⟨(show 0 = 0 by first | rfl | exact fun q_ => by have h_ := q_ (u1_).toNat (by omega); rw [← hx_] at h_; omega), (show ¬ (∀ k : Nat, k < F_ → 0 ≤ (zvc F_ d_ Mz a0_) k) by first | rfl | exact fun q_ => by have h_ := q_ (u1_).toNat (by omega); rw [← hx_] at h_; omega)⟩)) (zdal_p dlB_Sums_hasNoneBelow_117 (i := 15) rfl)
  exact lp_2 _ 0 (by decide) (by decide) (show 0 ≤ (0 : Int) by first | with_reducible assumption | assumption | omega) (show (0 : Int) ≤ F_ by first | with_reducible assumption | assumption | omega) (show (∀ k : Nat, (k : Int) < (0 : Int) → 0 ≤ (zvc F_ d_ Mz a0_) k) by exact fun k_ hk_ => absurd hk_ (by omega)) (Nat.lt_succ_self _)
set_option maxHeartbeats 4000000 in
theorem u_Sums_marksAreS (l : Launch) (d_ : Nat) (Mz : zMem) (hW : zKW d_ Mz) (a0_ : Int) (ha0_a : -2147483648 ≤ a0_) (ha0_b : a0_ < 2147483648) (a1_ : Int) (ha1_a : -2147483648 ≤ a1_) (ha1_b : a1_ < 2147483648) (F_ : Nat) (K_ : Nat → Nat → Int) (hA_ : zTA F_ K_) (p0_ : zKm F_ K_ d_ Mz) : zC l m_Sums_marksAre 0 0 [.ref (d_ + 23), .int (Int32.ofInt a0_), .int (Int32.ofInt a1_)] Mz (zqcI d_ [] [] [] [] Mz (fun v N => (((v = 1 ∧ (∀ k : Nat, k < F_ → zg Mz (d_ + 27) k = a0_ ∨ zg Mz (d_ + 27) k = a1_)) ∨ (v = 0 ∧ ¬ (∀ k : Nat, k < F_ → zg Mz (d_ + 27) k = a0_ ∨ zg Mz (d_ + 27) k = a1_)))))) := by
  refine zC_of (L0 := [some (.ref (d_ + 23)), some (.int (Int32.ofInt a0_)), some (.int (Int32.ofInt a1_)), none]) md_Sums_marksAre (Nat.le_of_ble_eq_true rfl) rfl ?_ zQ0
  have hf : zFc d_ [] [] [] [] Mz Mz := zFc.rf
  have r_D12_7 := ze_r Mz (d_ + 12) 7
  obtain ⟨⟨hF1_, hF27_⟩, hAr_⟩ := id hA_
  obtain ⟨hFc_, hKt_⟩ := id p0_
  refine zw_iconst (pc := 0) (v := Int32.ofInt 0) (by decide) (zdal_p dlB_Sums_marksAre_118 (i := 0) rfl) ?_
  refine zw_istore_n (pc := 1) (i := 3) (L2 := [some (.ref (d_ + 23)), some (.int (Int32.ofInt a0_)), some (.int (Int32.ofInt a1_)), some (.int (Int32.ofInt 0))]) rfl (by decide) rfl (zdal_p dlB_Sums_marksAre_118 (i := 1) rfl) ?_
  have lp_2 : ∀ (n : Nat) (u1_ : Int) (hu1_a : -2147483648 ≤ u1_) (hu1_b : u1_ < 2147483648) (i2_ : 0 ≤ u1_) (i3_ : u1_ ≤ F_) (i4_ : (∀ k : Nat, (k : Int) < u1_ → zg Mz (d_ + 27) k = a0_ ∨ zg Mz (d_ + 27) k = a1_)), (F_ - u1_).toNat < n → zW l m_Sums_marksAre (zn Mz + 0, zw Mz + 0) Mz 2 [some (.ref (d_ + 23)), some (.int (Int32.ofInt a0_)), some (.int (Int32.ofInt a1_)), some (.int (Int32.ofInt u1_))] [] (zqcI d_ [] [] [] [] Mz (fun v N => (((v = 1 ∧ (∀ k : Nat, k < F_ → zg Mz (d_ + 27) k = a0_ ∨ zg Mz (d_ + 27) k = a1_)) ∨ (v = 0 ∧ ¬ (∀ k : Nat, k < F_ → zg Mz (d_ + 27) k = a0_ ∨ zg Mz (d_ + 27) k = a1_)))))) := by
    intro n
    induction n with
    | zero =>
      intro u1_ hu1_a hu1_b i2_ i3_ i4_ h0
      exact absurd h0 (Nat.not_lt_zero _)
    | succ n ih_2 =>
      intro u1_ hu1_a hu1_b i2_ i3_ i4_ hlt_2
      have hhm_ := (show (∀ k : Nat, (k : Int) < u1_ → zg Mz (d_ + 27) k = a0_ ∨ zg Mz (d_ + 27) k = a1_) by first | with_reducible assumption | assumption)
      refine zw_iload_n (pc := 2) (n := 3) (x := Int32.ofInt u1_) rfl (zdal_p dlB_Sums_marksAre_118 (i := 2) rfl) ?_
      refine zw_aload_n (pc := 3) (n := 0) (x := (d_ + 23)) rfl (zdal_p dlB_Sums_marksAre_118 (i := 3) rfl) ?_
      refine zw_getF (pc := 4) f_Sums_23 rfl ((hf.w hW).kr (o := 23) (by decide)) ((hf.w hW).lr (o := 23) (s := 0) (r := 12) (by decide)) (zdal_p dlB_Sums_marksAre_118 (i := 4) rfl) ?_
      refine zk_getI (pc := 7) f_Sums_35 rfl ((hf.w hW).kr (o := 12) (by decide)) (zdal_p dlB_Sums_marksAre_118 (i := 5) rfl) ?_
      refine zr_icmp_ge (pc := 10) (tgt := 49) ⟨hu1_a, hu1_b⟩ ⟨(ze_r Mz (d_ + 12) 7).1, (ze_r Mz (d_ + 12) 7).2⟩ (by decide) (zdal_p dlB_Sums_marksAre_118 (i := 6) rfl) (fun hc_10 => ?_) (fun hc_10 => ?_)
      · skip
        refine zw_iconst (pc := 49) (v := Int32.ofInt 1) (by decide) (zdal_p dlB_Sums_marksAre_119 (i := 3) rfl) ?_
        exact zk_iret (pc := 50) (ty := .boolean) rfl (z_narB (by omega)) ⟨by omega, by omega⟩ hf (show ((1 = 1 ∧ (∀ k : Nat, k < F_ → zg Mz (d_ + 27) k = a0_ ∨ zg Mz (d_ + 27) k = a1_)) ∨ (1 = 0 ∧ ¬ (∀ k : Nat, k < F_ → zg Mz (d_ + 27) k = a0_ ∨ zg Mz (d_ + 27) k = a1_))) from Or.inl (⟨(show 1 = 1 by first | rfl | exact fun k_ hk_ => hhm_ k_ (by omega)), (show (∀ k : Nat, k < F_ → zg Mz (d_ + 27) k = a0_ ∨ zg Mz (d_ + 27) k = a1_) by first | rfl | exact fun k_ hk_ => hhm_ k_ (by omega))⟩)) (zdal_p dlB_Sums_marksAre_119 (i := 4) rfl)
      · skip
        refine zw_aload_n (pc := 13) (n := 0) (x := (d_ + 23)) rfl (zdal_p dlB_Sums_marksAre_118 (i := 7) rfl) ?_
        refine zw_getF (pc := 14) f_Sums_20 rfl ((hf.w hW).kr (o := 23) (by decide)) ((hf.w hW).lr (o := 23) (s := 2) (r := 26) (by decide)) (zdal_p dlB_Sums_marksAre_118 (i := 8) rfl) ?_
        refine zw_iload_n (pc := 17) (n := 3) (x := Int32.ofInt u1_) rfl (zdal_p dlB_Sums_marksAre_118 (i := 9) rfl) ?_
        refine zk_atJ hf.x (pc := 18) l_Sums_27 ((hf.w hW).kr (o := 26) (by decide)) ((hf.w hW).lr (o := 26) (s := 0) (r := 27) (by decide)) ((hf.w hW).rr (o := 27) (t := 2) (n := 27) (by decide)) (by decide) (by omega) (by omega) (by decide) (Nat.le_of_ble_eq_true rfl) (zdal_p dlB_Sums_marksAre_118 (i := 10) rfl) (fun v5_ hv5_ hv5_a hv5_b => ?_)
        have hx_ := hv5_
        refine zw_iload_n (pc := 21) (n := 1) (x := Int32.ofInt a0_) rfl (zdal_p dlB_Sums_marksAre_118 (i := 11) rfl) ?_
        refine zr_i2l (pc := 22) ⟨ha0_a, ha0_b⟩ (zdal_p dlB_Sums_marksAre_118 (i := 12) rfl) ?_
        refine zr_lcmp (pc := 23) ⟨hv5_a, hv5_b⟩ ⟨(by omega), (by omega)⟩ (zdal_p dlB_Sums_marksAre_118 (i := 13) rfl) ?_
        have hr6_ := zcmp_s v5_ a0_
        refine zr_if_eq (pc := 24) (tgt := 43) ⟨(by omega), (by omega)⟩ (by decide) (zdal_p dlB_Sums_marksAre_118 (i := 14) rfl) (fun hc_24 => ?_) (fun hc_24 => ?_)
        · skip
          refine zr_iinc (pc := 43) (i := 3) (a := u1_) (n := 1) (L2 := [some (.ref (d_ + 23)), some (.int (Int32.ofInt a0_)), some (.int (Int32.ofInt a1_)), some (.int (Int32.ofInt (u1_ + 1)))]) rfl (by decide) rfl (zdal_p dlB_Sums_marksAre_119 (i := 1) rfl) ?_
          refine zw_goto (pc := 46) (tgt := 2) (by decide) (zdal_p dlB_Sums_marksAre_119 (i := 2) rfl) ?_
          have hhn_ : (∀ k : Nat, (k : Int) < (u1_ + 1) → zg Mz (d_ + 27) k = a0_ ∨ zg Mz (d_ + 27) k = a1_) := by first | exact mk_st2 hhm_ (by omega) hx_ (Or.inl (by omega)) | exact mk_st2 hhm_ (by omega) hx_ (Or.inr (by omega)) | exact mk_st2 hhm_ (by omega) hy_ (Or.inr (by omega))
          exact ih_2 (u1_ + 1) (by omega) (by omega) (show 0 ≤ (u1_ + 1) by first | with_reducible assumption | assumption | omega) (show (u1_ + 1) ≤ F_ by first | with_reducible assumption | assumption | omega) (show (∀ k : Nat, (k : Int) < (u1_ + 1) → zg Mz (d_ + 27) k = a0_ ∨ zg Mz (d_ + 27) k = a1_) by exact hhn_) (by omega)
        · skip
          refine zw_aload_n (pc := 27) (n := 0) (x := (d_ + 23)) rfl (zdal_p dlB_Sums_marksAre_118 (i := 15) rfl) ?_
          refine zw_getF (pc := 28) f_Sums_20 rfl ((hf.w hW).kr (o := 23) (by decide)) ((hf.w hW).lr (o := 23) (s := 2) (r := 26) (by decide)) (zdal_p dlB_Sums_marksAre_118 (i := 16) rfl) ?_
          refine zw_iload_n (pc := 31) (n := 3) (x := Int32.ofInt u1_) rfl (zdal_p dlB_Sums_marksAre_118 (i := 17) rfl) ?_
          refine zk_atJ hf.x (pc := 32) l_Sums_27 ((hf.w hW).kr (o := 26) (by decide)) ((hf.w hW).lr (o := 26) (s := 0) (r := 27) (by decide)) ((hf.w hW).rr (o := 27) (t := 2) (n := 27) (by decide)) (by decide) (by omega) (by omega) (by decide) (Nat.le_of_ble_eq_true rfl) (zdal_p dlB_Sums_marksAre_118 (i := 18) rfl) (fun v7_ hv7_ hv7_a hv7_b => ?_)
          have hy_ := hv7_
          refine zw_iload_n (pc := 35) (n := 2) (x := Int32.ofInt a1_) rfl (zdal_p dlB_Sums_marksAre_118 (i := 19) rfl) ?_
          refine zr_i2l (pc := 36) ⟨ha1_a, ha1_b⟩ (zdal_p dlB_Sums_marksAre_118 (i := 20) rfl) ?_
          refine zr_lcmp (pc := 37) ⟨hv7_a, hv7_b⟩ ⟨(by omega), (by omega)⟩ (zdal_p dlB_Sums_marksAre_118 (i := 21) rfl) ?_
          have hr8_ := zcmp_s v7_ a1_
          refine zr_if_eq (pc := 38) (tgt := 43) ⟨(by omega), (by omega)⟩ (by decide) (zdal_p dlB_Sums_marksAre_118 (i := 22) rfl) (fun hc_38 => ?_) (fun hc_38 => ?_)
          · skip
            refine zr_iinc (pc := 43) (i := 3) (a := u1_) (n := 1) (L2 := [some (.ref (d_ + 23)), some (.int (Int32.ofInt a0_)), some (.int (Int32.ofInt a1_)), some (.int (Int32.ofInt (u1_ + 1)))]) rfl (by decide) rfl (zdal_p dlB_Sums_marksAre_119 (i := 1) rfl) ?_
            refine zw_goto (pc := 46) (tgt := 2) (by decide) (zdal_p dlB_Sums_marksAre_119 (i := 2) rfl) ?_
            have hhn_ : (∀ k : Nat, (k : Int) < (u1_ + 1) → zg Mz (d_ + 27) k = a0_ ∨ zg Mz (d_ + 27) k = a1_) := by first | exact mk_st2 hhm_ (by omega) hx_ (Or.inl (by omega)) | exact mk_st2 hhm_ (by omega) hx_ (Or.inr (by omega)) | exact mk_st2 hhm_ (by omega) hy_ (Or.inr (by omega))
            exact ih_2 (u1_ + 1) (by omega) (by omega) (show 0 ≤ (u1_ + 1) by first | with_reducible assumption | assumption | omega) (show (u1_ + 1) ≤ F_ by first | with_reducible assumption | assumption | omega) (show (∀ k : Nat, (k : Int) < (u1_ + 1) → zg Mz (d_ + 27) k = a0_ ∨ zg Mz (d_ + 27) k = a1_) by exact hhn_) (by omega)
          · skip
            refine zw_iconst (pc := 41) (v := Int32.ofInt 0) (by decide) (zdal_p dlB_Sums_marksAre_118 (i := 23) rfl) ?_
            exact zk_iret (pc := 42) (ty := .boolean) rfl (z_narB (by omega)) ⟨by omega, by omega⟩ hf (show ((0 = 1 ∧ (∀ k : Nat, k < F_ → zg Mz (d_ + 27) k = a0_ ∨ zg Mz (d_ + 27) k = a1_)) ∨ (0 = 0 ∧ ¬ (∀ k : Nat, k < F_ → zg Mz (d_ + 27) k = a0_ ∨ zg Mz (d_ + 27) k = a1_))) from Or.inr (⟨(show 0 = 0 by first | rfl | exact fun q_ => by have h_ := q_ (u1_).toNat (by omega); rw [← hx_] at h_; omega), (show ¬ (∀ k : Nat, k < F_ → zg Mz (d_ + 27) k = a0_ ∨ zg Mz (d_ + 27) k = a1_) by first | rfl | exact fun q_ => by have h_ := q_ (u1_).toNat (by omega); rw [← hx_] at h_; omega)⟩)) (zdal_p dlB_Sums_marksAre_119 (i := 0) rfl)
  exact lp_2 _ 0 (by decide) (by decide) (show 0 ≤ (0 : Int) by first | with_reducible assumption | assumption | omega) (show (0 : Int) ≤ F_ by first | with_reducible assumption | assumption | omega) (show (∀ k : Nat, (k : Int) < (0 : Int) → zg Mz (d_ + 27) k = a0_ ∨ zg Mz (d_ + 27) k = a1_) by exact fun k_ hk_ => absurd hk_ (by omega)) (Nat.lt_succ_self _)
set_option maxHeartbeats 4000000 in
theorem u_Sums_hasMarkNoughtS (l : Launch) (d_ : Nat) (Mz : zMem) (hW : zKW d_ Mz) (F_ : Nat) (K_ : Nat → Nat → Int) (hA_ : zTA F_ K_) (p0_ : zKm F_ K_ d_ Mz) : zC l m_Sums_hasMarkNought 0 0 [.ref (d_ + 23)] Mz (zqcI d_ [] [] [] [] Mz (fun v N => (((v = 1 ∧ (∃ k : Nat, k < F_ ∧ zg Mz (d_ + 27) k = 0)) ∨ (v = 0 ∧ ¬ (∃ k : Nat, k < F_ ∧ zg Mz (d_ + 27) k = 0)))))) := by
  refine zC_of (L0 := [some (.ref (d_ + 23)), none]) md_Sums_hasMarkNought (Nat.le_of_ble_eq_true rfl) rfl ?_ zQ0
  have hf : zFc d_ [] [] [] [] Mz Mz := zFc.rf
  have r_D12_7 := ze_r Mz (d_ + 12) 7
  obtain ⟨⟨hF1_, hF27_⟩, hAr_⟩ := id hA_
  obtain ⟨hFc_, hKt_⟩ := id p0_
  refine zw_iconst (pc := 0) (v := Int32.ofInt 0) (by decide) (zdal_p dlB_Sums_hasMarkNought_120 (i := 0) rfl) ?_
  refine zw_istore_n (pc := 1) (i := 1) (L2 := [some (.ref (d_ + 23)), some (.int (Int32.ofInt 0))]) rfl (by decide) rfl (zdal_p dlB_Sums_hasMarkNought_120 (i := 1) rfl) ?_
  have lp_2 : ∀ (n : Nat) (u1_ : Int) (hu1_a : -2147483648 ≤ u1_) (hu1_b : u1_ < 2147483648) (i2_ : 0 ≤ u1_) (i3_ : u1_ ≤ F_) (i4_ : (∀ k : Nat, (k : Int) < u1_ → zg Mz (d_ + 27) k ≠ 0)), (F_ - u1_).toNat < n → zW l m_Sums_hasMarkNought (zn Mz + 0, zw Mz + 0) Mz 2 [some (.ref (d_ + 23)), some (.int (Int32.ofInt u1_))] [] (zqcI d_ [] [] [] [] Mz (fun v N => (((v = 1 ∧ (∃ k : Nat, k < F_ ∧ zg Mz (d_ + 27) k = 0)) ∨ (v = 0 ∧ ¬ (∃ k : Nat, k < F_ ∧ zg Mz (d_ + 27) k = 0)))))) := by
    intro n
    induction n with
    | zero =>
      intro u1_ hu1_a hu1_b i2_ i3_ i4_ h0
      exact absurd h0 (Nat.not_lt_zero _)
    | succ n ih_2 =>
      intro u1_ hu1_a hu1_b i2_ i3_ i4_ hlt_2
      have hhz_ := (show (∀ k : Nat, (k : Int) < u1_ → zg Mz (d_ + 27) k ≠ 0) by first | with_reducible assumption | assumption)
      refine zw_iload_n (pc := 2) (n := 1) (x := Int32.ofInt u1_) rfl (zdal_p dlB_Sums_hasMarkNought_120 (i := 2) rfl) ?_
      refine zw_aload_n (pc := 3) (n := 0) (x := (d_ + 23)) rfl (zdal_p dlB_Sums_hasMarkNought_120 (i := 3) rfl) ?_
      refine zw_getF (pc := 4) f_Sums_23 rfl ((hf.w hW).kr (o := 23) (by decide)) ((hf.w hW).lr (o := 23) (s := 0) (r := 12) (by decide)) (zdal_p dlB_Sums_hasMarkNought_120 (i := 4) rfl) ?_
      refine zk_getI (pc := 7) f_Sums_35 rfl ((hf.w hW).kr (o := 12) (by decide)) (zdal_p dlB_Sums_hasMarkNought_120 (i := 5) rfl) ?_
      refine zr_icmp_ge (pc := 10) (tgt := 34) ⟨hu1_a, hu1_b⟩ ⟨(ze_r Mz (d_ + 12) 7).1, (ze_r Mz (d_ + 12) 7).2⟩ (by decide) (zdal_p dlB_Sums_hasMarkNought_120 (i := 6) rfl) (fun hc_10 => ?_) (fun hc_10 => ?_)
      · skip
        refine zw_iconst (pc := 34) (v := Int32.ofInt 0) (by decide) (zdal_p dlB_Sums_hasMarkNought_120 (i := 18) rfl) ?_
        exact zk_iret (pc := 35) (ty := .boolean) rfl (z_narB (by omega)) ⟨by omega, by omega⟩ hf (show ((0 = 1 ∧ (∃ k : Nat, k < F_ ∧ zg Mz (d_ + 27) k = 0)) ∨ (0 = 0 ∧ ¬ (∃ k : Nat, k < F_ ∧ zg Mz (d_ + 27) k = 0))) from Or.inr (⟨(show 0 = 0 by first | rfl | exact fun ⟨k_, q1_, q2_⟩ => hhz_ k_ (by omega) q2_), (show ¬ (∃ k : Nat, k < F_ ∧ zg Mz (d_ + 27) k = 0) by first | rfl | exact fun ⟨k_, q1_, q2_⟩ => hhz_ k_ (by omega) q2_)⟩)) (zdal_p dlB_Sums_hasMarkNought_120 (i := 19) rfl)
      · skip
        refine zw_aload_n (pc := 13) (n := 0) (x := (d_ + 23)) rfl (zdal_p dlB_Sums_hasMarkNought_120 (i := 7) rfl) ?_
        refine zw_getF (pc := 14) f_Sums_20 rfl ((hf.w hW).kr (o := 23) (by decide)) ((hf.w hW).lr (o := 23) (s := 2) (r := 26) (by decide)) (zdal_p dlB_Sums_hasMarkNought_120 (i := 8) rfl) ?_
        refine zw_iload_n (pc := 17) (n := 1) (x := Int32.ofInt u1_) rfl (zdal_p dlB_Sums_hasMarkNought_120 (i := 9) rfl) ?_
        refine zk_atJ hf.x (pc := 18) l_Sums_27 ((hf.w hW).kr (o := 26) (by decide)) ((hf.w hW).lr (o := 26) (s := 0) (r := 27) (by decide)) ((hf.w hW).rr (o := 27) (t := 2) (n := 27) (by decide)) (by decide) (by omega) (by omega) (by decide) (Nat.le_of_ble_eq_true rfl) (zdal_p dlB_Sums_hasMarkNought_120 (i := 10) rfl) (fun v5_ hv5_ hv5_a hv5_b => ?_)
        have hx_ := hv5_
        have hzn_ : v5_ ≠ 0 → ∀ k : Nat, (k : Int) < u1_ + 1 → zg Mz (d_ + 27) k ≠ 0 := fun z_ k_ hk_ => by by_cases g_ : (k_ : Int) = u1_; (rw [show k_ = (u1_).toNat by omega, ← hx_]; exact z_); exact hhz_ k_ (by omega)
        refine zw_lconst (pc := 21) (v := Int64.ofInt 0) (by decide) (zdal_p dlB_Sums_hasMarkNought_120 (i := 11) rfl) ?_
        refine zr_lcmp (pc := 22) ⟨hv5_a, hv5_b⟩ ⟨(by decide), (by decide)⟩ (zdal_p dlB_Sums_hasMarkNought_120 (i := 12) rfl) ?_
        have hr6_ := zcmp_s v5_ 0
        refine zr_if_ne (pc := 23) (tgt := 28) ⟨(by omega), (by omega)⟩ (by decide) (zdal_p dlB_Sums_hasMarkNought_120 (i := 13) rfl) (fun hc_23 => ?_) (fun hc_23 => ?_)
        · skip
          refine zr_iinc (pc := 28) (i := 1) (a := u1_) (n := 1) (L2 := [some (.ref (d_ + 23)), some (.int (Int32.ofInt (u1_ + 1)))]) rfl (by decide) rfl (zdal_p dlB_Sums_hasMarkNought_120 (i := 16) rfl) ?_
          refine zw_goto (pc := 31) (tgt := 2) (by decide) (zdal_p dlB_Sums_hasMarkNought_120 (i := 17) rfl) ?_
          exact ih_2 (u1_ + 1) (by omega) (by omega) (show 0 ≤ (u1_ + 1) by first | with_reducible assumption | assumption | omega) (show (u1_ + 1) ≤ F_ by first | with_reducible assumption | assumption | omega) (show (∀ k : Nat, (k : Int) < (u1_ + 1) → zg Mz (d_ + 27) k ≠ 0) by exact hzn_ (by omega)) (by omega)
        · skip
          refine zw_iconst (pc := 26) (v := Int32.ofInt 1) (by decide) (zdal_p dlB_Sums_hasMarkNought_120 (i := 14) rfl) ?_
          exact zk_iret (pc := 27) (ty := .boolean) rfl (z_narB (by omega)) ⟨by omega, by omega⟩ hf (show ((1 = 1 ∧ (∃ k : Nat, k < F_ ∧ zg Mz (d_ + 27) k = 0)) ∨ (1 = 0 ∧ ¬ (∃ k : Nat, k < F_ ∧ zg Mz (d_ + 27) k = 0))) from Or.inl (⟨(show 1 = 1 by first | rfl | exact ⟨(u1_).toNat, by omega, by rw [← hx_]; omega⟩), (show (∃ k : Nat, k < F_ ∧ zg Mz (d_ + 27) k = 0) by first | rfl | exact ⟨(u1_).toNat, by omega, by rw [← hx_]; omega⟩)⟩)) (zdal_p dlB_Sums_hasMarkNought_120 (i := 15) rfl)
  exact lp_2 _ 0 (by decide) (by decide) (show 0 ≤ (0 : Int) by first | with_reducible assumption | assumption | omega) (show (0 : Int) ≤ F_ by first | with_reducible assumption | assumption | omega) (show (∀ k : Nat, (k : Int) < (0 : Int) → zg Mz (d_ + 27) k ≠ 0) by exact fun k_ hk_ => absurd hk_ (by omega)) (Nat.lt_succ_self _)
set_option maxHeartbeats 4000000 in
theorem u_T_isS (l : Launch) (d_ : Nat) (Mz : zMem) (hW : zKW d_ Mz) (hnow : zf Mz 0 2 = some (d_ + 0)) (a0_ : Int) (ha0_a : -2147483648 ≤ a0_) (ha0_b : a0_ < 2147483648) (F_ : Nat) (K_ : Nat → Nat → Int) (hA_ : zTA F_ K_) (s_ : zSg) (p0_ : zKm F_ K_ d_ Mz) (p1_ : zSK F_ s_ d_ Mz) (p2_ : zSB F_ s_) : zC l m_T_is 0 0 [.ref 0, .int (Int32.ofInt a0_)] Mz (zqcI d_ [] [] [] [27] Mz (fun v N => ((((0 ≤ a0_ ∧ a0_ ≤ 3) ∧ zfIs F_ K_ s_.1 a0_ v) ∨ (¬ (0 ≤ a0_ ∧ a0_ ≤ 3) ∧ v = (-1 : Int)))))) := by
  refine zC_of (L0 := [some (.ref 0), some (.int (Int32.ofInt a0_)), none]) md_T_is (Nat.le_of_ble_eq_true rfl) rfl ?_ zQ0
  have hf : zFc d_ [] [] [] [27] Mz Mz := zFc.rf
  obtain ⟨⟨hF1_, hF27_⟩, hAr_⟩ := id hA_
  obtain ⟨hFc_, hKt_⟩ := id p0_
  have hev_ := p1_.v
  have hlm_ := zlm_c p2_.1 hev_
  have hlx_ : ∀ i_, i_ < F_ → -10000000000000 ≤ (zvc F_ d_ Mz 0) i_ ∧ (zvc F_ d_ Mz 0) i_ ≤ 10000000000000 := fun i_ hi_ => by have h_ := hlm_ i_ hi_; unfold zLim at h_; omega
  refine zw_aload_n (pc := 0) (n := 0) (x := 0) rfl (zdal_p dlB_T_is_115 (i := 0) rfl) ?_
  refine zw_getF (pc := 1) f_T_28 rfl ((hf.w hW).ka (o := 0) (by decide)) (hf.now hnow) (zdal_p dlB_T_is_115 (i := 1) rfl) ?_
  refine zw_getF (pc := 4) f_T_169 rfl ((hf.w hW).kr (o := 0) (by decide)) ((hf.w hW).lr (o := 0) (s := 2) (r := 23) (by decide)) (zdal_p dlB_T_is_115 (i := 2) rfl) ?_
  refine zw_astore_n (pc := 7) (i := 2) (L2 := [some (.ref 0), some (.int (Int32.ofInt a0_)), some (.ref (d_ + 23))]) rfl (by decide) rfl (zdal_p dlB_T_is_115 (i := 3) rfl) ?_
  refine zw_aload_n (pc := 8) (n := 2) (x := (d_ + 23)) rfl (zdal_p dlB_T_is_115 (i := 4) rfl) ?_
  refine zw_iconst (pc := 9) (v := Int32.ofInt 0) (by decide) (zdal_p dlB_T_is_115 (i := 5) rfl) ?_
  refine zk_callV hf.x (pc := 10) [.int (Int32.ofInt 0)] [] l_T_256 (u_Sums_putMarksS l d_ Mz (hf.w hW) 0 (by decide) (by decide) F_ K_ hA_ p0_ (show 0 ≤ 0 by first | with_reducible assumption | assumption | omega) (show 0 ≤ 39 by first | with_reducible assumption | assumption | omega) (show zlm F_ (zvc F_ d_ Mz 0) by first | with_reducible assumption | assumption | omega)) rfl rfl ((hf.w hW).kr (o := 23) (by decide)) (by decide) (by decide) (Nat.le_of_ble_eq_true rfl) (zdal_p dlB_T_is_115 (i := 6) rfl) ?_
  rintro _ N1_ ⟨rfl, hsN1_, hp0_N1_⟩
  replace hp0_N1_ : (∀ j : Nat, j < F_ → zg N1_ (d_ + 27) j = zmq F_ K_ (zvc F_ d_ Mz 0) j) := hp0_N1_
  have hf_N1_ : zFc d_ [] [] [] [27] Mz N1_ := hf.tr hsN1_ (by decide) (by decide) (by decide) (by decide)
  have c3_ : zKm F_ K_ d_ N1_ := zKm.fr (hf.w hW) hsN1_ p0_ (by decide)
  have c4_ : zSK F_ s_ d_ N1_ := zSKc.fr (hf.w hW) hsN1_ p1_ (by decide)
  show zW l m_T_is (zn Mz + 0, zw Mz + 0) N1_ 13 [some (.ref 0), some (.int (Int32.ofInt a0_)), some (.ref (d_ + 23))] [] _
  have hmk_ := hp0_N1_
  have hmj_ : ∀ j_ : Nat, j_ < F_ → zg N1_ (d_ + 27) j_ = zmq F_ K_ s_.1 j_ := fun j_ hj_ => (hmk_ j_ hj_).trans (zmq_c hev_ _)
  have hvz_ : ∀ k_ : Nat, k_ < F_ → zvc F_ d_ N1_ 0 k_ = s_.1 k_ := fun k_ hk_ => by rw [zvc_f (F := F_) hsN1_ (by decide) 0]; exact hev_ k_ hk_
  refine zw_iload_n (pc := 13) (n := 1) (x := Int32.ofInt a0_) rfl (zdal_p dlB_T_is_115 (i := 7) rfl) ?_
  by_cases hs_14_0 : a0_ = 0
  · refine zr_tabIn (c := 0) (off := 30) (tgt := 44) ⟨by decide, by decide⟩ hs_14_0 (by decide) (by decide) rfl (by decide) d_T_is_14 ?_
    refine zw_aload_n (pc := 44) (n := 2) (x := (d_ + 23)) rfl (zdal_p dlB_T_is_115 (i := 9) rfl) ?_
    refine zw_iconst (pc := 45) (v := Int32.ofInt 0) (by decide) (zdal_p dlB_T_is_115 (i := 10) rfl) ?_
    refine zk_callV hf_N1_.x (pc := 46) [.int (Int32.ofInt 0)] [] l_T_270 (u_Sums_hasNoneBelowS l d_ N1_ (hf_N1_.w hW) 0 (by decide) (by decide) F_ K_ hA_ c3_ (show 0 ≤ 0 by first | with_reducible assumption | assumption | omega) (show 0 ≤ 39 by first | with_reducible assumption | assumption | omega)) rfl rfl ((hf_N1_.w hW).kr (o := 23) (by decide)) (by decide) (by decide) (Nat.le_of_ble_eq_true rfl) (zdal_p dlB_T_is_115 (i := 11) rfl) ?_
    rintro _ N5_ ⟨v6_, rfl, ⟨hv6_a, hv6_b⟩, hsN5_, hp0_N5_⟩
    obtain rfl := hsN5_.eq.symm
    replace hp0_N5_ : ((v6_ = 1 ∧ (∀ k : Nat, k < F_ → 0 ≤ (zvc F_ d_ N1_ 0) k)) ∨ (v6_ = 0 ∧ ¬ (∀ k : Nat, k < F_ → 0 ≤ (zvc F_ d_ N1_ 0) k))) := hp0_N5_
    rcases hp0_N5_ with ⟨rfl, ha46_0_hp0_N5_⟩ | ⟨rfl, ha46_0_hp0_N5_⟩
    · skip
      have hi0_ : (∀ k_, k_ < F_ → 0 ≤ s_.1 k_) := fun k_ hk_ => by rw [← hvz_ k_ hk_]; exact ha46_0_hp0_N5_ k_ hk_
      show zW l m_T_is (zn Mz + 0, zw Mz + 0) N1_ 49 [some (.ref 0), some (.int (Int32.ofInt a0_)), some (.ref (d_ + 23))] [.int (Int32.ofInt 1)] _
      refine zr_if_eq (pc := 49) (tgt := 56) ⟨(by decide), (by decide)⟩ (by decide) (zdal_p dlB_T_is_115 (i := 12) rfl) (fun hc_49 => ?_) (fun hc_49 => ?_)
      · skip
        exact absurd hc_49 (by decide)
      · skip
        refine zw_iconst (pc := 52) (v := Int32.ofInt 1) (by decide) (zdal_p dlB_T_is_115 (i := 13) rfl) ?_
        refine zw_goto (pc := 53) (tgt := 57) (by decide) (zdal_p dlB_T_is_115 (i := 14) rfl) ?_
        exact zk_iret (pc := 57) (ty := .int) rfl rfl ⟨by omega, by omega⟩ hf_N1_ (show (((0 ≤ a0_ ∧ a0_ ≤ 3) ∧ zfIs F_ K_ s_.1 a0_ 1) ∨ (¬ (0 ≤ a0_ ∧ a0_ ≤ 3) ∧ 1 = (-1 : Int))) by refine Or.inl ⟨by omega, by omega, fun z_ => ?_, fun z_ => ?_, fun z_ => ?_, fun z_ => ?_⟩; all_goals (first | (exfalso; omega) | exact ⟨fun _ => hi0_, fun _ => rfl⟩ | exact ⟨fun z_ => absurd z_ (by omega), fun q_ => absurd q_ hn0_⟩)) (zdal_p dlB_T_is_115 (i := 16) rfl)
    · skip
      have hn0_ : ¬ (∀ k_, k_ < F_ → 0 ≤ s_.1 k_) := fun q_ => ha46_0_hp0_N5_ (fun k_ hk_ => by rw [hvz_ k_ hk_]; exact q_ k_ hk_)
      show zW l m_T_is (zn Mz + 0, zw Mz + 0) N1_ 49 [some (.ref 0), some (.int (Int32.ofInt a0_)), some (.ref (d_ + 23))] [.int (Int32.ofInt 0)] _
      refine zr_if_eq (pc := 49) (tgt := 56) ⟨(by decide), (by decide)⟩ (by decide) (zdal_p dlB_T_is_115 (i := 12) rfl) (fun hc_49 => ?_) (fun hc_49 => ?_)
      · skip
        refine zw_iconst (pc := 56) (v := Int32.ofInt 0) (by decide) (zdal_p dlB_T_is_115 (i := 15) rfl) ?_
        exact zk_iret (pc := 57) (ty := .int) rfl rfl ⟨by omega, by omega⟩ hf_N1_ (show (((0 ≤ a0_ ∧ a0_ ≤ 3) ∧ zfIs F_ K_ s_.1 a0_ 0) ∨ (¬ (0 ≤ a0_ ∧ a0_ ≤ 3) ∧ 0 = (-1 : Int))) by refine Or.inl ⟨by omega, by omega, fun z_ => ?_, fun z_ => ?_, fun z_ => ?_, fun z_ => ?_⟩; all_goals (first | (exfalso; omega) | exact ⟨fun _ => hi0_, fun _ => rfl⟩ | exact ⟨fun z_ => absurd z_ (by omega), fun q_ => absurd q_ hn0_⟩)) (zdal_p dlB_T_is_115 (i := 16) rfl)
      · skip
        exact absurd hc_49 (by decide)
  by_cases hs_14_1 : a0_ = 1
  · refine zr_tabIn (c := 1) (off := 44) (tgt := 58) ⟨by decide, by decide⟩ hs_14_1 (by decide) (by decide) rfl (by decide) d_T_is_14 ?_
    refine zw_aload_n (pc := 58) (n := 2) (x := (d_ + 23)) rfl (zdal_p dlB_T_is_115 (i := 17) rfl) ?_
    refine zw_iconst (pc := 59) (v := Int32.ofInt 0) (by decide) (zdal_p dlB_T_is_115 (i := 18) rfl) ?_
    refine zw_iconst (pc := 60) (v := Int32.ofInt 1) (by decide) (zdal_p dlB_T_is_115 (i := 19) rfl) ?_
    refine zk_callV hf_N1_.x (pc := 61) [.int (Int32.ofInt 0), .int (Int32.ofInt 1)] [] l_T_273 (u_Sums_marksAreS l d_ N1_ (hf_N1_.w hW) 0 (by decide) (by decide) 1 (by decide) (by decide) F_ K_ hA_ c3_) rfl rfl ((hf_N1_.w hW).kr (o := 23) (by decide)) (by decide) (by decide) (Nat.le_of_ble_eq_true rfl) (zdal_p dlB_T_is_115 (i := 20) rfl) ?_
    rintro _ N7_ ⟨v8_, rfl, ⟨hv8_a, hv8_b⟩, hsN7_, hp0_N7_⟩
    obtain rfl := hsN7_.eq.symm
    replace hp0_N7_ : ((v8_ = 1 ∧ (∀ k : Nat, k < F_ → zg N1_ (d_ + 27) k = 0 ∨ zg N1_ (d_ + 27) k = 1)) ∨ (v8_ = 0 ∧ ¬ (∀ k : Nat, k < F_ → zg N1_ (d_ + 27) k = 0 ∨ zg N1_ (d_ + 27) k = 1))) := hp0_N7_
    rcases hp0_N7_ with ⟨rfl, ha61_0_hp0_N7_⟩ | ⟨rfl, ha61_0_hp0_N7_⟩
    · skip
      have hi1_ : (∀ k_, k_ < F_ → zmq F_ K_ s_.1 k_ = 0 ∨ zmq F_ K_ s_.1 k_ = 1) := fun k_ hk_ => by rw [← hmj_ k_ hk_]; exact ha61_0_hp0_N7_ k_ hk_
      show zW l m_T_is (zn Mz + 0, zw Mz + 0) N1_ 64 [some (.ref 0), some (.int (Int32.ofInt a0_)), some (.ref (d_ + 23))] [.int (Int32.ofInt 1)] _
      refine zr_if_eq (pc := 64) (tgt := 71) ⟨(by decide), (by decide)⟩ (by decide) (zdal_p dlB_T_is_115 (i := 21) rfl) (fun hc_64 => ?_) (fun hc_64 => ?_)
      · skip
        exact absurd hc_64 (by decide)
      · skip
        refine zw_iconst (pc := 67) (v := Int32.ofInt 1) (by decide) (zdal_p dlB_T_is_115 (i := 22) rfl) ?_
        refine zw_goto (pc := 68) (tgt := 72) (by decide) (zdal_p dlB_T_is_115 (i := 23) rfl) ?_
        exact zk_iret (pc := 72) (ty := .int) rfl rfl ⟨by omega, by omega⟩ hf_N1_ (show (((0 ≤ a0_ ∧ a0_ ≤ 3) ∧ zfIs F_ K_ s_.1 a0_ 1) ∨ (¬ (0 ≤ a0_ ∧ a0_ ≤ 3) ∧ 1 = (-1 : Int))) by refine Or.inl ⟨by omega, by omega, fun z_ => ?_, fun z_ => ?_, fun z_ => ?_, fun z_ => ?_⟩; all_goals (first | (exfalso; omega) | exact ⟨fun _ => hi1_, fun _ => rfl⟩ | exact ⟨fun z_ => absurd z_ (by omega), fun q_ => absurd q_ hn1_⟩)) (zdal_p dlB_T_is_116 (i := 1) rfl)
    · skip
      have hn1_ : ¬ (∀ k_, k_ < F_ → zmq F_ K_ s_.1 k_ = 0 ∨ zmq F_ K_ s_.1 k_ = 1) := fun q_ => ha61_0_hp0_N7_ (fun k_ hk_ => by rw [hmj_ k_ hk_]; exact q_ k_ hk_)
      show zW l m_T_is (zn Mz + 0, zw Mz + 0) N1_ 64 [some (.ref 0), some (.int (Int32.ofInt a0_)), some (.ref (d_ + 23))] [.int (Int32.ofInt 0)] _
      refine zr_if_eq (pc := 64) (tgt := 71) ⟨(by decide), (by decide)⟩ (by decide) (zdal_p dlB_T_is_115 (i := 21) rfl) (fun hc_64 => ?_) (fun hc_64 => ?_)
      · skip
        refine zw_iconst (pc := 71) (v := Int32.ofInt 0) (by decide) (zdal_p dlB_T_is_116 (i := 0) rfl) ?_
        exact zk_iret (pc := 72) (ty := .int) rfl rfl ⟨by omega, by omega⟩ hf_N1_ (show (((0 ≤ a0_ ∧ a0_ ≤ 3) ∧ zfIs F_ K_ s_.1 a0_ 0) ∨ (¬ (0 ≤ a0_ ∧ a0_ ≤ 3) ∧ 0 = (-1 : Int))) by refine Or.inl ⟨by omega, by omega, fun z_ => ?_, fun z_ => ?_, fun z_ => ?_, fun z_ => ?_⟩; all_goals (first | (exfalso; omega) | exact ⟨fun _ => hi1_, fun _ => rfl⟩ | exact ⟨fun z_ => absurd z_ (by omega), fun q_ => absurd q_ hn1_⟩)) (zdal_p dlB_T_is_116 (i := 1) rfl)
      · skip
        exact absurd hc_64 (by decide)
  by_cases hs_14_2 : a0_ = 2
  · refine zr_tabIn (c := 2) (off := 59) (tgt := 73) ⟨by decide, by decide⟩ hs_14_2 (by decide) (by decide) rfl (by decide) d_T_is_14 ?_
    refine zw_aload_n (pc := 73) (n := 2) (x := (d_ + 23)) rfl (zdal_p dlB_T_is_116 (i := 2) rfl) ?_
    refine zw_iconst (pc := 74) (v := Int32.ofInt (-1)) (by decide) (zdal_p dlB_T_is_116 (i := 3) rfl) ?_
    refine zw_iconst (pc := 75) (v := Int32.ofInt 1) (by decide) (zdal_p dlB_T_is_116 (i := 4) rfl) ?_
    refine zk_callV hf_N1_.x (pc := 76) [.int (Int32.ofInt ((-1))), .int (Int32.ofInt 1)] [] l_T_273 (u_Sums_marksAreS l d_ N1_ (hf_N1_.w hW) ((-1)) (by decide) (by decide) 1 (by decide) (by decide) F_ K_ hA_ c3_) rfl rfl ((hf_N1_.w hW).kr (o := 23) (by decide)) (by decide) (by decide) (Nat.le_of_ble_eq_true rfl) (zdal_p dlB_T_is_116 (i := 5) rfl) ?_
    rintro _ N9_ ⟨v10_, rfl, ⟨hv10_a, hv10_b⟩, hsN9_, hp0_N9_⟩
    obtain rfl := hsN9_.eq.symm
    replace hp0_N9_ : ((v10_ = 1 ∧ (∀ k : Nat, k < F_ → zg N1_ (d_ + 27) k = ((-1)) ∨ zg N1_ (d_ + 27) k = 1)) ∨ (v10_ = 0 ∧ ¬ (∀ k : Nat, k < F_ → zg N1_ (d_ + 27) k = ((-1)) ∨ zg N1_ (d_ + 27) k = 1))) := hp0_N9_
    rcases hp0_N9_ with ⟨rfl, ha76_0_hp0_N9_⟩ | ⟨rfl, ha76_0_hp0_N9_⟩
    · skip
      have hi2_ : (∀ k_, k_ < F_ → zmq F_ K_ s_.1 k_ = 1 ∨ zmq F_ K_ s_.1 k_ = -1) := fun k_ hk_ => by rw [← hmj_ k_ hk_]; exact (ha76_0_hp0_N9_ k_ hk_).symm
      show zW l m_T_is (zn Mz + 0, zw Mz + 0) N1_ 79 [some (.ref 0), some (.int (Int32.ofInt a0_)), some (.ref (d_ + 23))] [.int (Int32.ofInt 1)] _
      refine zr_if_eq (pc := 79) (tgt := 86) ⟨(by decide), (by decide)⟩ (by decide) (zdal_p dlB_T_is_116 (i := 6) rfl) (fun hc_79 => ?_) (fun hc_79 => ?_)
      · skip
        exact absurd hc_79 (by decide)
      · skip
        refine zw_iconst (pc := 82) (v := Int32.ofInt 1) (by decide) (zdal_p dlB_T_is_116 (i := 7) rfl) ?_
        refine zw_goto (pc := 83) (tgt := 87) (by decide) (zdal_p dlB_T_is_116 (i := 8) rfl) ?_
        exact zk_iret (pc := 87) (ty := .int) rfl rfl ⟨by omega, by omega⟩ hf_N1_ (show (((0 ≤ a0_ ∧ a0_ ≤ 3) ∧ zfIs F_ K_ s_.1 a0_ 1) ∨ (¬ (0 ≤ a0_ ∧ a0_ ≤ 3) ∧ 1 = (-1 : Int))) by refine Or.inl ⟨by omega, by omega, fun z_ => ?_, fun z_ => ?_, fun z_ => ?_, fun z_ => ?_⟩; all_goals (first | (exfalso; omega) | exact ⟨fun _ => hi2_, fun _ => rfl⟩ | exact ⟨fun z_ => absurd z_ (by omega), fun q_ => absurd q_ hn2_⟩)) (zdal_p dlB_T_is_116 (i := 10) rfl)
    · skip
      have hn2_ : ¬ (∀ k_, k_ < F_ → zmq F_ K_ s_.1 k_ = 1 ∨ zmq F_ K_ s_.1 k_ = -1) := fun q_ => ha76_0_hp0_N9_ (fun k_ hk_ => by rw [hmj_ k_ hk_]; exact (q_ k_ hk_).symm)
      show zW l m_T_is (zn Mz + 0, zw Mz + 0) N1_ 79 [some (.ref 0), some (.int (Int32.ofInt a0_)), some (.ref (d_ + 23))] [.int (Int32.ofInt 0)] _
      refine zr_if_eq (pc := 79) (tgt := 86) ⟨(by decide), (by decide)⟩ (by decide) (zdal_p dlB_T_is_116 (i := 6) rfl) (fun hc_79 => ?_) (fun hc_79 => ?_)
      · skip
        refine zw_iconst (pc := 86) (v := Int32.ofInt 0) (by decide) (zdal_p dlB_T_is_116 (i := 9) rfl) ?_
        exact zk_iret (pc := 87) (ty := .int) rfl rfl ⟨by omega, by omega⟩ hf_N1_ (show (((0 ≤ a0_ ∧ a0_ ≤ 3) ∧ zfIs F_ K_ s_.1 a0_ 0) ∨ (¬ (0 ≤ a0_ ∧ a0_ ≤ 3) ∧ 0 = (-1 : Int))) by refine Or.inl ⟨by omega, by omega, fun z_ => ?_, fun z_ => ?_, fun z_ => ?_, fun z_ => ?_⟩; all_goals (first | (exfalso; omega) | exact ⟨fun _ => hi2_, fun _ => rfl⟩ | exact ⟨fun z_ => absurd z_ (by omega), fun q_ => absurd q_ hn2_⟩)) (zdal_p dlB_T_is_116 (i := 10) rfl)
      · skip
        exact absurd hc_79 (by decide)
  by_cases hs_14_3 : a0_ = 3
  · refine zr_tabIn (c := 3) (off := 74) (tgt := 88) ⟨by decide, by decide⟩ hs_14_3 (by decide) (by decide) rfl (by decide) d_T_is_14 ?_
    refine zw_aload_n (pc := 88) (n := 2) (x := (d_ + 23)) rfl (zdal_p dlB_T_is_116 (i := 11) rfl) ?_
    refine zk_callV hf_N1_.x (pc := 89) [] [] l_T_277 (u_Sums_hasMarkNoughtS l d_ N1_ (hf_N1_.w hW) F_ K_ hA_ c3_) rfl rfl ((hf_N1_.w hW).kr (o := 23) (by decide)) (by decide) (by decide) (Nat.le_of_ble_eq_true rfl) (zdal_p dlB_T_is_116 (i := 12) rfl) ?_
    rintro _ N11_ ⟨v12_, rfl, ⟨hv12_a, hv12_b⟩, hsN11_, hp0_N11_⟩
    obtain rfl := hsN11_.eq.symm
    replace hp0_N11_ : ((v12_ = 1 ∧ (∃ k : Nat, k < F_ ∧ zg N1_ (d_ + 27) k = 0)) ∨ (v12_ = 0 ∧ ¬ (∃ k : Nat, k < F_ ∧ zg N1_ (d_ + 27) k = 0))) := hp0_N11_
    rcases hp0_N11_ with ⟨rfl, ha89_0_hp0_N11_⟩ | ⟨rfl, ha89_0_hp0_N11_⟩
    · skip
      have hi3_ : (∃ k_, k_ < F_ ∧ zmq F_ K_ s_.1 k_ = 0) := by obtain ⟨k_, q1_, q2_⟩ := ha89_0_hp0_N11_; exact ⟨k_, q1_, by rw [← hmj_ k_ q1_]; exact q2_⟩
      show zW l m_T_is (zn Mz + 0, zw Mz + 0) N1_ 92 [some (.ref 0), some (.int (Int32.ofInt a0_)), some (.ref (d_ + 23))] [.int (Int32.ofInt 1)] _
      refine zr_if_eq (pc := 92) (tgt := 99) ⟨(by decide), (by decide)⟩ (by decide) (zdal_p dlB_T_is_116 (i := 13) rfl) (fun hc_92 => ?_) (fun hc_92 => ?_)
      · skip
        exact absurd hc_92 (by decide)
      · skip
        refine zw_iconst (pc := 95) (v := Int32.ofInt 1) (by decide) (zdal_p dlB_T_is_116 (i := 14) rfl) ?_
        refine zw_goto (pc := 96) (tgt := 100) (by decide) (zdal_p dlB_T_is_116 (i := 15) rfl) ?_
        exact zk_iret (pc := 100) (ty := .int) rfl rfl ⟨by omega, by omega⟩ hf_N1_ (show (((0 ≤ a0_ ∧ a0_ ≤ 3) ∧ zfIs F_ K_ s_.1 a0_ 1) ∨ (¬ (0 ≤ a0_ ∧ a0_ ≤ 3) ∧ 1 = (-1 : Int))) by refine Or.inl ⟨by omega, by omega, fun z_ => ?_, fun z_ => ?_, fun z_ => ?_, fun z_ => ?_⟩; all_goals (first | (exfalso; omega) | exact ⟨fun _ => hi3_, fun _ => rfl⟩ | exact ⟨fun z_ => absurd z_ (by omega), fun q_ => absurd q_ hn3_⟩)) (zdal_p dlB_T_is_116 (i := 17) rfl)
    · skip
      have hn3_ : ¬ (∃ k_, k_ < F_ ∧ zmq F_ K_ s_.1 k_ = 0) := fun ⟨k_, q1_, q2_⟩ => ha89_0_hp0_N11_ ⟨k_, q1_, by rw [hmj_ k_ q1_]; exact q2_⟩
      show zW l m_T_is (zn Mz + 0, zw Mz + 0) N1_ 92 [some (.ref 0), some (.int (Int32.ofInt a0_)), some (.ref (d_ + 23))] [.int (Int32.ofInt 0)] _
      refine zr_if_eq (pc := 92) (tgt := 99) ⟨(by decide), (by decide)⟩ (by decide) (zdal_p dlB_T_is_116 (i := 13) rfl) (fun hc_92 => ?_) (fun hc_92 => ?_)
      · skip
        refine zw_iconst (pc := 99) (v := Int32.ofInt 0) (by decide) (zdal_p dlB_T_is_116 (i := 16) rfl) ?_
        exact zk_iret (pc := 100) (ty := .int) rfl rfl ⟨by omega, by omega⟩ hf_N1_ (show (((0 ≤ a0_ ∧ a0_ ≤ 3) ∧ zfIs F_ K_ s_.1 a0_ 0) ∨ (¬ (0 ≤ a0_ ∧ a0_ ≤ 3) ∧ 0 = (-1 : Int))) by refine Or.inl ⟨by omega, by omega, fun z_ => ?_, fun z_ => ?_, fun z_ => ?_, fun z_ => ?_⟩; all_goals (first | (exfalso; omega) | exact ⟨fun _ => hi3_, fun _ => rfl⟩ | exact ⟨fun z_ => absurd z_ (by omega), fun q_ => absurd q_ hn3_⟩)) (zdal_p dlB_T_is_116 (i := 17) rfl)
      · skip
        exact absurd hc_92 (by decide)
  refine zr_tabOut (tgt := 101) ⟨ha0_a, ha0_b⟩ (by omega) (by decide) d_T_is_14 ?_
  refine zw_iconst (pc := 101) (v := Int32.ofInt (-1)) (by decide) (zdal_p dlB_T_is_116 (i := 18) rfl) ?_
  exact zk_iret (pc := 102) (ty := .int) rfl rfl ⟨by omega, by omega⟩ hf_N1_ (show (((0 ≤ a0_ ∧ a0_ ≤ 3) ∧ zfIs F_ K_ s_.1 a0_ ((-1))) ∨ (¬ (0 ≤ a0_ ∧ a0_ ≤ 3) ∧ ((-1)) = (-1 : Int))) by exact Or.inr ⟨by omega, rfl⟩) (zdal_p dlB_T_is_116 (i := 19) rfl)
