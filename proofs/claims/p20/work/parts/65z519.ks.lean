/-! 87c -/
set_option maxHeartbeats 4000000 in
theorem u_Sums_putMarksS (l : Launch) (d_ : Nat) (Mz : zMem) (hW : zKW d_ Mz) (a0_ : Int) (ha0_a : -2147483648 ≤ a0_) (ha0_b : a0_ < 2147483648) (F_ : Nat) (K_ : Nat → Nat → Int) (hA_ : zTA F_ K_) (p0_ : zKm F_ K_ d_ Mz) (p1_ : 0 ≤ a0_) (p2_ : a0_ ≤ 39) (p3_ : zlm F_ (zvc F_ d_ Mz a0_)) : zC l m_Sums_putMarks 0 0 [.ref (d_ + 23), .int (Int32.ofInt a0_)] Mz (zqcV d_ [] [] [] [27] Mz (fun N => (∀ j : Nat, j < F_ → zg N (d_ + 27) j = zmq F_ K_ (zvc F_ d_ Mz a0_) j))) := by
  refine zC_of (L0 := [some (.ref (d_ + 23)), some (.int (Int32.ofInt a0_)), none]) md_Sums_putMarks (Nat.le_of_ble_eq_true rfl) rfl ?_ zQ0
  have hf : zFc d_ [] [] [] [27] Mz Mz := zFc.rf
  have r_D12_7 := ze_r Mz (d_ + 12) 7
  obtain ⟨⟨hF1_, hF27_⟩, hAr_⟩ := id hA_
  obtain ⟨hFc_, hKt_⟩ := id p0_
  have hlx_ : ∀ i_, i_ < F_ → -10000000000000 ≤ (zvc F_ d_ Mz a0_) i_ ∧ (zvc F_ d_ Mz a0_) i_ ≤ 10000000000000 := fun i_ hi_ => by have h_ := p3_ i_ hi_; unfold zLim at h_; omega
  refine zw_iconst (pc := 0) (v := Int32.ofInt 0) (by decide) d_Sums_putMarks_0 ?_
  refine zw_istore_n (pc := 1) (i := 2) (L2 := [some (.ref (d_ + 23)), some (.int (Int32.ofInt a0_)), some (.int (Int32.ofInt 0))]) rfl (by decide) rfl d_Sums_putMarks_1 ?_
  have lp_2 : ∀ (n : Nat) (u1_ : Int) (hu1_a : -2147483648 ≤ u1_) (hu1_b : u1_ < 2147483648) (N2_ : zMem) (hs3_ : zFc d_ [] [] [] [27] Mz N2_) (i4_ : 0 ≤ u1_) (i5_ : u1_ ≤ F_) (i6_ : (∀ j : Nat, (j : Int) < u1_ → zg N2_ (d_ + 27) j = zmq F_ K_ (zvc F_ d_ Mz a0_) j)), (F_ - u1_).toNat < n → zW l m_Sums_putMarks (zn Mz + 0, zw Mz + 0) N2_ 2 [some (.ref (d_ + 23)), some (.int (Int32.ofInt a0_)), some (.int (Int32.ofInt u1_))] [] (zqcV d_ [] [] [] [27] Mz (fun N => (∀ j : Nat, j < F_ → zg N (d_ + 27) j = zmq F_ K_ (zvc F_ d_ Mz a0_) j))) := by
    intro n
    induction n with
    | zero =>
      intro u1_ hu1_a hu1_b N2_ hs3_ i4_ i5_ i6_ h0
      exact absurd h0 (Nat.not_lt_zero _)
    | succ n ih_2 =>
      intro u1_ hu1_a hu1_b N2_ hs3_ i4_ i5_ i6_ hlt_2
      have hf_N2_ : zFc d_ [] [] [] [27] Mz N2_ := hf.tr hs3_ (by decide) (by decide) (by decide) (by decide)
      have eD12_7_N2_ : ze N2_ (d_ + 12) 7 = ze Mz (d_ + 12) 7 := hs3_.e (by decide)
      have c7_ : zKm F_ K_ d_ N2_ := zKm.fr (hf.w hW) hs3_ p0_ (by decide)
      have hmo_ := (show (∀ j : Nat, (j : Int) < u1_ → zg N2_ (d_ + 27) j = zmq F_ K_ (zvc F_ d_ Mz a0_) j) by assumption)
      refine zw_iload_n (pc := 2) (n := 2) (x := Int32.ofInt u1_) rfl d_Sums_putMarks_2 ?_
      refine zw_aload_n (pc := 3) (n := 0) (x := (d_ + 23)) rfl d_Sums_putMarks_3 ?_
      refine zw_getF (pc := 4) f_Sums_23 rfl ((hf_N2_.w hW).kr (o := 23) (by decide)) ((hf_N2_.w hW).lr (o := 23) (s := 0) (r := 12) (by decide)) d_Sums_putMarks_4 ?_
      refine zk_getI (pc := 7) f_Sums_35 rfl ((hf_N2_.w hW).kr (o := 12) (by decide)) d_Sums_putMarks_7 ?_
      rw [hf_N2_.e (by decide)]
      refine zr_icmp_ge (pc := 10) (tgt := 33) ⟨hu1_a, hu1_b⟩ ⟨(ze_r Mz (d_ + 12) 7).1, (ze_r Mz (d_ + 12) 7).2⟩ (by decide) d_Sums_putMarks_10 (fun hc_10 => ?_) (fun hc_10 => ?_)
      · skip
        exact zk_vret (pc := 33) rfl hf_N2_ (show (∀ j : Nat, j < F_ → zg N2_ (d_ + 27) j = zmq F_ K_ (zvc F_ d_ Mz a0_) j) by exact fun j_ hj_ => hmo_ j_ (by omega)) d_Sums_putMarks_33
      · skip
        refine zw_aload_n (pc := 13) (n := 0) (x := (d_ + 23)) rfl d_Sums_putMarks_13 ?_
        refine zw_getF (pc := 14) f_Sums_20 rfl ((hf_N2_.w hW).kr (o := 23) (by decide)) ((hf_N2_.w hW).lr (o := 23) (s := 2) (r := 26) (by decide)) d_Sums_putMarks_14 ?_
        refine zw_iload_n (pc := 17) (n := 2) (x := Int32.ofInt u1_) rfl d_Sums_putMarks_17 ?_
        refine zw_aload_n (pc := 18) (n := 0) (x := (d_ + 23)) rfl d_Sums_putMarks_18 ?_
        refine zw_iload_n (pc := 19) (n := 1) (x := Int32.ofInt a0_) rfl d_Sums_putMarks_19 ?_
        refine zw_iload_n (pc := 20) (n := 2) (x := Int32.ofInt u1_) rfl d_Sums_putMarks_20 ?_
        refine zk_callV hf_N2_.x (pc := 21) [.int (Int32.ofInt a0_), .int (Int32.ofInt u1_)] [.int (Int32.ofInt u1_), .ref (d_ + 26)] l_Sums_50 (u_Sums_markOf l d_ N2_ (hf_N2_.w hW) a0_ ha0_a ha0_b u1_ hu1_a hu1_b F_ K_ hA_ c7_ (show 0 ≤ a0_ by first | assumption | omega) (show a0_ ≤ 39 by first | assumption | omega) (show 0 ≤ u1_ by first | assumption | omega) (show u1_ < F_ by first | assumption | omega)) rfl rfl ((hf_N2_.w hW).kr (o := 23) (by decide)) (by decide) (by decide) (Nat.le_of_ble_eq_true rfl) d_Sums_putMarks_21 ?_
        rintro _ N8_ ⟨v9_, rfl, ⟨hv9_a, hv9_b⟩, hsN8_, hp0_N8_⟩
        obtain rfl := hsN8_.eq.symm
        replace hp0_N8_ : Int64.ofInt v9_ = Int64.ofInt (zmq F_ K_ (zvc F_ d_ N2_ a0_) (u1_).toNat) := hp0_N8_
        show zW l m_Sums_putMarks (zn Mz + 0, zw Mz + 0) N2_ 24 [some (.ref (d_ + 23)), some (.int (Int32.ofInt a0_)), some (.int (Int32.ofInt u1_))] [.long (Int64.ofInt v9_), .int (Int32.ofInt u1_), .ref (d_ + 26)] (zqcV d_ [] [] [] [27] Mz (fun N => (∀ j : Nat, j < F_ → zg N (d_ + 27) j = zmq F_ K_ (zvc F_ d_ Mz a0_) j)))
        have hb_ := zmq_b (j := (u1_).toNat) hF27_ (fun i_ hi_ => hAr_.1 i_ _ hi_ (by omega)) hlx_
        have hmk_ := hp0_N8_
        rw [zvc_f (F := F_) hf_N2_ (by decide) a0_] at hmk_
        have hx_ := z64q ⟨by omega, by omega⟩ ⟨by omega, by omega⟩ hmk_
        refine zk_stJ hf_N2_.x (pc := 24) (o := 27) (by decide) l_Sums_31 ((hf_N2_.w hW).kr (o := 26) (by decide)) ((hf_N2_.w hW).lr (o := 26) (s := 0) (r := 27) (by decide)) ((hf_N2_.w hW).rr (o := 27) (t := 2) (n := 27) (by decide)) (by decide) (by omega) (by omega) (by decide) (Nat.le_of_ble_eq_true rfl) d_Sums_putMarks_24 (fun N10_ hN10_ hsN10_ => ?_)
        have hf_N10_ : zFc d_ [] [] [] [27] Mz N10_ := hf_N2_.tr hsN10_ (by decide) (by decide) (by decide) (by decide)
        have hb0_N10_ : zFc d_ [] [] [] [27] Mz N10_ := hs3_.tr hsN10_ (by decide) (by decide) (by decide) (by decide)
        have eD12_7_N10_ : ze N10_ (d_ + 12) 7 = ze N2_ (d_ + 12) 7 := hsN10_.e (by decide)
        have c11_ : zKm F_ K_ d_ N10_ := zKm.fr (hf_N2_.w hW) hsN10_ c7_ (by decide)
        have hmn_ : (∀ j : Nat, (j : Int) < u1_ + 1 → zg N10_ (d_ + 27) j = zmq F_ K_ (zvc F_ d_ Mz a0_) j) := fun k_ hk_ => by by_cases g_ : (k_ : Int) = u1_; (rw [show k_ = (u1_).toNat by omega, zs_getJ hN10_ ⟨by omega, by omega⟩]; exact hx_); (rw [zs_othJ hN10_ (by omega)]; exact hmo_ k_ (by omega))
        refine zr_iinc (pc := 27) (i := 2) (a := u1_) (n := 1) (L2 := [some (.ref (d_ + 23)), some (.int (Int32.ofInt a0_)), some (.int (Int32.ofInt (u1_ + 1)))]) rfl (by decide) rfl d_Sums_putMarks_27 ?_
        refine zw_goto (pc := 30) (tgt := 2) (by decide) d_Sums_putMarks_30 ?_
        exact ih_2 (u1_ + 1) (by omega) (by omega) N10_ hb0_N10_ (show 0 ≤ (u1_ + 1) by first | assumption | omega) (show (u1_ + 1) ≤ F_ by first | assumption | omega) (show (∀ j : Nat, (j : Int) < (u1_ + 1) → zg N10_ (d_ + 27) j = zmq F_ K_ (zvc F_ d_ Mz a0_) j) by exact hmn_) (by omega)
  exact lp_2 _ 0 (by decide) (by decide) Mz zFc.rf (show 0 ≤ (0 : Int) by first | assumption | omega) (show (0 : Int) ≤ F_ by first | assumption | omega) (show (∀ j : Nat, (j : Int) < (0 : Int) → zg Mz (d_ + 27) j = zmq F_ K_ (zvc F_ d_ Mz a0_) j) by exact fun j_ hj_ => absurd hj_ (by omega)) (Nat.lt_succ_self _)
set_option maxHeartbeats 4000000 in
theorem u_Sums_hasNoneBelowS (l : Launch) (d_ : Nat) (Mz : zMem) (hW : zKW d_ Mz) (a0_ : Int) (ha0_a : -2147483648 ≤ a0_) (ha0_b : a0_ < 2147483648) (F_ : Nat) (K_ : Nat → Nat → Int) (hA_ : zTA F_ K_) (p0_ : zKm F_ K_ d_ Mz) (p1_ : 0 ≤ a0_) (p2_ : a0_ ≤ 39) : zC l m_Sums_hasNoneBelow 0 0 [.ref (d_ + 23), .int (Int32.ofInt a0_)] Mz (zqcI d_ [] [] [] [] Mz (fun v N => (((v = 1 ∧ (∀ k : Nat, k < F_ → 0 ≤ (zvc F_ d_ Mz a0_) k)) ∨ (v = 0 ∧ ¬ (∀ k : Nat, k < F_ → 0 ≤ (zvc F_ d_ Mz a0_) k)))))) := by
  refine zC_of (L0 := [some (.ref (d_ + 23)), some (.int (Int32.ofInt a0_)), none]) md_Sums_hasNoneBelow (Nat.le_of_ble_eq_true rfl) rfl ?_ zQ0
  have hf : zFc d_ [] [] [] [] Mz Mz := zFc.rf
  have r_D12_7 := ze_r Mz (d_ + 12) 7
  obtain ⟨⟨hF1_, hF27_⟩, hAr_⟩ := id hA_
  obtain ⟨hFc_, hKt_⟩ := id p0_
  refine zw_iconst (pc := 0) (v := Int32.ofInt 0) (by decide) d_Sums_hasNoneBelow_0 ?_
  refine zw_istore_n (pc := 1) (i := 2) (L2 := [some (.ref (d_ + 23)), some (.int (Int32.ofInt a0_)), some (.int (Int32.ofInt 0))]) rfl (by decide) rfl d_Sums_hasNoneBelow_1 ?_
  have lp_2 : ∀ (n : Nat) (u1_ : Int) (hu1_a : -2147483648 ≤ u1_) (hu1_b : u1_ < 2147483648) (i2_ : 0 ≤ u1_) (i3_ : u1_ ≤ F_) (i4_ : (∀ k : Nat, (k : Int) < u1_ → 0 ≤ (zvc F_ d_ Mz a0_) k)), (F_ - u1_).toNat < n → zW l m_Sums_hasNoneBelow (zn Mz + 0, zw Mz + 0) Mz 2 [some (.ref (d_ + 23)), some (.int (Int32.ofInt a0_)), some (.int (Int32.ofInt u1_))] [] (zqcI d_ [] [] [] [] Mz (fun v N => (((v = 1 ∧ (∀ k : Nat, k < F_ → 0 ≤ (zvc F_ d_ Mz a0_) k)) ∨ (v = 0 ∧ ¬ (∀ k : Nat, k < F_ → 0 ≤ (zvc F_ d_ Mz a0_) k)))))) := by
    intro n
    induction n with
    | zero =>
      intro u1_ hu1_a hu1_b i2_ i3_ i4_ h0
      exact absurd h0 (Nat.not_lt_zero _)
    | succ n ih_2 =>
      intro u1_ hu1_a hu1_b i2_ i3_ i4_ hlt_2
      have hhb_ := (show (∀ k : Nat, (k : Int) < u1_ → 0 ≤ (zvc F_ d_ Mz a0_) k) by assumption)
      refine zw_iload_n (pc := 2) (n := 2) (x := Int32.ofInt u1_) rfl d_Sums_hasNoneBelow_2 ?_
      refine zw_aload_n (pc := 3) (n := 0) (x := (d_ + 23)) rfl d_Sums_hasNoneBelow_3 ?_
      refine zw_getF (pc := 4) f_Sums_23 rfl ((hf.w hW).kr (o := 23) (by decide)) ((hf.w hW).lr (o := 23) (s := 0) (r := 12) (by decide)) d_Sums_hasNoneBelow_4 ?_
      refine zk_getI (pc := 7) f_Sums_35 rfl ((hf.w hW).kr (o := 12) (by decide)) d_Sums_hasNoneBelow_7 ?_
      refine zr_icmp_ge (pc := 10) (tgt := 32) ⟨hu1_a, hu1_b⟩ ⟨(ze_r Mz (d_ + 12) 7).1, (ze_r Mz (d_ + 12) 7).2⟩ (by decide) d_Sums_hasNoneBelow_10 (fun hc_10 => ?_) (fun hc_10 => ?_)
      · skip
        refine zw_iconst (pc := 32) (v := Int32.ofInt 1) (by decide) d_Sums_hasNoneBelow_32 ?_
        exact zk_iret (pc := 33) (ty := .boolean) rfl (z_narB (by omega)) ⟨by omega, by omega⟩ hf (show ((1 = 1 ∧ (∀ k : Nat, k < F_ → 0 ≤ (zvc F_ d_ Mz a0_) k)) ∨ (1 = 0 ∧ ¬ (∀ k : Nat, k < F_ → 0 ≤ (zvc F_ d_ Mz a0_) k))) from Or.inl (⟨(show 1 = 1 by first | rfl | exact fun k_ hk_ => hhb_ k_ (by omega)), (show (∀ k : Nat, k < F_ → 0 ≤ (zvc F_ d_ Mz a0_) k) by first | rfl | exact fun k_ hk_ => hhb_ k_ (by omega))⟩)) d_Sums_hasNoneBelow_33
      · skip
        refine zw_aload_n (pc := 13) (n := 0) (x := (d_ + 23)) rfl d_Sums_hasNoneBelow_13 ?_
        refine zw_iload_n (pc := 14) (n := 1) (x := Int32.ofInt a0_) rfl d_Sums_hasNoneBelow_14 ?_
        refine zw_iload_n (pc := 15) (n := 2) (x := Int32.ofInt u1_) rfl d_Sums_hasNoneBelow_15 ?_
        refine zk_callV hf.x (pc := 16) [.int (Int32.ofInt a0_), .int (Int32.ofInt u1_)] [] l_Sums_67 (u_Sums_numberAt l d_ Mz (hf.w hW) a0_ ha0_a ha0_b u1_ hu1_a hu1_b (show 0 ≤ a0_ by first | assumption | omega) (show a0_ ≤ 39 by first | assumption | omega) (show 0 ≤ u1_ by first | assumption | omega) (show u1_ ≤ 26 by first | assumption | omega)) rfl rfl ((hf.w hW).kr (o := 23) (by decide)) (by decide) (by decide) (Nat.le_of_ble_eq_true rfl) d_Sums_hasNoneBelow_16 ?_
        rintro _ N5_ ⟨v6_, rfl, ⟨hv6_a, hv6_b⟩, hsN5_, hp0_N5_⟩
        obtain rfl := hsN5_.eq.symm
        replace hp0_N5_ : v6_ = zg Mz (d_ + 25) (a0_ * 27 + u1_).toNat := hp0_N5_
        show zW l m_Sums_hasNoneBelow (zn Mz + 0, zw Mz + 0) Mz 19 [some (.ref (d_ + 23)), some (.int (Int32.ofInt a0_)), some (.int (Int32.ofInt u1_))] [.long (Int64.ofInt v6_)] (zqcI d_ [] [] [] [] Mz (fun v N => (((v = 1 ∧ (∀ k : Nat, k < F_ → 0 ≤ (zvc F_ d_ Mz a0_) k)) ∨ (v = 0 ∧ ¬ (∀ k : Nat, k < F_ → 0 ≤ (zvc F_ d_ Mz a0_) k))))))
        have hx_ := zvc_at (F := F_) (k := (u1_).toNat) (s := a0_) (by omega) (by omega) hp0_N5_ (by omega)
        have hhn_ : 0 ≤ v6_ → ∀ k : Nat, (k : Int) < u1_ + 1 → 0 ≤ (zvc F_ d_ Mz a0_) k := fun z_ k_ hk_ => by by_cases g_ : (k_ : Int) = u1_; (rw [show k_ = (u1_).toNat by omega, ← hx_]; exact z_); exact hhb_ k_ (by omega)
        refine zw_lconst (pc := 19) (v := Int64.ofInt 0) (by decide) d_Sums_hasNoneBelow_19 ?_
        refine zr_lcmp (pc := 20) ⟨hv6_a, hv6_b⟩ ⟨(by decide), (by decide)⟩ d_Sums_hasNoneBelow_20 ?_
        have hr7_ := zcmp_s v6_ 0
        refine zr_if_ge (pc := 21) (tgt := 26) ⟨(by omega), (by omega)⟩ (by decide) d_Sums_hasNoneBelow_21 (fun hc_21 => ?_) (fun hc_21 => ?_)
        · skip
          refine zr_iinc (pc := 26) (i := 2) (a := u1_) (n := 1) (L2 := [some (.ref (d_ + 23)), some (.int (Int32.ofInt a0_)), some (.int (Int32.ofInt (u1_ + 1)))]) rfl (by decide) rfl d_Sums_hasNoneBelow_26 ?_
          refine zw_goto (pc := 29) (tgt := 2) (by decide) d_Sums_hasNoneBelow_29 ?_
          exact ih_2 (u1_ + 1) (by omega) (by omega) (show 0 ≤ (u1_ + 1) by first | assumption | omega) (show (u1_ + 1) ≤ F_ by first | assumption | omega) (show (∀ k : Nat, (k : Int) < (u1_ + 1) → 0 ≤ (zvc F_ d_ Mz a0_) k) by exact hhn_ (by omega)) (by omega)
        · skip
          refine zw_iconst (pc := 24) (v := Int32.ofInt 0) (by decide) d_Sums_hasNoneBelow_24 ?_
          exact zk_iret (pc := 25) (ty := .boolean) rfl (z_narB (by omega)) ⟨by omega, by omega⟩ hf (show ((0 = 1 ∧ (∀ k : Nat, k < F_ → 0 ≤ (zvc F_ d_ Mz a0_) k)) ∨ (0 = 0 ∧ ¬ (∀ k : Nat, k < F_ → 0 ≤ (zvc F_ d_ Mz a0_) k))) from Or.inr (⟨(show 0 = 0 by first | rfl | exact fun q_ => by have h_ := q_ (u1_).toNat (by omega); rw [← hx_] at h_; omega), (show ¬ (∀ k : Nat, k < F_ → 0 ≤ (zvc F_ d_ Mz a0_) k) by first | rfl | exact fun q_ => by have h_ := q_ (u1_).toNat (by omega); rw [← hx_] at h_; omega)⟩)) d_Sums_hasNoneBelow_25
  exact lp_2 _ 0 (by decide) (by decide) (show 0 ≤ (0 : Int) by first | assumption | omega) (show (0 : Int) ≤ F_ by first | assumption | omega) (show (∀ k : Nat, (k : Int) < (0 : Int) → 0 ≤ (zvc F_ d_ Mz a0_) k) by exact fun k_ hk_ => absurd hk_ (by omega)) (Nat.lt_succ_self _)
set_option maxHeartbeats 4000000 in
theorem u_Sums_marksAreS (l : Launch) (d_ : Nat) (Mz : zMem) (hW : zKW d_ Mz) (a0_ : Int) (ha0_a : -2147483648 ≤ a0_) (ha0_b : a0_ < 2147483648) (a1_ : Int) (ha1_a : -2147483648 ≤ a1_) (ha1_b : a1_ < 2147483648) (F_ : Nat) (K_ : Nat → Nat → Int) (hA_ : zTA F_ K_) (p0_ : zKm F_ K_ d_ Mz) : zC l m_Sums_marksAre 0 0 [.ref (d_ + 23), .int (Int32.ofInt a0_), .int (Int32.ofInt a1_)] Mz (zqcI d_ [] [] [] [] Mz (fun v N => (((v = 1 ∧ (∀ k : Nat, k < F_ → zg Mz (d_ + 27) k = a0_ ∨ zg Mz (d_ + 27) k = a1_)) ∨ (v = 0 ∧ ¬ (∀ k : Nat, k < F_ → zg Mz (d_ + 27) k = a0_ ∨ zg Mz (d_ + 27) k = a1_)))))) := by
  refine zC_of (L0 := [some (.ref (d_ + 23)), some (.int (Int32.ofInt a0_)), some (.int (Int32.ofInt a1_)), none]) md_Sums_marksAre (Nat.le_of_ble_eq_true rfl) rfl ?_ zQ0
  have hf : zFc d_ [] [] [] [] Mz Mz := zFc.rf
  have r_D12_7 := ze_r Mz (d_ + 12) 7
  obtain ⟨⟨hF1_, hF27_⟩, hAr_⟩ := id hA_
  obtain ⟨hFc_, hKt_⟩ := id p0_
  refine zw_iconst (pc := 0) (v := Int32.ofInt 0) (by decide) d_Sums_marksAre_0 ?_
  refine zw_istore_n (pc := 1) (i := 3) (L2 := [some (.ref (d_ + 23)), some (.int (Int32.ofInt a0_)), some (.int (Int32.ofInt a1_)), some (.int (Int32.ofInt 0))]) rfl (by decide) rfl d_Sums_marksAre_1 ?_
  have lp_2 : ∀ (n : Nat) (u1_ : Int) (hu1_a : -2147483648 ≤ u1_) (hu1_b : u1_ < 2147483648) (i2_ : 0 ≤ u1_) (i3_ : u1_ ≤ F_) (i4_ : (∀ k : Nat, (k : Int) < u1_ → zg Mz (d_ + 27) k = a0_ ∨ zg Mz (d_ + 27) k = a1_)), (F_ - u1_).toNat < n → zW l m_Sums_marksAre (zn Mz + 0, zw Mz + 0) Mz 2 [some (.ref (d_ + 23)), some (.int (Int32.ofInt a0_)), some (.int (Int32.ofInt a1_)), some (.int (Int32.ofInt u1_))] [] (zqcI d_ [] [] [] [] Mz (fun v N => (((v = 1 ∧ (∀ k : Nat, k < F_ → zg Mz (d_ + 27) k = a0_ ∨ zg Mz (d_ + 27) k = a1_)) ∨ (v = 0 ∧ ¬ (∀ k : Nat, k < F_ → zg Mz (d_ + 27) k = a0_ ∨ zg Mz (d_ + 27) k = a1_)))))) := by
    intro n
    induction n with
    | zero =>
      intro u1_ hu1_a hu1_b i2_ i3_ i4_ h0
      exact absurd h0 (Nat.not_lt_zero _)
    | succ n ih_2 =>
      intro u1_ hu1_a hu1_b i2_ i3_ i4_ hlt_2
      have hhm_ := (show (∀ k : Nat, (k : Int) < u1_ → zg Mz (d_ + 27) k = a0_ ∨ zg Mz (d_ + 27) k = a1_) by assumption)
      refine zw_iload_n (pc := 2) (n := 3) (x := Int32.ofInt u1_) rfl d_Sums_marksAre_2 ?_
      refine zw_aload_n (pc := 3) (n := 0) (x := (d_ + 23)) rfl d_Sums_marksAre_3 ?_
      refine zw_getF (pc := 4) f_Sums_23 rfl ((hf.w hW).kr (o := 23) (by decide)) ((hf.w hW).lr (o := 23) (s := 0) (r := 12) (by decide)) d_Sums_marksAre_4 ?_
      refine zk_getI (pc := 7) f_Sums_35 rfl ((hf.w hW).kr (o := 12) (by decide)) d_Sums_marksAre_7 ?_
      refine zr_icmp_ge (pc := 10) (tgt := 49) ⟨hu1_a, hu1_b⟩ ⟨(ze_r Mz (d_ + 12) 7).1, (ze_r Mz (d_ + 12) 7).2⟩ (by decide) d_Sums_marksAre_10 (fun hc_10 => ?_) (fun hc_10 => ?_)
      · skip
        refine zw_iconst (pc := 49) (v := Int32.ofInt 1) (by decide) d_Sums_marksAre_49 ?_
        exact zk_iret (pc := 50) (ty := .boolean) rfl (z_narB (by omega)) ⟨by omega, by omega⟩ hf (show ((1 = 1 ∧ (∀ k : Nat, k < F_ → zg Mz (d_ + 27) k = a0_ ∨ zg Mz (d_ + 27) k = a1_)) ∨ (1 = 0 ∧ ¬ (∀ k : Nat, k < F_ → zg Mz (d_ + 27) k = a0_ ∨ zg Mz (d_ + 27) k = a1_))) from Or.inl (⟨(show 1 = 1 by first | rfl | exact fun k_ hk_ => hhm_ k_ (by omega)), (show (∀ k : Nat, k < F_ → zg Mz (d_ + 27) k = a0_ ∨ zg Mz (d_ + 27) k = a1_) by first | rfl | exact fun k_ hk_ => hhm_ k_ (by omega))⟩)) d_Sums_marksAre_50
      · skip
        refine zw_aload_n (pc := 13) (n := 0) (x := (d_ + 23)) rfl d_Sums_marksAre_13 ?_
        refine zw_getF (pc := 14) f_Sums_20 rfl ((hf.w hW).kr (o := 23) (by decide)) ((hf.w hW).lr (o := 23) (s := 2) (r := 26) (by decide)) d_Sums_marksAre_14 ?_
        refine zw_iload_n (pc := 17) (n := 3) (x := Int32.ofInt u1_) rfl d_Sums_marksAre_17 ?_
        refine zk_atJ hf.x (pc := 18) l_Sums_27 ((hf.w hW).kr (o := 26) (by decide)) ((hf.w hW).lr (o := 26) (s := 0) (r := 27) (by decide)) ((hf.w hW).rr (o := 27) (t := 2) (n := 27) (by decide)) (by decide) (by omega) (by omega) (by decide) (Nat.le_of_ble_eq_true rfl) d_Sums_marksAre_18 (fun v5_ hv5_ hv5_a hv5_b => ?_)
        have hx_ := hv5_
        refine zw_iload_n (pc := 21) (n := 1) (x := Int32.ofInt a0_) rfl d_Sums_marksAre_21 ?_
        refine zr_i2l (pc := 22) ⟨ha0_a, ha0_b⟩ d_Sums_marksAre_22 ?_
        refine zr_lcmp (pc := 23) ⟨hv5_a, hv5_b⟩ ⟨(by omega), (by omega)⟩ d_Sums_marksAre_23 ?_
        have hr6_ := zcmp_s v5_ a0_
        refine zr_if_eq (pc := 24) (tgt := 43) ⟨(by omega), (by omega)⟩ (by decide) d_Sums_marksAre_24 (fun hc_24 => ?_) (fun hc_24 => ?_)
        · skip
          refine zr_iinc (pc := 43) (i := 3) (a := u1_) (n := 1) (L2 := [some (.ref (d_ + 23)), some (.int (Int32.ofInt a0_)), some (.int (Int32.ofInt a1_)), some (.int (Int32.ofInt (u1_ + 1)))]) rfl (by decide) rfl d_Sums_marksAre_43 ?_
          refine zw_goto (pc := 46) (tgt := 2) (by decide) d_Sums_marksAre_46 ?_
          have hhn_ : (∀ k : Nat, (k : Int) < (u1_ + 1) → zg Mz (d_ + 27) k = a0_ ∨ zg Mz (d_ + 27) k = a1_) := by first | exact mk_st hhm_ (by omega) hx_ (Or.inl (by omega)) | exact mk_st hhm_ (by omega) hx_ (Or.inr (by omega)) | exact mk_st hhm_ (by omega) hy_ (Or.inr (by omega))
          exact ih_2 (u1_ + 1) (by omega) (by omega) (show 0 ≤ (u1_ + 1) by first | assumption | omega) (show (u1_ + 1) ≤ F_ by first | assumption | omega) (show (∀ k : Nat, (k : Int) < (u1_ + 1) → zg Mz (d_ + 27) k = a0_ ∨ zg Mz (d_ + 27) k = a1_) by exact hhn_) (by omega)
        · skip
          refine zw_aload_n (pc := 27) (n := 0) (x := (d_ + 23)) rfl d_Sums_marksAre_27 ?_
          refine zw_getF (pc := 28) f_Sums_20 rfl ((hf.w hW).kr (o := 23) (by decide)) ((hf.w hW).lr (o := 23) (s := 2) (r := 26) (by decide)) d_Sums_marksAre_28 ?_
          refine zw_iload_n (pc := 31) (n := 3) (x := Int32.ofInt u1_) rfl d_Sums_marksAre_31 ?_
          have hy_ := hu1_
          refine zk_atJ hf.x (pc := 32) l_Sums_27 ((hf.w hW).kr (o := 26) (by decide)) ((hf.w hW).lr (o := 26) (s := 0) (r := 27) (by decide)) ((hf.w hW).rr (o := 27) (t := 2) (n := 27) (by decide)) (by decide) (by omega) (by omega) (by decide) (Nat.le_of_ble_eq_true rfl) d_Sums_marksAre_32 (fun v7_ hv7_ hv7_a hv7_b => ?_)
          refine zw_iload_n (pc := 35) (n := 2) (x := Int32.ofInt a1_) rfl d_Sums_marksAre_35 ?_
          refine zr_i2l (pc := 36) ⟨ha1_a, ha1_b⟩ d_Sums_marksAre_36 ?_
          refine zr_lcmp (pc := 37) ⟨hv7_a, hv7_b⟩ ⟨(by omega), (by omega)⟩ d_Sums_marksAre_37 ?_
          have hr8_ := zcmp_s v7_ a1_
          refine zr_if_eq (pc := 38) (tgt := 43) ⟨(by omega), (by omega)⟩ (by decide) d_Sums_marksAre_38 (fun hc_38 => ?_) (fun hc_38 => ?_)
          · skip
            refine zr_iinc (pc := 43) (i := 3) (a := u1_) (n := 1) (L2 := [some (.ref (d_ + 23)), some (.int (Int32.ofInt a0_)), some (.int (Int32.ofInt a1_)), some (.int (Int32.ofInt (u1_ + 1)))]) rfl (by decide) rfl d_Sums_marksAre_43 ?_
            refine zw_goto (pc := 46) (tgt := 2) (by decide) d_Sums_marksAre_46 ?_
            have hhn_ : (∀ k : Nat, (k : Int) < (u1_ + 1) → zg Mz (d_ + 27) k = a0_ ∨ zg Mz (d_ + 27) k = a1_) := by first | exact mk_st hhm_ (by omega) hx_ (Or.inl (by omega)) | exact mk_st hhm_ (by omega) hx_ (Or.inr (by omega)) | exact mk_st hhm_ (by omega) hy_ (Or.inr (by omega))
            exact ih_2 (u1_ + 1) (by omega) (by omega) (show 0 ≤ (u1_ + 1) by first | assumption | omega) (show (u1_ + 1) ≤ F_ by first | assumption | omega) (show (∀ k : Nat, (k : Int) < (u1_ + 1) → zg Mz (d_ + 27) k = a0_ ∨ zg Mz (d_ + 27) k = a1_) by exact hhn_) (by omega)
          · skip
            refine zw_iconst (pc := 41) (v := Int32.ofInt 0) (by decide) d_Sums_marksAre_41 ?_
            exact zk_iret (pc := 42) (ty := .boolean) rfl (z_narB (by omega)) ⟨by omega, by omega⟩ hf (show ((0 = 1 ∧ (∀ k : Nat, k < F_ → zg Mz (d_ + 27) k = a0_ ∨ zg Mz (d_ + 27) k = a1_)) ∨ (0 = 0 ∧ ¬ (∀ k : Nat, k < F_ → zg Mz (d_ + 27) k = a0_ ∨ zg Mz (d_ + 27) k = a1_))) from Or.inr (⟨(show 0 = 0 by first | rfl | exact fun q_ => by have h_ := q_ (u1_).toNat (by omega); rw [← hx_] at h_; omega), (show ¬ (∀ k : Nat, k < F_ → zg Mz (d_ + 27) k = a0_ ∨ zg Mz (d_ + 27) k = a1_) by first | rfl | exact fun q_ => by have h_ := q_ (u1_).toNat (by omega); rw [← hx_] at h_; omega)⟩)) d_Sums_marksAre_42
  exact lp_2 _ 0 (by decide) (by decide) (show 0 ≤ (0 : Int) by first | assumption | omega) (show (0 : Int) ≤ F_ by first | assumption | omega) (show (∀ k : Nat, (k : Int) < (0 : Int) → zg Mz (d_ + 27) k = a0_ ∨ zg Mz (d_ + 27) k = a1_) by exact fun k_ hk_ => absurd hk_ (by omega)) (Nat.lt_succ_self _)
set_option maxHeartbeats 4000000 in
theorem u_Sums_hasMarkNoughtS (l : Launch) (d_ : Nat) (Mz : zMem) (hW : zKW d_ Mz) (F_ : Nat) (K_ : Nat → Nat → Int) (hA_ : zTA F_ K_) (p0_ : zKm F_ K_ d_ Mz) : zC l m_Sums_hasMarkNought 0 0 [.ref (d_ + 23)] Mz (zqcI d_ [] [] [] [] Mz (fun v N => (((v = 1 ∧ (∃ k : Nat, k < F_ ∧ zg Mz (d_ + 27) k = 0)) ∨ (v = 0 ∧ ¬ (∃ k : Nat, k < F_ ∧ zg Mz (d_ + 27) k = 0)))))) := by
  refine zC_of (L0 := [some (.ref (d_ + 23)), none]) md_Sums_hasMarkNought (Nat.le_of_ble_eq_true rfl) rfl ?_ zQ0
  have hf : zFc d_ [] [] [] [] Mz Mz := zFc.rf
  have r_D12_7 := ze_r Mz (d_ + 12) 7
  obtain ⟨⟨hF1_, hF27_⟩, hAr_⟩ := id hA_
  obtain ⟨hFc_, hKt_⟩ := id p0_
  refine zw_iconst (pc := 0) (v := Int32.ofInt 0) (by decide) d_Sums_hasMarkNought_0 ?_
  refine zw_istore_n (pc := 1) (i := 1) (L2 := [some (.ref (d_ + 23)), some (.int (Int32.ofInt 0))]) rfl (by decide) rfl d_Sums_hasMarkNought_1 ?_
  have lp_2 : ∀ (n : Nat) (u1_ : Int) (hu1_a : -2147483648 ≤ u1_) (hu1_b : u1_ < 2147483648) (i2_ : 0 ≤ u1_) (i3_ : u1_ ≤ F_) (i4_ : (∀ k : Nat, (k : Int) < u1_ → zg Mz (d_ + 27) k ≠ 0)), (F_ - u1_).toNat < n → zW l m_Sums_hasMarkNought (zn Mz + 0, zw Mz + 0) Mz 2 [some (.ref (d_ + 23)), some (.int (Int32.ofInt u1_))] [] (zqcI d_ [] [] [] [] Mz (fun v N => (((v = 1 ∧ (∃ k : Nat, k < F_ ∧ zg Mz (d_ + 27) k = 0)) ∨ (v = 0 ∧ ¬ (∃ k : Nat, k < F_ ∧ zg Mz (d_ + 27) k = 0)))))) := by
    intro n
    induction n with
    | zero =>
      intro u1_ hu1_a hu1_b i2_ i3_ i4_ h0
      exact absurd h0 (Nat.not_lt_zero _)
    | succ n ih_2 =>
      intro u1_ hu1_a hu1_b i2_ i3_ i4_ hlt_2
      have hhz_ := (show (∀ k : Nat, (k : Int) < u1_ → zg Mz (d_ + 27) k ≠ 0) by assumption)
      refine zw_iload_n (pc := 2) (n := 1) (x := Int32.ofInt u1_) rfl d_Sums_hasMarkNought_2 ?_
      refine zw_aload_n (pc := 3) (n := 0) (x := (d_ + 23)) rfl d_Sums_hasMarkNought_3 ?_
      refine zw_getF (pc := 4) f_Sums_23 rfl ((hf.w hW).kr (o := 23) (by decide)) ((hf.w hW).lr (o := 23) (s := 0) (r := 12) (by decide)) d_Sums_hasMarkNought_4 ?_
      refine zk_getI (pc := 7) f_Sums_35 rfl ((hf.w hW).kr (o := 12) (by decide)) d_Sums_hasMarkNought_7 ?_
      refine zr_icmp_ge (pc := 10) (tgt := 34) ⟨hu1_a, hu1_b⟩ ⟨(ze_r Mz (d_ + 12) 7).1, (ze_r Mz (d_ + 12) 7).2⟩ (by decide) d_Sums_hasMarkNought_10 (fun hc_10 => ?_) (fun hc_10 => ?_)
      · skip
        refine zw_iconst (pc := 34) (v := Int32.ofInt 0) (by decide) d_Sums_hasMarkNought_34 ?_
        exact zk_iret (pc := 35) (ty := .boolean) rfl (z_narB (by omega)) ⟨by omega, by omega⟩ hf (show ((0 = 1 ∧ (∃ k : Nat, k < F_ ∧ zg Mz (d_ + 27) k = 0)) ∨ (0 = 0 ∧ ¬ (∃ k : Nat, k < F_ ∧ zg Mz (d_ + 27) k = 0))) from Or.inr (⟨(show 0 = 0 by first | rfl | exact fun ⟨k_, q1_, q2_⟩ => hhz_ k_ (by omega) q2_), (show ¬ (∃ k : Nat, k < F_ ∧ zg Mz (d_ + 27) k = 0) by first | rfl | exact fun ⟨k_, q1_, q2_⟩ => hhz_ k_ (by omega) q2_)⟩)) d_Sums_hasMarkNought_35
      · skip
        refine zw_aload_n (pc := 13) (n := 0) (x := (d_ + 23)) rfl d_Sums_hasMarkNought_13 ?_
        refine zw_getF (pc := 14) f_Sums_20 rfl ((hf.w hW).kr (o := 23) (by decide)) ((hf.w hW).lr (o := 23) (s := 2) (r := 26) (by decide)) d_Sums_hasMarkNought_14 ?_
        refine zw_iload_n (pc := 17) (n := 1) (x := Int32.ofInt u1_) rfl d_Sums_hasMarkNought_17 ?_
        refine zk_atJ hf.x (pc := 18) l_Sums_27 ((hf.w hW).kr (o := 26) (by decide)) ((hf.w hW).lr (o := 26) (s := 0) (r := 27) (by decide)) ((hf.w hW).rr (o := 27) (t := 2) (n := 27) (by decide)) (by decide) (by omega) (by omega) (by decide) (Nat.le_of_ble_eq_true rfl) d_Sums_hasMarkNought_18 (fun v5_ hv5_ hv5_a hv5_b => ?_)
        have hx_ := hv5_
        have hzn_ : v5_ ≠ 0 → ∀ k : Nat, (k : Int) < u1_ + 1 → zg Mz (d_ + 27) k ≠ 0 := fun z_ k_ hk_ => by by_cases g_ : (k_ : Int) = u1_; (rw [show k_ = (u1_).toNat by omega, ← hx_]; exact z_); exact hhz_ k_ (by omega)
        refine zw_lconst (pc := 21) (v := Int64.ofInt 0) (by decide) d_Sums_hasMarkNought_21 ?_
        refine zr_lcmp (pc := 22) ⟨hv5_a, hv5_b⟩ ⟨(by decide), (by decide)⟩ d_Sums_hasMarkNought_22 ?_
        have hr6_ := zcmp_s v5_ 0
        refine zr_if_ne (pc := 23) (tgt := 28) ⟨(by omega), (by omega)⟩ (by decide) d_Sums_hasMarkNought_23 (fun hc_23 => ?_) (fun hc_23 => ?_)
        · skip
          refine zr_iinc (pc := 28) (i := 1) (a := u1_) (n := 1) (L2 := [some (.ref (d_ + 23)), some (.int (Int32.ofInt (u1_ + 1)))]) rfl (by decide) rfl d_Sums_hasMarkNought_28 ?_
          refine zw_goto (pc := 31) (tgt := 2) (by decide) d_Sums_hasMarkNought_31 ?_
          exact ih_2 (u1_ + 1) (by omega) (by omega) (show 0 ≤ (u1_ + 1) by first | assumption | omega) (show (u1_ + 1) ≤ F_ by first | assumption | omega) (show (∀ k : Nat, (k : Int) < (u1_ + 1) → zg Mz (d_ + 27) k ≠ 0) by exact hzn_ (by omega)) (by omega)
        · skip
          refine zw_iconst (pc := 26) (v := Int32.ofInt 1) (by decide) d_Sums_hasMarkNought_26 ?_
          exact zk_iret (pc := 27) (ty := .boolean) rfl (z_narB (by omega)) ⟨by omega, by omega⟩ hf (show ((1 = 1 ∧ (∃ k : Nat, k < F_ ∧ zg Mz (d_ + 27) k = 0)) ∨ (1 = 0 ∧ ¬ (∃ k : Nat, k < F_ ∧ zg Mz (d_ + 27) k = 0))) from Or.inl (⟨(show 1 = 1 by first | rfl | exact ⟨(u1_).toNat, by omega, by rw [← hx_]; omega⟩), (show (∃ k : Nat, k < F_ ∧ zg Mz (d_ + 27) k = 0) by first | rfl | exact ⟨(u1_).toNat, by omega, by rw [← hx_]; omega⟩)⟩)) d_Sums_hasMarkNought_27
  exact lp_2 _ 0 (by decide) (by decide) (show 0 ≤ (0 : Int) by first | assumption | omega) (show (0 : Int) ≤ F_ by first | assumption | omega) (show (∀ k : Nat, (k : Int) < (0 : Int) → zg Mz (d_ + 27) k ≠ 0) by exact fun k_ hk_ => absurd hk_ (by omega)) (Nat.lt_succ_self _)
set_option maxHeartbeats 4000000 in
theorem u_T_hasS (l : Launch) (d_ : Nat) (Mz : zMem) (hW : zKW d_ Mz) (hnow : zf Mz 0 2 = some (d_ + 0)) (a0_ : Int) (ha0_a : -2147483648 ≤ a0_) (ha0_b : a0_ < 2147483648) (F_ : Nat) (K_ : Nat → Nat → Int) (hA_ : zTA F_ K_) (s_ : zSg) (p0_ : zKm F_ K_ d_ Mz) (p1_ : zSK F_ s_ d_ Mz) : zC l m_T_has 0 0 [.ref 0, .int (Int32.ofInt a0_)] Mz (zqcJ d_ [] [] [] [] Mz (fun v N => ((((0 ≤ a0_ ∧ a0_ < (F_ : Int)) ∧ v = s_.1 (a0_).toNat) ∨ (¬ (0 ≤ a0_ ∧ a0_ < (F_ : Int)) ∧ v = (-9223372036854775808 : Int)))))) := by
  refine zC_of (L0 := [some (.ref 0), some (.int (Int32.ofInt a0_))]) md_T_has (Nat.le_of_ble_eq_true rfl) rfl ?_ zQ0
  have hf : zFc d_ [] [] [] [] Mz Mz := zFc.rf
  have r_D12_7 := ze_r Mz (d_ + 12) 7
  obtain ⟨⟨hF1_, hF27_⟩, hAr_⟩ := id hA_
  obtain ⟨hFc_, hKt_⟩ := id p0_
  refine zw_aload_n (pc := 0) (n := 0) (x := 0) rfl d_T_has_0 ?_
  refine zw_getF (pc := 1) f_T_28 rfl ((hf.w hW).ka (o := 0) (by decide)) (hf.now hnow) d_T_has_1 ?_
  refine zw_getF (pc := 4) f_T_85 rfl ((hf.w hW).kr (o := 0) (by decide)) ((hf.w hW).lr (o := 0) (s := 1) (r := 12) (by decide)) d_T_has_4 ?_
  refine zw_iload_n (pc := 7) (n := 1) (x := Int32.ofInt a0_) rfl d_T_has_7 ?_
  refine zk_callV hf.x (pc := 8) [.int (Int32.ofInt a0_)] [] l_T_143 (u_Sorts_hasSortG l d_ Mz (hf.w hW) a0_ ha0_a ha0_b) rfl rfl ((hf.w hW).kr (o := 12) (by decide)) (by decide) (by decide) (Nat.le_of_ble_eq_true rfl) d_T_has_8 ?_
  rintro _ N1_ ⟨v2_, rfl, ⟨hv2_a, hv2_b⟩, hsN1_, hp0_N1_⟩
  obtain rfl := hsN1_.eq.symm
  replace hp0_N1_ : ((v2_ = 1 ∧ 0 ≤ a0_ ∧ a0_ < ze Mz (d_ + 12) 7) ∨ (v2_ = 0 ∧ (a0_ < 0 ∨ ze Mz (d_ + 12) 7 ≤ a0_))) := hp0_N1_
  rcases hp0_N1_ with ⟨rfl, ha8_0_hp0_N1_, ha8_1_hp0_N1_⟩ | ⟨rfl, ha8_0_hp0_N1_⟩
  · skip
    show zW l m_T_has (zn Mz + 0, zw Mz + 0) Mz 11 [some (.ref 0), some (.int (Int32.ofInt a0_))] [.int (Int32.ofInt 1)] (zqcJ d_ [] [] [] [] Mz (fun v N => ((((0 ≤ a0_ ∧ a0_ < (F_ : Int)) ∧ v = s_.1 (a0_).toNat) ∨ (¬ (0 ≤ a0_ ∧ a0_ < (F_ : Int)) ∧ v = (-9223372036854775808 : Int))))))
    refine zr_if_eq (pc := 11) (tgt := 29) ⟨(by decide), (by decide)⟩ (by decide) d_T_has_11 (fun hc_11 => ?_) (fun hc_11 => ?_)
    · skip
      exact absurd hc_11 (by decide)
    · skip
      refine zw_aload_n (pc := 14) (n := 0) (x := 0) rfl d_T_has_14 ?_
      refine zw_getF (pc := 15) f_T_28 rfl ((hf.w hW).ka (o := 0) (by decide)) (hf.now hnow) d_T_has_15 ?_
      refine zw_getF (pc := 18) f_T_169 rfl ((hf.w hW).kr (o := 0) (by decide)) ((hf.w hW).lr (o := 0) (s := 2) (r := 23) (by decide)) d_T_has_18 ?_
      refine zw_iconst (pc := 21) (v := Int32.ofInt 0) (by decide) d_T_has_21 ?_
      refine zw_iload_n (pc := 22) (n := 1) (x := Int32.ofInt a0_) rfl d_T_has_22 ?_
      refine zk_callV hf.x (pc := 23) [.int (Int32.ofInt 0), .int (Int32.ofInt a0_)] [] l_T_179 (u_Sums_numberAt l d_ Mz (hf.w hW) 0 (by decide) (by decide) a0_ ha0_a ha0_b (show 0 ≤ 0 by first | assumption | omega) (show 0 ≤ 39 by first | assumption | omega) (show 0 ≤ a0_ by first | assumption | omega) (show a0_ ≤ 26 by first | assumption | omega)) rfl rfl ((hf.w hW).kr (o := 23) (by decide)) (by decide) (by decide) (Nat.le_of_ble_eq_true rfl) d_T_has_23 ?_
      rintro _ N3_ ⟨v4_, rfl, ⟨hv4_a, hv4_b⟩, hsN3_, hp0_N3_⟩
      obtain rfl := hsN3_.eq.symm
      replace hp0_N3_ : v4_ = zg Mz (d_ + 25) (0 * 27 + a0_).toNat := hp0_N3_
      show zW l m_T_has (zn Mz + 0, zw Mz + 0) Mz 26 [some (.ref 0), some (.int (Int32.ofInt a0_))] [.long (Int64.ofInt v4_)] (zqcJ d_ [] [] [] [] Mz (fun v N => ((((0 ≤ a0_ ∧ a0_ < (F_ : Int)) ∧ v = s_.1 (a0_).toNat) ∨ (¬ (0 ≤ a0_ ∧ a0_ < (F_ : Int)) ∧ v = (-9223372036854775808 : Int))))))
      have hv_ := hp0_N3_
      rw [show ((0 : Int) * 27 + a0_).toNat = (a0_).toNat by omega] at hv_
      have hw_ := hv_.trans (p1_.2.2.1 _ (by omega))
      refine zw_goto (pc := 26) (tgt := 32) (by decide) d_T_has_26 ?_
      exact zk_lret (pc := 32) rfl ⟨by omega, by omega⟩ hf (show (((0 ≤ a0_ ∧ a0_ < (F_ : Int)) ∧ v4_ = s_.1 (a0_).toNat) ∨ (¬ (0 ≤ a0_ ∧ a0_ < (F_ : Int)) ∧ v4_ = (-9223372036854775808 : Int))) by first | exact Or.inr ⟨by omega, rfl⟩ | exact Or.inl ⟨by omega, hw_⟩) d_T_has_32
  · skip
    show zW l m_T_has (zn Mz + 0, zw Mz + 0) Mz 11 [some (.ref 0), some (.int (Int32.ofInt a0_))] [.int (Int32.ofInt 0)] (zqcJ d_ [] [] [] [] Mz (fun v N => ((((0 ≤ a0_ ∧ a0_ < (F_ : Int)) ∧ v = s_.1 (a0_).toNat) ∨ (¬ (0 ≤ a0_ ∧ a0_ < (F_ : Int)) ∧ v = (-9223372036854775808 : Int))))))
    refine zr_if_eq (pc := 11) (tgt := 29) ⟨(by decide), (by decide)⟩ (by decide) d_T_has_11 (fun hc_11 => ?_) (fun hc_11 => ?_)
    · skip
      refine zr_ldc2 (pc := 29) (n := (-9223372036854775808)) (by decide) k_T_248 d_T_has_29 ?_
      exact zk_lret (pc := 32) rfl ⟨by omega, by omega⟩ hf (show (((0 ≤ a0_ ∧ a0_ < (F_ : Int)) ∧ ((-9223372036854775808)) = s_.1 (a0_).toNat) ∨ (¬ (0 ≤ a0_ ∧ a0_ < (F_ : Int)) ∧ ((-9223372036854775808)) = (-9223372036854775808 : Int))) by first | exact Or.inr ⟨by omega, rfl⟩ | exact Or.inl ⟨by omega, hw_⟩) d_T_has_32
    · skip
      exact absurd hc_11 (by decide)
set_option maxHeartbeats 4000000 in
theorem u_T_namedS (l : Launch) (d_ : Nat) (Mz : zMem) (hW : zKW d_ Mz) (hnow : zf Mz 0 2 = some (d_ + 0)) (a0_ : Int) (ha0_a : -2147483648 ≤ a0_) (ha0_b : a0_ < 2147483648) (a1_ : Int) (ha1_a : -2147483648 ≤ a1_) (ha1_b : a1_ < 2147483648) (F_ : Nat) (K_ : Nat → Nat → Int) (hA_ : zTA F_ K_) (nm_ : List (Int × (Nat → Int))) (p0_ : zKm F_ K_ d_ Mz) (p1_ : zNm nm_ F_ K_ d_ Mz) : zC l m_T_named 0 0 [.ref 0, .int (Int32.ofInt a0_), .int (Int32.ofInt a1_)] Mz (zqcJ d_ [] [] [] [] Mz (fun v N => (((((0 ≤ a0_ ∧ a0_ < (nm_.length : Int)) ∧ (0 ≤ a1_ ∧ a1_ < (F_ : Int))) ∧ v = zvun nm_ (a0_).toNat (a1_).toNat) ∨ (¬ ((0 ≤ a0_ ∧ a0_ < (nm_.length : Int)) ∧ (0 ≤ a1_ ∧ a1_ < (F_ : Int))) ∧ v = (-9223372036854775808 : Int)))))) := by
  refine zC_of (L0 := [some (.ref 0), some (.int (Int32.ofInt a0_)), some (.int (Int32.ofInt a1_))]) md_T_named (Nat.le_of_ble_eq_true rfl) rfl ?_ zQ0
  have hf : zFc d_ [] [] [] [] Mz Mz := zFc.rf
  have r_D0_6 := ze_r Mz (d_ + 0) 6
  have r_D12_7 := ze_r Mz (d_ + 12) 7
  obtain ⟨⟨hF1_, hF27_⟩, hAr_⟩ := id hA_
  obtain ⟨hFc_, hKt_⟩ := id p0_
  have hnl_ := p1_.n
  obtain ⟨⟨hn0_, hn8_⟩, -⟩ := id p1_
  refine zw_aload_n (pc := 0) (n := 0) (x := 0) rfl d_T_named_0 ?_
  refine zw_getF (pc := 1) f_T_28 rfl ((hf.w hW).ka (o := 0) (by decide)) (hf.now hnow) d_T_named_1 ?_
  refine zw_iload_n (pc := 4) (n := 1) (x := Int32.ofInt a0_) rfl d_T_named_4 ?_
  refine zk_callV hf.x (pc := 5) [.int (Int32.ofInt a0_)] [] l_T_245 (u_Troupe_hasNameS l d_ Mz (hf.w hW) a0_ ha0_a ha0_b) rfl rfl ((hf.w hW).kr (o := 0) (by decide)) (by decide) (by decide) (Nat.le_of_ble_eq_true rfl) d_T_named_5 ?_
  rintro _ N1_ ⟨v2_, rfl, ⟨hv2_a, hv2_b⟩, hsN1_, hp0_N1_⟩
  obtain rfl := hsN1_.eq.symm
  replace hp0_N1_ : ((v2_ = 1 ∧ 0 ≤ a0_ ∧ a0_ < ze Mz (d_ + 0) 6) ∨ (v2_ = 0 ∧ (a0_ < 0 ∨ ze Mz (d_ + 0) 6 ≤ a0_))) := hp0_N1_
  rcases hp0_N1_ with ⟨rfl, ha5_0_hp0_N1_, ha5_1_hp0_N1_⟩ | ⟨rfl, ha5_0_hp0_N1_⟩
  · skip
    show zW l m_T_named (zn Mz + 0, zw Mz + 0) Mz 8 [some (.ref 0), some (.int (Int32.ofInt a0_)), some (.int (Int32.ofInt a1_))] [.int (Int32.ofInt 1)] (zqcJ d_ [] [] [] [] Mz (fun v N => (((((0 ≤ a0_ ∧ a0_ < (nm_.length : Int)) ∧ (0 ≤ a1_ ∧ a1_ < (F_ : Int))) ∧ v = zvun nm_ (a0_).toNat (a1_).toNat) ∨ (¬ ((0 ≤ a0_ ∧ a0_ < (nm_.length : Int)) ∧ (0 ≤ a1_ ∧ a1_ < (F_ : Int))) ∧ v = (-9223372036854775808 : Int))))))
    refine zr_if_eq (pc := 8) (tgt := 42) ⟨(by decide), (by decide)⟩ (by decide) d_T_named_8 (fun hc_8 => ?_) (fun hc_8 => ?_)
    · skip
      exact absurd hc_8 (by decide)
    · skip
      refine zw_aload_n (pc := 11) (n := 0) (x := 0) rfl d_T_named_11 ?_
      refine zw_getF (pc := 12) f_T_28 rfl ((hf.w hW).ka (o := 0) (by decide)) (hf.now hnow) d_T_named_12 ?_
      refine zw_getF (pc := 15) f_T_85 rfl ((hf.w hW).kr (o := 0) (by decide)) ((hf.w hW).lr (o := 0) (s := 1) (r := 12) (by decide)) d_T_named_15 ?_
      refine zw_iload_n (pc := 18) (n := 2) (x := Int32.ofInt a1_) rfl d_T_named_18 ?_
      refine zk_callV hf.x (pc := 19) [.int (Int32.ofInt a1_)] [] l_T_143 (u_Sorts_hasSortG l d_ Mz (hf.w hW) a1_ ha1_a ha1_b) rfl rfl ((hf.w hW).kr (o := 12) (by decide)) (by decide) (by decide) (Nat.le_of_ble_eq_true rfl) d_T_named_19 ?_
      rintro _ N3_ ⟨v4_, rfl, ⟨hv4_a, hv4_b⟩, hsN3_, hp0_N3_⟩
      obtain rfl := hsN3_.eq.symm
      replace hp0_N3_ : ((v4_ = 1 ∧ 0 ≤ a1_ ∧ a1_ < ze Mz (d_ + 12) 7) ∨ (v4_ = 0 ∧ (a1_ < 0 ∨ ze Mz (d_ + 12) 7 ≤ a1_))) := hp0_N3_
      rcases hp0_N3_ with ⟨rfl, ha19_0_hp0_N3_, ha19_1_hp0_N3_⟩ | ⟨rfl, ha19_0_hp0_N3_⟩
      · skip
        show zW l m_T_named (zn Mz + 0, zw Mz + 0) Mz 22 [some (.ref 0), some (.int (Int32.ofInt a0_)), some (.int (Int32.ofInt a1_))] [.int (Int32.ofInt 1)] (zqcJ d_ [] [] [] [] Mz (fun v N => (((((0 ≤ a0_ ∧ a0_ < (nm_.length : Int)) ∧ (0 ≤ a1_ ∧ a1_ < (F_ : Int))) ∧ v = zvun nm_ (a0_).toNat (a1_).toNat) ∨ (¬ ((0 ≤ a0_ ∧ a0_ < (nm_.length : Int)) ∧ (0 ≤ a1_ ∧ a1_ < (F_ : Int))) ∧ v = (-9223372036854775808 : Int))))))
        refine zr_if_eq (pc := 22) (tgt := 42) ⟨(by decide), (by decide)⟩ (by decide) d_T_named_22 (fun hc_22 => ?_) (fun hc_22 => ?_)
        · skip
          exact absurd hc_22 (by decide)
        · skip
          refine zw_aload_n (pc := 25) (n := 0) (x := 0) rfl d_T_named_25 ?_
          refine zw_getF (pc := 26) f_T_28 rfl ((hf.w hW).ka (o := 0) (by decide)) (hf.now hnow) d_T_named_26 ?_
          refine zw_getF (pc := 29) f_T_169 rfl ((hf.w hW).kr (o := 0) (by decide)) ((hf.w hW).lr (o := 0) (s := 2) (r := 23) (by decide)) d_T_named_29 ?_
          refine zw_iconst (pc := 32) (v := Int32.ofInt 1) (by decide) d_T_named_32 ?_
          refine zw_iload_n (pc := 33) (n := 1) (x := Int32.ofInt a0_) rfl d_T_named_33 ?_
          refine zr_iadd (pc := 34) d_T_named_34 ?_
          refine zw_iload_n (pc := 35) (n := 2) (x := Int32.ofInt a1_) rfl d_T_named_35 ?_
          refine zk_callV hf.x (pc := 36) [.int (Int32.ofInt (1 + a0_)), .int (Int32.ofInt a1_)] [] l_T_179 (u_Sums_numberAt l d_ Mz (hf.w hW) (1 + a0_) (by omega) (by omega) a1_ ha1_a ha1_b (show 0 ≤ (1 + a0_) by first | assumption | omega) (show (1 + a0_) ≤ 39 by first | assumption | omega) (show 0 ≤ a1_ by first | assumption | omega) (show a1_ ≤ 26 by first | assumption | omega)) rfl rfl ((hf.w hW).kr (o := 23) (by decide)) (by decide) (by decide) (Nat.le_of_ble_eq_true rfl) d_T_named_36 ?_
          rintro _ N5_ ⟨v6_, rfl, ⟨hv6_a, hv6_b⟩, hsN5_, hp0_N5_⟩
          obtain rfl := hsN5_.eq.symm
          replace hp0_N5_ : v6_ = zg Mz (d_ + 25) ((1 + a0_) * 27 + a1_).toNat := hp0_N5_
          show zW l m_T_named (zn Mz + 0, zw Mz + 0) Mz 39 [some (.ref 0), some (.int (Int32.ofInt a0_)), some (.int (Int32.ofInt a1_))] [.long (Int64.ofInt v6_)] (zqcJ d_ [] [] [] [] Mz (fun v N => (((((0 ≤ a0_ ∧ a0_ < (nm_.length : Int)) ∧ (0 ≤ a1_ ∧ a1_ < (F_ : Int))) ∧ v = zvun nm_ (a0_).toNat (a1_).toNat) ∨ (¬ ((0 ≤ a0_ ∧ a0_ < (nm_.length : Int)) ∧ (0 ≤ a1_ ∧ a1_ < (F_ : Int))) ∧ v = (-9223372036854775808 : Int))))))
          have hat_ := (p1_.at (k := (a0_).toNat) (by omega)).1
          rw [show (1 : Int) + (((a0_).toNat : Nat) : Int) = 1 + a0_ by omega] at hat_
          have hw_ := (zvc_at (F := F_) (k := (a1_).toNat) (s := 1 + a0_) (by omega) (by omega) hp0_N5_ (by omega)).trans (congrFun hat_ _)
          refine zw_goto (pc := 39) (tgt := 45) (by decide) d_T_named_39 ?_
          exact zk_lret (pc := 45) rfl ⟨by omega, by omega⟩ hf (show ((((0 ≤ a0_ ∧ a0_ < (nm_.length : Int)) ∧ (0 ≤ a1_ ∧ a1_ < (F_ : Int))) ∧ v6_ = zvun nm_ (a0_).toNat (a1_).toNat) ∨ (¬ ((0 ≤ a0_ ∧ a0_ < (nm_.length : Int)) ∧ (0 ≤ a1_ ∧ a1_ < (F_ : Int))) ∧ v6_ = (-9223372036854775808 : Int))) by first | exact Or.inr ⟨by omega, rfl⟩ | exact Or.inl ⟨by omega, hw_⟩) d_T_named_45
      · skip
        show zW l m_T_named (zn Mz + 0, zw Mz + 0) Mz 22 [some (.ref 0), some (.int (Int32.ofInt a0_)), some (.int (Int32.ofInt a1_))] [.int (Int32.ofInt 0)] (zqcJ d_ [] [] [] [] Mz (fun v N => (((((0 ≤ a0_ ∧ a0_ < (nm_.length : Int)) ∧ (0 ≤ a1_ ∧ a1_ < (F_ : Int))) ∧ v = zvun nm_ (a0_).toNat (a1_).toNat) ∨ (¬ ((0 ≤ a0_ ∧ a0_ < (nm_.length : Int)) ∧ (0 ≤ a1_ ∧ a1_ < (F_ : Int))) ∧ v = (-9223372036854775808 : Int))))))
        refine zr_if_eq (pc := 22) (tgt := 42) ⟨(by decide), (by decide)⟩ (by decide) d_T_named_22 (fun hc_22 => ?_) (fun hc_22 => ?_)
        · skip
          refine zr_ldc2 (pc := 42) (n := (-9223372036854775808)) (by decide) k_T_248 d_T_named_42 ?_
          exact zk_lret (pc := 45) rfl ⟨by omega, by omega⟩ hf (show ((((0 ≤ a0_ ∧ a0_ < (nm_.length : Int)) ∧ (0 ≤ a1_ ∧ a1_ < (F_ : Int))) ∧ ((-9223372036854775808)) = zvun nm_ (a0_).toNat (a1_).toNat) ∨ (¬ ((0 ≤ a0_ ∧ a0_ < (nm_.length : Int)) ∧ (0 ≤ a1_ ∧ a1_ < (F_ : Int))) ∧ ((-9223372036854775808)) = (-9223372036854775808 : Int))) by first | exact Or.inr ⟨by omega, rfl⟩ | exact Or.inl ⟨by omega, hw_⟩) d_T_named_45
        · skip
          exact absurd hc_22 (by decide)
  · skip
    show zW l m_T_named (zn Mz + 0, zw Mz + 0) Mz 8 [some (.ref 0), some (.int (Int32.ofInt a0_)), some (.int (Int32.ofInt a1_))] [.int (Int32.ofInt 0)] (zqcJ d_ [] [] [] [] Mz (fun v N => (((((0 ≤ a0_ ∧ a0_ < (nm_.length : Int)) ∧ (0 ≤ a1_ ∧ a1_ < (F_ : Int))) ∧ v = zvun nm_ (a0_).toNat (a1_).toNat) ∨ (¬ ((0 ≤ a0_ ∧ a0_ < (nm_.length : Int)) ∧ (0 ≤ a1_ ∧ a1_ < (F_ : Int))) ∧ v = (-9223372036854775808 : Int))))))
    refine zr_if_eq (pc := 8) (tgt := 42) ⟨(by decide), (by decide)⟩ (by decide) d_T_named_8 (fun hc_8 => ?_) (fun hc_8 => ?_)
    · skip
      refine zr_ldc2 (pc := 42) (n := (-9223372036854775808)) (by decide) k_T_248 d_T_named_42 ?_
      exact zk_lret (pc := 45) rfl ⟨by omega, by omega⟩ hf (show ((((0 ≤ a0_ ∧ a0_ < (nm_.length : Int)) ∧ (0 ≤ a1_ ∧ a1_ < (F_ : Int))) ∧ ((-9223372036854775808)) = zvun nm_ (a0_).toNat (a1_).toNat) ∨ (¬ ((0 ≤ a0_ ∧ a0_ < (nm_.length : Int)) ∧ (0 ≤ a1_ ∧ a1_ < (F_ : Int))) ∧ ((-9223372036854775808)) = (-9223372036854775808 : Int))) by first | exact Or.inr ⟨by omega, rfl⟩ | exact Or.inl ⟨by omega, hw_⟩) d_T_named_45
    · skip
      exact absurd hc_8 (by decide)
set_option maxHeartbeats 4000000 in
theorem u_T_markedS (l : Launch) (d_ : Nat) (Mz : zMem) (hW : zKW d_ Mz) (hnow : zf Mz 0 2 = some (d_ + 0)) (a0_ : Int) (ha0_a : -2147483648 ≤ a0_) (ha0_b : a0_ < 2147483648) (F_ : Nat) (K_ : Nat → Nat → Int) (hA_ : zTA F_ K_) (s_ : zSg) (p0_ : zKm F_ K_ d_ Mz) (p1_ : zSK F_ s_ d_ Mz) (p2_ : zSB F_ s_) : zC l m_T_marked 0 0 [.ref 0, .int (Int32.ofInt a0_)] Mz (zqcJ d_ [] [] [] [] Mz (fun v N => ((((0 ≤ a0_ ∧ a0_ < (F_ : Int)) ∧ v = zmq F_ K_ s_.1 (a0_).toNat) ∨ (¬ (0 ≤ a0_ ∧ a0_ < (F_ : Int)) ∧ v = (-9223372036854775808 : Int)))))) := by
  refine zC_of (L0 := [some (.ref 0), some (.int (Int32.ofInt a0_))]) md_T_marked (Nat.le_of_ble_eq_true rfl) rfl ?_ zQ0
  have hf : zFc d_ [] [] [] [] Mz Mz := zFc.rf
  have r_D12_7 := ze_r Mz (d_ + 12) 7
  obtain ⟨⟨hF1_, hF27_⟩, hAr_⟩ := id hA_
  obtain ⟨hFc_, hKt_⟩ := id p0_
  have hev_ := p1_.v
  have hlm_ := zlm_c p2_.1 hev_
  have hlx_ : ∀ i_, i_ < F_ → -10000000000000 ≤ (zvc F_ d_ Mz 0) i_ ∧ (zvc F_ d_ Mz 0) i_ ≤ 10000000000000 := fun i_ hi_ => by have h_ := hlm_ i_ hi_; unfold zLim at h_; omega
  refine zw_aload_n (pc := 0) (n := 0) (x := 0) rfl d_T_marked_0 ?_
  refine zw_getF (pc := 1) f_T_28 rfl ((hf.w hW).ka (o := 0) (by decide)) (hf.now hnow) d_T_marked_1 ?_
  refine zw_getF (pc := 4) f_T_85 rfl ((hf.w hW).kr (o := 0) (by decide)) ((hf.w hW).lr (o := 0) (s := 1) (r := 12) (by decide)) d_T_marked_4 ?_
  refine zw_iload_n (pc := 7) (n := 1) (x := Int32.ofInt a0_) rfl d_T_marked_7 ?_
  refine zk_callV hf.x (pc := 8) [.int (Int32.ofInt a0_)] [] l_T_143 (u_Sorts_hasSortG l d_ Mz (hf.w hW) a0_ ha0_a ha0_b) rfl rfl ((hf.w hW).kr (o := 12) (by decide)) (by decide) (by decide) (Nat.le_of_ble_eq_true rfl) d_T_marked_8 ?_
  rintro _ N1_ ⟨v2_, rfl, ⟨hv2_a, hv2_b⟩, hsN1_, hp0_N1_⟩
  obtain rfl := hsN1_.eq.symm
  replace hp0_N1_ : ((v2_ = 1 ∧ 0 ≤ a0_ ∧ a0_ < ze Mz (d_ + 12) 7) ∨ (v2_ = 0 ∧ (a0_ < 0 ∨ ze Mz (d_ + 12) 7 ≤ a0_))) := hp0_N1_
  rcases hp0_N1_ with ⟨rfl, ha8_0_hp0_N1_, ha8_1_hp0_N1_⟩ | ⟨rfl, ha8_0_hp0_N1_⟩
  · skip
    show zW l m_T_marked (zn Mz + 0, zw Mz + 0) Mz 11 [some (.ref 0), some (.int (Int32.ofInt a0_))] [.int (Int32.ofInt 1)] (zqcJ d_ [] [] [] [] Mz (fun v N => ((((0 ≤ a0_ ∧ a0_ < (F_ : Int)) ∧ v = zmq F_ K_ s_.1 (a0_).toNat) ∨ (¬ (0 ≤ a0_ ∧ a0_ < (F_ : Int)) ∧ v = (-9223372036854775808 : Int))))))
    refine zr_if_eq (pc := 11) (tgt := 29) ⟨(by decide), (by decide)⟩ (by decide) d_T_marked_11 (fun hc_11 => ?_) (fun hc_11 => ?_)
    · skip
      exact absurd hc_11 (by decide)
    · skip
      refine zw_aload_n (pc := 14) (n := 0) (x := 0) rfl d_T_marked_14 ?_
      refine zw_getF (pc := 15) f_T_28 rfl ((hf.w hW).ka (o := 0) (by decide)) (hf.now hnow) d_T_marked_15 ?_
      refine zw_getF (pc := 18) f_T_169 rfl ((hf.w hW).kr (o := 0) (by decide)) ((hf.w hW).lr (o := 0) (s := 2) (r := 23) (by decide)) d_T_marked_18 ?_
      refine zw_iconst (pc := 21) (v := Int32.ofInt 0) (by decide) d_T_marked_21 ?_
      refine zw_iload_n (pc := 22) (n := 1) (x := Int32.ofInt a0_) rfl d_T_marked_22 ?_
      refine zk_callV hf.x (pc := 23) [.int (Int32.ofInt 0), .int (Int32.ofInt a0_)] [] l_T_250 (u_Sums_markOf l d_ Mz (hf.w hW) 0 (by decide) (by decide) a0_ ha0_a ha0_b F_ K_ hA_ p0_ (show 0 ≤ 0 by first | assumption | omega) (show 0 ≤ 39 by first | assumption | omega) (show 0 ≤ a0_ by first | assumption | omega) (show a0_ < F_ by first | assumption | omega)) rfl rfl ((hf.w hW).kr (o := 23) (by decide)) (by decide) (by decide) (Nat.le_of_ble_eq_true rfl) d_T_marked_23 ?_
      rintro _ N3_ ⟨v4_, rfl, ⟨hv4_a, hv4_b⟩, hsN3_, hp0_N3_⟩
      obtain rfl := hsN3_.eq.symm
      replace hp0_N3_ : Int64.ofInt v4_ = Int64.ofInt (zmq F_ K_ (zvc F_ d_ Mz 0) (a0_).toNat) := hp0_N3_
      show zW l m_T_marked (zn Mz + 0, zw Mz + 0) Mz 26 [some (.ref 0), some (.int (Int32.ofInt a0_))] [.long (Int64.ofInt v4_)] (zqcJ d_ [] [] [] [] Mz (fun v N => ((((0 ≤ a0_ ∧ a0_ < (F_ : Int)) ∧ v = zmq F_ K_ s_.1 (a0_).toNat) ∨ (¬ (0 ≤ a0_ ∧ a0_ < (F_ : Int)) ∧ v = (-9223372036854775808 : Int))))))
      have hb_ := zmq_b (j := (a0_).toNat) hF27_ (fun i_ hi_ => hAr_.1 i_ _ hi_ (by omega)) hlx_
      have hw_ := (z64q ⟨by omega, by omega⟩ ⟨by omega, by omega⟩ hp0_N3_).trans (zmq_c hev_ _)
      refine zw_goto (pc := 26) (tgt := 32) (by decide) d_T_marked_26 ?_
      exact zk_lret (pc := 32) rfl ⟨by omega, by omega⟩ hf (show (((0 ≤ a0_ ∧ a0_ < (F_ : Int)) ∧ v4_ = zmq F_ K_ s_.1 (a0_).toNat) ∨ (¬ (0 ≤ a0_ ∧ a0_ < (F_ : Int)) ∧ v4_ = (-9223372036854775808 : Int))) by first | exact Or.inr ⟨by omega, rfl⟩ | exact Or.inl ⟨by omega, hw_⟩) d_T_marked_32
  · skip
    show zW l m_T_marked (zn Mz + 0, zw Mz + 0) Mz 11 [some (.ref 0), some (.int (Int32.ofInt a0_))] [.int (Int32.ofInt 0)] (zqcJ d_ [] [] [] [] Mz (fun v N => ((((0 ≤ a0_ ∧ a0_ < (F_ : Int)) ∧ v = zmq F_ K_ s_.1 (a0_).toNat) ∨ (¬ (0 ≤ a0_ ∧ a0_ < (F_ : Int)) ∧ v = (-9223372036854775808 : Int))))))
    refine zr_if_eq (pc := 11) (tgt := 29) ⟨(by decide), (by decide)⟩ (by decide) d_T_marked_11 (fun hc_11 => ?_) (fun hc_11 => ?_)
    · skip
      refine zr_ldc2 (pc := 29) (n := (-9223372036854775808)) (by decide) k_T_248 d_T_marked_29 ?_
      exact zk_lret (pc := 32) rfl ⟨by omega, by omega⟩ hf (show (((0 ≤ a0_ ∧ a0_ < (F_ : Int)) ∧ ((-9223372036854775808)) = zmq F_ K_ s_.1 (a0_).toNat) ∨ (¬ (0 ≤ a0_ ∧ a0_ < (F_ : Int)) ∧ ((-9223372036854775808)) = (-9223372036854775808 : Int))) by first | exact Or.inr ⟨by omega, rfl⟩ | exact Or.inl ⟨by omega, hw_⟩) d_T_marked_32
    · skip
      exact absurd hc_11 (by decide)
set_option maxHeartbeats 4000000 in
theorem u_T_partsS (l : Launch) (d_ : Nat) (Mz : zMem) (hW : zKW d_ Mz) (hnow : zf Mz 0 2 = some (d_ + 0)) (F_ : Nat) (K_ : Nat → Nat → Int) (hA_ : zTA F_ K_) (s_ : zSg) (p0_ : zKm F_ K_ d_ Mz) (p1_ : zSK F_ s_ d_ Mz) : zC l m_T_parts 0 0 [.ref 0] Mz (zqcI d_ [] [] [] [] Mz (fun v N => v = ((znzc s_.1 F_ : Nat) : Int))) := by
  refine zC_of (L0 := [some (.ref 0)]) md_T_parts (Nat.le_of_ble_eq_true rfl) rfl ?_ zQ0
  have hf : zFc d_ [] [] [] [] Mz Mz := zFc.rf
  obtain ⟨⟨hF1_, hF27_⟩, hAr_⟩ := id hA_
  obtain ⟨hFc_, hKt_⟩ := id p0_
  refine zw_aload_n (pc := 0) (n := 0) (x := 0) rfl d_T_parts_0 ?_
  refine zw_getF (pc := 1) f_T_28 rfl ((hf.w hW).ka (o := 0) (by decide)) (hf.now hnow) d_T_parts_1 ?_
  refine zw_getF (pc := 4) f_T_169 rfl ((hf.w hW).kr (o := 0) (by decide)) ((hf.w hW).lr (o := 0) (s := 2) (r := 23) (by decide)) d_T_parts_4 ?_
  refine zw_iconst (pc := 7) (v := Int32.ofInt 0) (by decide) d_T_parts_7 ?_
  refine zk_callV hf.x (pc := 8) [.int (Int32.ofInt 0)] [] l_T_253 (u_Sums_partsOfS l d_ Mz (hf.w hW) 0 (by decide) (by decide) F_ K_ hA_ p0_ (show 0 ≤ 0 by first | assumption | omega) (show 0 ≤ 39 by first | assumption | omega)) rfl rfl ((hf.w hW).kr (o := 23) (by decide)) (by decide) (by decide) (Nat.le_of_ble_eq_true rfl) d_T_parts_8 ?_
  rintro _ N1_ ⟨v2_, rfl, ⟨hv2_a, hv2_b⟩, hsN1_, hp0_N1_⟩
  obtain rfl := hsN1_.eq.symm
  replace hp0_N1_ : v2_ = ((znzc (zvc F_ d_ Mz 0) F_ : Nat) : Int) := hp0_N1_
  show zW l m_T_parts (zn Mz + 0, zw Mz + 0) Mz 11 [some (.ref 0)] [.int (Int32.ofInt v2_)] (zqcI d_ [] [] [] [] Mz (fun v N => v = ((znzc s_.1 F_ : Nat) : Int)))
  have hv_ := hp0_N1_
  have hw_ := hv_.trans (congrArg (fun n_ : Nat => (n_ : Int)) (znzc_c F_ p1_.v))
  exact zk_iret (pc := 11) (ty := .int) rfl rfl ⟨by omega, by omega⟩ hf (show v2_ = ((znzc s_.1 F_ : Nat) : Int) by exact hw_) d_T_parts_11
set_option maxHeartbeats 4000000 in
theorem u_T_characterS (l : Launch) (d_ : Nat) (Mz : zMem) (hW : zKW d_ Mz) (hnow : zf Mz 0 2 = some (d_ + 0)) (a0_ : Int) (ha0_a : -2147483648 ≤ a0_) (ha0_b : a0_ < 2147483648) (T_ : zGT) (hT_ : T_ ∈ gTabs) (hAs_ : gAs T_) (s_ : zSg) (p0_ : zTt T_ d_ Mz) (p1_ : zSbK T_ d_ Mz) (p2_ : zKm (gF T_).length (gmkI T_) d_ Mz) (p3_ : zSK (gF T_).length s_ d_ Mz) (p4_ : zSB (gF T_).length s_) : zC l m_T_character 0 0 [.ref 0, .int (Int32.ofInt a0_)] Mz (zqcJ d_ [] [] [] [11] Mz (fun v N => ((((0 ≤ a0_ ∧ a0_ < (gN T_ : Int)) ∧ v = zmq (gF T_).length (gmkI T_) s_.1 (gsr T_ (2 ^ (a0_).toNat))) ∨ (¬ (0 ≤ a0_ ∧ a0_ < (gN T_ : Int)) ∧ v = (-9223372036854775808 : Int)))))) := by
  refine zC_of (L0 := [some (.ref 0), some (.int (Int32.ofInt a0_))]) md_T_character (Nat.le_of_ble_eq_true rfl) rfl ?_ zQ0
  have hf : zFc d_ [] [] [] [11] Mz Mz := zFc.rf
  have r_D1_7 := ze_r Mz (d_ + 1) 7
  have hO_ := gTabs_ok T_ hT_
  have hG_ := hO_.1
  have hn24_ := hG_.2.1
  have hn1_ := hG_.1
  have hTA_ := gT_zTA hT_
  obtain ⟨⟨hF1_, hF27_⟩, hAr_⟩ := id hTA_
  have hsz_ := p0_.1
  obtain ⟨hFc_, hKt_⟩ := id p2_
  have hev_ := p3_.v
  have hlm_ := zlm_c p4_.1 hev_
  have hlx_ : ∀ i_, i_ < (gF T_).length → -10000000000000 ≤ (zvc (gF T_).length d_ Mz 0) i_ ∧ (zvc (gF T_).length d_ Mz 0) i_ ≤ 10000000000000 := fun i_ hi_ => by have h_ := hlm_ i_ hi_; unfold zLim at h_; omega
  refine zw_aload_n (pc := 0) (n := 0) (x := 0) rfl d_T_character_0 ?_
  refine zw_getF (pc := 1) f_T_28 rfl ((hf.w hW).ka (o := 0) (by decide)) (hf.now hnow) d_T_character_1 ?_
  refine zw_getF (pc := 4) f_T_61 rfl ((hf.w hW).kr (o := 0) (by decide)) ((hf.w hW).lr (o := 0) (s := 0) (r := 1) (by decide)) d_T_character_4 ?_
  refine zw_iload_n (pc := 7) (n := 1) (x := Int32.ofInt a0_) rfl d_T_character_7 ?_
  refine zk_callV hf.x (pc := 8) [.int (Int32.ofInt a0_)] [] l_T_108 (u_Group_hasMemberG l d_ Mz (hf.w hW) a0_ ha0_a ha0_b) rfl rfl ((hf.w hW).kr (o := 1) (by decide)) (by decide) (by decide) (Nat.le_of_ble_eq_true rfl) d_T_character_8 ?_
  rintro _ N1_ ⟨v2_, rfl, ⟨hv2_a, hv2_b⟩, hsN1_, hp0_N1_⟩
  obtain rfl := hsN1_.eq.symm
  replace hp0_N1_ : ((v2_ = 1 ∧ 0 ≤ a0_ ∧ a0_ < ze Mz (d_ + 1) 7) ∨ (v2_ = 0 ∧ (a0_ < 0 ∨ ze Mz (d_ + 1) 7 ≤ a0_))) := hp0_N1_
  rcases hp0_N1_ with ⟨rfl, ha8_0_hp0_N1_, ha8_1_hp0_N1_⟩ | ⟨rfl, ha8_0_hp0_N1_⟩
  · skip
    show zW l m_T_character (zn Mz + 0, zw Mz + 0) Mz 11 [some (.ref 0), some (.int (Int32.ofInt a0_))] [.int (Int32.ofInt 1)] (zqcJ d_ [] [] [] [11] Mz (fun v N => ((((0 ≤ a0_ ∧ a0_ < (gN T_ : Int)) ∧ v = zmq (gF T_).length (gmkI T_) s_.1 (gsr T_ (2 ^ (a0_).toNat))) ∨ (¬ (0 ≤ a0_ ∧ a0_ < (gN T_ : Int)) ∧ v = (-9223372036854775808 : Int))))))
    refine zr_if_ne (pc := 11) (tgt := 18) ⟨(by decide), (by decide)⟩ (by decide) d_T_character_11 (fun hc_11 => ?_) (fun hc_11 => ?_)
    · skip
      refine zw_aload_n (pc := 18) (n := 0) (x := 0) rfl d_T_character_18 ?_
      refine zw_getF (pc := 19) f_T_28 rfl ((hf.w hW).ka (o := 0) (by decide)) (hf.now hnow) d_T_character_19 ?_
      refine zw_getF (pc := 22) f_T_169 rfl ((hf.w hW).kr (o := 0) (by decide)) ((hf.w hW).lr (o := 0) (s := 2) (r := 23) (by decide)) d_T_character_22 ?_
      refine zw_iconst (pc := 25) (v := Int32.ofInt 0) (by decide) d_T_character_25 ?_
      refine zw_aload_n (pc := 26) (n := 0) (x := 0) rfl d_T_character_26 ?_
      refine zw_getF (pc := 27) f_T_28 rfl ((hf.w hW).ka (o := 0) (by decide)) (hf.now hnow) d_T_character_27 ?_
      refine zw_getF (pc := 30) f_T_85 rfl ((hf.w hW).kr (o := 0) (by decide)) ((hf.w hW).lr (o := 0) (s := 1) (r := 12) (by decide)) d_T_character_30 ?_
      refine zw_iconst (pc := 33) (v := Int32.ofInt 1) (by decide) d_T_character_33 ?_
      refine zw_iload_n (pc := 34) (n := 1) (x := Int32.ofInt a0_) rfl d_T_character_34 ?_
      refine zr_ishl (pc := 35) d_T_character_35 ?_
      have hr3_ := zshl_r 1 a0_
      have hsh_ := zsh_2 (show 0 ≤ a0_ by omega) (by omega)
      refine zk_callV hf.x (pc := 36) [.int (Int32.ofInt (zshl 1 a0_))] [.int (Int32.ofInt 0), .ref (d_ + 23)] l_T_140 (u_Sorts_spannedSortG l d_ Mz (hf.w hW) (zshl 1 a0_) (by omega) (by omega) T_ hT_ hAs_ p0_ p1_ (show 0 ≤ (zshl 1 a0_) by exact zsh_0 (by omega) (by omega)) (show ((zshl 1 a0_)).toNat < 2 ^ gN T_ by rw [hsh_]; exact Nat.pow_lt_pow_right (by decide) (by omega))) rfl rfl ((hf.w hW).kr (o := 12) (by decide)) (by decide) (by decide) (Nat.le_of_ble_eq_true rfl) d_T_character_36 ?_
      rintro _ N4_ ⟨v5_, rfl, ⟨hv5_a, hv5_b⟩, hsN4_, hp0_N4_⟩
      replace hp0_N4_ : (∃ R_ : Nat, gLC T_ ((zshl 1 a0_)).toNat R_ ∧ zSrt T_ R_ v5_) := hp0_N4_
      have hf_N4_ : zFc d_ [] [] [] [11] Mz N4_ := hf.tr hsN4_ (by decide) (by decide) (by decide) (by decide)
      have eD1_7_N4_ : ze N4_ (d_ + 1) 7 = ze Mz (d_ + 1) 7 := hsN4_.e (by decide)
      have c6_ : zTt T_ d_ N4_ := zTt.fr (hf.w hW) hsN4_ p0_ (by decide)
      have c7_ : zSbK T_ d_ N4_ := zSbK.fr (hf.w hW) hsN4_ p1_ (by decide)
      have c8_ : zKm (gF T_).length (gmkI T_) d_ N4_ := zKm.fr (hf.w hW) hsN4_ p2_ (by decide)
      have c9_ : zSK (gF T_).length s_ d_ N4_ := zSKc.fr (hf.w hW) hsN4_ p3_ (by decide)
      show zW l m_T_character (zn Mz + 0, zw Mz + 0) N4_ 39 [some (.ref 0), some (.int (Int32.ofInt a0_))] [.int (Int32.ofInt v5_), .int (Int32.ofInt 0), .ref (d_ + 23)] (zqcJ d_ [] [] [] [11] Mz (fun v N => ((((0 ≤ a0_ ∧ a0_ < (gN T_ : Int)) ∧ v = zmq (gF T_).length (gmkI T_) s_.1 (gsr T_ (2 ^ (a0_).toNat))) ∨ (¬ (0 ≤ a0_ ∧ a0_ < (gN T_ : Int)) ∧ v = (-9223372036854775808 : Int))))))
      obtain ⟨R_, hlc_, hso_⟩ := hp0_N4_
      rw [hsh_] at hlc_
      have hgs_ := gsr_u hO_ hlc_ hso_
      have hgl_ := gsr_lt hT_ (2 ^ (a0_).toNat)
      refine zk_callV hf_N4_.x (pc := 39) [.int (Int32.ofInt 0), .int (Int32.ofInt v5_)] [] l_T_250 (u_Sums_markOf l d_ N4_ (hf_N4_.w hW) 0 (by decide) (by decide) v5_ hv5_a hv5_b (gF T_).length (gmkI T_) hTA_ c8_ (show 0 ≤ 0 by first | assumption | omega) (show 0 ≤ 39 by first | assumption | omega) (show 0 ≤ v5_ by first | assumption | omega) (show v5_ < (gF T_).length by first | assumption | omega)) rfl rfl ((hf_N4_.w hW).kr (o := 23) (by decide)) (by decide) (by decide) (Nat.le_of_ble_eq_true rfl) d_T_character_39 ?_
      rintro _ N10_ ⟨v11_, rfl, ⟨hv11_a, hv11_b⟩, hsN10_, hp0_N10_⟩
      obtain rfl := hsN10_.eq.symm
      replace hp0_N10_ : Int64.ofInt v11_ = Int64.ofInt (zmq (gF T_).length (gmkI T_) (zvc (gF T_).length d_ N4_ 0) (v5_).toNat) := hp0_N10_
      show zW l m_T_character (zn Mz + 0, zw Mz + 0) N4_ 42 [some (.ref 0), some (.int (Int32.ofInt a0_))] [.long (Int64.ofInt v11_)] (zqcJ d_ [] [] [] [11] Mz (fun v N => ((((0 ≤ a0_ ∧ a0_ < (gN T_ : Int)) ∧ v = zmq (gF T_).length (gmkI T_) s_.1 (gsr T_ (2 ^ (a0_).toNat))) ∨ (¬ (0 ≤ a0_ ∧ a0_ < (gN T_ : Int)) ∧ v = (-9223372036854775808 : Int))))))
      have hmk_ := hp0_N10_
      rw [hgs_, Int.toNat_natCast] at hmk_
      have hb_ := zmq_b (j := gsr T_ (2 ^ (a0_).toNat)) hF27_ (fun i_ hi_ => hAr_.1 i_ _ hi_ hgl_) hlx_
      have hw_ := (z64q ⟨by omega, by omega⟩ ⟨by omega, by omega⟩ hmk_).trans (zmq_c hev_ _)
      exact zk_lret (pc := 42) rfl ⟨by omega, by omega⟩ hf_N4_ (show (((0 ≤ a0_ ∧ a0_ < (gN T_ : Int)) ∧ v11_ = zmq (gF T_).length (gmkI T_) s_.1 (gsr T_ (2 ^ (a0_).toNat))) ∨ (¬ (0 ≤ a0_ ∧ a0_ < (gN T_ : Int)) ∧ v11_ = (-9223372036854775808 : Int))) by first | exact Or.inr ⟨by omega, rfl⟩ | exact Or.inl ⟨by omega, hw_⟩) d_T_character_42
    · skip
      exact absurd hc_11 (by decide)
  · skip
    show zW l m_T_character (zn Mz + 0, zw Mz + 0) Mz 11 [some (.ref 0), some (.int (Int32.ofInt a0_))] [.int (Int32.ofInt 0)] (zqcJ d_ [] [] [] [11] Mz (fun v N => ((((0 ≤ a0_ ∧ a0_ < (gN T_ : Int)) ∧ v = zmq (gF T_).length (gmkI T_) s_.1 (gsr T_ (2 ^ (a0_).toNat))) ∨ (¬ (0 ≤ a0_ ∧ a0_ < (gN T_ : Int)) ∧ v = (-9223372036854775808 : Int))))))
    refine zr_if_ne (pc := 11) (tgt := 18) ⟨(by decide), (by decide)⟩ (by decide) d_T_character_11 (fun hc_11 => ?_) (fun hc_11 => ?_)
    · skip
      exact absurd hc_11 (by decide)
    · skip
      refine zr_ldc2 (pc := 14) (n := (-9223372036854775808)) (by decide) k_T_248 d_T_character_14 ?_
      exact zk_lret (pc := 17) rfl ⟨by omega, by omega⟩ hf (show (((0 ≤ a0_ ∧ a0_ < (gN T_ : Int)) ∧ ((-9223372036854775808)) = zmq (gF T_).length (gmkI T_) s_.1 (gsr T_ (2 ^ (a0_).toNat))) ∨ (¬ (0 ≤ a0_ ∧ a0_ < (gN T_ : Int)) ∧ ((-9223372036854775808)) = (-9223372036854775808 : Int))) by first | exact Or.inr ⟨by omega, rfl⟩ | exact Or.inl ⟨by omega, hw_⟩) d_T_character_17
set_option maxHeartbeats 4000000 in
theorem u_T_congruenceS (l : Launch) (d_ : Nat) (Mz : zMem) (hW : zKW d_ Mz) (hnow : zf Mz 0 2 = some (d_ + 0)) (a0_ : Int) (ha0_a : -2147483648 ≤ a0_) (ha0_b : a0_ < 2147483648) (T_ : zGT) (hT_ : T_ ∈ gTabs) (hAs_ : gAs T_) (hGr_ : gGr T_) (s_ : zSg) (p0_ : zTt T_ d_ Mz) (p1_ : zFir T_ d_ Mz) (p2_ : zSbK T_ d_ Mz) (p3_ : zKm (gF T_).length (gmkI T_) d_ Mz) (p4_ : zSK (gF T_).length s_ d_ Mz) (p5_ : zSB (gF T_).length s_) : zC l m_T_congruence 0 0 [.ref 0, .int (Int32.ofInt a0_)] Mz (zqcJ d_ [] [] [] [11, 27] Mz (fun v N => ((((0 ≤ a0_ ∧ a0_ < ((gF T_).length : Int)) ∧ v = (zsm (zmi T_ (gFn T_ (a0_).toNat) (zcgF T_ (gFn T_ (a0_).toNat) (zmq (gF T_).length (gmkI T_) s_.1))) (gN T_)).tdiv ((gmm T_ (gFn T_ (a0_).toNat) : Nat) : Int)) ∨ (¬ (0 ≤ a0_ ∧ a0_ < ((gF T_).length : Int)) ∧ v = (-9223372036854775808 : Int)))))) := by
  refine zC_of (L0 := [some (.ref 0), some (.int (Int32.ofInt a0_)), none, none, none]) md_T_congruence (Nat.le_of_ble_eq_true rfl) rfl ?_ zQ0
  have hf : zFc d_ [] [] [] [11, 27] Mz Mz := zFc.rf
  have r_D12_7 := ze_r Mz (d_ + 12) 7
  have hO_ := gTabs_ok T_ hT_
  have hG_ := hO_.1
  have hn24_ := hG_.2.1
  have hn1_ := hG_.1
  have hTA_ := gT_zTA hT_
  obtain ⟨⟨hF1_, hF27_⟩, hAr_⟩ := id hTA_
  have hsz_ := p0_.1
  have hfl_ := p1_.1
  obtain ⟨hFc_, hKt_⟩ := id p3_
  have hev_ := p4_.v
  have hlm_ := zlm_c p5_.1 hev_
  have hlx_ : ∀ i_, i_ < (gF T_).length → -10000000000000 ≤ (zvc (gF T_).length d_ Mz 0) i_ ∧ (zvc (gF T_).length d_ Mz 0) i_ ≤ 10000000000000 := fun i_ hi_ => by have h_ := hlm_ i_ hi_; unfold zLim at h_; omega
  refine zw_aload_n (pc := 0) (n := 0) (x := 0) rfl d_T_congruence_0 ?_
  refine zw_getF (pc := 1) f_T_28 rfl ((hf.w hW).ka (o := 0) (by decide)) (hf.now hnow) d_T_congruence_1 ?_
  refine zw_getF (pc := 4) f_T_85 rfl ((hf.w hW).kr (o := 0) (by decide)) ((hf.w hW).lr (o := 0) (s := 1) (r := 12) (by decide)) d_T_congruence_4 ?_
  refine zw_iload_n (pc := 7) (n := 1) (x := Int32.ofInt a0_) rfl d_T_congruence_7 ?_
  refine zk_callV hf.x (pc := 8) [.int (Int32.ofInt a0_)] [] l_T_143 (u_Sorts_hasSortG l d_ Mz (hf.w hW) a0_ ha0_a ha0_b) rfl rfl ((hf.w hW).kr (o := 12) (by decide)) (by decide) (by decide) (Nat.le_of_ble_eq_true rfl) d_T_congruence_8 ?_
  rintro _ N1_ ⟨v2_, rfl, ⟨hv2_a, hv2_b⟩, hsN1_, hp0_N1_⟩
  obtain rfl := hsN1_.eq.symm
  replace hp0_N1_ : ((v2_ = 1 ∧ 0 ≤ a0_ ∧ a0_ < ze Mz (d_ + 12) 7) ∨ (v2_ = 0 ∧ (a0_ < 0 ∨ ze Mz (d_ + 12) 7 ≤ a0_))) := hp0_N1_
  rcases hp0_N1_ with ⟨rfl, ha8_0_hp0_N1_, ha8_1_hp0_N1_⟩ | ⟨rfl, ha8_0_hp0_N1_⟩
  · skip
    show zW l m_T_congruence (zn Mz + 0, zw Mz + 0) Mz 11 [some (.ref 0), some (.int (Int32.ofInt a0_)), none, none, none] [.int (Int32.ofInt 1)] (zqcJ d_ [] [] [] [11, 27] Mz (fun v N => ((((0 ≤ a0_ ∧ a0_ < ((gF T_).length : Int)) ∧ v = (zsm (zmi T_ (gFn T_ (a0_).toNat) (zcgF T_ (gFn T_ (a0_).toNat) (zmq (gF T_).length (gmkI T_) s_.1))) (gN T_)).tdiv ((gmm T_ (gFn T_ (a0_).toNat) : Nat) : Int)) ∨ (¬ (0 ≤ a0_ ∧ a0_ < ((gF T_).length : Int)) ∧ v = (-9223372036854775808 : Int))))))
    refine zr_if_ne (pc := 11) (tgt := 18) ⟨(by decide), (by decide)⟩ (by decide) d_T_congruence_11 (fun hc_11 => ?_) (fun hc_11 => ?_)
    · skip
      refine zw_aload_n (pc := 18) (n := 0) (x := 0) rfl d_T_congruence_18 ?_
      refine zw_getF (pc := 19) f_T_28 rfl ((hf.w hW).ka (o := 0) (by decide)) (hf.now hnow) d_T_congruence_19 ?_
      refine zw_getF (pc := 22) f_T_169 rfl ((hf.w hW).kr (o := 0) (by decide)) ((hf.w hW).lr (o := 0) (s := 2) (r := 23) (by decide)) d_T_congruence_22 ?_
      refine zw_iconst (pc := 25) (v := Int32.ofInt 0) (by decide) d_T_congruence_25 ?_
      refine zk_callV hf.x (pc := 26) [.int (Int32.ofInt 0)] [] l_T_256 (u_Sums_putMarksS l d_ Mz (hf.w hW) 0 (by decide) (by decide) (gF T_).length (gmkI T_) hTA_ p3_ (show 0 ≤ 0 by first | assumption | omega) (show 0 ≤ 39 by first | assumption | omega) (show zlm (gF T_).length (zvc (gF T_).length d_ Mz 0) by first | assumption | omega)) rfl rfl ((hf.w hW).kr (o := 23) (by decide)) (by decide) (by decide) (Nat.le_of_ble_eq_true rfl) d_T_congruence_26 ?_
      rintro _ N3_ ⟨rfl, hsN3_, hp0_N3_⟩
      replace hp0_N3_ : (∀ j : Nat, j < (gF T_).length → zg N3_ (d_ + 27) j = zmq (gF T_).length (gmkI T_) (zvc (gF T_).length d_ Mz 0) j) := hp0_N3_
      have hf_N3_ : zFc d_ [] [] [] [11, 27] Mz N3_ := hf.tr hsN3_ (by decide) (by decide) (by decide) (by decide)
      have eD12_7_N3_ : ze N3_ (d_ + 12) 7 = ze Mz (d_ + 12) 7 := hsN3_.e (by decide)
      have c5_ : zTt T_ d_ N3_ := zTt.fr (hf.w hW) hsN3_ p0_ (by decide)
      have c6_ : zFir T_ d_ N3_ := zFir.fr (hf.w hW) hsN3_ p1_ (by decide)
      have c7_ : zSbK T_ d_ N3_ := zSbK.fr (hf.w hW) hsN3_ p2_ (by decide)
      have c8_ : zKm (gF T_).length (gmkI T_) d_ N3_ := zKm.fr (hf.w hW) hsN3_ p3_ (by decide)
      have c9_ : zSK (gF T_).length s_ d_ N3_ := zSKc.fr (hf.w hW) hsN3_ p4_ (by decide)
      show zW l m_T_congruence (zn Mz + 0, zw Mz + 0) N3_ 29 [some (.ref 0), some (.int (Int32.ofInt a0_)), none, none, none] [] (zqcJ d_ [] [] [] [11, 27] Mz (fun v N => ((((0 ≤ a0_ ∧ a0_ < ((gF T_).length : Int)) ∧ v = (zsm (zmi T_ (gFn T_ (a0_).toNat) (zcgF T_ (gFn T_ (a0_).toNat) (zmq (gF T_).length (gmkI T_) s_.1))) (gN T_)).tdiv ((gmm T_ (gFn T_ (a0_).toNat) : Nat) : Int)) ∨ (¬ (0 ≤ a0_ ∧ a0_ < ((gF T_).length : Int)) ∧ v = (-9223372036854775808 : Int))))))
      have hmk_ := hp0_N3_
      have hmj_ : ∀ j_ : Nat, j_ < (gF T_).length → zg N3_ (d_ + 27) j_ = (zmq (gF T_).length (gmkI T_) s_.1) j_ := fun j_ hj_ => (hmk_ j_ hj_).trans (zmq_c hev_ _)
      have hab_ : ∀ j_ : Nat, j_ < (gF T_).length → ((zmq (gF T_).length (gmkI T_) s_.1) j_).natAbs ≤ 6480000000000000 := fun j_ hj_ => by have h_ := zmq_b (j := j_) hF27_ (fun i_ hi_ => hAr_.1 i_ _ hi_ hj_) hlx_; rw [zmq_c hev_] at h_; omega
      refine zw_aload_n (pc := 29) (n := 0) (x := 0) rfl d_T_congruence_29 ?_
      refine zw_getF (pc := 30) f_T_28 rfl ((hf_N3_.w hW).ka (o := 0) (by decide)) (hf_N3_.now hnow) d_T_congruence_30 ?_
      refine zw_getF (pc := 33) f_T_85 rfl ((hf_N3_.w hW).kr (o := 0) (by decide)) ((hf_N3_.w hW).lr (o := 0) (s := 1) (r := 12) (by decide)) d_T_congruence_33 ?_
      refine zw_iload_n (pc := 36) (n := 1) (x := Int32.ofInt a0_) rfl d_T_congruence_36 ?_
      refine zk_callV hf_N3_.x (pc := 37) [.int (Int32.ofInt a0_)] [] l_T_259 (u_Sorts_normSizeS l d_ N3_ (hf_N3_.w hW) a0_ ha0_a ha0_b T_ hT_ c5_ c6_ (show 0 ≤ a0_ by first | assumption | omega) (show a0_ < ((gF T_).length : Int) by first | assumption | omega)) rfl rfl ((hf_N3_.w hW).kr (o := 12) (by decide)) (by decide) (by decide) (Nat.le_of_ble_eq_true rfl) d_T_congruence_37 ?_
      rintro _ N10_ ⟨v11_, rfl, ⟨hv11_a, hv11_b⟩, hsN10_, hp0_N10_⟩
      obtain rfl := hsN10_.eq.symm
      replace hp0_N10_ : v11_ = (((zct (fun g_ => gtr T_ (gFn T_ (a0_).toNat) g_ = (gFn T_ (a0_).toNat)) (gN T_)) : Nat) : Int) := hp0_N10_
      show zW l m_T_congruence (zn Mz + 0, zw Mz + 0) N3_ 40 [some (.ref 0), some (.int (Int32.ofInt a0_)), none, none, none] [.int (Int32.ofInt v11_)] (zqcJ d_ [] [] [] [11, 27] Mz (fun v N => ((((0 ≤ a0_ ∧ a0_ < ((gF T_).length : Int)) ∧ v = (zsm (zmi T_ (gFn T_ (a0_).toNat) (zcgF T_ (gFn T_ (a0_).toNat) (zmq (gF T_).length (gmkI T_) s_.1))) (gN T_)).tdiv ((gmm T_ (gFn T_ (a0_).toNat) : Nat) : Int)) ∨ (¬ (0 ≤ a0_ ∧ a0_ < ((gF T_).length : Int)) ∧ v = (-9223372036854775808 : Int))))))
      have hns_ := hp0_N10_
      have hfm_ := gFn_m (T := T_) (i := (a0_).toNat) (by omega)
      have hnp_ := nrm_p hT_ hfm_
      have hnb_ := zct_b (fun g_ => gtr T_ (gFn T_ (a0_).toNat) g_ = (gFn T_ (a0_).toNat)) (gN T_)
      refine zw_istore_n (pc := 40) (i := 2) (L2 := [some (.ref 0), some (.int (Int32.ofInt a0_)), some (.int (Int32.ofInt v11_)), none, none]) rfl (by decide) rfl d_T_congruence_40 ?_
      refine zw_aload_n (pc := 41) (n := 0) (x := 0) rfl d_T_congruence_41 ?_
      refine zw_getF (pc := 42) f_T_28 rfl ((hf_N3_.w hW).ka (o := 0) (by decide)) (hf_N3_.now hnow) d_T_congruence_42 ?_
      refine zw_getF (pc := 45) f_T_85 rfl ((hf_N3_.w hW).kr (o := 0) (by decide)) ((hf_N3_.w hW).lr (o := 0) (s := 1) (r := 12) (by decide)) d_T_congruence_45 ?_
      refine zw_iload_n (pc := 48) (n := 1) (x := Int32.ofInt a0_) rfl d_T_congruence_48 ?_
      refine zw_aload_n (pc := 49) (n := 0) (x := 0) rfl d_T_congruence_49 ?_
      refine zw_getF (pc := 50) f_T_28 rfl ((hf_N3_.w hW).ka (o := 0) (by decide)) (hf_N3_.now hnow) d_T_congruence_50 ?_
      refine zw_getF (pc := 53) f_T_169 rfl ((hf_N3_.w hW).kr (o := 0) (by decide)) ((hf_N3_.w hW).lr (o := 0) (s := 2) (r := 23) (by decide)) d_T_congruence_53 ?_
      refine zw_getF (pc := 56) f_T_262 rfl ((hf_N3_.w hW).kr (o := 23) (by decide)) ((hf_N3_.w hW).lr (o := 23) (s := 2) (r := 26) (by decide)) d_T_congruence_56 ?_
      refine zk_callV hf_N3_.x (pc := 59) [.int (Int32.ofInt a0_), .ref (d_ + 26)] [] l_T_266 (u_Sorts_sumOverNormS l d_ N3_ (hf_N3_.w hW) a0_ ha0_a ha0_b T_ hT_ hAs_ hGr_ c5_ c6_ c7_ (show 0 ≤ a0_ by first | assumption | omega) (show a0_ < ((gF T_).length : Int) by first | assumption | omega)) rfl rfl ((hf_N3_.w hW).kr (o := 12) (by decide)) (by decide) (by decide) (Nat.le_of_ble_eq_true rfl) d_T_congruence_59 ?_
      rintro _ N12_ ⟨v13_, rfl, ⟨hv13_a, hv13_b⟩, hsN12_, hp0_N12_⟩
      replace hp0_N12_ : Int64.ofInt v13_ = Int64.ofInt (zsm (zni T_ (gFn T_ (a0_).toNat) (zcgF T_ (gFn T_ (a0_).toNat) (fun j_ => zg N3_ (d_ + 27) j_))) (gN T_)) := hp0_N12_
      have hf_N12_ : zFc d_ [] [] [] [11, 27] Mz N12_ := hf_N3_.tr hsN12_ (by decide) (by decide) (by decide) (by decide)
      have eD12_7_N12_ : ze N12_ (d_ + 12) 7 = ze N3_ (d_ + 12) 7 := hsN12_.e (by decide)
      have c14_ : zTt T_ d_ N12_ := zTt.fr (hf_N3_.w hW) hsN12_ c5_ (by decide)
      have c15_ : zFir T_ d_ N12_ := zFir.fr (hf_N3_.w hW) hsN12_ c6_ (by decide)
      have c16_ : zSbK T_ d_ N12_ := zSbK.fr (hf_N3_.w hW) hsN12_ c7_ (by decide)
      have c17_ : zKm (gF T_).length (gmkI T_) d_ N12_ := zKm.fr (hf_N3_.w hW) hsN12_ c8_ (by decide)
      have c18_ : zSK (gF T_).length s_ d_ N12_ := zSKc.fr (hf_N3_.w hW) hsN12_ c9_ (by decide)
      show zW l m_T_congruence (zn Mz + 0, zw Mz + 0) N12_ 62 [some (.ref 0), some (.int (Int32.ofInt a0_)), some (.int (Int32.ofInt v11_)), none, none] [.long (Int64.ofInt v13_)] (zqcJ d_ [] [] [] [11, 27] Mz (fun v N => ((((0 ≤ a0_ ∧ a0_ < ((gF T_).length : Int)) ∧ v = (zsm (zmi T_ (gFn T_ (a0_).toNat) (zcgF T_ (gFn T_ (a0_).toNat) (zmq (gF T_).length (gmkI T_) s_.1))) (gN T_)).tdiv ((gmm T_ (gFn T_ (a0_).toNat) : Nat) : Int)) ∨ (¬ (0 ≤ a0_ ∧ a0_ < ((gF T_).length : Int)) ∧ v = (-9223372036854775808 : Int))))))
      have hco_ := hp0_N12_
      rw [show zcgF T_ (gFn T_ (a0_).toNat) (fun j_ => zg N12_ (d_ + 27) j_) = zcgF T_ (gFn T_ (a0_).toNat) (zmq (gF T_).length (gmkI T_) s_.1) from funext fun x_ => hmj_ _ (gsr_lt hT_ _)] at hco_
      have hsb_ := zni_sb hT_ (H := (gFn T_ (a0_).toNat)) (f := (zmq (gF T_).length (gmkI T_) s_.1)) (n := gN T_) hn24_ hab_
      have hve_ := z64q ⟨by omega, by omega⟩ ⟨by omega, by omega⟩ hco_
      have hqt_ := zq_t (a := v13_) (b := v11_) (by omega) (by omega) (by omega) (by omega)
      have hqq_ := zcg_q (f := (zmq (gF T_).length (gmkI T_) s_.1)) hT_ hGr_ hfm_
      rw [← hve_, ← hns_, ← hqt_] at hqq_
      refine zw_lstore_n (pc := 62) (i := 3) (L2 := [some (.ref 0), some (.int (Int32.ofInt a0_)), some (.int (Int32.ofInt v11_)), some (.long (Int64.ofInt v13_)), none]) rfl (by decide) rfl d_T_congruence_62 ?_
      refine zw_iload_n (pc := 63) (n := 2) (x := Int32.ofInt v11_) rfl d_T_congruence_63 ?_
      refine zr_if_le (pc := 64) (tgt := 74) ⟨hv11_a, hv11_b⟩ (by decide) d_T_congruence_64 (fun hc_64 => ?_) (fun hc_64 => ?_)
      · skip
        refine zr_ldc2 (pc := 74) (n := (-9223372036854775808)) (by decide) k_T_248 d_T_congruence_74 ?_
        exact zk_lret (pc := 77) rfl ⟨by omega, by omega⟩ hf_N12_ (show (((0 ≤ a0_ ∧ a0_ < ((gF T_).length : Int)) ∧ ((-9223372036854775808)) = (zsm (zmi T_ (gFn T_ (a0_).toNat) (zcgF T_ (gFn T_ (a0_).toNat) (zmq (gF T_).length (gmkI T_) s_.1))) (gN T_)).tdiv ((gmm T_ (gFn T_ (a0_).toNat) : Nat) : Int)) ∨ (¬ (0 ≤ a0_ ∧ a0_ < ((gF T_).length : Int)) ∧ ((-9223372036854775808)) = (-9223372036854775808 : Int))) by first | exact Or.inl ⟨by omega, hqq_⟩ | (exfalso; omega)) d_T_congruence_77
      · skip
        refine zw_lload_n (pc := 67) (n := 3) (x := Int64.ofInt v13_) rfl d_T_congruence_67 ?_
        refine zw_iload_n (pc := 68) (n := 2) (x := Int32.ofInt v11_) rfl d_T_congruence_68 ?_
        refine zr_i2l (pc := 69) ⟨hv11_a, hv11_b⟩ d_T_congruence_69 ?_
        refine zr_ldiv (pc := 70) ⟨by omega, by omega⟩ (by omega) d_T_congruence_70 ?_
        have hr19_ := zlquo_r v13_ v11_
        refine zw_goto (pc := 71) (tgt := 77) (by decide) d_T_congruence_71 ?_
        exact zk_lret (pc := 77) rfl ⟨by omega, by omega⟩ hf_N12_ (show (((0 ≤ a0_ ∧ a0_ < ((gF T_).length : Int)) ∧ (zlquo v13_ v11_) = (zsm (zmi T_ (gFn T_ (a0_).toNat) (zcgF T_ (gFn T_ (a0_).toNat) (zmq (gF T_).length (gmkI T_) s_.1))) (gN T_)).tdiv ((gmm T_ (gFn T_ (a0_).toNat) : Nat) : Int)) ∨ (¬ (0 ≤ a0_ ∧ a0_ < ((gF T_).length : Int)) ∧ (zlquo v13_ v11_) = (-9223372036854775808 : Int))) by first | exact Or.inl ⟨by omega, hqq_⟩ | (exfalso; omega)) d_T_congruence_77
    · skip
      exact absurd hc_11 (by decide)
  · skip
    show zW l m_T_congruence (zn Mz + 0, zw Mz + 0) Mz 11 [some (.ref 0), some (.int (Int32.ofInt a0_)), none, none, none] [.int (Int32.ofInt 0)] (zqcJ d_ [] [] [] [11, 27] Mz (fun v N => ((((0 ≤ a0_ ∧ a0_ < ((gF T_).length : Int)) ∧ v = (zsm (zmi T_ (gFn T_ (a0_).toNat) (zcgF T_ (gFn T_ (a0_).toNat) (zmq (gF T_).length (gmkI T_) s_.1))) (gN T_)).tdiv ((gmm T_ (gFn T_ (a0_).toNat) : Nat) : Int)) ∨ (¬ (0 ≤ a0_ ∧ a0_ < ((gF T_).length : Int)) ∧ v = (-9223372036854775808 : Int))))))
    refine zr_if_ne (pc := 11) (tgt := 18) ⟨(by decide), (by decide)⟩ (by decide) d_T_congruence_11 (fun hc_11 => ?_) (fun hc_11 => ?_)
    · skip
      exact absurd hc_11 (by decide)
    · skip
      refine zr_ldc2 (pc := 14) (n := (-9223372036854775808)) (by decide) k_T_248 d_T_congruence_14 ?_
      exact zk_lret (pc := 17) rfl ⟨by omega, by omega⟩ hf (show (((0 ≤ a0_ ∧ a0_ < ((gF T_).length : Int)) ∧ ((-9223372036854775808)) = (zsm (zmi T_ (gFn T_ (a0_).toNat) (zcgF T_ (gFn T_ (a0_).toNat) (zmq (gF T_).length (gmkI T_) s_.1))) (gN T_)).tdiv ((gmm T_ (gFn T_ (a0_).toNat) : Nat) : Int)) ∨ (¬ (0 ≤ a0_ ∧ a0_ < ((gF T_).length : Int)) ∧ ((-9223372036854775808)) = (-9223372036854775808 : Int))) by exact Or.inr ⟨by omega, rfl⟩) d_T_congruence_17
set_option maxHeartbeats 4000000 in
theorem u_T_isS (l : Launch) (d_ : Nat) (Mz : zMem) (hW : zKW d_ Mz) (hnow : zf Mz 0 2 = some (d_ + 0)) (a0_ : Int) (ha0_a : -2147483648 ≤ a0_) (ha0_b : a0_ < 2147483648) (F_ : Nat) (K_ : Nat → Nat → Int) (hA_ : zTA F_ K_) (s_ : zSg) (p0_ : zKm F_ K_ d_ Mz) (p1_ : zSK F_ s_ d_ Mz) (p2_ : zSB F_ s_) : zC l m_T_is 0 0 [.ref 0, .int (Int32.ofInt a0_)] Mz (zqcI d_ [] [] [] [27] Mz (fun v N => ((((0 ≤ a0_ ∧ a0_ ≤ 3) ∧ zfIs F_ K_ s_.1 a0_ v) ∨ (¬ (0 ≤ a0_ ∧ a0_ ≤ 3) ∧ v = (-1 : Int)))))) := by
  refine zC_of (L0 := [some (.ref 0), some (.int (Int32.ofInt a0_)), none]) md_T_is (Nat.le_of_ble_eq_true rfl) rfl ?_ zQ0
  have hf : zFc d_ [] [] [] [27] Mz Mz := zFc.rf
  obtain ⟨⟨hF1_, hF27_⟩, hAr_⟩ := id hA_
  obtain ⟨hFc_, hKt_⟩ := id p0_
  have hev_ := p1_.v
  have hlm_ := zlm_c p2_.1 hev_
  have hlx_ : ∀ i_, i_ < F_ → -10000000000000 ≤ (zvc F_ d_ Mz 0) i_ ∧ (zvc F_ d_ Mz 0) i_ ≤ 10000000000000 := fun i_ hi_ => by have h_ := hlm_ i_ hi_; unfold zLim at h_; omega
  refine zw_aload_n (pc := 0) (n := 0) (x := 0) rfl d_T_is_0 ?_
  refine zw_getF (pc := 1) f_T_28 rfl ((hf.w hW).ka (o := 0) (by decide)) (hf.now hnow) d_T_is_1 ?_
  refine zw_getF (pc := 4) f_T_169 rfl ((hf.w hW).kr (o := 0) (by decide)) ((hf.w hW).lr (o := 0) (s := 2) (r := 23) (by decide)) d_T_is_4 ?_
  refine zw_astore_n (pc := 7) (i := 2) (L2 := [some (.ref 0), some (.int (Int32.ofInt a0_)), some (.ref (d_ + 23))]) rfl (by decide) rfl d_T_is_7 ?_
  refine zw_aload_n (pc := 8) (n := 2) (x := (d_ + 23)) rfl d_T_is_8 ?_
  refine zw_iconst (pc := 9) (v := Int32.ofInt 0) (by decide) d_T_is_9 ?_
  refine zk_callV hf.x (pc := 10) [.int (Int32.ofInt 0)] [] l_T_256 (u_Sums_putMarksS l d_ Mz (hf.w hW) 0 (by decide) (by decide) F_ K_ hA_ p0_ (show 0 ≤ 0 by first | assumption | omega) (show 0 ≤ 39 by first | assumption | omega) (show zlm F_ (zvc F_ d_ Mz 0) by first | assumption | omega)) rfl rfl ((hf.w hW).kr (o := 23) (by decide)) (by decide) (by decide) (Nat.le_of_ble_eq_true rfl) d_T_is_10 ?_
  rintro _ N1_ ⟨rfl, hsN1_, hp0_N1_⟩
  replace hp0_N1_ : (∀ j : Nat, j < F_ → zg N1_ (d_ + 27) j = zmq F_ K_ (zvc F_ d_ Mz 0) j) := hp0_N1_
  have hf_N1_ : zFc d_ [] [] [] [27] Mz N1_ := hf.tr hsN1_ (by decide) (by decide) (by decide) (by decide)
  have c3_ : zKm F_ K_ d_ N1_ := zKm.fr (hf.w hW) hsN1_ p0_ (by decide)
  have c4_ : zSK F_ s_ d_ N1_ := zSKc.fr (hf.w hW) hsN1_ p1_ (by decide)
  show zW l m_T_is (zn Mz + 0, zw Mz + 0) N1_ 13 [some (.ref 0), some (.int (Int32.ofInt a0_)), some (.ref (d_ + 23))] [] (zqcI d_ [] [] [] [27] Mz (fun v N => ((((0 ≤ a0_ ∧ a0_ ≤ 3) ∧ zfIs F_ K_ s_.1 a0_ v) ∨ (¬ (0 ≤ a0_ ∧ a0_ ≤ 3) ∧ v = (-1 : Int))))))
  have hmk_ := hp0_N1_
  have hmj_ : ∀ j_ : Nat, j_ < F_ → zg N1_ (d_ + 27) j_ = zmq F_ K_ s_.1 j_ := fun j_ hj_ => (hmk_ j_ hj_).trans (zmq_c hev_ _)
  have hvz_ : ∀ k_ : Nat, k_ < F_ → zvc F_ d_ N1_ 0 k_ = s_.1 k_ := fun k_ hk_ => by rw [zvc_f (F := F_) hsN1_ (by decide) 0]; exact hev_ k_ hk_
  refine zw_iload_n (pc := 13) (n := 1) (x := Int32.ofInt a0_) rfl d_T_is_13 ?_
  by_cases hs_14_0 : a0_ = 0
  · refine zr_tabIn (c := 0) (off := 30) (tgt := 44) ⟨by decide, by decide⟩ hs_14_0 (by decide) (by decide) rfl (by decide) d_T_is_14 ?_
    refine zw_aload_n (pc := 44) (n := 2) (x := (d_ + 23)) rfl d_T_is_44 ?_
    refine zw_iconst (pc := 45) (v := Int32.ofInt 0) (by decide) d_T_is_45 ?_
    refine zk_callV hf_N1_.x (pc := 46) [.int (Int32.ofInt 0)] [] l_T_270 (u_Sums_hasNoneBelowS l d_ N1_ (hf_N1_.w hW) 0 (by decide) (by decide) F_ K_ hA_ c3_ (show 0 ≤ 0 by first | assumption | omega) (show 0 ≤ 39 by first | assumption | omega)) rfl rfl ((hf_N1_.w hW).kr (o := 23) (by decide)) (by decide) (by decide) (Nat.le_of_ble_eq_true rfl) d_T_is_46 ?_
    rintro _ N5_ ⟨v6_, rfl, ⟨hv6_a, hv6_b⟩, hsN5_, hp0_N5_⟩
    obtain rfl := hsN5_.eq.symm
    replace hp0_N5_ : ((v6_ = 1 ∧ (∀ k : Nat, k < F_ → 0 ≤ (zvc F_ d_ N1_ 0) k)) ∨ (v6_ = 0 ∧ ¬ (∀ k : Nat, k < F_ → 0 ≤ (zvc F_ d_ N1_ 0) k))) := hp0_N5_
    rcases hp0_N5_ with ⟨rfl, ha46_0_hp0_N5_⟩ | ⟨rfl, ha46_0_hp0_N5_⟩
    · skip
      have hi0_ : (∀ k_, k_ < F_ → 0 ≤ s_.1 k_) := fun k_ hk_ => by rw [← hvz_ k_ hk_]; exact ha46_0_hp0_N5_ k_ hk_
      show zW l m_T_is (zn Mz + 0, zw Mz + 0) N1_ 49 [some (.ref 0), some (.int (Int32.ofInt a0_)), some (.ref (d_ + 23))] [.int (Int32.ofInt 1)] (zqcI d_ [] [] [] [27] Mz (fun v N => ((((0 ≤ a0_ ∧ a0_ ≤ 3) ∧ zfIs F_ K_ s_.1 a0_ v) ∨ (¬ (0 ≤ a0_ ∧ a0_ ≤ 3) ∧ v = (-1 : Int))))))
      refine zr_if_eq (pc := 49) (tgt := 56) ⟨(by decide), (by decide)⟩ (by decide) d_T_is_49 (fun hc_49 => ?_) (fun hc_49 => ?_)
      · skip
        exact absurd hc_49 (by decide)
      · skip
        refine zw_iconst (pc := 52) (v := Int32.ofInt 1) (by decide) d_T_is_52 ?_
        refine zw_goto (pc := 53) (tgt := 57) (by decide) d_T_is_53 ?_
        exact zk_iret (pc := 57) (ty := .int) rfl rfl ⟨by omega, by omega⟩ hf_N1_ (show (((0 ≤ a0_ ∧ a0_ ≤ 3) ∧ zfIs F_ K_ s_.1 a0_ 1) ∨ (¬ (0 ≤ a0_ ∧ a0_ ≤ 3) ∧ 1 = (-1 : Int))) by refine Or.inl ⟨by omega, by omega, fun z_ => ?_, fun z_ => ?_, fun z_ => ?_, fun z_ => ?_⟩; all_goals (first | (exfalso; omega) | exact ⟨fun _ => hi0_, fun _ => rfl⟩ | exact ⟨fun z_ => absurd z_ (by omega), fun q_ => absurd q_ hn0_⟩)) d_T_is_57
    · skip
      have hn0_ : ¬ (∀ k_, k_ < F_ → 0 ≤ s_.1 k_) := fun q_ => ha46_0_hp0_N5_ (fun k_ hk_ => by rw [hvz_ k_ hk_]; exact q_ k_ hk_)
      show zW l m_T_is (zn Mz + 0, zw Mz + 0) N1_ 49 [some (.ref 0), some (.int (Int32.ofInt a0_)), some (.ref (d_ + 23))] [.int (Int32.ofInt 0)] (zqcI d_ [] [] [] [27] Mz (fun v N => ((((0 ≤ a0_ ∧ a0_ ≤ 3) ∧ zfIs F_ K_ s_.1 a0_ v) ∨ (¬ (0 ≤ a0_ ∧ a0_ ≤ 3) ∧ v = (-1 : Int))))))
      refine zr_if_eq (pc := 49) (tgt := 56) ⟨(by decide), (by decide)⟩ (by decide) d_T_is_49 (fun hc_49 => ?_) (fun hc_49 => ?_)
      · skip
        refine zw_iconst (pc := 56) (v := Int32.ofInt 0) (by decide) d_T_is_56 ?_
        exact zk_iret (pc := 57) (ty := .int) rfl rfl ⟨by omega, by omega⟩ hf_N1_ (show (((0 ≤ a0_ ∧ a0_ ≤ 3) ∧ zfIs F_ K_ s_.1 a0_ 0) ∨ (¬ (0 ≤ a0_ ∧ a0_ ≤ 3) ∧ 0 = (-1 : Int))) by refine Or.inl ⟨by omega, by omega, fun z_ => ?_, fun z_ => ?_, fun z_ => ?_, fun z_ => ?_⟩; all_goals (first | (exfalso; omega) | exact ⟨fun _ => hi0_, fun _ => rfl⟩ | exact ⟨fun z_ => absurd z_ (by omega), fun q_ => absurd q_ hn0_⟩)) d_T_is_57
      · skip
        exact absurd hc_49 (by decide)
  by_cases hs_14_1 : a0_ = 1
  · refine zr_tabIn (c := 1) (off := 44) (tgt := 58) ⟨by decide, by decide⟩ hs_14_1 (by decide) (by decide) rfl (by decide) d_T_is_14 ?_
    refine zw_aload_n (pc := 58) (n := 2) (x := (d_ + 23)) rfl d_T_is_58 ?_
    refine zw_iconst (pc := 59) (v := Int32.ofInt 0) (by decide) d_T_is_59 ?_
    refine zw_iconst (pc := 60) (v := Int32.ofInt 1) (by decide) d_T_is_60 ?_
    refine zk_callV hf_N1_.x (pc := 61) [.int (Int32.ofInt 0), .int (Int32.ofInt 1)] [] l_T_273 (u_Sums_marksAreS l d_ N1_ (hf_N1_.w hW) 0 (by decide) (by decide) 1 (by decide) (by decide) F_ K_ hA_ c3_) rfl rfl ((hf_N1_.w hW).kr (o := 23) (by decide)) (by decide) (by decide) (Nat.le_of_ble_eq_true rfl) d_T_is_61 ?_
    rintro _ N7_ ⟨v8_, rfl, ⟨hv8_a, hv8_b⟩, hsN7_, hp0_N7_⟩
    obtain rfl := hsN7_.eq.symm
    replace hp0_N7_ : ((v8_ = 1 ∧ (∀ k : Nat, k < F_ → zg N1_ (d_ + 27) k = 0 ∨ zg N1_ (d_ + 27) k = 1)) ∨ (v8_ = 0 ∧ ¬ (∀ k : Nat, k < F_ → zg N1_ (d_ + 27) k = 0 ∨ zg N1_ (d_ + 27) k = 1))) := hp0_N7_
    rcases hp0_N7_ with ⟨rfl, ha61_0_hp0_N7_⟩ | ⟨rfl, ha61_0_hp0_N7_⟩
    · skip
      have hi1_ : (∀ k_, k_ < F_ → zmq F_ K_ s_.1 k_ = 0 ∨ zmq F_ K_ s_.1 k_ = 1) := fun k_ hk_ => by rw [← hmj_ k_ hk_]; exact ha61_0_hp0_N7_ k_ hk_
      show zW l m_T_is (zn Mz + 0, zw Mz + 0) N1_ 64 [some (.ref 0), some (.int (Int32.ofInt a0_)), some (.ref (d_ + 23))] [.int (Int32.ofInt 1)] (zqcI d_ [] [] [] [27] Mz (fun v N => ((((0 ≤ a0_ ∧ a0_ ≤ 3) ∧ zfIs F_ K_ s_.1 a0_ v) ∨ (¬ (0 ≤ a0_ ∧ a0_ ≤ 3) ∧ v = (-1 : Int))))))
      refine zr_if_eq (pc := 64) (tgt := 71) ⟨(by decide), (by decide)⟩ (by decide) d_T_is_64 (fun hc_64 => ?_) (fun hc_64 => ?_)
      · skip
        exact absurd hc_64 (by decide)
      · skip
        refine zw_iconst (pc := 67) (v := Int32.ofInt 1) (by decide) d_T_is_67 ?_
        refine zw_goto (pc := 68) (tgt := 72) (by decide) d_T_is_68 ?_
        exact zk_iret (pc := 72) (ty := .int) rfl rfl ⟨by omega, by omega⟩ hf_N1_ (show (((0 ≤ a0_ ∧ a0_ ≤ 3) ∧ zfIs F_ K_ s_.1 a0_ 1) ∨ (¬ (0 ≤ a0_ ∧ a0_ ≤ 3) ∧ 1 = (-1 : Int))) by refine Or.inl ⟨by omega, by omega, fun z_ => ?_, fun z_ => ?_, fun z_ => ?_, fun z_ => ?_⟩; all_goals (first | (exfalso; omega) | exact ⟨fun _ => hi1_, fun _ => rfl⟩ | exact ⟨fun z_ => absurd z_ (by omega), fun q_ => absurd q_ hn1_⟩)) d_T_is_72
    · skip
      have hn1_ : ¬ (∀ k_, k_ < F_ → zmq F_ K_ s_.1 k_ = 0 ∨ zmq F_ K_ s_.1 k_ = 1) := fun q_ => ha61_0_hp0_N7_ (fun k_ hk_ => by rw [hmj_ k_ hk_]; exact q_ k_ hk_)
      show zW l m_T_is (zn Mz + 0, zw Mz + 0) N1_ 64 [some (.ref 0), some (.int (Int32.ofInt a0_)), some (.ref (d_ + 23))] [.int (Int32.ofInt 0)] (zqcI d_ [] [] [] [27] Mz (fun v N => ((((0 ≤ a0_ ∧ a0_ ≤ 3) ∧ zfIs F_ K_ s_.1 a0_ v) ∨ (¬ (0 ≤ a0_ ∧ a0_ ≤ 3) ∧ v = (-1 : Int))))))
      refine zr_if_eq (pc := 64) (tgt := 71) ⟨(by decide), (by decide)⟩ (by decide) d_T_is_64 (fun hc_64 => ?_) (fun hc_64 => ?_)
      · skip
        refine zw_iconst (pc := 71) (v := Int32.ofInt 0) (by decide) d_T_is_71 ?_
        exact zk_iret (pc := 72) (ty := .int) rfl rfl ⟨by omega, by omega⟩ hf_N1_ (show (((0 ≤ a0_ ∧ a0_ ≤ 3) ∧ zfIs F_ K_ s_.1 a0_ 0) ∨ (¬ (0 ≤ a0_ ∧ a0_ ≤ 3) ∧ 0 = (-1 : Int))) by refine Or.inl ⟨by omega, by omega, fun z_ => ?_, fun z_ => ?_, fun z_ => ?_, fun z_ => ?_⟩; all_goals (first | (exfalso; omega) | exact ⟨fun _ => hi1_, fun _ => rfl⟩ | exact ⟨fun z_ => absurd z_ (by omega), fun q_ => absurd q_ hn1_⟩)) d_T_is_72
      · skip
        exact absurd hc_64 (by decide)
  by_cases hs_14_2 : a0_ = 2
  · refine zr_tabIn (c := 2) (off := 59) (tgt := 73) ⟨by decide, by decide⟩ hs_14_2 (by decide) (by decide) rfl (by decide) d_T_is_14 ?_
    refine zw_aload_n (pc := 73) (n := 2) (x := (d_ + 23)) rfl d_T_is_73 ?_
    refine zw_iconst (pc := 74) (v := Int32.ofInt (-1)) (by decide) d_T_is_74 ?_
    refine zw_iconst (pc := 75) (v := Int32.ofInt 1) (by decide) d_T_is_75 ?_
    refine zk_callV hf_N1_.x (pc := 76) [.int (Int32.ofInt ((-1))), .int (Int32.ofInt 1)] [] l_T_273 (u_Sums_marksAreS l d_ N1_ (hf_N1_.w hW) ((-1)) (by decide) (by decide) 1 (by decide) (by decide) F_ K_ hA_ c3_) rfl rfl ((hf_N1_.w hW).kr (o := 23) (by decide)) (by decide) (by decide) (Nat.le_of_ble_eq_true rfl) d_T_is_76 ?_
    rintro _ N9_ ⟨v10_, rfl, ⟨hv10_a, hv10_b⟩, hsN9_, hp0_N9_⟩
    obtain rfl := hsN9_.eq.symm
    replace hp0_N9_ : ((v10_ = 1 ∧ (∀ k : Nat, k < F_ → zg N1_ (d_ + 27) k = ((-1)) ∨ zg N1_ (d_ + 27) k = 1)) ∨ (v10_ = 0 ∧ ¬ (∀ k : Nat, k < F_ → zg N1_ (d_ + 27) k = ((-1)) ∨ zg N1_ (d_ + 27) k = 1))) := hp0_N9_
    rcases hp0_N9_ with ⟨rfl, ha76_0_hp0_N9_⟩ | ⟨rfl, ha76_0_hp0_N9_⟩
    · skip
      have hi2_ : (∀ k_, k_ < F_ → zmq F_ K_ s_.1 k_ = 1 ∨ zmq F_ K_ s_.1 k_ = -1) := fun k_ hk_ => by rw [← hmj_ k_ hk_]; exact (ha76_0_hp0_N9_ k_ hk_).symm
      show zW l m_T_is (zn Mz + 0, zw Mz + 0) N1_ 79 [some (.ref 0), some (.int (Int32.ofInt a0_)), some (.ref (d_ + 23))] [.int (Int32.ofInt 1)] (zqcI d_ [] [] [] [27] Mz (fun v N => ((((0 ≤ a0_ ∧ a0_ ≤ 3) ∧ zfIs F_ K_ s_.1 a0_ v) ∨ (¬ (0 ≤ a0_ ∧ a0_ ≤ 3) ∧ v = (-1 : Int))))))
      refine zr_if_eq (pc := 79) (tgt := 86) ⟨(by decide), (by decide)⟩ (by decide) d_T_is_79 (fun hc_79 => ?_) (fun hc_79 => ?_)
      · skip
        exact absurd hc_79 (by decide)
      · skip
        refine zw_iconst (pc := 82) (v := Int32.ofInt 1) (by decide) d_T_is_82 ?_
        refine zw_goto (pc := 83) (tgt := 87) (by decide) d_T_is_83 ?_
        exact zk_iret (pc := 87) (ty := .int) rfl rfl ⟨by omega, by omega⟩ hf_N1_ (show (((0 ≤ a0_ ∧ a0_ ≤ 3) ∧ zfIs F_ K_ s_.1 a0_ 1) ∨ (¬ (0 ≤ a0_ ∧ a0_ ≤ 3) ∧ 1 = (-1 : Int))) by refine Or.inl ⟨by omega, by omega, fun z_ => ?_, fun z_ => ?_, fun z_ => ?_, fun z_ => ?_⟩; all_goals (first | (exfalso; omega) | exact ⟨fun _ => hi2_, fun _ => rfl⟩ | exact ⟨fun z_ => absurd z_ (by omega), fun q_ => absurd q_ hn2_⟩)) d_T_is_87
    · skip
      have hn2_ : ¬ (∀ k_, k_ < F_ → zmq F_ K_ s_.1 k_ = 1 ∨ zmq F_ K_ s_.1 k_ = -1) := fun q_ => ha76_0_hp0_N9_ (fun k_ hk_ => by rw [hmj_ k_ hk_]; exact (q_ k_ hk_).symm)
      show zW l m_T_is (zn Mz + 0, zw Mz + 0) N1_ 79 [some (.ref 0), some (.int (Int32.ofInt a0_)), some (.ref (d_ + 23))] [.int (Int32.ofInt 0)] (zqcI d_ [] [] [] [27] Mz (fun v N => ((((0 ≤ a0_ ∧ a0_ ≤ 3) ∧ zfIs F_ K_ s_.1 a0_ v) ∨ (¬ (0 ≤ a0_ ∧ a0_ ≤ 3) ∧ v = (-1 : Int))))))
      refine zr_if_eq (pc := 79) (tgt := 86) ⟨(by decide), (by decide)⟩ (by decide) d_T_is_79 (fun hc_79 => ?_) (fun hc_79 => ?_)
      · skip
        refine zw_iconst (pc := 86) (v := Int32.ofInt 0) (by decide) d_T_is_86 ?_
        exact zk_iret (pc := 87) (ty := .int) rfl rfl ⟨by omega, by omega⟩ hf_N1_ (show (((0 ≤ a0_ ∧ a0_ ≤ 3) ∧ zfIs F_ K_ s_.1 a0_ 0) ∨ (¬ (0 ≤ a0_ ∧ a0_ ≤ 3) ∧ 0 = (-1 : Int))) by refine Or.inl ⟨by omega, by omega, fun z_ => ?_, fun z_ => ?_, fun z_ => ?_, fun z_ => ?_⟩; all_goals (first | (exfalso; omega) | exact ⟨fun _ => hi2_, fun _ => rfl⟩ | exact ⟨fun z_ => absurd z_ (by omega), fun q_ => absurd q_ hn2_⟩)) d_T_is_87
      · skip
        exact absurd hc_79 (by decide)
  by_cases hs_14_3 : a0_ = 3
  · refine zr_tabIn (c := 3) (off := 74) (tgt := 88) ⟨by decide, by decide⟩ hs_14_3 (by decide) (by decide) rfl (by decide) d_T_is_14 ?_
    refine zw_aload_n (pc := 88) (n := 2) (x := (d_ + 23)) rfl d_T_is_88 ?_
    refine zk_callV hf_N1_.x (pc := 89) [] [] l_T_277 (u_Sums_hasMarkNoughtS l d_ N1_ (hf_N1_.w hW) F_ K_ hA_ c3_) rfl rfl ((hf_N1_.w hW).kr (o := 23) (by decide)) (by decide) (by decide) (Nat.le_of_ble_eq_true rfl) d_T_is_89 ?_
    rintro _ N11_ ⟨v12_, rfl, ⟨hv12_a, hv12_b⟩, hsN11_, hp0_N11_⟩
    obtain rfl := hsN11_.eq.symm
    replace hp0_N11_ : ((v12_ = 1 ∧ (∃ k : Nat, k < F_ ∧ zg N1_ (d_ + 27) k = 0)) ∨ (v12_ = 0 ∧ ¬ (∃ k : Nat, k < F_ ∧ zg N1_ (d_ + 27) k = 0))) := hp0_N11_
    rcases hp0_N11_ with ⟨rfl, ha89_0_hp0_N11_⟩ | ⟨rfl, ha89_0_hp0_N11_⟩
    · skip
      have hi3_ : (∃ k_, k_ < F_ ∧ zmq F_ K_ s_.1 k_ = 0) := by obtain ⟨k_, q1_, q2_⟩ := ha89_0_hp0_N11_; exact ⟨k_, q1_, by rw [← hmj_ k_ q1_]; exact q2_⟩
      show zW l m_T_is (zn Mz + 0, zw Mz + 0) N1_ 92 [some (.ref 0), some (.int (Int32.ofInt a0_)), some (.ref (d_ + 23))] [.int (Int32.ofInt 1)] (zqcI d_ [] [] [] [27] Mz (fun v N => ((((0 ≤ a0_ ∧ a0_ ≤ 3) ∧ zfIs F_ K_ s_.1 a0_ v) ∨ (¬ (0 ≤ a0_ ∧ a0_ ≤ 3) ∧ v = (-1 : Int))))))
      refine zr_if_eq (pc := 92) (tgt := 99) ⟨(by decide), (by decide)⟩ (by decide) d_T_is_92 (fun hc_92 => ?_) (fun hc_92 => ?_)
      · skip
        exact absurd hc_92 (by decide)
      · skip
        refine zw_iconst (pc := 95) (v := Int32.ofInt 1) (by decide) d_T_is_95 ?_
        refine zw_goto (pc := 96) (tgt := 100) (by decide) d_T_is_96 ?_
        exact zk_iret (pc := 100) (ty := .int) rfl rfl ⟨by omega, by omega⟩ hf_N1_ (show (((0 ≤ a0_ ∧ a0_ ≤ 3) ∧ zfIs F_ K_ s_.1 a0_ 1) ∨ (¬ (0 ≤ a0_ ∧ a0_ ≤ 3) ∧ 1 = (-1 : Int))) by refine Or.inl ⟨by omega, by omega, fun z_ => ?_, fun z_ => ?_, fun z_ => ?_, fun z_ => ?_⟩; all_goals (first | (exfalso; omega) | exact ⟨fun _ => hi3_, fun _ => rfl⟩ | exact ⟨fun z_ => absurd z_ (by omega), fun q_ => absurd q_ hn3_⟩)) d_T_is_100
    · skip
      have hn3_ : ¬ (∃ k_, k_ < F_ ∧ zmq F_ K_ s_.1 k_ = 0) := fun ⟨k_, q1_, q2_⟩ => ha89_0_hp0_N11_ ⟨k_, q1_, by rw [hmj_ k_ q1_]; exact q2_⟩
      show zW l m_T_is (zn Mz + 0, zw Mz + 0) N1_ 92 [some (.ref 0), some (.int (Int32.ofInt a0_)), some (.ref (d_ + 23))] [.int (Int32.ofInt 0)] (zqcI d_ [] [] [] [27] Mz (fun v N => ((((0 ≤ a0_ ∧ a0_ ≤ 3) ∧ zfIs F_ K_ s_.1 a0_ v) ∨ (¬ (0 ≤ a0_ ∧ a0_ ≤ 3) ∧ v = (-1 : Int))))))
      refine zr_if_eq (pc := 92) (tgt := 99) ⟨(by decide), (by decide)⟩ (by decide) d_T_is_92 (fun hc_92 => ?_) (fun hc_92 => ?_)
      · skip
        refine zw_iconst (pc := 99) (v := Int32.ofInt 0) (by decide) d_T_is_99 ?_
        exact zk_iret (pc := 100) (ty := .int) rfl rfl ⟨by omega, by omega⟩ hf_N1_ (show (((0 ≤ a0_ ∧ a0_ ≤ 3) ∧ zfIs F_ K_ s_.1 a0_ 0) ∨ (¬ (0 ≤ a0_ ∧ a0_ ≤ 3) ∧ 0 = (-1 : Int))) by refine Or.inl ⟨by omega, by omega, fun z_ => ?_, fun z_ => ?_, fun z_ => ?_, fun z_ => ?_⟩; all_goals (first | (exfalso; omega) | exact ⟨fun _ => hi3_, fun _ => rfl⟩ | exact ⟨fun z_ => absurd z_ (by omega), fun q_ => absurd q_ hn3_⟩)) d_T_is_100
      · skip
        exact absurd hc_92 (by decide)
  refine zr_tabOut (tgt := 101) ⟨ha0_a, ha0_b⟩ (by omega) (by decide) d_T_is_14 ?_
  refine zw_iconst (pc := 101) (v := Int32.ofInt (-1)) (by decide) d_T_is_101 ?_
  exact zk_iret (pc := 102) (ty := .int) rfl rfl ⟨by omega, by omega⟩ hf_N1_ (show (((0 ≤ a0_ ∧ a0_ ≤ 3) ∧ zfIs F_ K_ s_.1 a0_ ((-1))) ∨ (¬ (0 ≤ a0_ ∧ a0_ ≤ 3) ∧ ((-1)) = (-1 : Int))) by exact Or.inr ⟨by omega, rfl⟩) d_T_is_102
