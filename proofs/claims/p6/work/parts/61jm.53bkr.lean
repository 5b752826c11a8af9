set_option maxHeartbeats 4000000 in
theorem u_Sorts_spannedSortG (l : Launch) (d_ : Nat) (Mz : zMem) (hW : zKW d_ Mz) (a0_ : Int) (ha0_a : -2147483648 ≤ a0_) (ha0_b : a0_ < 2147483648) (T_ : zGT) (hT_ : T_ ∈ gTabs) (hAs_ : gAs T_) (p0_ : zTt T_ d_ Mz) (p1_ : zSbK T_ d_ Mz) (p2_ : 0 ≤ a0_) (p3_ : (a0_).toNat < 2 ^ gN T_) : zC l m_Sorts_spannedSort 0 0 [.ref (d_ + 12), .int (Int32.ofInt a0_)] Mz (zqcI d_ [] [] [] [11] Mz (fun v N => (∃ R_ : Nat, gLC T_ (a0_).toNat R_ ∧ zSrt T_ R_ v))) := by
  refine zC_of (L0 := [some (.ref (d_ + 12)), some (.int (Int32.ofInt a0_))]) md_Sorts_spannedSort (Nat.le_of_ble_eq_true rfl) rfl ?_ zQ0
  have hf : zFc d_ [] [] [] [11] Mz Mz := zFc.rf
  have r_D12_6 := ze_r Mz (d_ + 12) 6
  have hO_ := gTabs_ok T_ hT_
  have hG_ := hO_.1
  have hn24_ := hG_.2.1
  have hn1_ := hG_.1
  refine zw_aload_n (pc := 0) (n := 0) (x := (d_ + 12)) rfl (zdal_p dlB_Sorts_spannedSort_13 (i := 0) rfl) ?_
  refine zw_getF (pc := 1) f_Sorts_20 rfl ((hf.w hW).kr (o := 12) (by decide)) ((hf.w hW).lr (o := 12) (s := 2) (r := 15) (by decide)) (zdal_p dlB_Sorts_spannedSort_13 (i := 1) rfl) ?_
  refine zw_aload_n (pc := 4) (n := 0) (x := (d_ + 12)) rfl (zdal_p dlB_Sorts_spannedSort_13 (i := 2) rfl) ?_
  refine zw_aload_n (pc := 5) (n := 0) (x := (d_ + 12)) rfl (zdal_p dlB_Sorts_spannedSort_13 (i := 3) rfl) ?_
  refine zw_getF (pc := 6) f_Sorts_32 rfl ((hf.w hW).kr (o := 12) (by decide)) ((hf.w hW).lr (o := 12) (s := 0) (r := 1) (by decide)) (zdal_p dlB_Sorts_spannedSort_13 (i := 4) rfl) ?_
  refine zw_iload_n (pc := 9) (n := 1) (x := Int32.ofInt a0_) rfl (zdal_p dlB_Sorts_spannedSort_13 (i := 5) rfl) ?_
  refine zk_callV hf.x (pc := 10) [.int (Int32.ofInt a0_)] [.ref (d_ + 12), .ref (d_ + 15)] l_Sorts_57 (u_Group_spanOf l d_ Mz (hf.w hW) a0_ ha0_a ha0_b T_ hT_ hAs_ p0_ (show 0 ≤ a0_ by first | with_reducible assumption | assumption | omega) (show (a0_).toNat < 2 ^ gN T_ by first | with_reducible assumption | assumption | omega)) rfl rfl ((hf.w hW).kr (o := 1) (by decide)) (by decide) (by decide) (Nat.le_of_ble_eq_true rfl) (zdal_p dlB_Sorts_spannedSort_13 (i := 6) rfl) ?_
  rintro _ N1_ ⟨v2_, rfl, ⟨hv2_a, hv2_b⟩, hsN1_, ⟨hp0_N1_, hp1_N1_, hp2_N1_⟩⟩
  have hf_N1_ : zFc d_ [] [] [] [11] Mz N1_ := hf.tr hsN1_ (by decide) (by decide) (by decide) (by decide)
  have eD12_6_N1_ : ze N1_ (d_ + 12) 6 = ze Mz (d_ + 12) 6 := hsN1_.e (by decide)
  have c3_ : zTt T_ d_ N1_ := zTt.fr (hf.w hW) hsN1_ p0_ (by decide)
  have c4_ : zSbK T_ d_ N1_ := zSbK.fr (hf.w hW) hsN1_ p1_ (by decide)
  show zW l m_Sorts_spannedSort (zn Mz + 0, zw Mz + 0) N1_ 13 [some (.ref (d_ + 12)), some (.int (Int32.ofInt a0_))] [.int (Int32.ofInt v2_), .ref (d_ + 12), .ref (d_ + 15)] _
  have hlc_ := hp0_N1_
  have hl0_ := hp1_N1_
  have hsb_ := c4_
  obtain ⟨⟨hm1_, hm35_⟩, hmm_, hms_, -⟩ := id hsb_.1
  refine zk_callV hf_N1_.x (pc := 13) [.int (Int32.ofInt v2_)] [.ref (d_ + 15)] l_Sorts_72 (u_Sorts_indexOf l d_ N1_ (hf_N1_.w hW) v2_ hv2_a hv2_b (show 0 ≤ ze N1_ (d_ + 12) 6 by first | with_reducible assumption | assumption | omega) (show ze N1_ (d_ + 12) 6 ≤ 35 by first | with_reducible assumption | assumption | omega)) rfl rfl ((hf_N1_.w hW).kr (o := 12) (by decide)) (by decide) (by decide) (Nat.le_of_ble_eq_true rfl) (zdal_p dlB_Sorts_spannedSort_13 (i := 7) rfl) ?_
  rintro _ N5_ ⟨v6_, rfl, ⟨hv6_a, hv6_b⟩, hsN5_, hp0_N5_⟩
  obtain rfl := hsN5_.eq.symm
  replace hp0_N5_ : ((v6_ = -1 ∧ (∀ i : Nat, (i : Int) < ze N1_ (d_ + 12) 6 → ze N1_ (d_ + 14) i ≠ v2_)) ∨ (0 ≤ v6_ ∧ v6_ < ze N1_ (d_ + 12) 6 ∧ ze N1_ (d_ + 14) (v6_).toNat = v2_)) := hp0_N5_
  rcases hp0_N5_ with ⟨rfl, ha13_0_hp0_N5_⟩ | ⟨ha13_0_hp0_N5_, ha13_1_hp0_N5_, ha13_2_hp0_N5_⟩
  · skip
    exact absurd (hO_.mem hlc_) (fun q_ => by obtain ⟨j_, hj1_, hj2_⟩ := hms_ _ q_; have hj3_ := (hmm_ j_ hj1_).1; exact ha13_0_hp0_N5_ j_ hj1_ (by unfold zRw at hj2_ hj3_; omega))
  · skip
    have hx0_ := ha13_0_hp0_N5_
    have hx1_ := ha13_1_hp0_N5_
    have hx2_ := ha13_2_hp0_N5_
    show zW l m_Sorts_spannedSort (zn Mz + 0, zw Mz + 0) N1_ 16 [some (.ref (d_ + 12)), some (.int (Int32.ofInt a0_))] [.int (Int32.ofInt v6_), .ref (d_ + 15)] _
    have hso_ := hsb_.2 (v6_).toNat (by omega)
    rw [hx2_] at hso_
    refine zk_at hf_N1_.x (pc := 16) l_Sorts_49 ((hf_N1_.w hW).kr (o := 15) (by decide)) ((hf_N1_.w hW).lr (o := 15) (s := 0) (r := 16) (by decide)) ((hf_N1_.w hW).rr (o := 16) (t := 1) (n := 35) (by decide)) (by decide) (by omega) (by omega) (by decide) (Nat.le_of_ble_eq_true rfl) (zdal_p dlB_Sorts_spannedSort_13 (i := 8) rfl) (fun v7_ hv7_ hv7_a hv7_b => ?_)
    rw [hf_N1_.r (by decide)] at hv7_
    have hv_ := hv7_
    exact zk_iret (pc := 19) (ty := .int) rfl rfl ⟨by omega, by omega⟩ hf_N1_ (show (∃ R_ : Nat, gLC T_ (a0_).toNat R_ ∧ zSrt T_ R_ v7_) by exact ⟨_, hlc_, by rw [hv_, ← hf_N1_.r (o := 16) (by decide)]; exact hso_⟩) (zdal_p dlB_Sorts_spannedSort_13 (i := 9) rfl)
