/-! more of the base, 1 -/
set_option maxHeartbeats 4000000 in
theorem c_M_coset (l : Launch) (Mz : zMem) (hW : zMt Mz) (a0_ : Int) (ha0_a : -2147483648 ≤ a0_) (ha0_b : a0_ < 2147483648) (a1_ : Int) (ha1_a : -2147483648 ≤ a1_) (ha1_b : a1_ < 2147483648) (T : zGT) (hO : gOK T) (p0_ : zGB T Mz) : zC l m_M_coset 0 0 [.ref 81, .int (Int32.ofInt a0_), .int (Int32.ofInt a1_)] Mz (zpI [] [] Mz (fun v N => True)) := by
  refine zC_of (L0 := [some (.ref 81), some (.int (Int32.ofInt a0_)), some (.int (Int32.ofInt a1_))]) md_M_coset (Nat.le_of_ble_eq_true rfl) rfl ?_ zQ0
  have hf : zFr [] [] Mz Mz := zFr.rf
  have r_20 := ze_r Mz 81 20
  have r_26 := ze_r Mz 81 26
  have hG := hO.1
  have g24 := hG.2.1
  have g1 := hG.1
  have dv0 : zTab T Mz := p0_.1
  have dv1 : zB 85 144 0 5 Mz := p0_.2.1
  have dv2 : zJX T Mz := p0_.2.2.1
  have dv3 : zFirs T Mz := p0_.2.2.2.1
  have dv4 : zSSm T Mz := p0_.2.2.2.2.1
  have dv5 : zGD Mz := zGB.d hO p0_
  have gb := dv5.1
  have gn := dv0.1
  refine zw_aload_n (pc := 0) (n := 0) (x := 81) rfl d_M_coset_0 ?_
  refine zw_iload_n (pc := 1) (n := 1) (x := Int32.ofInt a0_) rfl d_M_coset_1 ?_
  refine zr_callV (hf.w hW) hf.x (pc := 2) [.int (Int32.ofInt a0_)] [] l_M_414 (c_M_isSort l Mz (hf.w hW) a0_ ha0_a ha0_b T hO p0_) rfl rfl rfl (by decide) (Nat.le_of_ble_eq_true rfl) d_M_coset_2 ?_
  rintro _ N1_ ⟨v2_, rfl, ⟨hv2_a, hv2_b⟩, hsN1_, hp0_N1_⟩
  obtain rfl := hsN1_.eq.symm
  replace hp0_N1_ : ((v2_ = 1 ∧ 0 ≤ a0_ ∧ a0_ < ze Mz 81 26) ∨ (v2_ = 0)) := hp0_N1_
  rcases hp0_N1_ with ⟨rfl, ha2_0_hp0_N1_, ha2_1_hp0_N1_⟩ | rfl
  · skip
    show zW l m_M_coset (zn Mz + 0, zw Mz + 0) Mz 5 [some (.ref 81), some (.int (Int32.ofInt a0_)), some (.int (Int32.ofInt a1_))] [.int (Int32.ofInt 1)] (zpI [] [] Mz (fun v N => True))
    refine zr_if_eq (pc := 5) (tgt := 30) ⟨(by decide), (by decide)⟩ (by decide) d_M_coset_5 (fun hc_5 => ?_) (fun hc_5 => ?_)
    · skip
      exact absurd hc_5 (by decide)
    · skip
      refine zw_aload_n (pc := 8) (n := 0) (x := 81) rfl d_M_coset_8 ?_
      refine zw_iload_n (pc := 9) (n := 2) (x := Int32.ofInt a1_) rfl d_M_coset_9 ?_
      refine zr_callV (hf.w hW) hf.x (pc := 10) [.int (Int32.ofInt a1_)] [] l_M_400 (c_M_isMember l Mz (hf.w hW) a1_ ha1_a ha1_b T hO p0_) rfl rfl rfl (by decide) (Nat.le_of_ble_eq_true rfl) d_M_coset_10 ?_
      rintro _ N3_ ⟨v4_, rfl, ⟨hv4_a, hv4_b⟩, hsN3_, hp0_N3_⟩
      obtain rfl := hsN3_.eq.symm
      replace hp0_N3_ : ((v4_ = 1 ∧ 0 ≤ a1_ ∧ a1_ < ze Mz 81 20) ∨ (v4_ = 0)) := hp0_N3_
      rcases hp0_N3_ with ⟨rfl, ha10_0_hp0_N3_, ha10_1_hp0_N3_⟩ | rfl
      · skip
        show zW l m_M_coset (zn Mz + 0, zw Mz + 0) Mz 13 [some (.ref 81), some (.int (Int32.ofInt a0_)), some (.int (Int32.ofInt a1_))] [.int (Int32.ofInt 1)] (zpI [] [] Mz (fun v N => True))
        refine zr_if_eq (pc := 13) (tgt := 30) ⟨(by decide), (by decide)⟩ (by decide) d_M_coset_13 (fun hc_13 => ?_) (fun hc_13 => ?_)
        · skip
          exact absurd hc_13 (by decide)
        · skip
          refine zw_aload_n (pc := 16) (n := 0) (x := 81) rfl d_M_coset_16 ?_
          refine zr_getF (r := 94) (hf.w hW) (pc := 17) f_M_53 rfl (zh_94 (hf.w hW)).1 d_M_coset_17 ?_
          refine zw_bipush (pc := 20) (v := Int32.ofInt 24) (by decide) d_M_coset_20 ?_
          refine zw_iload_n (pc := 22) (n := 1) (x := Int32.ofInt a0_) rfl d_M_coset_22 ?_
          refine zr_imul (pc := 23) d_M_coset_23 ?_
          refine zw_iload_n (pc := 24) (n := 2) (x := Int32.ofInt a1_) rfl d_M_coset_24 ?_
          refine zr_iadd (pc := 25) d_M_coset_25 ?_
          refine zr_ialdn (pc := 26) (zh_94 (hf.w hW)).2 (by decide) (by omega) (by omega) d_M_coset_26 (fun v5_ hv5_ hv5_a hv5_b => ?_)
          refine zw_goto (pc := 27) (tgt := 31) (by decide) d_M_coset_27 ?_
          exact zr_iret (pc := 31) (ty := .int) rfl rfl ⟨by omega, by omega⟩ hf trivial d_M_coset_31
      · skip
        show zW l m_M_coset (zn Mz + 0, zw Mz + 0) Mz 13 [some (.ref 81), some (.int (Int32.ofInt a0_)), some (.int (Int32.ofInt a1_))] [.int (Int32.ofInt 0)] (zpI [] [] Mz (fun v N => True))
        refine zr_if_eq (pc := 13) (tgt := 30) ⟨(by decide), (by decide)⟩ (by decide) d_M_coset_13 (fun hc_13 => ?_) (fun hc_13 => ?_)
        · skip
          refine zw_iconst (pc := 30) (v := Int32.ofInt (-1)) (by decide) d_M_coset_30 ?_
          exact zr_iret (pc := 31) (ty := .int) rfl rfl ⟨by omega, by omega⟩ hf trivial d_M_coset_31
        · skip
          exact absurd hc_13 (by decide)
  · skip
    show zW l m_M_coset (zn Mz + 0, zw Mz + 0) Mz 5 [some (.ref 81), some (.int (Int32.ofInt a0_)), some (.int (Int32.ofInt a1_))] [.int (Int32.ofInt 0)] (zpI [] [] Mz (fun v N => True))
    refine zr_if_eq (pc := 5) (tgt := 30) ⟨(by decide), (by decide)⟩ (by decide) d_M_coset_5 (fun hc_5 => ?_) (fun hc_5 => ?_)
    · skip
      refine zw_iconst (pc := 30) (v := Int32.ofInt (-1)) (by decide) d_M_coset_30 ?_
      exact zr_iret (pc := 31) (ty := .int) rfl rfl ⟨by omega, by omega⟩ hf trivial d_M_coset_31
    · skip
      exact absurd hc_5 (by decide)
