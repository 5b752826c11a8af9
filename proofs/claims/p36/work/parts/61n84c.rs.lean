set_option maxHeartbeats 4000000 in
theorem c_M_isBlankS (l : Launch) (Mz : zMem) (hW : zMt Mz) (a0_ : Int) (ha0_a : -2147483648 ≤ a0_) (ha0_b : a0_ < 2147483648) (b_ : Nat → Int) (n_ : Nat) (p0_ : zR82 b_ n_ Mz) (p1_ : a0_ = n_) (p2_ : 0 ≤ ze Mz 81 64) : zC l m_M_isBlank 0 0 [.ref 81, .int (Int32.ofInt a0_)] Mz (zpI [] [] Mz (fun v N => (((v = 1 ∧ ze Mz 81 64 < n_ ∧ zpB (b_ (ze Mz 81 64).toNat) = true) ∨ (v = 0 ∧ (n_ ≤ ze Mz 81 64 ∨ (ze Mz 81 64 < n_ ∧ zpB (b_ (ze Mz 81 64).toNat) = false))))))) := by
  refine zC_of (L0 := [some (.ref 81), some (.int (Int32.ofInt a0_))]) md_M_isBlank (Nat.le_of_ble_eq_true rfl) rfl ?_ zQ0
  have hf : zFr [] [] Mz Mz := zFr.rf
  have r_64 := ze_r Mz 81 64
  obtain ⟨hn7_, hB_, hb_⟩ := id p0_
  refine zw_aload_n (pc := 0) (n := 0) (x := 81) rfl d_M_isBlank_0 ?_
  refine zr_getI0 hf hW (pc := 1) (by decide) f_M_504 rfl d_M_isBlank_1 ?_
  refine zw_iload_n (pc := 4) (n := 1) (x := Int32.ofInt a0_) rfl d_M_isBlank_4 ?_
  refine zr_icmp_ge (pc := 5) (tgt := 40) ⟨(ze_r Mz 81 64).1, (ze_r Mz 81 64).2⟩ ⟨ha0_a, ha0_b⟩ (by decide) d_M_isBlank_5 (fun hc_5 => ?_) (fun hc_5 => ?_)
  · skip
    refine zw_iconst (pc := 40) (v := Int32.ofInt 0) (by decide) d_M_isBlank_40 ?_
    exact zr_iret (pc := 41) (ty := .boolean) rfl (z_narB (by omega)) ⟨by omega, by omega⟩ hf (show ((0 = 1 ∧ ze Mz 81 64 < n_ ∧ zpB (b_ (ze Mz 81 64).toNat) = true) ∨ (0 = 0 ∧ (n_ ≤ ze Mz 81 64 ∨ (ze Mz 81 64 < n_ ∧ zpB (b_ (ze Mz 81 64).toNat) = false)))) from Or.inr (⟨(show 0 = 0 by first | rfl | exact Or.inl (by omega) | exact Or.inr ⟨by omega, Bool.eq_false_iff.mpr (fun h_ => by have h2_ := zpB_t.mp h_; omega)⟩), (show (n_ ≤ ze Mz 81 64 ∨ (ze Mz 81 64 < n_ ∧ zpB (b_ (ze Mz 81 64).toNat) = false)) by first | rfl | exact Or.inl (by omega) | exact Or.inr ⟨by omega, Bool.eq_false_iff.mpr (fun h_ => by have h2_ := zpB_t.mp h_; omega)⟩)⟩)) d_M_isBlank_41
  · skip
    refine zw_aload_n (pc := 8) (n := 0) (x := 81) rfl d_M_isBlank_8 ?_
    refine zr_getF (r := 82) (hf.w hW) (pc := 9) f_M_7 rfl (zh_82 (hf.w hW)).1 d_M_isBlank_9 ?_
    refine zw_aload_n (pc := 12) (n := 0) (x := 81) rfl d_M_isBlank_12 ?_
    refine zr_getI0 hf hW (pc := 13) (by decide) f_M_504 rfl d_M_isBlank_13 ?_
    refine zr_ialdn (pc := 16) (zh_82 (hf.w hW)).2 (by decide) (by omega) (by omega) d_M_isBlank_16 (fun v1_ hv1_ hv1_a hv1_b => ?_)
    have hx_ := hv1_.trans (hb_ (ze Mz 81 64).toNat (by omega))
    refine zw_bipush (pc := 17) (v := Int32.ofInt 32) (by decide) d_M_isBlank_17 ?_
    refine zr_icmp_eq (pc := 19) (tgt := 36) ⟨hv1_a, hv1_b⟩ ⟨(by decide), (by decide)⟩ (by decide) d_M_isBlank_19 (fun hc_19 => ?_) (fun hc_19 => ?_)
    · skip
      refine zw_iconst (pc := 36) (v := Int32.ofInt 1) (by decide) d_M_isBlank_36 ?_
      refine zw_goto (pc := 37) (tgt := 41) (by decide) d_M_isBlank_37 ?_
      exact zr_iret (pc := 41) (ty := .boolean) rfl (z_narB (by omega)) ⟨by omega, by omega⟩ hf (show ((1 = 1 ∧ ze Mz 81 64 < n_ ∧ zpB (b_ (ze Mz 81 64).toNat) = true) ∨ (1 = 0 ∧ (n_ ≤ ze Mz 81 64 ∨ (ze Mz 81 64 < n_ ∧ zpB (b_ (ze Mz 81 64).toNat) = false)))) from Or.inl (⟨(show 1 = 1 by first | rfl | omega | exact zpB_t.mpr (by omega)), (show ze Mz 81 64 < n_ by first | rfl | omega | exact zpB_t.mpr (by omega)), (show zpB (b_ (ze Mz 81 64).toNat) = true by first | rfl | omega | exact zpB_t.mpr (by omega))⟩)) d_M_isBlank_41
    · skip
      refine zw_aload_n (pc := 22) (n := 0) (x := 81) rfl d_M_isBlank_22 ?_
      refine zr_getF (r := 82) (hf.w hW) (pc := 23) f_M_7 rfl (zh_82 (hf.w hW)).1 d_M_isBlank_23 ?_
      refine zw_aload_n (pc := 26) (n := 0) (x := 81) rfl d_M_isBlank_26 ?_
      refine zr_getI0 hf hW (pc := 27) (by decide) f_M_504 rfl d_M_isBlank_27 ?_
      refine zr_ialdn (pc := 30) (zh_82 (hf.w hW)).2 (by decide) (by omega) (by omega) d_M_isBlank_30 (fun v2_ hv2_ hv2_a hv2_b => ?_)
      have hy_ := hv2_.trans (hb_ (ze Mz 81 64).toNat (by omega))
      refine zw_bipush (pc := 31) (v := Int32.ofInt 10) (by decide) d_M_isBlank_31 ?_
      refine zr_icmp_ne (pc := 33) (tgt := 40) ⟨hv2_a, hv2_b⟩ ⟨(by decide), (by decide)⟩ (by decide) d_M_isBlank_33 (fun hc_33 => ?_) (fun hc_33 => ?_)
      · skip
        refine zw_iconst (pc := 40) (v := Int32.ofInt 0) (by decide) d_M_isBlank_40 ?_
        exact zr_iret (pc := 41) (ty := .boolean) rfl (z_narB (by omega)) ⟨by omega, by omega⟩ hf (show ((0 = 1 ∧ ze Mz 81 64 < n_ ∧ zpB (b_ (ze Mz 81 64).toNat) = true) ∨ (0 = 0 ∧ (n_ ≤ ze Mz 81 64 ∨ (ze Mz 81 64 < n_ ∧ zpB (b_ (ze Mz 81 64).toNat) = false)))) from Or.inr (⟨(show 0 = 0 by first | rfl | exact Or.inl (by omega) | exact Or.inr ⟨by omega, Bool.eq_false_iff.mpr (fun h_ => by have h2_ := zpB_t.mp h_; omega)⟩), (show (n_ ≤ ze Mz 81 64 ∨ (ze Mz 81 64 < n_ ∧ zpB (b_ (ze Mz 81 64).toNat) = false)) by first | rfl | exact Or.inl (by omega) | exact Or.inr ⟨by omega, Bool.eq_false_iff.mpr (fun h_ => by have h2_ := zpB_t.mp h_; omega)⟩)⟩)) d_M_isBlank_41
      · skip
        refine zw_iconst (pc := 36) (v := Int32.ofInt 1) (by decide) d_M_isBlank_36 ?_
        refine zw_goto (pc := 37) (tgt := 41) (by decide) d_M_isBlank_37 ?_
        exact zr_iret (pc := 41) (ty := .boolean) rfl (z_narB (by omega)) ⟨by omega, by omega⟩ hf (show ((1 = 1 ∧ ze Mz 81 64 < n_ ∧ zpB (b_ (ze Mz 81 64).toNat) = true) ∨ (1 = 0 ∧ (n_ ≤ ze Mz 81 64 ∨ (ze Mz 81 64 < n_ ∧ zpB (b_ (ze Mz 81 64).toNat) = false)))) from Or.inl (⟨(show 1 = 1 by first | rfl | omega | exact zpB_t.mpr (by omega)), (show ze Mz 81 64 < n_ by first | rfl | omega | exact zpB_t.mpr (by omega)), (show zpB (b_ (ze Mz 81 64).toNat) = true by first | rfl | omega | exact zpB_t.mpr (by omega))⟩)) d_M_isBlank_41
set_option maxHeartbeats 4000000 in
theorem c_M_readsNumberS (l : Launch) (Mz : zMem) (hW : zMt Mz) (a0_ : Int) (ha0_a : -2147483648 ≤ a0_) (ha0_b : a0_ < 2147483648) (T : zGT) (hO : gOK T) (b_ : Nat → Int) (n_ : Nat) (p0_ : zGB T Mz) (p1_ : zR82 b_ n_ Mz) (p2_ : a0_ = n_) (p3_ : 0 ≤ ze Mz 81 64) (p4_ : ze Mz 81 64 ≤ n_) (p5_ : 0 ≤ ze Mz 81 65) (p6_ : ze Mz 81 65 ≤ ((gF T).length : Int)) : zC l m_M_readsNumber 0 0 [.ref 81, .int (Int32.ofInt a0_)] Mz (zpI [64, 65] [99] Mz (fun v N => (((v = 1 ∧ ze Mz 81 65 < ((gF T).length : Int) ∧ ze N 81 65 = ze Mz 81 65 + 1 ∧ (∀ j : Nat, (j : Int) ≠ ze Mz 81 65 → zg N 99 j = zg Mz 99 j) ∧ zNs b_ n_ (ze Mz 81 64).toNat (zg N 99 (ze Mz 81 65).toNat) (ze N 81 64).toNat ∧ ze Mz 81 64 < ze N 81 64 ∧ ze N 81 64 ≤ n_ ∧ -999999 ≤ zg N 99 (ze Mz 81 65).toNat ∧ zg N 99 (ze Mz 81 65).toNat ≤ 999999) ∨ (v = 0 ∧ (ze Mz 81 65 = ((gF T).length : Int) ∨ ¬ ∃ v t, zNs b_ n_ (ze Mz 81 64).toNat v t)))))) := by
  refine zC_of (L0 := [some (.ref 81), some (.int (Int32.ofInt a0_)), none, none, none, none]) md_M_readsNumber (Nat.le_of_ble_eq_true rfl) rfl ?_ zQ0
  have hf : zFr [64, 65] [99] Mz Mz := zFr.rf
  have r_26 := ze_r Mz 81 26
  have r_64 := ze_r Mz 81 64
  have r_65 := ze_r Mz 81 65
  have hG := hO.1
  have g24 := hG.2.1
  have g1 := hG.1
  have dv0 : zTab T Mz := p0_.1
  have dv1 : zB 85 144 0 5 Mz := p0_.2.1
  have dv2 : zJX T Mz := p0_.2.2.1
  have dv3 : zFirs T Mz := p0_.2.2.2.1
  have dv4 : zSSm T Mz := p0_.2.2.2.2.1
  have dv5 : zGD Mz := zGB.d hO p0_
  have gb := dv5.1
  have gn := dv0.1
  have hfl_ := dv3.1
  obtain ⟨hn7_, hB_, hb_⟩ := id p1_
  refine zw_aload_n (pc := 0) (n := 0) (x := 81) rfl d_M_readsNumber_0 ?_
  refine zr_getI (hf.w hW) (pc := 1) f_M_504 rfl d_M_readsNumber_1 ?_
  refine zw_iload_n (pc := 4) (n := 1) (x := Int32.ofInt a0_) rfl d_M_readsNumber_4 ?_
  have j_27 : ∀ (u1_ : Int) (hu1_a : -2147483648 ≤ u1_) (hu1_b : u1_ < 2147483648) (hu1_z : u1_ = 0 ∨ u1_ = 1) (i2_ : (((u1_ : Int) = 1 ∧ ze Mz 81 64 < n_ ∧ b_ (ze Mz 81 64).toNat = 45) ∨ ((u1_ : Int) = 0 ∧ ¬ (ze Mz 81 64 < n_ ∧ b_ (ze Mz 81 64).toNat = 45)))), zW l m_M_readsNumber (zn Mz + 0, zw Mz + 0) Mz 27 [some (.ref 81), some (.int (Int32.ofInt a0_)), none, none, none, none] [.int (Int32.ofInt u1_)] (zpI [64, 65] [99] Mz (fun v N => (((v = 1 ∧ ze Mz 81 65 < ((gF T).length : Int) ∧ ze N 81 65 = ze Mz 81 65 + 1 ∧ (∀ j : Nat, (j : Int) ≠ ze Mz 81 65 → zg N 99 j = zg Mz 99 j) ∧ zNs b_ n_ (ze Mz 81 64).toNat (zg N 99 (ze Mz 81 65).toNat) (ze N 81 64).toNat ∧ ze Mz 81 64 < ze N 81 64 ∧ ze N 81 64 ≤ n_ ∧ -999999 ≤ zg N 99 (ze Mz 81 65).toNat ∧ zg N 99 (ze Mz 81 65).toNat ≤ 999999) ∨ (v = 0 ∧ (ze Mz 81 65 = ((gF T).length : Int) ∨ ¬ ∃ v t, zNs b_ n_ (ze Mz 81 64).toNat v t)))))) := by
    intro u1_ hu1_a hu1_b hu1_z i2_
    refine zw_istore_n (pc := 27) (i := 2) (L2 := [some (.ref 81), some (.int (Int32.ofInt a0_)), some (.int (Int32.ofInt u1_)), none, none, none]) rfl (by decide) rfl d_M_readsNumber_27 ?_
    have hsi_ : ((u1_ = 1 ∧ ze Mz 81 64 < n_ ∧ b_ (ze Mz 81 64).toNat = 45) ∨ (u1_ = 0 ∧ ¬ (ze Mz 81 64 < n_ ∧ b_ (ze Mz 81 64).toNat = 45))) := by assumption
    have hs_ : (((ze Mz 81 64).toNat < n_ ∧ b_ (ze Mz 81 64).toNat = 45 ∧ (ze Mz 81 64 + u1_).toNat = (ze Mz 81 64).toNat + 1) ∨ (¬ ((ze Mz 81 64).toNat < n_ ∧ b_ (ze Mz 81 64).toNat = 45) ∧ (ze Mz 81 64 + u1_).toNat = (ze Mz 81 64).toNat)) := by rcases hsi_ with q_ | q_; exact Or.inl ⟨by omega, q_.2.2, by omega⟩; exact Or.inr ⟨fun z_ => q_.2 ⟨by omega, z_.2⟩, by omega⟩
    refine zw_iload_n (pc := 28) (n := 2) (x := Int32.ofInt u1_) rfl d_M_readsNumber_28 ?_
    have j_42 : ∀ (N3_ : zMem) (hs4_ : zFr [64] [] Mz N3_) (i5_ : ze N3_ 81 64 = (ze Mz 81 64 + u1_)) (i6_ : (∀ j : Nat, zg N3_ 99 j = zg Mz 99 j)), zW l m_M_readsNumber (zn Mz + 0, zw Mz + 0) N3_ 42 [some (.ref 81), some (.int (Int32.ofInt a0_)), some (.int (Int32.ofInt u1_)), none, none, none] [] (zpI [64, 65] [99] Mz (fun v N => (((v = 1 ∧ ze Mz 81 65 < ((gF T).length : Int) ∧ ze N 81 65 = ze Mz 81 65 + 1 ∧ (∀ j : Nat, (j : Int) ≠ ze Mz 81 65 → zg N 99 j = zg Mz 99 j) ∧ zNs b_ n_ (ze Mz 81 64).toNat (zg N 99 (ze Mz 81 65).toNat) (ze N 81 64).toNat ∧ ze Mz 81 64 < ze N 81 64 ∧ ze N 81 64 ≤ n_ ∧ -999999 ≤ zg N 99 (ze Mz 81 65).toNat ∧ zg N 99 (ze Mz 81 65).toNat ≤ 999999) ∨ (v = 0 ∧ (ze Mz 81 65 = ((gF T).length : Int) ∨ ¬ ∃ v t, zNs b_ n_ (ze Mz 81 64).toNat v t)))))) := by
      intro N3_ hs4_ i5_ i6_
      have hf_N3_ : zFr [64, 65] [99] Mz N3_ := hf.tr hs4_ (by decide) (by decide)
      have e26_N3_ : ze N3_ 81 26 = ze Mz 81 26 := hs4_.e (by decide)
      have r64_N3_ := ze_r N3_ 81 64
      have e65_N3_ : ze N3_ 81 65 = ze Mz 81 65 := hs4_.e (by decide)
      have c7_ : zGB T N3_ := zGB.fr hs4_ p0_ (by decide) (by decide)
      have c8_ : zR82 b_ n_ N3_ := zR82.fr hs4_ p1_ (by decide) (by decide)
      have c9_ : zTab T N3_ := zTab.fr hs4_ dv0 (by decide) (by decide)
      have c10_ : zB 85 144 0 5 N3_ := zB.fr hs4_ dv1 (by decide) (by decide)
      have c11_ : zJX T N3_ := zJX.fr hs4_ dv2 (by decide) (by decide)
      have c12_ : zFirs T N3_ := zFirs.fr hs4_ dv3 (by decide) (by decide)
      have c13_ : zSSm T N3_ := zSSm.fr hs4_ dv4 (by decide) (by decide)
      have c14_ : zGD N3_ := zGD.fr hs4_ dv5 (by decide) (by decide)
      refine zw_lconst (pc := 42) (v := Int64.ofInt 0) (by decide) d_M_readsNumber_42 ?_
      refine zw_lstore_n (pc := 43) (i := 3) (L2 := [some (.ref 81), some (.int (Int32.ofInt a0_)), some (.int (Int32.ofInt u1_)), some (.long (Int64.ofInt 0)), none, none]) rfl (by decide) rfl d_M_readsNumber_43 ?_
      refine zw_iconst (pc := 44) (v := Int32.ofInt 0) (by decide) d_M_readsNumber_44 ?_
      refine zw_istore (pc := 45) (i := 5) (L2 := [some (.ref 81), some (.int (Int32.ofInt a0_)), some (.int (Int32.ofInt u1_)), some (.long (Int64.ofInt 0)), none, some (.int (Int32.ofInt 0))]) (by decide) rfl d_M_readsNumber_45 ?_
      have lp_47 : ∀ (n : Nat) (u15_ : Int) (hu15_a : -9223372036854775808 ≤ u15_) (hu15_b : u15_ < 9223372036854775808) (u16_ : Int) (hu16_a : -2147483648 ≤ u16_) (hu16_b : u16_ < 2147483648) (N17_ : zMem) (hs18_ : zFr [64] [] N3_ N17_) (i19_ : 0 ≤ u16_) (i20_ : u16_ ≤ 7) (i21_ : ze N17_ 81 64 = (ze Mz 81 64 + u1_) + u16_) (i22_ : ze N17_ 81 64 ≤ n_) (i23_ : (∀ i : Nat, (i : Int) < u16_ → zpD (b_ ((ze Mz 81 64 + u1_).toNat + i)) = true)) (i24_ : u15_ = zvl b_ (ze Mz 81 64 + u1_).toNat (u16_).toNat) (i25_ : zru zpD b_ n_ (ze N17_ 81 64).toNat = zru zpD b_ n_ (ze Mz 81 64 + u1_).toNat) (i26_ : (∀ j : Nat, zg N17_ 99 j = zg Mz 99 j)), (n_ - ze N17_ 81 64).toNat < n → zW l m_M_readsNumber (zn Mz + 0, zw Mz + 0) N17_ 47 [some (.ref 81), some (.int (Int32.ofInt a0_)), some (.int (Int32.ofInt u1_)), some (.long (Int64.ofInt u15_)), none, some (.int (Int32.ofInt u16_))] [] (zpI [64, 65] [99] Mz (fun v N => (((v = 1 ∧ ze Mz 81 65 < ((gF T).length : Int) ∧ ze N 81 65 = ze Mz 81 65 + 1 ∧ (∀ j : Nat, (j : Int) ≠ ze Mz 81 65 → zg N 99 j = zg Mz 99 j) ∧ zNs b_ n_ (ze Mz 81 64).toNat (zg N 99 (ze Mz 81 65).toNat) (ze N 81 64).toNat ∧ ze Mz 81 64 < ze N 81 64 ∧ ze N 81 64 ≤ n_ ∧ -999999 ≤ zg N 99 (ze Mz 81 65).toNat ∧ zg N 99 (ze Mz 81 65).toNat ≤ 999999) ∨ (v = 0 ∧ (ze Mz 81 65 = ((gF T).length : Int) ∨ ¬ ∃ v t, zNs b_ n_ (ze Mz 81 64).toNat v t)))))) := by
        intro n
        induction n with
        | zero =>
          intro u15_ hu15_a hu15_b u16_ hu16_a hu16_b N17_ hs18_ i19_ i20_ i21_ i22_ i23_ i24_ i25_ i26_ h0
          exact absurd h0 (Nat.not_lt_zero _)
        | succ n ih_47 =>
          intro u15_ hu15_a hu15_b u16_ hu16_a hu16_b N17_ hs18_ i19_ i20_ i21_ i22_ i23_ i24_ i25_ i26_ hlt_47
          have hf_N17_ : zFr [64, 65] [99] Mz N17_ := hf_N3_.tr hs18_ (by decide) (by decide)
          have e26_N17_ : ze N17_ 81 26 = ze N3_ 81 26 := hs18_.e (by decide)
          have r64_N17_ := ze_r N17_ 81 64
          have e65_N17_ : ze N17_ 81 65 = ze N3_ 81 65 := hs18_.e (by decide)
          have c27_ : zGB T N17_ := zGB.fr hs18_ c7_ (by decide) (by decide)
          have c28_ : zR82 b_ n_ N17_ := zR82.fr hs18_ c8_ (by decide) (by decide)
          have c29_ : zTab T N17_ := zTab.fr hs18_ c9_ (by decide) (by decide)
          have c30_ : zB 85 144 0 5 N17_ := zB.fr hs18_ c10_ (by decide) (by decide)
          have c31_ : zJX T N17_ := zJX.fr hs18_ c11_ (by decide) (by decide)
          have c32_ : zFirs T N17_ := zFirs.fr hs18_ c12_ (by decide) (by decide)
          have c33_ : zSSm T N17_ := zSSm.fr hs18_ c13_ (by decide) (by decide)
          have c34_ : zGD N17_ := zGD.fr hs18_ c14_ (by decide) (by decide)
          have hdi_ := (show (∀ i : Nat, (i : Int) < u16_ → zpD (b_ ((ze Mz 81 64 + u1_).toNat + i)) = true) by assumption)
          have hvi_ := (show u15_ = zvl b_ (ze Mz 81 64 + u1_).toNat (u16_).toNat by assumption)
          have hzi_ := (show zru zpD b_ n_ (ze N17_ 81 64).toNat = zru zpD b_ n_ (ze Mz 81 64 + u1_).toNat by assumption)
          have hvb_ := zvl_7 (b := b_) (s := (ze Mz 81 64 + u1_).toNat) (k := (u16_).toNat) (by omega) (fun i_ hi_ => hdi_ i_ (by omega))
          have h99l_ := (show (∀ j : Nat, zg N17_ 99 j = zg Mz 99 j) by assumption)
          have j_114 : ∀ (i35_ : 0 ≤ u16_) (i36_ : u16_ ≤ 7) (i37_ : ze N17_ 81 64 = (ze Mz 81 64 + u1_) + u16_) (i38_ : ze N17_ 81 64 ≤ n_) (i39_ : (∀ i : Nat, (i : Int) < u16_ → zpD (b_ ((ze Mz 81 64 + u1_).toNat + i)) = true)) (i40_ : u15_ = zvl b_ (ze Mz 81 64 + u1_).toNat (u16_).toNat) (i41_ : zru zpD b_ n_ (ze N17_ 81 64).toNat = zru zpD b_ n_ (ze Mz 81 64 + u1_).toNat) (i42_ : (u16_ ≤ 6 → zru zpD b_ n_ (ze Mz 81 64 + u1_).toNat = (ze N17_ 81 64).toNat)) (i43_ : (∀ j : Nat, zg N17_ 99 j = zg Mz 99 j)), zW l m_M_readsNumber (zn Mz + 0, zw Mz + 0) N17_ 114 [some (.ref 81), some (.int (Int32.ofInt a0_)), some (.int (Int32.ofInt u1_)), some (.long (Int64.ofInt u15_)), none, some (.int (Int32.ofInt u16_))] [] (zpI [64, 65] [99] Mz (fun v N => (((v = 1 ∧ ze Mz 81 65 < ((gF T).length : Int) ∧ ze N 81 65 = ze Mz 81 65 + 1 ∧ (∀ j : Nat, (j : Int) ≠ ze Mz 81 65 → zg N 99 j = zg Mz 99 j) ∧ zNs b_ n_ (ze Mz 81 64).toNat (zg N 99 (ze Mz 81 65).toNat) (ze N 81 64).toNat ∧ ze Mz 81 64 < ze N 81 64 ∧ ze N 81 64 ≤ n_ ∧ -999999 ≤ zg N 99 (ze Mz 81 65).toNat ∧ zg N 99 (ze Mz 81 65).toNat ≤ 999999) ∨ (v = 0 ∧ (ze Mz 81 65 = ((gF T).length : Int) ∨ ¬ ∃ v t, zNs b_ n_ (ze Mz 81 64).toNat v t)))))) := by
            intro i35_ i36_ i37_ i38_ i39_ i40_ i41_ i42_ i43_
            have hvj_ := (show u15_ = zvl b_ (ze Mz 81 64 + u1_).toNat (u16_).toNat by assumption)
            have hej_ := (show (u16_ ≤ 6 → zru zpD b_ n_ (ze Mz 81 64 + u1_).toNat = (ze N17_ 81 64).toNat) by assumption)
            have hzj_ := (show zru zpD b_ n_ (ze N17_ 81 64).toNat = zru zpD b_ n_ (ze Mz 81 64 + u1_).toNat by assumption)
            have hdj_ := (show (∀ i : Nat, (i : Int) < u16_ → zpD (b_ ((ze Mz 81 64 + u1_).toNat + i)) = true) by assumption)
            have hge_ := zru_ge (P := zpD) (b := b_) (n := n_) (p := (ze N17_ 81 64).toNat)
            have h99_ := (show (∀ j : Nat, zg N17_ 99 j = zg Mz 99 j) by assumption)
            refine zw_iload (pc := 114) (i := 5) (x := Int32.ofInt u16_) rfl d_M_readsNumber_114 ?_
            refine zr_if_eq (pc := 116) (tgt := 137) ⟨hu16_a, hu16_b⟩ (by decide) d_M_readsNumber_116 (fun hc_116 => ?_) (fun hc_116 => ?_)
            · skip
              refine zw_iconst (pc := 137) (v := Int32.ofInt 0) (by decide) d_M_readsNumber_137 ?_
              exact zr_iret (pc := 138) (ty := .boolean) rfl (z_narB (by omega)) ⟨by omega, by omega⟩ hf_N17_ (show ((0 = 1 ∧ ze Mz 81 65 < ((gF T).length : Int) ∧ ze N17_ 81 65 = ze Mz 81 65 + 1 ∧ (∀ j : Nat, (j : Int) ≠ ze Mz 81 65 → zg N17_ 99 j = zg Mz 99 j) ∧ zNs b_ n_ (ze Mz 81 64).toNat (zg N17_ 99 (ze Mz 81 65).toNat) (ze N17_ 81 64).toNat ∧ ze Mz 81 64 < ze N17_ 81 64 ∧ ze N17_ 81 64 ≤ n_ ∧ -999999 ≤ zg N17_ 99 (ze Mz 81 65).toNat ∧ zg N17_ 99 (ze Mz 81 65).toNat ≤ 999999) ∨ (0 = 0 ∧ (ze Mz 81 65 = ((gF T).length : Int) ∨ ¬ ∃ v t, zNs b_ n_ (ze Mz 81 64).toNat v t))) from Or.inr (⟨(show 0 = 0 by first | rfl | exact Or.inl (by omega) | exact Or.inr (zNs_n2 hs_ hzj_ (by omega)) | exact Or.inr (zNs_n2 hs_ rfl (by rw [← hzj_]; omega))), (show (ze Mz 81 65 = ((gF T).length : Int) ∨ ¬ ∃ v t, zNs b_ n_ (ze Mz 81 64).toNat v t) by first | rfl | exact Or.inl (by omega) | exact Or.inr (zNs_n2 hs_ hzj_ (by omega)) | exact Or.inr (zNs_n2 hs_ rfl (by rw [← hzj_]; omega)))⟩)) d_M_readsNumber_138
            · skip
              refine zw_iload (pc := 119) (i := 5) (x := Int32.ofInt u16_) rfl d_M_readsNumber_119 ?_
              refine zw_bipush (pc := 121) (v := Int32.ofInt 6) (by decide) d_M_readsNumber_121 ?_
              refine zr_icmp_gt (pc := 123) (tgt := 137) ⟨hu16_a, hu16_b⟩ ⟨(by decide), (by decide)⟩ (by decide) d_M_readsNumber_123 (fun hc_123 => ?_) (fun hc_123 => ?_)
              · skip
                refine zw_iconst (pc := 137) (v := Int32.ofInt 0) (by decide) d_M_readsNumber_137 ?_
                exact zr_iret (pc := 138) (ty := .boolean) rfl (z_narB (by omega)) ⟨by omega, by omega⟩ hf_N17_ (show ((0 = 1 ∧ ze Mz 81 65 < ((gF T).length : Int) ∧ ze N17_ 81 65 = ze Mz 81 65 + 1 ∧ (∀ j : Nat, (j : Int) ≠ ze Mz 81 65 → zg N17_ 99 j = zg Mz 99 j) ∧ zNs b_ n_ (ze Mz 81 64).toNat (zg N17_ 99 (ze Mz 81 65).toNat) (ze N17_ 81 64).toNat ∧ ze Mz 81 64 < ze N17_ 81 64 ∧ ze N17_ 81 64 ≤ n_ ∧ -999999 ≤ zg N17_ 99 (ze Mz 81 65).toNat ∧ zg N17_ 99 (ze Mz 81 65).toNat ≤ 999999) ∨ (0 = 0 ∧ (ze Mz 81 65 = ((gF T).length : Int) ∨ ¬ ∃ v t, zNs b_ n_ (ze Mz 81 64).toNat v t))) from Or.inr (⟨(show 0 = 0 by first | rfl | exact Or.inl (by omega) | exact Or.inr (zNs_n2 hs_ hzj_ (by omega)) | exact Or.inr (zNs_n2 hs_ rfl (by rw [← hzj_]; omega))), (show (ze Mz 81 65 = ((gF T).length : Int) ∨ ¬ ∃ v t, zNs b_ n_ (ze Mz 81 64).toNat v t) by first | rfl | exact Or.inl (by omega) | exact Or.inr (zNs_n2 hs_ hzj_ (by omega)) | exact Or.inr (zNs_n2 hs_ rfl (by rw [← hzj_]; omega)))⟩)) d_M_readsNumber_138
              · skip
                refine zw_aload_n (pc := 126) (n := 0) (x := 81) rfl d_M_readsNumber_126 ?_
                refine zr_getI (hf_N17_.w hW) (pc := 127) f_M_511 rfl d_M_readsNumber_127 ?_
                refine zw_aload_n (pc := 130) (n := 0) (x := 81) rfl d_M_readsNumber_130 ?_
                refine zr_getI0 hf_N17_ hW (pc := 131) (by decide) f_M_235 rfl d_M_readsNumber_131 ?_
                refine zr_icmp_ne (pc := 134) (tgt := 139) ⟨(ze_r N17_ 81 65).1, (ze_r N17_ 81 65).2⟩ ⟨(ze_r Mz 81 26).1, (ze_r Mz 81 26).2⟩ (by decide) d_M_readsNumber_134 (fun hc_134 => ?_) (fun hc_134 => ?_)
                · skip
                  refine zw_aload_n (pc := 139) (n := 0) (x := 81) rfl d_M_readsNumber_139 ?_
                  refine zr_getF (r := 99) (hf_N17_.w hW) (pc := 140) f_M_69 rfl (zh_99 (hf_N17_.w hW)).1 d_M_readsNumber_140 ?_
                  refine zw_aload_n (pc := 143) (n := 0) (x := 81) rfl d_M_readsNumber_143 ?_
                  refine zr_getI (hf_N17_.w hW) (pc := 144) f_M_511 rfl d_M_readsNumber_144 ?_
                  refine zw_iload_n (pc := 147) (n := 2) (x := Int32.ofInt u1_) rfl d_M_readsNumber_147 ?_
                  refine zr_if_eq (pc := 148) (tgt := 156) ⟨hu1_a, hu1_b⟩ (by decide) d_M_readsNumber_148 (fun hc_148 => ?_) (fun hc_148 => ?_)
                  · skip
                    refine zw_lload_n (pc := 156) (n := 3) (x := Int64.ofInt u15_) rfl d_M_readsNumber_156 ?_
                    refine zr_last (pc := 157) (zh_99 (hf_N17_.w hW)).2 (by decide) (by decide) (by omega) (by omega) d_M_readsNumber_157 (fun N44_ hN44_ hsN44_ => ?_)
                    have hf_N44_ : zFr [64, 65] [99] Mz N44_ := hf_N17_.tr hsN44_ (by decide) (by decide)
                    have e26_N44_ : ze N44_ 81 26 = ze N17_ 81 26 := hsN44_.e (by decide)
                    have e64_N44_ : ze N44_ 81 64 = ze N17_ 81 64 := hsN44_.e (by decide)
                    have e65_N44_ : ze N44_ 81 65 = ze N17_ 81 65 := hsN44_.e (by decide)
                    have c45_ : zGB T N44_ := zGB.fr hsN44_ c27_ (by decide) (by decide)
                    have c46_ : zR82 b_ n_ N44_ := zR82.fr hsN44_ c28_ (by decide) (by decide)
                    have c47_ : zTab T N44_ := zTab.fr hsN44_ c29_ (by decide) (by decide)
                    have c48_ : zB 85 144 0 5 N44_ := zB.fr hsN44_ c30_ (by decide) (by decide)
                    have c49_ : zJX T N44_ := zJX.fr hsN44_ c31_ (by decide) (by decide)
                    have c50_ : zFirs T N44_ := zFirs.fr hsN44_ c32_ (by decide) (by decide)
                    have c51_ : zSSm T N44_ := zSSm.fr hsN44_ c33_ (by decide) (by decide)
                    have c52_ : zGD N44_ := zGD.fr hsN44_ c34_ (by decide) (by decide)
                    have hq99_ : ∀ j_ : Nat, zg N17_ 99 j_ = zg Mz 99 j_ := fun j_ => h99_ j_
                    have hgt_ := zs_getJ hN44_ ⟨by omega, by omega⟩
                    have hot_ := fun (j_ : Nat) (hj_ : (j_ : Int) ≠ ze Mz 81 65) => (zs_othJ hN44_ (j := j_) (by omega)).trans (hq99_ j_)
                    refine zw_aload_n (pc := 158) (n := 0) (x := 81) rfl d_M_readsNumber_158 ?_
                    refine zw_dup (pc := 159) rfl d_M_readsNumber_159 ?_
                    refine zr_getI (hf_N44_.w hW) (pc := 160) f_M_511 rfl d_M_readsNumber_160 ?_
                    refine zw_iconst (pc := 163) (v := Int32.ofInt 1) (by decide) d_M_readsNumber_163 ?_
                    refine zr_iadd (pc := 164) d_M_readsNumber_164 ?_
                    refine zr_putI (hf_N44_.w hW) (pc := 165) f_M_511 rfl rfl ⟨by omega, by omega⟩ rfl rfl d_M_readsNumber_165 (fun N53_ hsN53_ hvN53_ => ?_)
                    have hf_N53_ : zFr [64, 65] [99] Mz N53_ := hf_N44_.tr hsN53_ (by decide) (by decide)
                    have e26_N53_ : ze N53_ 81 26 = ze N44_ 81 26 := hsN53_.e (by decide)
                    have e64_N53_ : ze N53_ 81 64 = ze N44_ 81 64 := hsN53_.e (by decide)
                    have r65_N53_ := ze_r N53_ 81 65
                    have c54_ : zGB T N53_ := zGB.fr hsN53_ c45_ (by decide) (by decide)
                    have c55_ : zR82 b_ n_ N53_ := zR82.fr hsN53_ c46_ (by decide) (by decide)
                    have c56_ : zTab T N53_ := zTab.fr hsN53_ c47_ (by decide) (by decide)
                    have c57_ : zB 85 144 0 5 N53_ := zB.fr hsN53_ c48_ (by decide) (by decide)
                    have c58_ : zJX T N53_ := zJX.fr hsN53_ c49_ (by decide) (by decide)
                    have c59_ : zFirs T N53_ := zFirs.fr hsN53_ c50_ (by decide) (by decide)
                    have c60_ : zSSm T N53_ := zSSm.fr hsN53_ c51_ (by decide) (by decide)
                    have c61_ : zGD N53_ := zGD.fr hsN53_ c52_ (by decide) (by decide)
                    have hgu_ : zg N53_ 99 (ze Mz 81 65).toNat = _ := ((hsN53_).jg (by decide) (by decide) _).trans ((congrArg (fun x_ => zg N44_ 99 x_) (show (ze Mz 81 65).toNat = (ze N17_ 81 65).toNat by omega)).trans hgt_)
                    have hou_ : ∀ j_ : Nat, (j_ : Int) ≠ ze Mz 81 65 → zg N53_ 99 j_ = zg Mz 99 j_ := fun j_ hj_ => ((hsN53_).jg (by decide) (by decide) j_).trans (hot_ j_ hj_)
                    have hte_ : (ze N53_ 81 64).toNat = zru zpD b_ n_ (ze Mz 81 64 + u1_).toNat := by rw [hej_ (by omega)]; omega
                    have htv_ : u15_ = zvl b_ (ze Mz 81 64 + u1_).toNat ((ze N53_ 81 64).toNat - (ze Mz 81 64 + u1_).toNat) := by rw [show (ze N53_ 81 64).toNat - (ze Mz 81 64 + u1_).toNat = (u16_).toNat by omega]; exact hvj_
                    have h6_ := zvl_6 hte_ (by omega) (by omega)
                    rw [← htv_] at h6_
                    have hns_ : zNs b_ n_ (ze Mz 81 64).toNat (zg N53_ 99 (ze Mz 81 65).toNat) (ze N53_ 81 64).toNat := ⟨_, hs_, hte_, by omega, by first | exact Or.inl ⟨by omega, by omega, by rw [hgu_, htv_]⟩ | exact Or.inr ⟨by omega, by rw [hgu_, htv_]⟩⟩
                    refine zw_iconst (pc := 168) (v := Int32.ofInt 1) (by decide) d_M_readsNumber_168 ?_
                    exact zr_iret (pc := 169) (ty := .boolean) rfl (z_narB (by omega)) ⟨by omega, by omega⟩ hf_N53_ (show ((1 = 1 ∧ ze Mz 81 65 < ((gF T).length : Int) ∧ ze N53_ 81 65 = ze Mz 81 65 + 1 ∧ (∀ j : Nat, (j : Int) ≠ ze Mz 81 65 → zg N53_ 99 j = zg Mz 99 j) ∧ zNs b_ n_ (ze Mz 81 64).toNat (zg N53_ 99 (ze Mz 81 65).toNat) (ze N53_ 81 64).toNat ∧ ze Mz 81 64 < ze N53_ 81 64 ∧ ze N53_ 81 64 ≤ n_ ∧ -999999 ≤ zg N53_ 99 (ze Mz 81 65).toNat ∧ zg N53_ 99 (ze Mz 81 65).toNat ≤ 999999) ∨ (1 = 0 ∧ (ze Mz 81 65 = ((gF T).length : Int) ∨ ¬ ∃ v t, zNs b_ n_ (ze Mz 81 64).toNat v t))) from Or.inl (⟨(show 1 = 1 by first | rfl | omega | exact hou_ | exact hns_ | (rw [hgu_]; omega)), (show ze Mz 81 65 < ((gF T).length : Int) by first | rfl | omega | exact hou_ | exact hns_ | (rw [hgu_]; omega)), (show ze N53_ 81 65 = ze Mz 81 65 + 1 by first | rfl | omega | exact hou_ | exact hns_ | (rw [hgu_]; omega)), (show (∀ j : Nat, (j : Int) ≠ ze Mz 81 65 → zg N53_ 99 j = zg Mz 99 j) by first | rfl | omega | exact hou_ | exact hns_ | (rw [hgu_]; omega)), (show zNs b_ n_ (ze Mz 81 64).toNat (zg N53_ 99 (ze Mz 81 65).toNat) (ze N53_ 81 64).toNat by first | rfl | omega | exact hou_ | exact hns_ | (rw [hgu_]; omega)), (show ze Mz 81 64 < ze N53_ 81 64 by first | rfl | omega | exact hou_ | exact hns_ | (rw [hgu_]; omega)), (show ze N53_ 81 64 ≤ n_ by first | rfl | omega | exact hou_ | exact hns_ | (rw [hgu_]; omega)), (show -999999 ≤ zg N53_ 99 (ze Mz 81 65).toNat ∧ zg N53_ 99 (ze Mz 81 65).toNat ≤ 999999 by first | rfl | omega | exact hou_ | exact hns_ | (rw [hgu_]; omega))⟩)) d_M_readsNumber_169
                  · skip
                    refine zw_lload_n (pc := 151) (n := 3) (x := Int64.ofInt u15_) rfl d_M_readsNumber_151 ?_
                    refine zr_lneg (pc := 152) d_M_readsNumber_152 ?_
                    refine zw_goto (pc := 153) (tgt := 157) (by decide) d_M_readsNumber_153 ?_
                    refine zr_last (pc := 157) (zh_99 (hf_N17_.w hW)).2 (by decide) (by decide) (by omega) (by omega) d_M_readsNumber_157 (fun N62_ hN62_ hsN62_ => ?_)
                    have hf_N62_ : zFr [64, 65] [99] Mz N62_ := hf_N17_.tr hsN62_ (by decide) (by decide)
                    have e26_N62_ : ze N62_ 81 26 = ze N17_ 81 26 := hsN62_.e (by decide)
                    have e64_N62_ : ze N62_ 81 64 = ze N17_ 81 64 := hsN62_.e (by decide)
                    have e65_N62_ : ze N62_ 81 65 = ze N17_ 81 65 := hsN62_.e (by decide)
                    have c63_ : zGB T N62_ := zGB.fr hsN62_ c27_ (by decide) (by decide)
                    have c64_ : zR82 b_ n_ N62_ := zR82.fr hsN62_ c28_ (by decide) (by decide)
                    have c65_ : zTab T N62_ := zTab.fr hsN62_ c29_ (by decide) (by decide)
                    have c66_ : zB 85 144 0 5 N62_ := zB.fr hsN62_ c30_ (by decide) (by decide)
                    have c67_ : zJX T N62_ := zJX.fr hsN62_ c31_ (by decide) (by decide)
                    have c68_ : zFirs T N62_ := zFirs.fr hsN62_ c32_ (by decide) (by decide)
                    have c69_ : zSSm T N62_ := zSSm.fr hsN62_ c33_ (by decide) (by decide)
                    have c70_ : zGD N62_ := zGD.fr hsN62_ c34_ (by decide) (by decide)
                    have hq99_ : ∀ j_ : Nat, zg N17_ 99 j_ = zg Mz 99 j_ := fun j_ => h99_ j_
                    have hgt_ := zs_getJ hN62_ ⟨by omega, by omega⟩
                    have hot_ := fun (j_ : Nat) (hj_ : (j_ : Int) ≠ ze Mz 81 65) => (zs_othJ hN62_ (j := j_) (by omega)).trans (hq99_ j_)
                    refine zw_aload_n (pc := 158) (n := 0) (x := 81) rfl d_M_readsNumber_158 ?_
                    refine zw_dup (pc := 159) rfl d_M_readsNumber_159 ?_
                    refine zr_getI (hf_N62_.w hW) (pc := 160) f_M_511 rfl d_M_readsNumber_160 ?_
                    refine zw_iconst (pc := 163) (v := Int32.ofInt 1) (by decide) d_M_readsNumber_163 ?_
                    refine zr_iadd (pc := 164) d_M_readsNumber_164 ?_
                    refine zr_putI (hf_N62_.w hW) (pc := 165) f_M_511 rfl rfl ⟨by omega, by omega⟩ rfl rfl d_M_readsNumber_165 (fun N71_ hsN71_ hvN71_ => ?_)
                    have hf_N71_ : zFr [64, 65] [99] Mz N71_ := hf_N62_.tr hsN71_ (by decide) (by decide)
                    have e26_N71_ : ze N71_ 81 26 = ze N62_ 81 26 := hsN71_.e (by decide)
                    have e64_N71_ : ze N71_ 81 64 = ze N62_ 81 64 := hsN71_.e (by decide)
                    have r65_N71_ := ze_r N71_ 81 65
                    have c72_ : zGB T N71_ := zGB.fr hsN71_ c63_ (by decide) (by decide)
                    have c73_ : zR82 b_ n_ N71_ := zR82.fr hsN71_ c64_ (by decide) (by decide)
                    have c74_ : zTab T N71_ := zTab.fr hsN71_ c65_ (by decide) (by decide)
                    have c75_ : zB 85 144 0 5 N71_ := zB.fr hsN71_ c66_ (by decide) (by decide)
                    have c76_ : zJX T N71_ := zJX.fr hsN71_ c67_ (by decide) (by decide)
                    have c77_ : zFirs T N71_ := zFirs.fr hsN71_ c68_ (by decide) (by decide)
                    have c78_ : zSSm T N71_ := zSSm.fr hsN71_ c69_ (by decide) (by decide)
                    have c79_ : zGD N71_ := zGD.fr hsN71_ c70_ (by decide) (by decide)
                    have hgu_ : zg N71_ 99 (ze Mz 81 65).toNat = _ := ((hsN71_).jg (by decide) (by decide) _).trans ((congrArg (fun x_ => zg N62_ 99 x_) (show (ze Mz 81 65).toNat = (ze N17_ 81 65).toNat by omega)).trans hgt_)
                    have hou_ : ∀ j_ : Nat, (j_ : Int) ≠ ze Mz 81 65 → zg N71_ 99 j_ = zg Mz 99 j_ := fun j_ hj_ => ((hsN71_).jg (by decide) (by decide) j_).trans (hot_ j_ hj_)
                    have hte_ : (ze N71_ 81 64).toNat = zru zpD b_ n_ (ze Mz 81 64 + u1_).toNat := by rw [hej_ (by omega)]; omega
                    have htv_ : u15_ = zvl b_ (ze Mz 81 64 + u1_).toNat ((ze N71_ 81 64).toNat - (ze Mz 81 64 + u1_).toNat) := by rw [show (ze N71_ 81 64).toNat - (ze Mz 81 64 + u1_).toNat = (u16_).toNat by omega]; exact hvj_
                    have h6_ := zvl_6 hte_ (by omega) (by omega)
                    rw [← htv_] at h6_
                    have hns_ : zNs b_ n_ (ze Mz 81 64).toNat (zg N71_ 99 (ze Mz 81 65).toNat) (ze N71_ 81 64).toNat := ⟨_, hs_, hte_, by omega, by first | exact Or.inl ⟨by omega, by omega, by rw [hgu_, htv_]⟩ | exact Or.inr ⟨by omega, by rw [hgu_, htv_]⟩⟩
                    refine zw_iconst (pc := 168) (v := Int32.ofInt 1) (by decide) d_M_readsNumber_168 ?_
                    exact zr_iret (pc := 169) (ty := .boolean) rfl (z_narB (by omega)) ⟨by omega, by omega⟩ hf_N71_ (show ((1 = 1 ∧ ze Mz 81 65 < ((gF T).length : Int) ∧ ze N71_ 81 65 = ze Mz 81 65 + 1 ∧ (∀ j : Nat, (j : Int) ≠ ze Mz 81 65 → zg N71_ 99 j = zg Mz 99 j) ∧ zNs b_ n_ (ze Mz 81 64).toNat (zg N71_ 99 (ze Mz 81 65).toNat) (ze N71_ 81 64).toNat ∧ ze Mz 81 64 < ze N71_ 81 64 ∧ ze N71_ 81 64 ≤ n_ ∧ -999999 ≤ zg N71_ 99 (ze Mz 81 65).toNat ∧ zg N71_ 99 (ze Mz 81 65).toNat ≤ 999999) ∨ (1 = 0 ∧ (ze Mz 81 65 = ((gF T).length : Int) ∨ ¬ ∃ v t, zNs b_ n_ (ze Mz 81 64).toNat v t))) from Or.inl (⟨(show 1 = 1 by first | rfl | omega | exact hou_ | exact hns_ | (rw [hgu_]; omega)), (show ze Mz 81 65 < ((gF T).length : Int) by first | rfl | omega | exact hou_ | exact hns_ | (rw [hgu_]; omega)), (show ze N71_ 81 65 = ze Mz 81 65 + 1 by first | rfl | omega | exact hou_ | exact hns_ | (rw [hgu_]; omega)), (show (∀ j : Nat, (j : Int) ≠ ze Mz 81 65 → zg N71_ 99 j = zg Mz 99 j) by first | rfl | omega | exact hou_ | exact hns_ | (rw [hgu_]; omega)), (show zNs b_ n_ (ze Mz 81 64).toNat (zg N71_ 99 (ze Mz 81 65).toNat) (ze N71_ 81 64).toNat by first | rfl | omega | exact hou_ | exact hns_ | (rw [hgu_]; omega)), (show ze Mz 81 64 < ze N71_ 81 64 by first | rfl | omega | exact hou_ | exact hns_ | (rw [hgu_]; omega)), (show ze N71_ 81 64 ≤ n_ by first | rfl | omega | exact hou_ | exact hns_ | (rw [hgu_]; omega)), (show -999999 ≤ zg N71_ 99 (ze Mz 81 65).toNat ∧ zg N71_ 99 (ze Mz 81 65).toNat ≤ 999999 by first | rfl | omega | exact hou_ | exact hns_ | (rw [hgu_]; omega))⟩)) d_M_readsNumber_169
                · skip
                  refine zw_iconst (pc := 137) (v := Int32.ofInt 0) (by decide) d_M_readsNumber_137 ?_
                  exact zr_iret (pc := 138) (ty := .boolean) rfl (z_narB (by omega)) ⟨by omega, by omega⟩ hf_N17_ (show ((0 = 1 ∧ ze Mz 81 65 < ((gF T).length : Int) ∧ ze N17_ 81 65 = ze Mz 81 65 + 1 ∧ (∀ j : Nat, (j : Int) ≠ ze Mz 81 65 → zg N17_ 99 j = zg Mz 99 j) ∧ zNs b_ n_ (ze Mz 81 64).toNat (zg N17_ 99 (ze Mz 81 65).toNat) (ze N17_ 81 64).toNat ∧ ze Mz 81 64 < ze N17_ 81 64 ∧ ze N17_ 81 64 ≤ n_ ∧ -999999 ≤ zg N17_ 99 (ze Mz 81 65).toNat ∧ zg N17_ 99 (ze Mz 81 65).toNat ≤ 999999) ∨ (0 = 0 ∧ (ze Mz 81 65 = ((gF T).length : Int) ∨ ¬ ∃ v t, zNs b_ n_ (ze Mz 81 64).toNat v t))) from Or.inr (⟨(show 0 = 0 by first | rfl | exact Or.inl (by omega) | exact Or.inr (zNs_n2 hs_ hzj_ (by omega)) | exact Or.inr (zNs_n2 hs_ rfl (by rw [← hzj_]; omega))), (show (ze Mz 81 65 = ((gF T).length : Int) ∨ ¬ ∃ v t, zNs b_ n_ (ze Mz 81 64).toNat v t) by first | rfl | exact Or.inl (by omega) | exact Or.inr (zNs_n2 hs_ hzj_ (by omega)) | exact Or.inr (zNs_n2 hs_ rfl (by rw [← hzj_]; omega)))⟩)) d_M_readsNumber_138
          refine zw_aload_n (pc := 47) (n := 0) (x := 81) rfl d_M_readsNumber_47 ?_
          refine zr_getI (hf_N17_.w hW) (pc := 48) f_M_504 rfl d_M_readsNumber_48 ?_
          refine zw_iload_n (pc := 51) (n := 1) (x := Int32.ofInt a0_) rfl d_M_readsNumber_51 ?_
          refine zr_icmp_ge (pc := 52) (tgt := 114) ⟨(ze_r N17_ 81 64).1, (ze_r N17_ 81 64).2⟩ ⟨ha0_a, ha0_b⟩ (by decide) d_M_readsNumber_52 (fun hc_52 => ?_) (fun hc_52 => ?_)
          · skip
            exact j_114 (show 0 ≤ u16_ by first | assumption | omega) (show u16_ ≤ 7 by first | assumption | omega) (show ze N17_ 81 64 = (ze Mz 81 64 + u1_) + u16_ by first | assumption | omega) (show ze N17_ 81 64 ≤ n_ by first | assumption | omega) (show (∀ i : Nat, (i : Int) < u16_ → zpD (b_ ((ze Mz 81 64 + u1_).toNat + i)) = true) by assumption) (show u15_ = zvl b_ (ze Mz 81 64 + u1_).toNat (u16_).toNat by assumption) (show zru zpD b_ n_ (ze N17_ 81 64).toNat = zru zpD b_ n_ (ze Mz 81 64 + u1_).toNat by assumption) (show (u16_ ≤ 6 → zru zpD b_ n_ (ze Mz 81 64 + u1_).toNat = (ze N17_ 81 64).toNat) by first | (intro h_; exfalso; omega) | (intro _; rw [← hzi_]; exact zru_f (fun q_ => by have h_ := q_.1; omega)) | (intro _; rw [← hzi_]; exact zru_f (fun q_ => by have h_ := zpD_t.mp q_.2; rw [← hy_] at h_; omega))) (show (∀ j : Nat, zg N17_ 99 j = zg Mz 99 j) by assumption)
          · skip
            refine zw_aload_n (pc := 55) (n := 0) (x := 81) rfl d_M_readsNumber_55 ?_
            refine zr_getF (r := 82) (hf_N17_.w hW) (pc := 56) f_M_7 rfl (zh_82 (hf_N17_.w hW)).1 d_M_readsNumber_56 ?_
            refine zw_aload_n (pc := 59) (n := 0) (x := 81) rfl d_M_readsNumber_59 ?_
            refine zr_getI (hf_N17_.w hW) (pc := 60) f_M_504 rfl d_M_readsNumber_60 ?_
            refine zr_ialdn (pc := 63) (zh_82 (hf_N17_.w hW)).2 (by decide) (by omega) (by omega) d_M_readsNumber_63 (fun v80_ hv80_ hv80_a hv80_b => ?_)
            rw [hf_N17_.ie (by decide) (by decide)] at hv80_
            have hy_ := hv80_.trans (hb_ (ze N17_ 81 64).toNat (by omega))
            refine zr_callS hf_N17_.x (pc := 64) [.int (Int32.ofInt v80_)] [] l_M_162 (c_M_isDigit l N17_ (hf_N17_.w hW) v80_ hv80_a hv80_b) rfl rfl (by decide) (Nat.le_of_ble_eq_true rfl) d_M_readsNumber_64 ?_
            rintro _ N81_ ⟨v82_, rfl, ⟨hv82_a, hv82_b⟩, hsN81_, hp0_N81_⟩
            obtain rfl := hsN81_.eq.symm
            replace hp0_N81_ : ((v82_ = 1 ∧ 48 ≤ v80_ ∧ v80_ ≤ 57) ∨ (v82_ = 0 ∧ (v80_ < 48 ∨ 57 < v80_))) := hp0_N81_
            rcases hp0_N81_ with ⟨rfl, ha64_0_hp0_N81_, ha64_1_hp0_N81_⟩ | ⟨rfl, ha64_0_hp0_N81_⟩
            · skip
              have hdg_ := ha64_0_hp0_N81_
              show zW l m_M_readsNumber (zn Mz + 0, zw Mz + 0) N17_ 67 [some (.ref 81), some (.int (Int32.ofInt a0_)), some (.int (Int32.ofInt u1_)), some (.long (Int64.ofInt u15_)), none, some (.int (Int32.ofInt u16_))] [.int (Int32.ofInt 1)] (zpI [64, 65] [99] Mz (fun v N => (((v = 1 ∧ ze Mz 81 65 < ((gF T).length : Int) ∧ ze N 81 65 = ze Mz 81 65 + 1 ∧ (∀ j : Nat, (j : Int) ≠ ze Mz 81 65 → zg N 99 j = zg Mz 99 j) ∧ zNs b_ n_ (ze Mz 81 64).toNat (zg N 99 (ze Mz 81 65).toNat) (ze N 81 64).toNat ∧ ze Mz 81 64 < ze N 81 64 ∧ ze N 81 64 ≤ n_ ∧ -999999 ≤ zg N 99 (ze Mz 81 65).toNat ∧ zg N 99 (ze Mz 81 65).toNat ≤ 999999) ∨ (v = 0 ∧ (ze Mz 81 65 = ((gF T).length : Int) ∨ ¬ ∃ v t, zNs b_ n_ (ze Mz 81 64).toNat v t))))))
              refine zr_if_eq (pc := 67) (tgt := 114) ⟨(by decide), (by decide)⟩ (by decide) d_M_readsNumber_67 (fun hc_67 => ?_) (fun hc_67 => ?_)
              · skip
                exact absurd hc_67 (by decide)
              · skip
                refine zw_iload (pc := 70) (i := 5) (x := Int32.ofInt u16_) rfl d_M_readsNumber_70 ?_
                refine zw_bipush (pc := 72) (v := Int32.ofInt 6) (by decide) d_M_readsNumber_72 ?_
                refine zr_icmp_gt (pc := 74) (tgt := 114) ⟨hu16_a, hu16_b⟩ ⟨(by decide), (by decide)⟩ (by decide) d_M_readsNumber_74 (fun hc_74 => ?_) (fun hc_74 => ?_)
                · skip
                  exact j_114 (show 0 ≤ u16_ by first | assumption | omega) (show u16_ ≤ 7 by first | assumption | omega) (show ze N17_ 81 64 = (ze Mz 81 64 + u1_) + u16_ by first | assumption | omega) (show ze N17_ 81 64 ≤ n_ by first | assumption | omega) (show (∀ i : Nat, (i : Int) < u16_ → zpD (b_ ((ze Mz 81 64 + u1_).toNat + i)) = true) by assumption) (show u15_ = zvl b_ (ze Mz 81 64 + u1_).toNat (u16_).toNat by assumption) (show zru zpD b_ n_ (ze N17_ 81 64).toNat = zru zpD b_ n_ (ze Mz 81 64 + u1_).toNat by assumption) (show (u16_ ≤ 6 → zru zpD b_ n_ (ze Mz 81 64 + u1_).toNat = (ze N17_ 81 64).toNat) by first | (intro h_; exfalso; omega) | (intro _; rw [← hzi_]; exact zru_f (fun q_ => by have h_ := q_.1; omega)) | (intro _; rw [← hzi_]; exact zru_f (fun q_ => by have h_ := zpD_t.mp q_.2; rw [← hy_] at h_; omega))) (show (∀ j : Nat, zg N17_ 99 j = zg Mz 99 j) by assumption)
                · skip
                  refine zr_ldc2 (pc := 77) (n := 10) (by decide) k_M_507 d_M_readsNumber_77 ?_
                  refine zw_lload_n (pc := 80) (n := 3) (x := Int64.ofInt u15_) rfl d_M_readsNumber_80 ?_
                  refine zr_lmul (pc := 81) d_M_readsNumber_81 ?_
                  refine zw_aload_n (pc := 82) (n := 0) (x := 81) rfl d_M_readsNumber_82 ?_
                  refine zr_getF (r := 82) (hf_N17_.w hW) (pc := 83) f_M_7 rfl (zh_82 (hf_N17_.w hW)).1 d_M_readsNumber_83 ?_
                  refine zw_aload_n (pc := 86) (n := 0) (x := 81) rfl d_M_readsNumber_86 ?_
                  refine zr_getI (hf_N17_.w hW) (pc := 87) f_M_504 rfl d_M_readsNumber_87 ?_
                  refine zr_ialdn (pc := 90) (zh_82 (hf_N17_.w hW)).2 (by decide) (by omega) (by omega) d_M_readsNumber_90 (fun v83_ hv83_ hv83_a hv83_b => ?_)
                  rw [hf_N17_.ie (by decide) (by decide)] at hv83_
                  have hz_ := hv83_.trans (hb_ (ze N17_ 81 64).toNat (by omega))
                  have hzb_ := hB_ (ze N17_ 81 64).toNat (by omega)
                  refine zr_i2l (pc := 91) ⟨hv83_a, hv83_b⟩ d_M_readsNumber_91 ?_
                  refine zr_ladd (pc := 92) d_M_readsNumber_92 ?_
                  refine zk_nmJ (fun v84_ hv84_ hv84_e => ?_)
                  obtain ⟨hv84_a, hv84_b⟩ := hv84_
                  have ha_ := z64q ⟨by omega, by omega⟩ ⟨by omega, by omega⟩ hv84_e
                  refine zr_ldc2 (pc := 93) (n := 48) (by decide) k_M_509 d_M_readsNumber_93 ?_
                  refine zr_lsub (pc := 96) d_M_readsNumber_96 ?_
                  refine zk_nmJ (fun v85_ hv85_ hv85_e => ?_)
                  obtain ⟨hv85_a, hv85_b⟩ := hv85_
                  have hc_ := z64q ⟨by omega, by omega⟩ ⟨by omega, by omega⟩ hv85_e
                  have hst_ := zdg_s (W := v85_) (show 0 ≤ (ze Mz 81 64 + u1_) by omega) (show 0 ≤ u16_ by omega) (show ze N17_ 81 64 = (ze Mz 81 64 + u1_) + u16_ by omega) (by omega) (by omega) hdi_ hvi_ hzi_ (by omega)
                  refine zw_lstore_n (pc := 97) (i := 3) (L2 := [some (.ref 81), some (.int (Int32.ofInt a0_)), some (.int (Int32.ofInt u1_)), some (.long (Int64.ofInt v85_)), none, some (.int (Int32.ofInt u16_))]) rfl (by decide) rfl d_M_readsNumber_97 ?_
                  refine zr_iinc (pc := 98) (i := 5) (a := u16_) (n := 1) (L2 := [some (.ref 81), some (.int (Int32.ofInt a0_)), some (.int (Int32.ofInt u1_)), some (.long (Int64.ofInt v85_)), none, some (.int (Int32.ofInt (u16_ + 1)))]) rfl (by decide) rfl d_M_readsNumber_98 ?_
                  refine zw_aload_n (pc := 101) (n := 0) (x := 81) rfl d_M_readsNumber_101 ?_
                  refine zw_dup (pc := 102) rfl d_M_readsNumber_102 ?_
                  refine zr_getI (hf_N17_.w hW) (pc := 103) f_M_504 rfl d_M_readsNumber_103 ?_
                  refine zw_iconst (pc := 106) (v := Int32.ofInt 1) (by decide) d_M_readsNumber_106 ?_
                  refine zr_iadd (pc := 107) d_M_readsNumber_107 ?_
                  refine zr_putI (hf_N17_.w hW) (pc := 108) f_M_504 rfl rfl ⟨by omega, by omega⟩ rfl rfl d_M_readsNumber_108 (fun N86_ hsN86_ hvN86_ => ?_)
                  have hf_N86_ : zFr [64, 65] [99] Mz N86_ := hf_N17_.tr hsN86_ (by decide) (by decide)
                  have hb0_N86_ : zFr [64] [] N3_ N86_ := hs18_.tr hsN86_ (by decide) (by decide)
                  have e26_N86_ : ze N86_ 81 26 = ze N17_ 81 26 := hsN86_.e (by decide)
                  have r64_N86_ := ze_r N86_ 81 64
                  have e65_N86_ : ze N86_ 81 65 = ze N17_ 81 65 := hsN86_.e (by decide)
                  have c87_ : zGB T N86_ := zGB.fr hsN86_ c27_ (by decide) (by decide)
                  have c88_ : zR82 b_ n_ N86_ := zR82.fr hsN86_ c28_ (by decide) (by decide)
                  have c89_ : zTab T N86_ := zTab.fr hsN86_ c29_ (by decide) (by decide)
                  have c90_ : zB 85 144 0 5 N86_ := zB.fr hsN86_ c30_ (by decide) (by decide)
                  have c91_ : zJX T N86_ := zJX.fr hsN86_ c31_ (by decide) (by decide)
                  have c92_ : zFirs T N86_ := zFirs.fr hsN86_ c32_ (by decide) (by decide)
                  have c93_ : zSSm T N86_ := zSSm.fr hsN86_ c33_ (by decide) (by decide)
                  have c94_ : zGD N86_ := zGD.fr hsN86_ c34_ (by decide) (by decide)
                  have hpe_ : ze N86_ 81 64 = ze N17_ 81 64 + 1 := by omega
                  refine zw_goto (pc := 111) (tgt := 47) (by decide) d_M_readsNumber_111 ?_
                  exact ih_47 v85_ hv85_a hv85_b (u16_ + 1) (by omega) (by omega) N86_ hb0_N86_ (show 0 ≤ (u16_ + 1) by first | assumption | omega) (show (u16_ + 1) ≤ 7 by first | assumption | omega) (show ze N86_ 81 64 = (ze Mz 81 64 + u1_) + (u16_ + 1) by first | assumption | omega) (show ze N86_ 81 64 ≤ n_ by first | assumption | omega) (show (∀ i : Nat, (i : Int) < (u16_ + 1) → zpD (b_ ((ze Mz 81 64 + u1_).toNat + i)) = true) by exact hst_.1) (show v85_ = zvl b_ (ze Mz 81 64 + u1_).toNat ((u16_ + 1)).toNat by exact hst_.2.1) (show zru zpD b_ n_ (ze N86_ 81 64).toNat = zru zpD b_ n_ (ze Mz 81 64 + u1_).toNat by rw [hpe_]; exact hst_.2.2) (show (∀ j : Nat, zg N86_ 99 j = zg Mz 99 j) by exact fun j_ => ((hsN86_).jg (by decide) (by decide) j_).trans (h99l_ j_)) (by omega)
            · skip
              have hnd_ := ha64_0_hp0_N81_
              show zW l m_M_readsNumber (zn Mz + 0, zw Mz + 0) N17_ 67 [some (.ref 81), some (.int (Int32.ofInt a0_)), some (.int (Int32.ofInt u1_)), some (.long (Int64.ofInt u15_)), none, some (.int (Int32.ofInt u16_))] [.int (Int32.ofInt 0)] (zpI [64, 65] [99] Mz (fun v N => (((v = 1 ∧ ze Mz 81 65 < ((gF T).length : Int) ∧ ze N 81 65 = ze Mz 81 65 + 1 ∧ (∀ j : Nat, (j : Int) ≠ ze Mz 81 65 → zg N 99 j = zg Mz 99 j) ∧ zNs b_ n_ (ze Mz 81 64).toNat (zg N 99 (ze Mz 81 65).toNat) (ze N 81 64).toNat ∧ ze Mz 81 64 < ze N 81 64 ∧ ze N 81 64 ≤ n_ ∧ -999999 ≤ zg N 99 (ze Mz 81 65).toNat ∧ zg N 99 (ze Mz 81 65).toNat ≤ 999999) ∨ (v = 0 ∧ (ze Mz 81 65 = ((gF T).length : Int) ∨ ¬ ∃ v t, zNs b_ n_ (ze Mz 81 64).toNat v t))))))
              refine zr_if_eq (pc := 67) (tgt := 114) ⟨(by decide), (by decide)⟩ (by decide) d_M_readsNumber_67 (fun hc_67 => ?_) (fun hc_67 => ?_)
              · skip
                exact j_114 (show 0 ≤ u16_ by first | assumption | omega) (show u16_ ≤ 7 by first | assumption | omega) (show ze N17_ 81 64 = (ze Mz 81 64 + u1_) + u16_ by first | assumption | omega) (show ze N17_ 81 64 ≤ n_ by first | assumption | omega) (show (∀ i : Nat, (i : Int) < u16_ → zpD (b_ ((ze Mz 81 64 + u1_).toNat + i)) = true) by assumption) (show u15_ = zvl b_ (ze Mz 81 64 + u1_).toNat (u16_).toNat by assumption) (show zru zpD b_ n_ (ze N17_ 81 64).toNat = zru zpD b_ n_ (ze Mz 81 64 + u1_).toNat by assumption) (show (u16_ ≤ 6 → zru zpD b_ n_ (ze Mz 81 64 + u1_).toNat = (ze N17_ 81 64).toNat) by first | (intro h_; exfalso; omega) | (intro _; rw [← hzi_]; exact zru_f (fun q_ => by have h_ := q_.1; omega)) | (intro _; rw [← hzi_]; exact zru_f (fun q_ => by have h_ := zpD_t.mp q_.2; rw [← hy_] at h_; omega))) (show (∀ j : Nat, zg N17_ 99 j = zg Mz 99 j) by assumption)
              · skip
                exact absurd hc_67 (by decide)
      exact lp_47 _ 0 (by decide) (by decide) 0 (by decide) (by decide) N3_ zFr.rf (show 0 ≤ (0 : Int) by first | assumption | omega) (show (0 : Int) ≤ 7 by first | assumption | omega) (show ze N3_ 81 64 = (ze Mz 81 64 + u1_) + (0 : Int) by first | assumption | omega) (show ze N3_ 81 64 ≤ n_ by first | assumption | omega) (show (∀ i : Nat, (i : Int) < (0 : Int) → zpD (b_ ((ze Mz 81 64 + u1_).toNat + i)) = true) by exact fun i_ hi_ => absurd hi_ (by omega)) (show (0 : Int) = zvl b_ (ze Mz 81 64 + u1_).toNat ((0 : Int)).toNat by rfl) (show zru zpD b_ n_ (ze N3_ 81 64).toNat = zru zpD b_ n_ (ze Mz 81 64 + u1_).toNat by rw [show (ze N3_ 81 64).toNat = (ze Mz 81 64 + u1_).toNat by omega]) (show (∀ j : Nat, zg N3_ 99 j = zg Mz 99 j) by assumption) (Nat.lt_succ_self _)
    refine zr_if_eq (pc := 29) (tgt := 42) ⟨hu1_a, hu1_b⟩ (by decide) d_M_readsNumber_29 (fun hc_29 => ?_) (fun hc_29 => ?_)
    · skip
      exact j_42 Mz zFr.rf (show ze Mz 81 64 = (ze Mz 81 64 + u1_) by first | assumption | omega) (show (∀ j : Nat, zg Mz 99 j = zg Mz 99 j) by first | exact fun j_ => rfl | exact fun j_ => (hsMz).jg (by decide) (by decide) j_)
    · skip
      refine zw_aload_n (pc := 32) (n := 0) (x := 81) rfl d_M_readsNumber_32 ?_
      refine zw_dup (pc := 33) rfl d_M_readsNumber_33 ?_
      refine zr_getI (hf.w hW) (pc := 34) f_M_504 rfl d_M_readsNumber_34 ?_
      refine zw_iconst (pc := 37) (v := Int32.ofInt 1) (by decide) d_M_readsNumber_37 ?_
      refine zr_iadd (pc := 38) d_M_readsNumber_38 ?_
      refine zr_putI (hf.w hW) (pc := 39) f_M_504 rfl rfl ⟨by omega, by omega⟩ rfl rfl d_M_readsNumber_39 (fun N95_ hsN95_ hvN95_ => ?_)
      have hf_N95_ : zFr [64, 65] [99] Mz N95_ := hf.tr hsN95_ (by decide) (by decide)
      have hb0_N95_ : zFr [64] [] Mz N95_ := zFr.rf.tr hsN95_ (by decide) (by decide)
      have e26_N95_ : ze N95_ 81 26 = ze Mz 81 26 := hsN95_.e (by decide)
      have r64_N95_ := ze_r N95_ 81 64
      have e65_N95_ : ze N95_ 81 65 = ze Mz 81 65 := hsN95_.e (by decide)
      have c96_ : zGB T N95_ := zGB.fr hsN95_ p0_ (by decide) (by decide)
      have c97_ : zR82 b_ n_ N95_ := zR82.fr hsN95_ p1_ (by decide) (by decide)
      have c98_ : zTab T N95_ := zTab.fr hsN95_ dv0 (by decide) (by decide)
      have c99_ : zB 85 144 0 5 N95_ := zB.fr hsN95_ dv1 (by decide) (by decide)
      have c100_ : zJX T N95_ := zJX.fr hsN95_ dv2 (by decide) (by decide)
      have c101_ : zFirs T N95_ := zFirs.fr hsN95_ dv3 (by decide) (by decide)
      have c102_ : zSSm T N95_ := zSSm.fr hsN95_ dv4 (by decide) (by decide)
      have c103_ : zGD N95_ := zGD.fr hsN95_ dv5 (by decide) (by decide)
      exact j_42 N95_ hb0_N95_ (show ze N95_ 81 64 = (ze Mz 81 64 + u1_) by first | assumption | omega) (show (∀ j : Nat, zg N95_ 99 j = zg Mz 99 j) by first | exact fun j_ => rfl | exact fun j_ => (hsN95_).jg (by decide) (by decide) j_)
  refine zr_icmp_ge (pc := 5) (tgt := 26) ⟨(ze_r Mz 81 64).1, (ze_r Mz 81 64).2⟩ ⟨ha0_a, ha0_b⟩ (by decide) d_M_readsNumber_5 (fun hc_5 => ?_) (fun hc_5 => ?_)
  · skip
    refine zw_iconst (pc := 26) (v := Int32.ofInt 0) (by decide) d_M_readsNumber_26 ?_
    exact j_27 0 (by decide) (by decide) (by omega) (show (((0 : Int) = 1 ∧ ze Mz 81 64 < n_ ∧ b_ (ze Mz 81 64).toNat = 45) ∨ ((0 : Int) = 0 ∧ ¬ (ze Mz 81 64 < n_ ∧ b_ (ze Mz 81 64).toNat = 45))) by first | assumption | omega)
  · skip
    refine zw_aload_n (pc := 8) (n := 0) (x := 81) rfl d_M_readsNumber_8 ?_
    refine zr_getF (r := 82) (hf.w hW) (pc := 9) f_M_7 rfl (zh_82 (hf.w hW)).1 d_M_readsNumber_9 ?_
    refine zw_aload_n (pc := 12) (n := 0) (x := 81) rfl d_M_readsNumber_12 ?_
    refine zr_getI (hf.w hW) (pc := 13) f_M_504 rfl d_M_readsNumber_13 ?_
    refine zr_ialdn (pc := 16) (zh_82 (hf.w hW)).2 (by decide) (by omega) (by omega) d_M_readsNumber_16 (fun v104_ hv104_ hv104_a hv104_b => ?_)
    have hx_ := hv104_.trans (hb_ (ze Mz 81 64).toNat (by omega))
    refine zw_bipush (pc := 17) (v := Int32.ofInt 45) (by decide) d_M_readsNumber_17 ?_
    refine zr_icmp_ne (pc := 19) (tgt := 26) ⟨hv104_a, hv104_b⟩ ⟨(by decide), (by decide)⟩ (by decide) d_M_readsNumber_19 (fun hc_19 => ?_) (fun hc_19 => ?_)
    · skip
      refine zw_iconst (pc := 26) (v := Int32.ofInt 0) (by decide) d_M_readsNumber_26 ?_
      exact j_27 0 (by decide) (by decide) (by omega) (show (((0 : Int) = 1 ∧ ze Mz 81 64 < n_ ∧ b_ (ze Mz 81 64).toNat = 45) ∨ ((0 : Int) = 0 ∧ ¬ (ze Mz 81 64 < n_ ∧ b_ (ze Mz 81 64).toNat = 45))) by first | assumption | omega)
    · skip
      refine zw_iconst (pc := 22) (v := Int32.ofInt 1) (by decide) d_M_readsNumber_22 ?_
      refine zw_goto (pc := 23) (tgt := 27) (by decide) d_M_readsNumber_23 ?_
      exact j_27 1 (by decide) (by decide) (by omega) (show (((1 : Int) = 1 ∧ ze Mz 81 64 < n_ ∧ b_ (ze Mz 81 64).toNat = 45) ∨ ((1 : Int) = 0 ∧ ¬ (ze Mz 81 64 < n_ ∧ b_ (ze Mz 81 64).toNat = 45))) by first | assumption | omega)
set_option maxHeartbeats 4000000 in
theorem c_M_readsMarksS (l : Launch) (Mz : zMem) (hW : zMt Mz) (a0_ : Int) (ha0_a : -2147483648 ≤ a0_) (ha0_b : a0_ < 2147483648) (T : zGT) (hO : gOK T) (b_ : Nat → Int) (n_ : Nat) (p0_ : zGB T Mz) (p1_ : zR82 b_ n_ Mz) (p2_ : a0_ = n_) : zC l m_M_readsMarks 0 0 [.ref 81, .int (Int32.ofInt a0_)] Mz (zpI [64, 65] [99] Mz (fun v N => (((v = 1 ∧ zRown b_ n_ (gF T).length (fun j_ => zg N 99 j_) ∧ (∀ j : Nat, j < (gF T).length → -999999 ≤ zg N 99 j ∧ zg N 99 j ≤ 999999)) ∨ (v = 0 ∧ ¬ ∃ f_ : Nat → Int, zRown b_ n_ (gF T).length f_))))) := by
  refine zC_of (L0 := [some (.ref 81), some (.int (Int32.ofInt a0_))]) md_M_readsMarks (Nat.le_of_ble_eq_true rfl) rfl ?_ zQ0
  have hf : zFr [64, 65] [99] Mz Mz := zFr.rf
  have r_26 := ze_r Mz 81 26
  have r_64 := ze_r Mz 81 64
  have r_65 := ze_r Mz 81 65
  have hG := hO.1
  have g24 := hG.2.1
  have g1 := hG.1
  have dv0 : zTab T Mz := p0_.1
  have dv1 : zB 85 144 0 5 Mz := p0_.2.1
  have dv2 : zJX T Mz := p0_.2.2.1
  have dv3 : zFirs T Mz := p0_.2.2.2.1
  have dv4 : zSSm T Mz := p0_.2.2.2.2.1
  have dv5 : zGD Mz := zGB.d hO p0_
  have gb := dv5.1
  have gn := dv0.1
  have hfl_ := dv3.1
  obtain ⟨hn7_, hB_, hb_⟩ := id p1_
  refine zw_aload_n (pc := 0) (n := 0) (x := 81) rfl d_M_readsMarks_0 ?_
  refine zw_iconst (pc := 1) (v := Int32.ofInt 0) (by decide) d_M_readsMarks_1 ?_
  refine zr_putI (hf.w hW) (pc := 2) f_M_504 rfl rfl ⟨by omega, by omega⟩ rfl rfl d_M_readsMarks_2 (fun N1_ hsN1_ hvN1_ => ?_)
  have hf_N1_ : zFr [64, 65] [99] Mz N1_ := hf.tr hsN1_ (by decide) (by decide)
  have e26_N1_ : ze N1_ 81 26 = ze Mz 81 26 := hsN1_.e (by decide)
  have r64_N1_ := ze_r N1_ 81 64
  have e65_N1_ : ze N1_ 81 65 = ze Mz 81 65 := hsN1_.e (by decide)
  have c2_ : zGB T N1_ := zGB.fr hsN1_ p0_ (by decide) (by decide)
  have c3_ : zR82 b_ n_ N1_ := zR82.fr hsN1_ p1_ (by decide) (by decide)
  have c4_ : zTab T N1_ := zTab.fr hsN1_ dv0 (by decide) (by decide)
  have c5_ : zB 85 144 0 5 N1_ := zB.fr hsN1_ dv1 (by decide) (by decide)
  have c6_ : zJX T N1_ := zJX.fr hsN1_ dv2 (by decide) (by decide)
  have c7_ : zFirs T N1_ := zFirs.fr hsN1_ dv3 (by decide) (by decide)
  have c8_ : zSSm T N1_ := zSSm.fr hsN1_ dv4 (by decide) (by decide)
  have c9_ : zGD N1_ := zGD.fr hsN1_ dv5 (by decide) (by decide)
  refine zw_aload_n (pc := 5) (n := 0) (x := 81) rfl d_M_readsMarks_5 ?_
  refine zw_iconst (pc := 6) (v := Int32.ofInt 0) (by decide) d_M_readsMarks_6 ?_
  refine zr_putI (hf_N1_.w hW) (pc := 7) f_M_511 rfl rfl ⟨by omega, by omega⟩ rfl rfl d_M_readsMarks_7 (fun N10_ hsN10_ hvN10_ => ?_)
  have hf_N10_ : zFr [64, 65] [99] Mz N10_ := hf_N1_.tr hsN10_ (by decide) (by decide)
  have e26_N10_ : ze N10_ 81 26 = ze N1_ 81 26 := hsN10_.e (by decide)
  have e64_N10_ : ze N10_ 81 64 = ze N1_ 81 64 := hsN10_.e (by decide)
  have r65_N10_ := ze_r N10_ 81 65
  have c11_ : zGB T N10_ := zGB.fr hsN10_ c2_ (by decide) (by decide)
  have c12_ : zR82 b_ n_ N10_ := zR82.fr hsN10_ c3_ (by decide) (by decide)
  have c13_ : zTab T N10_ := zTab.fr hsN10_ c4_ (by decide) (by decide)
  have c14_ : zB 85 144 0 5 N10_ := zB.fr hsN10_ c5_ (by decide) (by decide)
  have c15_ : zJX T N10_ := zJX.fr hsN10_ c6_ (by decide) (by decide)
  have c16_ : zFirs T N10_ := zFirs.fr hsN10_ c7_ (by decide) (by decide)
  have c17_ : zSSm T N10_ := zSSm.fr hsN10_ c8_ (by decide) (by decide)
  have c18_ : zGD N10_ := zGD.fr hsN10_ c9_ (by decide) (by decide)
  have lp_10 : ∀ (n : Nat) (N19_ : zMem) (hs20_ : zFr [64] [] N10_ N19_) (i21_ : 0 ≤ ze N19_ 81 64) (i22_ : ze N19_ 81 64 ≤ n_) (i23_ : ze N19_ 81 65 = 0) (i24_ : zru zpB b_ n_ (ze N19_ 81 64).toNat = (zru zpB b_ n_ 0)), (n_ - ze N19_ 81 64).toNat < n → zW l m_M_readsMarks (zn Mz + 0, zw Mz + 0) N19_ 10 [some (.ref 81), some (.int (Int32.ofInt a0_))] [] (zpI [64, 65] [99] Mz (fun v N => (((v = 1 ∧ zRown b_ n_ (gF T).length (fun j_ => zg N 99 j_) ∧ (∀ j : Nat, j < (gF T).length → -999999 ≤ zg N 99 j ∧ zg N 99 j ≤ 999999)) ∨ (v = 0 ∧ ¬ ∃ f_ : Nat → Int, zRown b_ n_ (gF T).length f_))))) := by
    intro n
    induction n with
    | zero =>
      intro N19_ hs20_ i21_ i22_ i23_ i24_ h0
      exact absurd h0 (Nat.not_lt_zero _)
    | succ n ih_10 =>
      intro N19_ hs20_ i21_ i22_ i23_ i24_ hlt_10
      have hf_N19_ : zFr [64, 65] [99] Mz N19_ := hf_N10_.tr hs20_ (by decide) (by decide)
      have e26_N19_ : ze N19_ 81 26 = ze N10_ 81 26 := hs20_.e (by decide)
      have r64_N19_ := ze_r N19_ 81 64
      have e65_N19_ : ze N19_ 81 65 = ze N10_ 81 65 := hs20_.e (by decide)
      have c25_ : zGB T N19_ := zGB.fr hs20_ c11_ (by decide) (by decide)
      have c26_ : zR82 b_ n_ N19_ := zR82.fr hs20_ c12_ (by decide) (by decide)
      have c27_ : zTab T N19_ := zTab.fr hs20_ c13_ (by decide) (by decide)
      have c28_ : zB 85 144 0 5 N19_ := zB.fr hs20_ c14_ (by decide) (by decide)
      have c29_ : zJX T N19_ := zJX.fr hs20_ c15_ (by decide) (by decide)
      have c30_ : zFirs T N19_ := zFirs.fr hs20_ c16_ (by decide) (by decide)
      have c31_ : zSSm T N19_ := zSSm.fr hs20_ c17_ (by decide) (by decide)
      have c32_ : zGD N19_ := zGD.fr hs20_ c18_ (by decide) (by decide)
      have hzb_ := (show zru zpB b_ n_ (ze N19_ 81 64).toNat = (zru zpB b_ n_ 0) by assumption)
      refine zw_aload_n (pc := 10) (n := 0) (x := 81) rfl d_M_readsMarks_10 ?_
      refine zw_iload_n (pc := 11) (n := 1) (x := Int32.ofInt a0_) rfl d_M_readsMarks_11 ?_
      refine zr_callV (hf_N19_.w hW) hf_N19_.x (pc := 12) [.int (Int32.ofInt a0_)] [] l_M_514 (c_M_isBlankS l N19_ (hf_N19_.w hW) a0_ ha0_a ha0_b b_ n_ c26_ (show a0_ = n_ by first | assumption | omega) (show 0 ≤ ze N19_ 81 64 by first | assumption | omega)) rfl rfl rfl (by decide) (Nat.le_of_ble_eq_true rfl) d_M_readsMarks_12 ?_
      rintro _ N33_ ⟨v34_, rfl, ⟨hv34_a, hv34_b⟩, hsN33_, hp0_N33_⟩
      obtain rfl := hsN33_.eq.symm
      replace hp0_N33_ : ((v34_ = 1 ∧ ze N19_ 81 64 < n_ ∧ zpB (b_ (ze N19_ 81 64).toNat) = true) ∨ (v34_ = 0 ∧ (n_ ≤ ze N19_ 81 64 ∨ (ze N19_ 81 64 < n_ ∧ zpB (b_ (ze N19_ 81 64).toNat) = false)))) := hp0_N33_
      rcases hp0_N33_ with ⟨rfl, ha12_0_hp0_N33_, ha12_1_hp0_N33_⟩ | ⟨rfl, ha12_0_hp0_N33_⟩
      · skip
        have hk1_ := ha12_0_hp0_N33_
        have hk2_ := ha12_1_hp0_N33_
        show zW l m_M_readsMarks (zn Mz + 0, zw Mz + 0) N19_ 15 [some (.ref 81), some (.int (Int32.ofInt a0_))] [.int (Int32.ofInt 1)] (zpI [64, 65] [99] Mz (fun v N => (((v = 1 ∧ zRown b_ n_ (gF T).length (fun j_ => zg N 99 j_) ∧ (∀ j : Nat, j < (gF T).length → -999999 ≤ zg N 99 j ∧ zg N 99 j ≤ 999999)) ∨ (v = 0 ∧ ¬ ∃ f_ : Nat → Int, zRown b_ n_ (gF T).length f_)))))
        refine zr_if_eq (pc := 15) (tgt := 31) ⟨(by decide), (by decide)⟩ (by decide) d_M_readsMarks_15 (fun hc_15 => ?_) (fun hc_15 => ?_)
        · skip
          exact absurd hc_15 (by decide)
        · skip
          refine zw_aload_n (pc := 18) (n := 0) (x := 81) rfl d_M_readsMarks_18 ?_
          refine zw_dup (pc := 19) rfl d_M_readsMarks_19 ?_
          refine zr_getI (hf_N19_.w hW) (pc := 20) f_M_504 rfl d_M_readsMarks_20 ?_
          refine zw_iconst (pc := 23) (v := Int32.ofInt 1) (by decide) d_M_readsMarks_23 ?_
          refine zr_iadd (pc := 24) d_M_readsMarks_24 ?_
          refine zr_putI (hf_N19_.w hW) (pc := 25) f_M_504 rfl rfl ⟨by omega, by omega⟩ rfl rfl d_M_readsMarks_25 (fun N35_ hsN35_ hvN35_ => ?_)
          have hf_N35_ : zFr [64, 65] [99] Mz N35_ := hf_N19_.tr hsN35_ (by decide) (by decide)
          have hb0_N35_ : zFr [64] [] N10_ N35_ := hs20_.tr hsN35_ (by decide) (by decide)
          have e26_N35_ : ze N35_ 81 26 = ze N19_ 81 26 := hsN35_.e (by decide)
          have r64_N35_ := ze_r N35_ 81 64
          have e65_N35_ : ze N35_ 81 65 = ze N19_ 81 65 := hsN35_.e (by decide)
          have c36_ : zGB T N35_ := zGB.fr hsN35_ c25_ (by decide) (by decide)
          have c37_ : zR82 b_ n_ N35_ := zR82.fr hsN35_ c26_ (by decide) (by decide)
          have c38_ : zTab T N35_ := zTab.fr hsN35_ c27_ (by decide) (by decide)
          have c39_ : zB 85 144 0 5 N35_ := zB.fr hsN35_ c28_ (by decide) (by decide)
          have c40_ : zJX T N35_ := zJX.fr hsN35_ c29_ (by decide) (by decide)
          have c41_ : zFirs T N35_ := zFirs.fr hsN35_ c30_ (by decide) (by decide)
          have c42_ : zSSm T N35_ := zSSm.fr hsN35_ c31_ (by decide) (by decide)
          have c43_ : zGD N35_ := zGD.fr hsN35_ c32_ (by decide) (by decide)
          have hze_ : zru zpB b_ n_ (ze N35_ 81 64).toNat = (zru zpB b_ n_ 0) := by rw [show (ze N35_ 81 64).toNat = (ze N19_ 81 64).toNat + 1 by omega, ← zru_t (by omega) hk2_]; exact hzb_
          refine zw_goto (pc := 28) (tgt := 10) (by decide) d_M_readsMarks_28 ?_
          exact ih_10 N35_ hb0_N35_ (show 0 ≤ ze N35_ 81 64 by first | assumption | omega) (show ze N35_ 81 64 ≤ n_ by first | assumption | omega) (show ze N35_ 81 65 = 0 by first | assumption | omega) (show zru zpB b_ n_ (ze N35_ 81 64).toNat = (zru zpB b_ n_ 0) by exact hze_) (by omega)
      · skip
        have hk0_ := ha12_0_hp0_N33_
        show zW l m_M_readsMarks (zn Mz + 0, zw Mz + 0) N19_ 15 [some (.ref 81), some (.int (Int32.ofInt a0_))] [.int (Int32.ofInt 0)] (zpI [64, 65] [99] Mz (fun v N => (((v = 1 ∧ zRown b_ n_ (gF T).length (fun j_ => zg N 99 j_) ∧ (∀ j : Nat, j < (gF T).length → -999999 ≤ zg N 99 j ∧ zg N 99 j ≤ 999999)) ∨ (v = 0 ∧ ¬ ∃ f_ : Nat → Int, zRown b_ n_ (gF T).length f_)))))
        refine zr_if_eq (pc := 15) (tgt := 31) ⟨(by decide), (by decide)⟩ (by decide) d_M_readsMarks_15 (fun hc_15 => ?_) (fun hc_15 => ?_)
        · skip
          have lp_31 : ∀ (n : Nat) (N44_ : zMem) (hs45_ : zFr [64, 65] [99] N19_ N44_) (i46_ : 0 ≤ ze N44_ 81 64) (i47_ : ze N44_ 81 64 ≤ n_) (i48_ : 0 ≤ ze N44_ 81 65) (i49_ : ze N44_ 81 65 ≤ ((gF T).length : Int)) (i50_ : zRwn b_ n_ (zru zpB b_ n_ 0) (fun j_ => zg N44_ 99 j_) (ze N44_ 81 65).toNat (ze N44_ 81 64).toNat) (i51_ : (∀ j : Nat, (j : Int) < ze N44_ 81 65 → -999999 ≤ zg N44_ 99 j ∧ zg N44_ 99 j ≤ 999999)), (n_ - ze N44_ 81 64).toNat < n → zW l m_M_readsMarks (zn Mz + 0, zw Mz + 0) N44_ 31 [some (.ref 81), some (.int (Int32.ofInt a0_))] [] (zpI [64, 65] [99] Mz (fun v N => (((v = 1 ∧ zRown b_ n_ (gF T).length (fun j_ => zg N 99 j_) ∧ (∀ j : Nat, j < (gF T).length → -999999 ≤ zg N 99 j ∧ zg N 99 j ≤ 999999)) ∨ (v = 0 ∧ ¬ ∃ f_ : Nat → Int, zRown b_ n_ (gF T).length f_))))) := by
            intro n
            induction n with
            | zero =>
              intro N44_ hs45_ i46_ i47_ i48_ i49_ i50_ i51_ h0
              exact absurd h0 (Nat.not_lt_zero _)
            | succ n ih_31 =>
              intro N44_ hs45_ i46_ i47_ i48_ i49_ i50_ i51_ hlt_31
              have hf_N44_ : zFr [64, 65] [99] Mz N44_ := hf_N19_.tr hs45_ (by decide) (by decide)
              have e26_N44_ : ze N44_ 81 26 = ze N19_ 81 26 := hs45_.e (by decide)
              have r64_N44_ := ze_r N44_ 81 64
              have r65_N44_ := ze_r N44_ 81 65
              have c52_ : zGB T N44_ := zGB.fr hs45_ c25_ (by decide) (by decide)
              have c53_ : zR82 b_ n_ N44_ := zR82.fr hs45_ c26_ (by decide) (by decide)
              have c54_ : zTab T N44_ := zTab.fr hs45_ c27_ (by decide) (by decide)
              have c55_ : zB 85 144 0 5 N44_ := zB.fr hs45_ c28_ (by decide) (by decide)
              have c56_ : zJX T N44_ := zJX.fr hs45_ c29_ (by decide) (by decide)
              have c57_ : zFirs T N44_ := zFirs.fr hs45_ c30_ (by decide) (by decide)
              have c58_ : zSSm T N44_ := zSSm.fr hs45_ c31_ (by decide) (by decide)
              have c59_ : zGD N44_ := zGD.fr hs45_ c32_ (by decide) (by decide)
              have hrw_ := (show zRwn b_ n_ (zru zpB b_ n_ 0) (fun j_ => zg N44_ 99 j_) (ze N44_ 81 65).toNat (ze N44_ 81 64).toNat by assumption)
              have hbb_ := (show (∀ j : Nat, (j : Int) < ze N44_ 81 65 → -999999 ≤ zg N44_ 99 j ∧ zg N44_ 99 j ≤ 999999) by assumption)
              refine zw_aload_n (pc := 31) (n := 0) (x := 81) rfl d_M_readsMarks_31 ?_
              refine zr_getI (hf_N44_.w hW) (pc := 32) f_M_504 rfl d_M_readsMarks_32 ?_
              refine zw_iload_n (pc := 35) (n := 1) (x := Int32.ofInt a0_) rfl d_M_readsMarks_35 ?_
              refine zr_icmp_ge (pc := 36) (tgt := 88) ⟨(ze_r N44_ 81 64).1, (ze_r N44_ 81 64).2⟩ ⟨ha0_a, ha0_b⟩ (by decide) d_M_readsMarks_36 (fun hc_36 => ?_) (fun hc_36 => ?_)
              · skip
                refine zw_aload_n (pc := 88) (n := 0) (x := 81) rfl d_M_readsMarks_88 ?_
                refine zr_getI (hf_N44_.w hW) (pc := 89) f_M_511 rfl d_M_readsMarks_89 ?_
                refine zw_aload_n (pc := 92) (n := 0) (x := 81) rfl d_M_readsMarks_92 ?_
                refine zr_getI0 hf_N44_ hW (pc := 93) (by decide) f_M_235 rfl d_M_readsMarks_93 ?_
                refine zr_icmp_ne (pc := 96) (tgt := 103) ⟨(ze_r N44_ 81 65).1, (ze_r N44_ 81 65).2⟩ ⟨(ze_r Mz 81 26).1, (ze_r Mz 81 26).2⟩ (by decide) d_M_readsMarks_96 (fun hc_96 => ?_) (fun hc_96 => ?_)
                · skip
                  refine zw_iconst (pc := 103) (v := Int32.ofInt 0) (by decide) d_M_readsMarks_103 ?_
                  exact zr_iret (pc := 104) (ty := .boolean) rfl (z_narB (by omega)) ⟨by omega, by omega⟩ hf_N44_ (show ((0 = 1 ∧ zRown b_ n_ (gF T).length (fun j_ => zg N44_ 99 j_) ∧ (∀ j : Nat, j < (gF T).length → -999999 ≤ zg N44_ 99 j ∧ zg N44_ 99 j ≤ 999999)) ∨ (0 = 0 ∧ ¬ ∃ f_ : Nat → Int, zRown b_ n_ (gF T).length f_)) from Or.inr (⟨(show 0 = 0 by first | rfl | exact hnn_ | exact zRown_n hrw_ (by omega) (zNs_nb hn3_ (by omega) (by rcases hl0_ with h_ | h_; exfalso; omega; exact h_.2)) | exact zRown_n hrw_ (by omega) (zNb_e (by omega))), (show ¬ ∃ f_ : Nat → Int, zRown b_ n_ (gF T).length f_ by first | rfl | exact hnn_ | exact zRown_n hrw_ (by omega) (zNs_nb hn3_ (by omega) (by rcases hl0_ with h_ | h_; exfalso; omega; exact h_.2)) | exact zRown_n hrw_ (by omega) (zNb_e (by omega)))⟩)) d_M_readsMarks_104
                · skip
                  refine zw_iconst (pc := 99) (v := Int32.ofInt 1) (by decide) d_M_readsMarks_99 ?_
                  refine zw_goto (pc := 100) (tgt := 104) (by decide) d_M_readsMarks_100 ?_
                  exact zr_iret (pc := 104) (ty := .boolean) rfl (z_narB (by omega)) ⟨by omega, by omega⟩ hf_N44_ (show ((1 = 1 ∧ zRown b_ n_ (gF T).length (fun j_ => zg N44_ 99 j_) ∧ (∀ j : Nat, j < (gF T).length → -999999 ≤ zg N44_ 99 j ∧ zg N44_ 99 j ≤ 999999)) ∨ (1 = 0 ∧ ¬ ∃ f_ : Nat → Int, zRown b_ n_ (gF T).length f_)) from Or.inl (⟨(show 1 = 1 by first | rfl | exact ⟨_, by have h_ := hrw_; rw [show (ze N44_ 81 65).toNat = (gF T).length by omega] at h_; exact h_, by omega⟩ | exact fun j_ hj_ => hbb_ j_ (by omega)), (show zRown b_ n_ (gF T).length (fun j_ => zg N44_ 99 j_) by first | rfl | exact ⟨_, by have h_ := hrw_; rw [show (ze N44_ 81 65).toNat = (gF T).length by omega] at h_; exact h_, by omega⟩ | exact fun j_ hj_ => hbb_ j_ (by omega)), (show (∀ j : Nat, j < (gF T).length → -999999 ≤ zg N44_ 99 j ∧ zg N44_ 99 j ≤ 999999) by first | rfl | exact ⟨_, by have h_ := hrw_; rw [show (ze N44_ 81 65).toNat = (gF T).length by omega] at h_; exact h_, by omega⟩ | exact fun j_ hj_ => hbb_ j_ (by omega))⟩)) d_M_readsMarks_104
              · skip
                refine zw_aload_n (pc := 39) (n := 0) (x := 81) rfl d_M_readsMarks_39 ?_
                refine zw_iload_n (pc := 40) (n := 1) (x := Int32.ofInt a0_) rfl d_M_readsMarks_40 ?_
                refine zr_callV (hf_N44_.w hW) hf_N44_.x (pc := 41) [.int (Int32.ofInt a0_)] [] l_M_517 (c_M_readsNumberS l N44_ (hf_N44_.w hW) a0_ ha0_a ha0_b T hO b_ n_ c52_ c53_ (show a0_ = n_ by first | assumption | omega) (show 0 ≤ ze N44_ 81 64 by first | assumption | omega) (show ze N44_ 81 64 ≤ n_ by first | assumption | omega) (show 0 ≤ ze N44_ 81 65 by first | assumption | omega) (show ze N44_ 81 65 ≤ ((gF T).length : Int) by first | assumption | omega)) rfl rfl rfl (by decide) (Nat.le_of_ble_eq_true rfl) d_M_readsMarks_41 ?_
                rintro _ N60_ ⟨v61_, rfl, ⟨hv61_a, hv61_b⟩, hsN60_, hp0_N60_⟩
                replace hp0_N60_ : ((v61_ = 1 ∧ ze N44_ 81 65 < ((gF T).length : Int) ∧ ze N60_ 81 65 = ze N44_ 81 65 + 1 ∧ (∀ j : Nat, (j : Int) ≠ ze N44_ 81 65 → zg N60_ 99 j = zg N44_ 99 j) ∧ zNs b_ n_ (ze N44_ 81 64).toNat (zg N60_ 99 (ze N44_ 81 65).toNat) (ze N60_ 81 64).toNat ∧ ze N44_ 81 64 < ze N60_ 81 64 ∧ ze N60_ 81 64 ≤ n_ ∧ -999999 ≤ zg N60_ 99 (ze N44_ 81 65).toNat ∧ zg N60_ 99 (ze N44_ 81 65).toNat ≤ 999999) ∨ (v61_ = 0 ∧ (ze N44_ 81 65 = ((gF T).length : Int) ∨ ¬ ∃ v t, zNs b_ n_ (ze N44_ 81 64).toNat v t))) := hp0_N60_
                have hf_N60_ : zFr [64, 65] [99] Mz N60_ := hf_N44_.tr hsN60_ (by decide) (by decide)
                have hb0_N60_ : zFr [64, 65] [99] N19_ N60_ := hs45_.tr hsN60_ (by decide) (by decide)
                have e26_N60_ : ze N60_ 81 26 = ze N44_ 81 26 := hsN60_.e (by decide)
                have r64_N60_ := ze_r N60_ 81 64
                have r65_N60_ := ze_r N60_ 81 65
                have c62_ : zGB T N60_ := zGB.fr hsN60_ c52_ (by decide) (by decide)
                have c63_ : zR82 b_ n_ N60_ := zR82.fr hsN60_ c53_ (by decide) (by decide)
                have c64_ : zTab T N60_ := zTab.fr hsN60_ c54_ (by decide) (by decide)
                have c65_ : zB 85 144 0 5 N60_ := zB.fr hsN60_ c55_ (by decide) (by decide)
                have c66_ : zJX T N60_ := zJX.fr hsN60_ c56_ (by decide) (by decide)
                have c67_ : zFirs T N60_ := zFirs.fr hsN60_ c57_ (by decide) (by decide)
                have c68_ : zSSm T N60_ := zSSm.fr hsN60_ c58_ (by decide) (by decide)
                have c69_ : zGD N60_ := zGD.fr hsN60_ c59_ (by decide) (by decide)
                rcases hp0_N60_ with ⟨rfl, ha41_0_hp0_N60_, ha41_1_hp0_N60_, ha41_2_hp0_N60_, ha41_3_hp0_N60_, ha41_4_hp0_N60_, ha41_5_hp0_N60_, ha41_6_hp0_N60_⟩ | ⟨rfl, ha41_0_hp0_N60_⟩
                · skip
                  have hn0_ := ha41_0_hp0_N60_
                  have hn1_ := ha41_1_hp0_N60_
                  have hn2_ := ha41_2_hp0_N60_
                  have hn3_ := ha41_3_hp0_N60_
                  have hn4_ := ha41_4_hp0_N60_
                  have hn5_ := ha41_5_hp0_N60_
                  have hn6_ := ha41_6_hp0_N60_
                  have hrk_ : zRwn b_ n_ (zru zpB b_ n_ 0) (fun j_ => zg N60_ 99 j_) ((ze N60_ 81 65).toNat - 1) (ze N44_ 81 64).toNat := by rw [show (ze N60_ 81 65).toNat - 1 = (ze N44_ 81 65).toNat by omega]; exact zRwn_c (fun i_ hi_ => (hn2_ i_ (by omega)).symm) hrw_
                  have hnk_ : zNs b_ n_ (ze N44_ 81 64).toNat (zg N60_ 99 ((ze N60_ 81 65).toNat - 1)) (ze N60_ 81 64).toNat := by rw [show (ze N60_ 81 65).toNat - 1 = (ze N44_ 81 65).toNat by omega]; exact hn3_
                  have hbk_ : (∀ j : Nat, (j : Int) < ze N60_ 81 65 → -999999 ≤ zg N60_ 99 j ∧ zg N60_ 99 j ≤ 999999) := fun j_ hj_ => by by_cases g_ : (j_ : Int) = ze N44_ 81 65; (rw [show j_ = (ze N44_ 81 65).toNat by omega]; exact hn6_); (rw [hn2_ j_ g_]; exact hbb_ j_ (by omega))
                  show zW l m_M_readsMarks (zn Mz + 0, zw Mz + 0) N60_ 44 [some (.ref 81), some (.int (Int32.ofInt a0_))] [.int (Int32.ofInt 1)] (zpI [64, 65] [99] Mz (fun v N => (((v = 1 ∧ zRown b_ n_ (gF T).length (fun j_ => zg N 99 j_) ∧ (∀ j : Nat, j < (gF T).length → -999999 ≤ zg N 99 j ∧ zg N 99 j ≤ 999999)) ∨ (v = 0 ∧ ¬ ∃ f_ : Nat → Int, zRown b_ n_ (gF T).length f_)))))
                  refine zr_if_ne (pc := 44) (tgt := 49) ⟨(by decide), (by decide)⟩ (by decide) d_M_readsMarks_44 (fun hc_44 => ?_) (fun hc_44 => ?_)
                  · skip
                    refine zw_aload_n (pc := 49) (n := 0) (x := 81) rfl d_M_readsMarks_49 ?_
                    refine zr_getI (hf_N60_.w hW) (pc := 50) f_M_504 rfl d_M_readsMarks_50 ?_
                    refine zw_iload_n (pc := 53) (n := 1) (x := Int32.ofInt a0_) rfl d_M_readsMarks_53 ?_
                    refine zr_icmp_ge (pc := 54) (tgt := 67) ⟨(ze_r N60_ 81 64).1, (ze_r N60_ 81 64).2⟩ ⟨ha0_a, ha0_b⟩ (by decide) d_M_readsMarks_54 (fun hc_54 => ?_) (fun hc_54 => ?_)
                    · skip
                      have lp_67 : ∀ (n : Nat) (N70_ : zMem) (hs71_ : zFr [64] [] N60_ N70_) (i72_ : ze N44_ 81 64 < ze N70_ 81 64) (i73_ : ze N70_ 81 64 ≤ n_) (i74_ : 1 ≤ ze N70_ 81 65) (i75_ : ze N70_ 81 65 ≤ ((gF T).length : Int)) (i76_ : (∀ j : Nat, (j : Int) < ze N70_ 81 65 → -999999 ≤ zg N70_ 99 j ∧ zg N70_ 99 j ≤ 999999)) (i77_ : (∃ q0 t : Nat, zRwn b_ n_ (zru zpB b_ n_ 0) (fun j_ => zg N70_ 99 j_) ((ze N70_ 81 65).toNat - 1) q0 ∧ zNs b_ n_ q0 (zg N70_ 99 ((ze N70_ 81 65).toNat - 1)) t ∧ (t < n_ → zpB (b_ t) = true) ∧ zru zpB b_ n_ (ze N70_ 81 64).toNat = zru zpB b_ n_ t)), (n_ - ze N70_ 81 64).toNat < n → zW l m_M_readsMarks (zn Mz + 0, zw Mz + 0) N70_ 67 [some (.ref 81), some (.int (Int32.ofInt a0_))] [] (zpI [64, 65] [99] Mz (fun v N => (((v = 1 ∧ zRown b_ n_ (gF T).length (fun j_ => zg N 99 j_) ∧ (∀ j : Nat, j < (gF T).length → -999999 ≤ zg N 99 j ∧ zg N 99 j ≤ 999999)) ∨ (v = 0 ∧ ¬ ∃ f_ : Nat → Int, zRown b_ n_ (gF T).length f_))))) := by
                        intro n
                        induction n with
                        | zero =>
                          intro N70_ hs71_ i72_ i73_ i74_ i75_ i76_ i77_ h0
                          exact absurd h0 (Nat.not_lt_zero _)
                        | succ n ih_67 =>
                          intro N70_ hs71_ i72_ i73_ i74_ i75_ i76_ i77_ hlt_67
                          have hf_N70_ : zFr [64, 65] [99] Mz N70_ := hf_N60_.tr hs71_ (by decide) (by decide)
                          have hb0_N70_ : zFr [64, 65] [99] N19_ N70_ := hb0_N60_.tr hs71_ (by decide) (by decide)
                          have e26_N70_ : ze N70_ 81 26 = ze N60_ 81 26 := hs71_.e (by decide)
                          have r64_N70_ := ze_r N70_ 81 64
                          have e65_N70_ : ze N70_ 81 65 = ze N60_ 81 65 := hs71_.e (by decide)
                          have c78_ : zGB T N70_ := zGB.fr hs71_ c62_ (by decide) (by decide)
                          have c79_ : zR82 b_ n_ N70_ := zR82.fr hs71_ c63_ (by decide) (by decide)
                          have c80_ : zTab T N70_ := zTab.fr hs71_ c64_ (by decide) (by decide)
                          have c81_ : zB 85 144 0 5 N70_ := zB.fr hs71_ c65_ (by decide) (by decide)
                          have c82_ : zJX T N70_ := zJX.fr hs71_ c66_ (by decide) (by decide)
                          have c83_ : zFirs T N70_ := zFirs.fr hs71_ c67_ (by decide) (by decide)
                          have c84_ : zSSm T N70_ := zSSm.fr hs71_ c68_ (by decide) (by decide)
                          have c85_ : zGD N70_ := zGD.fr hs71_ c69_ (by decide) (by decide)
                          have hbb2_ := (show (∀ j : Nat, (j : Int) < ze N70_ 81 65 → -999999 ≤ zg N70_ 99 j ∧ zg N70_ 99 j ≤ 999999) by assumption)
                          obtain ⟨q0_, t_, i1_, i2_, i3_, i4_⟩ := (show (∃ q0 t : Nat, zRwn b_ n_ (zru zpB b_ n_ 0) (fun j_ => zg N70_ 99 j_) ((ze N70_ 81 65).toNat - 1) q0 ∧ zNs b_ n_ q0 (zg N70_ 99 ((ze N70_ 81 65).toNat - 1)) t ∧ (t < n_ → zpB (b_ t) = true) ∧ zru zpB b_ n_ (ze N70_ 81 64).toNat = zru zpB b_ n_ t) by assumption)
                          refine zw_aload_n (pc := 67) (n := 0) (x := 81) rfl d_M_readsMarks_67 ?_
                          refine zw_iload_n (pc := 68) (n := 1) (x := Int32.ofInt a0_) rfl d_M_readsMarks_68 ?_
                          refine zr_callV (hf_N70_.w hW) hf_N70_.x (pc := 69) [.int (Int32.ofInt a0_)] [] l_M_514 (c_M_isBlankS l N70_ (hf_N70_.w hW) a0_ ha0_a ha0_b b_ n_ c79_ (show a0_ = n_ by first | assumption | omega) (show 0 ≤ ze N70_ 81 64 by first | assumption | omega)) rfl rfl rfl (by decide) (Nat.le_of_ble_eq_true rfl) d_M_readsMarks_69 ?_
                          rintro _ N86_ ⟨v87_, rfl, ⟨hv87_a, hv87_b⟩, hsN86_, hp0_N86_⟩
                          obtain rfl := hsN86_.eq.symm
                          replace hp0_N86_ : ((v87_ = 1 ∧ ze N70_ 81 64 < n_ ∧ zpB (b_ (ze N70_ 81 64).toNat) = true) ∨ (v87_ = 0 ∧ (n_ ≤ ze N70_ 81 64 ∨ (ze N70_ 81 64 < n_ ∧ zpB (b_ (ze N70_ 81 64).toNat) = false)))) := hp0_N86_
                          rcases hp0_N86_ with ⟨rfl, ha69_0_hp0_N86_, ha69_1_hp0_N86_⟩ | ⟨rfl, ha69_0_hp0_N86_⟩
                          · skip
                            have hm1_ := ha69_0_hp0_N86_
                            have hm2_ := ha69_1_hp0_N86_
                            show zW l m_M_readsMarks (zn Mz + 0, zw Mz + 0) N70_ 72 [some (.ref 81), some (.int (Int32.ofInt a0_))] [.int (Int32.ofInt 1)] (zpI [64, 65] [99] Mz (fun v N => (((v = 1 ∧ zRown b_ n_ (gF T).length (fun j_ => zg N 99 j_) ∧ (∀ j : Nat, j < (gF T).length → -999999 ≤ zg N 99 j ∧ zg N 99 j ≤ 999999)) ∨ (v = 0 ∧ ¬ ∃ f_ : Nat → Int, zRown b_ n_ (gF T).length f_)))))
                            refine zr_if_eq (pc := 72) (tgt := 31) ⟨(by decide), (by decide)⟩ (by decide) d_M_readsMarks_72 (fun hc_72 => ?_) (fun hc_72 => ?_)
                            · skip
                              exact absurd hc_72 (by decide)
                            · skip
                              refine zw_aload_n (pc := 75) (n := 0) (x := 81) rfl d_M_readsMarks_75 ?_
                              refine zw_dup (pc := 76) rfl d_M_readsMarks_76 ?_
                              refine zr_getI (hf_N70_.w hW) (pc := 77) f_M_504 rfl d_M_readsMarks_77 ?_
                              refine zw_iconst (pc := 80) (v := Int32.ofInt 1) (by decide) d_M_readsMarks_80 ?_
                              refine zr_iadd (pc := 81) d_M_readsMarks_81 ?_
                              refine zr_putI (hf_N70_.w hW) (pc := 82) f_M_504 rfl rfl ⟨by omega, by omega⟩ rfl rfl d_M_readsMarks_82 (fun N88_ hsN88_ hvN88_ => ?_)
                              have hf_N88_ : zFr [64, 65] [99] Mz N88_ := hf_N70_.tr hsN88_ (by decide) (by decide)
                              have hb0_N88_ : zFr [64, 65] [99] N19_ N88_ := hb0_N70_.tr hsN88_ (by decide) (by decide)
                              have hb1_N88_ : zFr [64] [] N60_ N88_ := hs71_.tr hsN88_ (by decide) (by decide)
                              have e26_N88_ : ze N88_ 81 26 = ze N70_ 81 26 := hsN88_.e (by decide)
                              have r64_N88_ := ze_r N88_ 81 64
                              have e65_N88_ : ze N88_ 81 65 = ze N70_ 81 65 := hsN88_.e (by decide)
                              have c89_ : zGB T N88_ := zGB.fr hsN88_ c78_ (by decide) (by decide)
                              have c90_ : zR82 b_ n_ N88_ := zR82.fr hsN88_ c79_ (by decide) (by decide)
                              have c91_ : zTab T N88_ := zTab.fr hsN88_ c80_ (by decide) (by decide)
                              have c92_ : zB 85 144 0 5 N88_ := zB.fr hsN88_ c81_ (by decide) (by decide)
                              have c93_ : zJX T N88_ := zJX.fr hsN88_ c82_ (by decide) (by decide)
                              have c94_ : zFirs T N88_ := zFirs.fr hsN88_ c83_ (by decide) (by decide)
                              have c95_ : zSSm T N88_ := zSSm.fr hsN88_ c84_ (by decide) (by decide)
                              have c96_ : zGD N88_ := zGD.fr hsN88_ c85_ (by decide) (by decide)
                              have hzf_ : zru zpB b_ n_ (ze N88_ 81 64).toNat = zru zpB b_ n_ t_ := by rw [show (ze N88_ 81 64).toNat = (ze N70_ 81 64).toNat + 1 by omega, ← zru_t (by omega) hm2_]; exact i4_
                              refine zw_goto (pc := 85) (tgt := 67) (by decide) d_M_readsMarks_85 ?_
                              exact ih_67 N88_ hb1_N88_ (show ze N44_ 81 64 < ze N88_ 81 64 by first | assumption | omega) (show ze N88_ 81 64 ≤ n_ by first | assumption | omega) (show 1 ≤ ze N88_ 81 65 by first | assumption | omega) (show ze N88_ 81 65 ≤ ((gF T).length : Int) by first | assumption | omega) (show (∀ j : Nat, (j : Int) < ze N88_ 81 65 → -999999 ≤ zg N88_ 99 j ∧ zg N88_ 99 j ≤ 999999) by exact fun j_ hj_ => by rw [(hsN88_).jg (by decide) (by decide) j_]; exact hbb2_ j_ (by omega)) (show (∃ q0 t : Nat, zRwn b_ n_ (zru zpB b_ n_ 0) (fun j_ => zg N88_ 99 j_) ((ze N88_ 81 65).toNat - 1) q0 ∧ zNs b_ n_ q0 (zg N88_ 99 ((ze N88_ 81 65).toNat - 1)) t ∧ (t < n_ → zpB (b_ t) = true) ∧ zru zpB b_ n_ (ze N88_ 81 64).toNat = zru zpB b_ n_ t) by exact ⟨q0_, t_, by rw [show (ze N88_ 81 65).toNat = (ze N70_ 81 65).toNat by omega]; exact zRwn_c (fun i_ _ => ((hsN88_).jg (by decide) (by decide) i_).symm) i1_, by rw [show (ze N88_ 81 65).toNat = (ze N70_ 81 65).toNat by omega, (hsN88_).jg (by decide) (by decide)]; exact i2_, i3_, hzf_⟩) (by omega)
                          · skip
                            have hm0_ := ha69_0_hp0_N86_
                            show zW l m_M_readsMarks (zn Mz + 0, zw Mz + 0) N70_ 72 [some (.ref 81), some (.int (Int32.ofInt a0_))] [.int (Int32.ofInt 0)] (zpI [64, 65] [99] Mz (fun v N => (((v = 1 ∧ zRown b_ n_ (gF T).length (fun j_ => zg N 99 j_) ∧ (∀ j : Nat, j < (gF T).length → -999999 ≤ zg N 99 j ∧ zg N 99 j ≤ 999999)) ∨ (v = 0 ∧ ¬ ∃ f_ : Nat → Int, zRown b_ n_ (gF T).length f_)))))
                            refine zr_if_eq (pc := 72) (tgt := 31) ⟨(by decide), (by decide)⟩ (by decide) d_M_readsMarks_72 (fun hc_72 => ?_) (fun hc_72 => ?_)
                            · skip
                              exact ih_31 N70_ hb0_N70_ (show 0 ≤ ze N70_ 81 64 by first | assumption | omega) (show ze N70_ 81 64 ≤ n_ by first | assumption | omega) (show 0 ≤ ze N70_ 81 65 by first | assumption | omega) (show ze N70_ 81 65 ≤ ((gF T).length : Int) by first | assumption | omega) (show zRwn b_ n_ (zru zpB b_ n_ 0) (fun j_ => zg N70_ 99 j_) (ze N70_ 81 65).toNat (ze N70_ 81 64).toNat by rw [show (ze N70_ 81 65).toNat = ((ze N70_ 81 65).toNat - 1) + 1 by omega]; exact zRwn_s i1_ (i2_.b i3_ (by rw [← i4_]; exact (zru_f (fun q_ => by rcases hm0_ with h_ | h_; have h2_ := q_.1; omega; have h2_ := q_.2; rw [h_.2] at h2_; cases h2_)).symm)) (fun _ _ => rfl) rfl) (show (∀ j : Nat, (j : Int) < ze N70_ 81 65 → -999999 ≤ zg N70_ 99 j ∧ zg N70_ 99 j ≤ 999999) by exact hbb2_) (by omega)
                            · skip
                              exact absurd hc_72 (by decide)
                      exact lp_67 _ N60_ zFr.rf (show ze N44_ 81 64 < ze N60_ 81 64 by first | assumption | omega) (show ze N60_ 81 64 ≤ n_ by first | assumption | omega) (show 1 ≤ ze N60_ 81 65 by first | assumption | omega) (show ze N60_ 81 65 ≤ ((gF T).length : Int) by first | assumption | omega) (show (∀ j : Nat, (j : Int) < ze N60_ 81 65 → -999999 ≤ zg N60_ 99 j ∧ zg N60_ 99 j ≤ 999999) by exact hbk_) (show (∃ q0 t : Nat, zRwn b_ n_ (zru zpB b_ n_ 0) (fun j_ => zg N60_ 99 j_) ((ze N60_ 81 65).toNat - 1) q0 ∧ zNs b_ n_ q0 (zg N60_ 99 ((ze N60_ 81 65).toNat - 1)) t ∧ (t < n_ → zpB (b_ t) = true) ∧ zru zpB b_ n_ (ze N60_ 81 64).toNat = zru zpB b_ n_ t) by exact ⟨_, _, hrk_, hnk_, fun h_ => (by first | exact hl2_ | (exfalso; omega)), rfl⟩) (Nat.lt_succ_self _)
                    · skip
                      refine zw_aload_n (pc := 57) (n := 0) (x := 81) rfl d_M_readsMarks_57 ?_
                      refine zw_iload_n (pc := 58) (n := 1) (x := Int32.ofInt a0_) rfl d_M_readsMarks_58 ?_
                      refine zr_callV (hf_N60_.w hW) hf_N60_.x (pc := 59) [.int (Int32.ofInt a0_)] [] l_M_514 (c_M_isBlankS l N60_ (hf_N60_.w hW) a0_ ha0_a ha0_b b_ n_ c63_ (show a0_ = n_ by first | assumption | omega) (show 0 ≤ ze N60_ 81 64 by first | assumption | omega)) rfl rfl rfl (by decide) (Nat.le_of_ble_eq_true rfl) d_M_readsMarks_59 ?_
                      rintro _ N97_ ⟨v98_, rfl, ⟨hv98_a, hv98_b⟩, hsN97_, hp0_N97_⟩
                      obtain rfl := hsN97_.eq.symm
                      replace hp0_N97_ : ((v98_ = 1 ∧ ze N60_ 81 64 < n_ ∧ zpB (b_ (ze N60_ 81 64).toNat) = true) ∨ (v98_ = 0 ∧ (n_ ≤ ze N60_ 81 64 ∨ (ze N60_ 81 64 < n_ ∧ zpB (b_ (ze N60_ 81 64).toNat) = false)))) := hp0_N97_
                      rcases hp0_N97_ with ⟨rfl, ha59_0_hp0_N97_, ha59_1_hp0_N97_⟩ | ⟨rfl, ha59_0_hp0_N97_⟩
                      · skip
                        have hl1_ := ha59_0_hp0_N97_
                        have hl2_ := ha59_1_hp0_N97_
                        show zW l m_M_readsMarks (zn Mz + 0, zw Mz + 0) N60_ 62 [some (.ref 81), some (.int (Int32.ofInt a0_))] [.int (Int32.ofInt 1)] (zpI [64, 65] [99] Mz (fun v N => (((v = 1 ∧ zRown b_ n_ (gF T).length (fun j_ => zg N 99 j_) ∧ (∀ j : Nat, j < (gF T).length → -999999 ≤ zg N 99 j ∧ zg N 99 j ≤ 999999)) ∨ (v = 0 ∧ ¬ ∃ f_ : Nat → Int, zRown b_ n_ (gF T).length f_)))))
                        refine zr_if_ne (pc := 62) (tgt := 67) ⟨(by decide), (by decide)⟩ (by decide) d_M_readsMarks_62 (fun hc_62 => ?_) (fun hc_62 => ?_)
                        · skip
                          have lp_67 : ∀ (n : Nat) (N99_ : zMem) (hs100_ : zFr [64] [] N60_ N99_) (i101_ : ze N44_ 81 64 < ze N99_ 81 64) (i102_ : ze N99_ 81 64 ≤ n_) (i103_ : 1 ≤ ze N99_ 81 65) (i104_ : ze N99_ 81 65 ≤ ((gF T).length : Int)) (i105_ : (∀ j : Nat, (j : Int) < ze N99_ 81 65 → -999999 ≤ zg N99_ 99 j ∧ zg N99_ 99 j ≤ 999999)) (i106_ : (∃ q0 t : Nat, zRwn b_ n_ (zru zpB b_ n_ 0) (fun j_ => zg N99_ 99 j_) ((ze N99_ 81 65).toNat - 1) q0 ∧ zNs b_ n_ q0 (zg N99_ 99 ((ze N99_ 81 65).toNat - 1)) t ∧ (t < n_ → zpB (b_ t) = true) ∧ zru zpB b_ n_ (ze N99_ 81 64).toNat = zru zpB b_ n_ t)), (n_ - ze N99_ 81 64).toNat < n → zW l m_M_readsMarks (zn Mz + 0, zw Mz + 0) N99_ 67 [some (.ref 81), some (.int (Int32.ofInt a0_))] [] (zpI [64, 65] [99] Mz (fun v N => (((v = 1 ∧ zRown b_ n_ (gF T).length (fun j_ => zg N 99 j_) ∧ (∀ j : Nat, j < (gF T).length → -999999 ≤ zg N 99 j ∧ zg N 99 j ≤ 999999)) ∨ (v = 0 ∧ ¬ ∃ f_ : Nat → Int, zRown b_ n_ (gF T).length f_))))) := by
                            intro n
                            induction n with
                            | zero =>
                              intro N99_ hs100_ i101_ i102_ i103_ i104_ i105_ i106_ h0
                              exact absurd h0 (Nat.not_lt_zero _)
                            | succ n ih_67 =>
                              intro N99_ hs100_ i101_ i102_ i103_ i104_ i105_ i106_ hlt_67
                              have hf_N99_ : zFr [64, 65] [99] Mz N99_ := hf_N60_.tr hs100_ (by decide) (by decide)
                              have hb0_N99_ : zFr [64, 65] [99] N19_ N99_ := hb0_N60_.tr hs100_ (by decide) (by decide)
                              have e26_N99_ : ze N99_ 81 26 = ze N60_ 81 26 := hs100_.e (by decide)
                              have r64_N99_ := ze_r N99_ 81 64
                              have e65_N99_ : ze N99_ 81 65 = ze N60_ 81 65 := hs100_.e (by decide)
                              have c107_ : zGB T N99_ := zGB.fr hs100_ c62_ (by decide) (by decide)
                              have c108_ : zR82 b_ n_ N99_ := zR82.fr hs100_ c63_ (by decide) (by decide)
                              have c109_ : zTab T N99_ := zTab.fr hs100_ c64_ (by decide) (by decide)
                              have c110_ : zB 85 144 0 5 N99_ := zB.fr hs100_ c65_ (by decide) (by decide)
                              have c111_ : zJX T N99_ := zJX.fr hs100_ c66_ (by decide) (by decide)
                              have c112_ : zFirs T N99_ := zFirs.fr hs100_ c67_ (by decide) (by decide)
                              have c113_ : zSSm T N99_ := zSSm.fr hs100_ c68_ (by decide) (by decide)
                              have c114_ : zGD N99_ := zGD.fr hs100_ c69_ (by decide) (by decide)
                              have hbb2_ := (show (∀ j : Nat, (j : Int) < ze N99_ 81 65 → -999999 ≤ zg N99_ 99 j ∧ zg N99_ 99 j ≤ 999999) by assumption)
                              obtain ⟨q0_, t_, i1_, i2_, i3_, i4_⟩ := (show (∃ q0 t : Nat, zRwn b_ n_ (zru zpB b_ n_ 0) (fun j_ => zg N99_ 99 j_) ((ze N99_ 81 65).toNat - 1) q0 ∧ zNs b_ n_ q0 (zg N99_ 99 ((ze N99_ 81 65).toNat - 1)) t ∧ (t < n_ → zpB (b_ t) = true) ∧ zru zpB b_ n_ (ze N99_ 81 64).toNat = zru zpB b_ n_ t) by assumption)
                              refine zw_aload_n (pc := 67) (n := 0) (x := 81) rfl d_M_readsMarks_67 ?_
                              refine zw_iload_n (pc := 68) (n := 1) (x := Int32.ofInt a0_) rfl d_M_readsMarks_68 ?_
                              refine zr_callV (hf_N99_.w hW) hf_N99_.x (pc := 69) [.int (Int32.ofInt a0_)] [] l_M_514 (c_M_isBlankS l N99_ (hf_N99_.w hW) a0_ ha0_a ha0_b b_ n_ c108_ (show a0_ = n_ by first | assumption | omega) (show 0 ≤ ze N99_ 81 64 by first | assumption | omega)) rfl rfl rfl (by decide) (Nat.le_of_ble_eq_true rfl) d_M_readsMarks_69 ?_
                              rintro _ N115_ ⟨v116_, rfl, ⟨hv116_a, hv116_b⟩, hsN115_, hp0_N115_⟩
                              obtain rfl := hsN115_.eq.symm
                              replace hp0_N115_ : ((v116_ = 1 ∧ ze N99_ 81 64 < n_ ∧ zpB (b_ (ze N99_ 81 64).toNat) = true) ∨ (v116_ = 0 ∧ (n_ ≤ ze N99_ 81 64 ∨ (ze N99_ 81 64 < n_ ∧ zpB (b_ (ze N99_ 81 64).toNat) = false)))) := hp0_N115_
                              rcases hp0_N115_ with ⟨rfl, ha69_0_hp0_N115_, ha69_1_hp0_N115_⟩ | ⟨rfl, ha69_0_hp0_N115_⟩
                              · skip
                                have hm1_ := ha69_0_hp0_N115_
                                have hm2_ := ha69_1_hp0_N115_
                                show zW l m_M_readsMarks (zn Mz + 0, zw Mz + 0) N99_ 72 [some (.ref 81), some (.int (Int32.ofInt a0_))] [.int (Int32.ofInt 1)] (zpI [64, 65] [99] Mz (fun v N => (((v = 1 ∧ zRown b_ n_ (gF T).length (fun j_ => zg N 99 j_) ∧ (∀ j : Nat, j < (gF T).length → -999999 ≤ zg N 99 j ∧ zg N 99 j ≤ 999999)) ∨ (v = 0 ∧ ¬ ∃ f_ : Nat → Int, zRown b_ n_ (gF T).length f_)))))
                                refine zr_if_eq (pc := 72) (tgt := 31) ⟨(by decide), (by decide)⟩ (by decide) d_M_readsMarks_72 (fun hc_72 => ?_) (fun hc_72 => ?_)
                                · skip
                                  exact absurd hc_72 (by decide)
                                · skip
                                  refine zw_aload_n (pc := 75) (n := 0) (x := 81) rfl d_M_readsMarks_75 ?_
                                  refine zw_dup (pc := 76) rfl d_M_readsMarks_76 ?_
                                  refine zr_getI (hf_N99_.w hW) (pc := 77) f_M_504 rfl d_M_readsMarks_77 ?_
                                  refine zw_iconst (pc := 80) (v := Int32.ofInt 1) (by decide) d_M_readsMarks_80 ?_
                                  refine zr_iadd (pc := 81) d_M_readsMarks_81 ?_
                                  refine zr_putI (hf_N99_.w hW) (pc := 82) f_M_504 rfl rfl ⟨by omega, by omega⟩ rfl rfl d_M_readsMarks_82 (fun N117_ hsN117_ hvN117_ => ?_)
                                  have hf_N117_ : zFr [64, 65] [99] Mz N117_ := hf_N99_.tr hsN117_ (by decide) (by decide)
                                  have hb0_N117_ : zFr [64, 65] [99] N19_ N117_ := hb0_N99_.tr hsN117_ (by decide) (by decide)
                                  have hb1_N117_ : zFr [64] [] N60_ N117_ := hs100_.tr hsN117_ (by decide) (by decide)
                                  have e26_N117_ : ze N117_ 81 26 = ze N99_ 81 26 := hsN117_.e (by decide)
                                  have r64_N117_ := ze_r N117_ 81 64
                                  have e65_N117_ : ze N117_ 81 65 = ze N99_ 81 65 := hsN117_.e (by decide)
                                  have c118_ : zGB T N117_ := zGB.fr hsN117_ c107_ (by decide) (by decide)
                                  have c119_ : zR82 b_ n_ N117_ := zR82.fr hsN117_ c108_ (by decide) (by decide)
                                  have c120_ : zTab T N117_ := zTab.fr hsN117_ c109_ (by decide) (by decide)
                                  have c121_ : zB 85 144 0 5 N117_ := zB.fr hsN117_ c110_ (by decide) (by decide)
                                  have c122_ : zJX T N117_ := zJX.fr hsN117_ c111_ (by decide) (by decide)
                                  have c123_ : zFirs T N117_ := zFirs.fr hsN117_ c112_ (by decide) (by decide)
                                  have c124_ : zSSm T N117_ := zSSm.fr hsN117_ c113_ (by decide) (by decide)
                                  have c125_ : zGD N117_ := zGD.fr hsN117_ c114_ (by decide) (by decide)
                                  have hzf_ : zru zpB b_ n_ (ze N117_ 81 64).toNat = zru zpB b_ n_ t_ := by rw [show (ze N117_ 81 64).toNat = (ze N99_ 81 64).toNat + 1 by omega, ← zru_t (by omega) hm2_]; exact i4_
                                  refine zw_goto (pc := 85) (tgt := 67) (by decide) d_M_readsMarks_85 ?_
                                  exact ih_67 N117_ hb1_N117_ (show ze N44_ 81 64 < ze N117_ 81 64 by first | assumption | omega) (show ze N117_ 81 64 ≤ n_ by first | assumption | omega) (show 1 ≤ ze N117_ 81 65 by first | assumption | omega) (show ze N117_ 81 65 ≤ ((gF T).length : Int) by first | assumption | omega) (show (∀ j : Nat, (j : Int) < ze N117_ 81 65 → -999999 ≤ zg N117_ 99 j ∧ zg N117_ 99 j ≤ 999999) by exact fun j_ hj_ => by rw [(hsN117_).jg (by decide) (by decide) j_]; exact hbb2_ j_ (by omega)) (show (∃ q0 t : Nat, zRwn b_ n_ (zru zpB b_ n_ 0) (fun j_ => zg N117_ 99 j_) ((ze N117_ 81 65).toNat - 1) q0 ∧ zNs b_ n_ q0 (zg N117_ 99 ((ze N117_ 81 65).toNat - 1)) t ∧ (t < n_ → zpB (b_ t) = true) ∧ zru zpB b_ n_ (ze N117_ 81 64).toNat = zru zpB b_ n_ t) by exact ⟨q0_, t_, by rw [show (ze N117_ 81 65).toNat = (ze N99_ 81 65).toNat by omega]; exact zRwn_c (fun i_ _ => ((hsN117_).jg (by decide) (by decide) i_).symm) i1_, by rw [show (ze N117_ 81 65).toNat = (ze N99_ 81 65).toNat by omega, (hsN117_).jg (by decide) (by decide)]; exact i2_, i3_, hzf_⟩) (by omega)
                              · skip
                                have hm0_ := ha69_0_hp0_N115_
                                show zW l m_M_readsMarks (zn Mz + 0, zw Mz + 0) N99_ 72 [some (.ref 81), some (.int (Int32.ofInt a0_))] [.int (Int32.ofInt 0)] (zpI [64, 65] [99] Mz (fun v N => (((v = 1 ∧ zRown b_ n_ (gF T).length (fun j_ => zg N 99 j_) ∧ (∀ j : Nat, j < (gF T).length → -999999 ≤ zg N 99 j ∧ zg N 99 j ≤ 999999)) ∨ (v = 0 ∧ ¬ ∃ f_ : Nat → Int, zRown b_ n_ (gF T).length f_)))))
                                refine zr_if_eq (pc := 72) (tgt := 31) ⟨(by decide), (by decide)⟩ (by decide) d_M_readsMarks_72 (fun hc_72 => ?_) (fun hc_72 => ?_)
                                · skip
                                  exact ih_31 N99_ hb0_N99_ (show 0 ≤ ze N99_ 81 64 by first | assumption | omega) (show ze N99_ 81 64 ≤ n_ by first | assumption | omega) (show 0 ≤ ze N99_ 81 65 by first | assumption | omega) (show ze N99_ 81 65 ≤ ((gF T).length : Int) by first | assumption | omega) (show zRwn b_ n_ (zru zpB b_ n_ 0) (fun j_ => zg N99_ 99 j_) (ze N99_ 81 65).toNat (ze N99_ 81 64).toNat by rw [show (ze N99_ 81 65).toNat = ((ze N99_ 81 65).toNat - 1) + 1 by omega]; exact zRwn_s i1_ (i2_.b i3_ (by rw [← i4_]; exact (zru_f (fun q_ => by rcases hm0_ with h_ | h_; have h2_ := q_.1; omega; have h2_ := q_.2; rw [h_.2] at h2_; cases h2_)).symm)) (fun _ _ => rfl) rfl) (show (∀ j : Nat, (j : Int) < ze N99_ 81 65 → -999999 ≤ zg N99_ 99 j ∧ zg N99_ 99 j ≤ 999999) by exact hbb2_) (by omega)
                                · skip
                                  exact absurd hc_72 (by decide)
                          exact lp_67 _ N60_ zFr.rf (show ze N44_ 81 64 < ze N60_ 81 64 by first | assumption | omega) (show ze N60_ 81 64 ≤ n_ by first | assumption | omega) (show 1 ≤ ze N60_ 81 65 by first | assumption | omega) (show ze N60_ 81 65 ≤ ((gF T).length : Int) by first | assumption | omega) (show (∀ j : Nat, (j : Int) < ze N60_ 81 65 → -999999 ≤ zg N60_ 99 j ∧ zg N60_ 99 j ≤ 999999) by exact hbk_) (show (∃ q0 t : Nat, zRwn b_ n_ (zru zpB b_ n_ 0) (fun j_ => zg N60_ 99 j_) ((ze N60_ 81 65).toNat - 1) q0 ∧ zNs b_ n_ q0 (zg N60_ 99 ((ze N60_ 81 65).toNat - 1)) t ∧ (t < n_ → zpB (b_ t) = true) ∧ zru zpB b_ n_ (ze N60_ 81 64).toNat = zru zpB b_ n_ t) by exact ⟨_, _, hrk_, hnk_, fun h_ => (by first | exact hl2_ | (exfalso; omega)), rfl⟩) (Nat.lt_succ_self _)
                        · skip
                          exact absurd hc_62 (by decide)
                      · skip
                        have hl0_ := ha59_0_hp0_N97_
                        show zW l m_M_readsMarks (zn Mz + 0, zw Mz + 0) N60_ 62 [some (.ref 81), some (.int (Int32.ofInt a0_))] [.int (Int32.ofInt 0)] (zpI [64, 65] [99] Mz (fun v N => (((v = 1 ∧ zRown b_ n_ (gF T).length (fun j_ => zg N 99 j_) ∧ (∀ j : Nat, j < (gF T).length → -999999 ≤ zg N 99 j ∧ zg N 99 j ≤ 999999)) ∨ (v = 0 ∧ ¬ ∃ f_ : Nat → Int, zRown b_ n_ (gF T).length f_)))))
                        refine zr_if_ne (pc := 62) (tgt := 67) ⟨(by decide), (by decide)⟩ (by decide) d_M_readsMarks_62 (fun hc_62 => ?_) (fun hc_62 => ?_)
                        · skip
                          exact absurd hc_62 (by decide)
                        · skip
                          refine zw_iconst (pc := 65) (v := Int32.ofInt 0) (by decide) d_M_readsMarks_65 ?_
                          exact zr_iret (pc := 66) (ty := .boolean) rfl (z_narB (by omega)) ⟨by omega, by omega⟩ hf_N60_ (show ((0 = 1 ∧ zRown b_ n_ (gF T).length (fun j_ => zg N60_ 99 j_) ∧ (∀ j : Nat, j < (gF T).length → -999999 ≤ zg N60_ 99 j ∧ zg N60_ 99 j ≤ 999999)) ∨ (0 = 0 ∧ ¬ ∃ f_ : Nat → Int, zRown b_ n_ (gF T).length f_)) from Or.inr (⟨(show 0 = 0 by first | rfl | exact hnn_ | exact zRown_n hrw_ (by omega) (zNs_nb hn3_ (by omega) (by rcases hl0_ with h_ | h_; exfalso; omega; exact h_.2)) | exact zRown_n hrw_ (by omega) (zNb_e (by omega))), (show ¬ ∃ f_ : Nat → Int, zRown b_ n_ (gF T).length f_ by first | rfl | exact hnn_ | exact zRown_n hrw_ (by omega) (zNs_nb hn3_ (by omega) (by rcases hl0_ with h_ | h_; exfalso; omega; exact h_.2)) | exact zRown_n hrw_ (by omega) (zNb_e (by omega)))⟩)) d_M_readsMarks_66
                  · skip
                    exact absurd hc_44 (by decide)
                · skip
                  have hnn_ : ¬ ∃ f_ : Nat → Int, zRown b_ n_ (gF T).length f_ := by rcases ha41_0_hp0_N60_ with q_ | q_; (have h_ := hrw_; rw [show (ze N44_ 81 65).toNat = (gF T).length by omega] at h_; exact zRown_e h_ (by omega)); (by_cases g_ : ze N44_ 81 65 = ((gF T).length : Int); (have h_ := hrw_; rw [show (ze N44_ 81 65).toNat = (gF T).length by omega] at h_; exact zRown_e h_ (by omega)); exact zRown_n hrw_ (by omega) (zNs_no q_))
                  show zW l m_M_readsMarks (zn Mz + 0, zw Mz + 0) N60_ 44 [some (.ref 81), some (.int (Int32.ofInt a0_))] [.int (Int32.ofInt 0)] (zpI [64, 65] [99] Mz (fun v N => (((v = 1 ∧ zRown b_ n_ (gF T).length (fun j_ => zg N 99 j_) ∧ (∀ j : Nat, j < (gF T).length → -999999 ≤ zg N 99 j ∧ zg N 99 j ≤ 999999)) ∨ (v = 0 ∧ ¬ ∃ f_ : Nat → Int, zRown b_ n_ (gF T).length f_)))))
                  refine zr_if_ne (pc := 44) (tgt := 49) ⟨(by decide), (by decide)⟩ (by decide) d_M_readsMarks_44 (fun hc_44 => ?_) (fun hc_44 => ?_)
                  · skip
                    exact absurd hc_44 (by decide)
                  · skip
                    refine zw_iconst (pc := 47) (v := Int32.ofInt 0) (by decide) d_M_readsMarks_47 ?_
                    exact zr_iret (pc := 48) (ty := .boolean) rfl (z_narB (by omega)) ⟨by omega, by omega⟩ hf_N60_ (show ((0 = 1 ∧ zRown b_ n_ (gF T).length (fun j_ => zg N60_ 99 j_) ∧ (∀ j : Nat, j < (gF T).length → -999999 ≤ zg N60_ 99 j ∧ zg N60_ 99 j ≤ 999999)) ∨ (0 = 0 ∧ ¬ ∃ f_ : Nat → Int, zRown b_ n_ (gF T).length f_)) from Or.inr (⟨(show 0 = 0 by first | rfl | exact hnn_ | exact zRown_n hrw_ (by omega) (zNs_nb hn3_ (by omega) (by rcases hl0_ with h_ | h_; exfalso; omega; exact h_.2)) | exact zRown_n hrw_ (by omega) (zNb_e (by omega))), (show ¬ ∃ f_ : Nat → Int, zRown b_ n_ (gF T).length f_ by first | rfl | exact hnn_ | exact zRown_n hrw_ (by omega) (zNs_nb hn3_ (by omega) (by rcases hl0_ with h_ | h_; exfalso; omega; exact h_.2)) | exact zRown_n hrw_ (by omega) (zNb_e (by omega)))⟩)) d_M_readsMarks_48
          exact lp_31 _ N19_ zFr.rf (show 0 ≤ ze N19_ 81 64 by first | assumption | omega) (show ze N19_ 81 64 ≤ n_ by first | assumption | omega) (show 0 ≤ ze N19_ 81 65 by first | assumption | omega) (show ze N19_ 81 65 ≤ ((gF T).length : Int) by first | assumption | omega) (show zRwn b_ n_ (zru zpB b_ n_ 0) (fun j_ => zg N19_ 99 j_) (ze N19_ 81 65).toNat (ze N19_ 81 64).toNat by rw [show (ze N19_ 81 65).toNat = 0 by omega]; show (ze N19_ 81 64).toNat = (zru zpB b_ n_ 0); rw [← hzb_]; exact (zru_f (fun q_ => by rcases hk0_ with h_ | h_; have h2_ := q_.1; omega; have h2_ := q_.2; rw [h_.2] at h2_; cases h2_)).symm) (show (∀ j : Nat, (j : Int) < ze N19_ 81 65 → -999999 ≤ zg N19_ 99 j ∧ zg N19_ 99 j ≤ 999999) by exact fun j_ hj_ => absurd hj_ (by omega)) (Nat.lt_succ_self _)
        · skip
          exact absurd hc_15 (by decide)
  exact lp_10 _ N10_ zFr.rf (show 0 ≤ ze N10_ 81 64 by first | assumption | omega) (show ze N10_ 81 64 ≤ n_ by first | assumption | omega) (show ze N10_ 81 65 = 0 by first | assumption | omega) (show zru zpB b_ n_ (ze N10_ 81 64).toNat = (zru zpB b_ n_ 0) by rw [show (ze N10_ 81 64).toNat = 0 by omega]) (Nat.lt_succ_self _)
