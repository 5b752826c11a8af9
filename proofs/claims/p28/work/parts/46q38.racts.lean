set_option maxHeartbeats 4000000 in
theorem c_M_fault (l : Launch) (Mz : zMem) (hW : zMt Mz) (a0_ : Int) (ha0_a : -2147483648 ≤ a0_) (ha0_b : a0_ < 2147483648) : zC l m_M_fault 0 0 [.ref 81, .int (Int32.ofInt a0_)] Mz (zpI [] [] Mz (fun v N => True)) := by
  refine zC_of (L0 := [some (.ref 81), some (.int (Int32.ofInt a0_))]) md_M_fault (Nat.le_of_ble_eq_true rfl) rfl ?_ zQ0
  have hf : zFr [] [] Mz Mz := zFr.rf
  have r_9 := ze_r Mz 81 9
  have r_10 := ze_r Mz 81 10
  refine zw_iload_n (pc := 0) (n := 1) (x := Int32.ofInt a0_) rfl (zdal_p dlC_M_fault_145 (i := 0) rfl) ?_
  refine zr_if_ne (pc := 1) (tgt := 11) ⟨ha0_a, ha0_b⟩ (by decide) (zdal_p dlC_M_fault_145 (i := 1) rfl) (fun hc_1 => ?_) (fun hc_1 => ?_)
  · skip
    refine zw_iload_n (pc := 11) (n := 1) (x := Int32.ofInt a0_) rfl (zdal_p dlC_M_fault_145 (i := 5) rfl) ?_
    refine zw_iconst (pc := 12) (v := Int32.ofInt 1) (by decide) (zdal_p dlC_M_fault_145 (i := 6) rfl) ?_
    refine zr_icmp_ne (pc := 13) (tgt := 23) ⟨ha0_a, ha0_b⟩ ⟨(by decide), (by decide)⟩ (by decide) (zdal_p dlC_M_fault_145 (i := 7) rfl) (fun hc_13 => ?_) (fun hc_13 => ?_)
    · skip
      refine zw_iconst (pc := 23) (v := Int32.ofInt (-1)) (by decide) (zdal_p dlC_M_fault_145 (i := 11) rfl) ?_
      exact zr_iret (pc := 24) (ty := .int) rfl rfl ⟨by (decide), by (decide)⟩ hf trivial (zdal_p dlC_M_fault_145 (i := 12) rfl)
    · skip
      refine zw_aload_n (pc := 16) (n := 0) (x := 81) rfl (zdal_p dlC_M_fault_145 (i := 8) rfl) ?_
      refine zr_getI0 hf hW (pc := 17) (by decide) f_M_17 rfl (zdal_p dlC_M_fault_145 (i := 9) rfl) ?_
      refine zw_goto (pc := 20) (tgt := 24) (by decide) (zdal_p dlC_M_fault_145 (i := 10) rfl) ?_
      exact zr_iret (pc := 24) (ty := .int) rfl rfl ⟨by (exact zo_284 r_10.1), by (exact zo_285 r_10.2)⟩ hf trivial (zdal_p dlC_M_fault_145 (i := 12) rfl)
  · skip
    refine zw_aload_n (pc := 4) (n := 0) (x := 81) rfl (zdal_p dlC_M_fault_145 (i := 2) rfl) ?_
    refine zr_getI0 hf hW (pc := 5) (by decide) f_M_379 rfl (zdal_p dlC_M_fault_145 (i := 3) rfl) ?_
    refine zw_goto (pc := 8) (tgt := 24) (by decide) (zdal_p dlC_M_fault_145 (i := 4) rfl) ?_
    exact zr_iret (pc := 24) (ty := .int) rfl rfl ⟨by (exact zo_284 r_9.1), by (exact zo_285 r_9.2)⟩ hf trivial (zdal_p dlC_M_fault_145 (i := 12) rfl)
set_option maxHeartbeats 4000000 in
theorem c_M_tells (l : Launch) (Mz : zMem) (hW : zMt Mz) : zC l m_M_tells 0 0 [.ref 81] Mz (zpV [9, 10] [] Mz (fun N => True)) := by
  refine zC_of (L0 := [some (.ref 81)]) md_M_tells (Nat.le_of_ble_eq_true rfl) rfl ?_ zQ0
  have hf : zFr [9, 10] [] Mz Mz := zFr.rf
  have r_7 := ze_r Mz 81 7
  have r_8 := ze_r Mz 81 8
  have r_9 := ze_r Mz 81 9
  have r_10 := ze_r Mz 81 10
  refine zw_aload_n (pc := 0) (n := 0) (x := 81) rfl (zdal_p dlC_M_tells_141 (i := 0) rfl) ?_
  refine zw_aload_n (pc := 1) (n := 0) (x := 81) rfl (zdal_p dlC_M_tells_141 (i := 1) rfl) ?_
  refine zr_getI0 hf hW (pc := 2) (by decide) f_M_172 rfl (zdal_p dlC_M_tells_141 (i := 2) rfl) ?_
  refine zr_putI (hf.w hW) (pc := 5) f_M_379 rfl rfl ⟨by (exact zo_284 r_7.1), by (exact zo_285 r_7.2)⟩ rfl rfl (zdal_p dlC_M_tells_141 (i := 3) rfl) (fun N1_ hsN1_ hvN1_ => ?_)
  have hf_N1_ : zFr [9, 10] [] Mz N1_ := hf.tr hsN1_ (by decide) (by decide)
  have e7_N1_ : ze N1_ 81 7 = ze Mz 81 7 := hsN1_.e (by decide)
  have e8_N1_ : ze N1_ 81 8 = ze Mz 81 8 := hsN1_.e (by decide)
  have r9_N1_ := ze_r N1_ 81 9
  have e10_N1_ : ze N1_ 81 10 = ze Mz 81 10 := hsN1_.e (by decide)
  refine zw_aload_n (pc := 8) (n := 0) (x := 81) rfl (zdal_p dlC_M_tells_141 (i := 4) rfl) ?_
  refine zw_aload_n (pc := 9) (n := 0) (x := 81) rfl (zdal_p dlC_M_tells_141 (i := 5) rfl) ?_
  refine zr_getI0 hf_N1_ hW (pc := 10) (by decide) f_M_13 rfl (zdal_p dlC_M_tells_141 (i := 6) rfl) ?_
  refine zr_putI (hf_N1_.w hW) (pc := 13) f_M_17 rfl rfl ⟨by (exact zo_284 r_8.1), by (exact zo_285 r_8.2)⟩ rfl rfl (zdal_p dlC_M_tells_141 (i := 7) rfl) (fun N2_ hsN2_ hvN2_ => ?_)
  have hf_N2_ : zFr [9, 10] [] Mz N2_ := hf_N1_.tr hsN2_ (by decide) (by decide)
  have e7_N2_ : ze N2_ 81 7 = ze N1_ 81 7 := hsN2_.e (by decide)
  have e8_N2_ : ze N2_ 81 8 = ze N1_ 81 8 := hsN2_.e (by decide)
  have e9_N2_ : ze N2_ 81 9 = ze N1_ 81 9 := hsN2_.e (by decide)
  have r10_N2_ := ze_r N2_ 81 10
  exact zr_vret (pc := 16) rfl hf_N2_ trivial (zdal_p dlC_M_tells_141 (i := 8) rfl)
set_option maxHeartbeats 4000000 in
theorem c_M_uses (l : Launch) (Mz : zMem) (hW : zMt Mz) (a0_ : Int) (ha0_a : -2147483648 ≤ a0_) (ha0_b : a0_ < 2147483648) (T : zGT) (hO : gOK T) (p0_ : zGB T Mz) (p1_ : 0 ≤ ze Mz 81 18) (p2_ : ze Mz 81 18 ≤ 8) (p3_ : 0 ≤ ze Mz 81 60) (p4_ : ze Mz 81 60 ≤ 12) : zC l m_M_uses 0 0 [.ref 81, .int (Int32.ofInt a0_)] Mz (zpI [60] [98, 111] Mz (fun v N => 0 ≤ ze N 81 60 ∧ ze N 81 60 ≤ 12)) := by
  refine zC_of (L0 := [some (.ref 81), some (.int (Int32.ofInt a0_)), none]) md_M_uses (Nat.le_of_ble_eq_true rfl) rfl ?_ zQ0
  have hf : zFr [60] [98, 111] Mz Mz := zFr.rf
  have r_18 := ze_r Mz 81 18
  have r_26 := ze_r Mz 81 26
  have r_60 := ze_r Mz 81 60
  have hG := hO.1
  have g24 := hG.2.1
  have g1 := hG.1
  have dv0 : zTab T Mz := p0_.1
  have dv1 : zB 85 144 0 5 Mz := p0_.2.1
  have dv2 : zJX T Mz := p0_.2.2.1
  have dv3 : zFirs T Mz := p0_.2.2.2.1
  have dv4 : zSSm T Mz := p0_.2.2.2.2.1
  have dv5 : zGD Mz := zGB.d hO p0_
  have gb := dv5.1
  have gn := dv0.1
  refine zw_iload_n (pc := 0) (n := 1) (x := Int32.ofInt a0_) rfl (zdal_p dlD_M_uses_135 (i := 0) rfl) ?_
  refine zr_i2l (pc := 1) ⟨ha0_a, ha0_b⟩ (zdal_p dlD_M_uses_135 (i := 1) rfl) ?_
  refine zw_lconst (pc := 2) (v := Int64.ofInt 0) (by decide) (zdal_p dlD_M_uses_135 (i := 2) rfl) ?_
  refine zw_aload_n (pc := 3) (n := 0) (x := 81) rfl (zdal_p dlD_M_uses_135 (i := 3) rfl) ?_
  refine zr_getI0 hf hW (pc := 4) (by decide) f_M_388 rfl (zdal_p dlD_M_uses_135 (i := 4) rfl) ?_
  refine zw_iconst (pc := 7) (v := Int32.ofInt 1) (by decide) (zdal_p dlD_M_uses_135 (i := 5) rfl) ?_
  refine zr_isub (pc := 8) (zdal_p dlD_M_uses_135 (i := 6) rfl) ?_
  refine zr_i2l (pc := 9) ⟨(by (exact zo_600 p1_)), (by (exact zo_826 p2_))⟩ (zdal_p dlD_M_uses_135 (i := 7) rfl) ?_
  refine zr_callS hf.x (pc := 10) [.long (Int64.ofInt a0_), .long (Int64.ofInt 0), .long (Int64.ofInt ((ze Mz 81 18) - 1))] [] l_M_131 (c_M_isIn l Mz (hf.w hW) a0_ (by (exact zo_282 ha0_a)) (by (exact zo_283 ha0_b)) 0 (by decide) (by decide) ((ze Mz 81 18) - 1) (by (exact zo_827 p1_)) (by (exact zo_828 p2_))) rfl rfl (by decide) (Nat.le_of_ble_eq_true rfl) (zdal_p dlD_M_uses_135 (i := 8) rfl) ?_
  rintro _ N1_ ⟨v2_, rfl, ⟨hv2_a, hv2_b⟩, hsN1_, hp0_N1_⟩
  obtain rfl := hsN1_.eq.symm
  replace hp0_N1_ : ((v2_ = 1 ∧ 0 ≤ a0_ ∧ a0_ ≤ ((ze Mz 81 18) - 1)) ∨ (v2_ = 0 ∧ (a0_ < 0 ∨ ((ze Mz 81 18) - 1) < a0_))) := hp0_N1_
  rcases hp0_N1_ with ⟨rfl, ha10_0_hp0_N1_, ha10_1_hp0_N1_⟩ | ⟨rfl, ha10_0_hp0_N1_⟩
  · skip
    show zW l m_M_uses (zn Mz + 0, zw Mz + 0) Mz 13 [some (.ref 81), some (.int (Int32.ofInt a0_)), none] [.int (Int32.ofInt 1)] _
    refine zr_if_ne (pc := 13) (tgt := 18) ⟨(by decide), (by decide)⟩ (by decide) (zdal_p dlD_M_uses_135 (i := 9) rfl) (fun hc_13 => ?_) (fun hc_13 => ?_)
    · skip
      refine zw_aload_n (pc := 18) (n := 0) (x := 81) rfl (zdal_p dlD_M_uses_135 (i := 12) rfl) ?_
      refine zr_callV (hf.w hW) hf.x (pc := 19) [] [] l_M_481 (c_M_act l Mz (hf.w hW) (show 0 ≤ ze Mz 81 60 by first | assumption | omega) (show ze Mz 81 60 ≤ 12 by first | assumption | omega)) rfl rfl rfl (by decide) (Nat.le_of_ble_eq_true rfl) (zdal_p dlD_M_uses_135 (i := 13) rfl) ?_
      rintro _ N3_ ⟨rfl, hsN3_, ⟨hp0_N3_, hp1_N3_⟩⟩
      have hf_N3_ : zFr [60] [98, 111] Mz N3_ := hf.tr hsN3_ (by decide) (by decide)
      have e18_N3_ : ze N3_ 81 18 = ze Mz 81 18 := hsN3_.e (by decide)
      have e26_N3_ : ze N3_ 81 26 = ze Mz 81 26 := hsN3_.e (by decide)
      have r60_N3_ := ze_r N3_ 81 60
      have c5_ : zGB T N3_ := zGB.fr hsN3_ p0_ (by decide) (by decide)
      have c6_ : zTab T N3_ := zTab.fr hsN3_ dv0 (by decide) (by decide)
      have c7_ : zB 85 144 0 5 N3_ := zB.fr hsN3_ dv1 (by decide) (by decide)
      have c8_ : zJX T N3_ := zJX.fr hsN3_ dv2 (by decide) (by decide)
      have c9_ : zFirs T N3_ := zFirs.fr hsN3_ dv3 (by decide) (by decide)
      have c10_ : zSSm T N3_ := zSSm.fr hsN3_ dv4 (by decide) (by decide)
      have c11_ : zGD N3_ := zGD.fr hsN3_ dv5 (by decide) (by decide)
      show zW l m_M_uses (zn Mz + 0, zw Mz + 0) N3_ 22 [some (.ref 81), some (.int (Int32.ofInt a0_)), none] [] _
      refine zw_iconst (pc := 22) (v := Int32.ofInt 0) (by decide) (zdal_p dlD_M_uses_135 (i := 14) rfl) ?_
      refine zw_istore_n (pc := 23) (i := 2) (L2 := [some (.ref 81), some (.int (Int32.ofInt a0_)), some (.int (Int32.ofInt 0))]) rfl (by decide) rfl (zdal_p dlD_M_uses_135 (i := 15) rfl) ?_
      have lp_24 : ∀ (n : Nat) (u12_ : Int) (hu12_a : -2147483648 ≤ u12_) (hu12_b : u12_ < 2147483648) (N13_ : zMem) (hs14_ : zFr [] [98] N3_ N13_) (i15_ : 0 ≤ u12_), (ze Mz 81 26 - u12_).toNat < n → zW l m_M_uses (zn Mz + 0, zw Mz + 0) N13_ 24 [some (.ref 81), some (.int (Int32.ofInt a0_)), some (.int (Int32.ofInt u12_))] [] (zpI [60] [98, 111] Mz (fun v N => 0 ≤ ze N 81 60 ∧ ze N 81 60 ≤ 12)) := by
        intro n
        induction n with
        | zero =>
          intro u12_ hu12_a hu12_b N13_ hs14_ i15_ h0
          exact absurd h0 (Nat.not_lt_zero _)
        | succ n ih_24 =>
          intro u12_ hu12_a hu12_b N13_ hs14_ i15_ hlt_24
          have hf_N13_ : zFr [60] [98, 111] Mz N13_ := hf_N3_.tr hs14_ (by decide) (by decide)
          have e18_N13_ : ze N13_ 81 18 = ze N3_ 81 18 := hs14_.e (by decide)
          have e26_N13_ : ze N13_ 81 26 = ze N3_ 81 26 := hs14_.e (by decide)
          have e60_N13_ : ze N13_ 81 60 = ze N3_ 81 60 := hs14_.e (by decide)
          have c16_ : zGB T N13_ := zGB.fr hs14_ c5_ (by decide) (by decide)
          have c17_ : zTab T N13_ := zTab.fr hs14_ c6_ (by decide) (by decide)
          have c18_ : zB 85 144 0 5 N13_ := zB.fr hs14_ c7_ (by decide) (by decide)
          have c19_ : zJX T N13_ := zJX.fr hs14_ c8_ (by decide) (by decide)
          have c20_ : zFirs T N13_ := zFirs.fr hs14_ c9_ (by decide) (by decide)
          have c21_ : zSSm T N13_ := zSSm.fr hs14_ c10_ (by decide) (by decide)
          have c22_ : zGD N13_ := zGD.fr hs14_ c11_ (by decide) (by decide)
          refine zw_iload_n (pc := 24) (n := 2) (x := Int32.ofInt u12_) rfl (zdal_p dlD_M_uses_135 (i := 16) rfl) ?_
          refine zw_aload_n (pc := 25) (n := 0) (x := 81) rfl (zdal_p dlD_M_uses_135 (i := 17) rfl) ?_
          refine zr_getI0 hf_N13_ hW (pc := 26) (by decide) f_M_235 rfl (zdal_p dlD_M_uses_135 (i := 18) rfl) ?_
          refine zr_icmp_ge (pc := 29) (tgt := 55) ⟨hu12_a, hu12_b⟩ ⟨(ze_r Mz 81 26).1, (ze_r Mz 81 26).2⟩ (by decide) (zdal_p dlD_M_uses_135 (i := 19) rfl) (fun hc_29 => ?_) (fun hc_29 => ?_)
          · skip
            refine zw_aload_n (pc := 55) (n := 0) (x := 81) rfl (zdal_p dlD_M_uses_136 (i := 10) rfl) ?_
            refine zr_callV (hf_N13_.w hW) hf_N13_.x (pc := 56) [] [] l_M_484 (c_M_parts l N13_ (hf_N13_.w hW) T hO c16_) rfl rfl rfl (by decide) (Nat.le_of_ble_eq_true rfl) (zdal_p dlD_M_uses_136 (i := 11) rfl) ?_
            rintro _ N23_ ⟨v24_, rfl, ⟨hv24_a, hv24_b⟩, hsN23_, -⟩
            obtain rfl := hsN23_.eq.symm
            show zW l m_M_uses (zn Mz + 0, zw Mz + 0) N13_ 59 [some (.ref 81), some (.int (Int32.ofInt a0_)), some (.int (Int32.ofInt u12_))] [.int (Int32.ofInt v24_)] _
            exact zr_iret (pc := 59) (ty := .int) rfl rfl ⟨by (exact hv24_a), by (exact hv24_b)⟩ hf_N13_ ⟨(show 0 ≤ ze N13_ 81 60 by first | assumption | (exact zo_568 e60_N13_ hp0_N3_)), (show ze N13_ 81 60 ≤ 12 by first | assumption | (exact zo_829 e60_N13_ hp1_N3_))⟩ (zdal_p dlD_M_uses_136 (i := 12) rfl)
          · skip
            refine zw_aload_n (pc := 32) (n := 0) (x := 81) rfl (zdal_p dlD_M_uses_135 (i := 20) rfl) ?_
            refine zr_getF (r := 98) (hf_N13_.w hW) (pc := 33) f_M_66 rfl (zh_98 (hf_N13_.w hW)).1 (zdal_p dlD_M_uses_135 (i := 21) rfl) ?_
            refine zw_iload_n (pc := 36) (n := 2) (x := Int32.ofInt u12_) rfl (zdal_p dlD_M_uses_135 (i := 22) rfl) ?_
            refine zw_aload_n (pc := 37) (n := 0) (x := 81) rfl (zdal_p dlD_M_uses_135 (i := 23) rfl) ?_
            refine zr_getF (r := 104) (hf_N13_.w hW) (pc := 38) f_M_84 rfl (zh_104 (hf_N13_.w hW)).1 (zdal_p dlD_M_uses_136 (i := 0) rfl) ?_
            refine zw_bipush (pc := 41) (v := Int32.ofInt 64) (by decide) (zdal_p dlD_M_uses_136 (i := 1) rfl) ?_
            refine zw_iload_n (pc := 43) (n := 1) (x := Int32.ofInt a0_) rfl (zdal_p dlD_M_uses_136 (i := 2) rfl) ?_
            refine zr_imul (pc := 44) (zdal_p dlD_M_uses_136 (i := 3) rfl) ?_
            refine zw_iload_n (pc := 45) (n := 2) (x := Int32.ofInt u12_) rfl (zdal_p dlD_M_uses_136 (i := 4) rfl) ?_
            refine zr_iadd (pc := 46) (zdal_p dlD_M_uses_136 (i := 5) rfl) ?_
            refine zr_laldn (pc := 47) (zh_104 (hf_N13_.w hW)).2 (by decide) (by (exact zo_529 ha10_0_hp0_N1_ i15_)) (by (exact zo_830 gb.2.2.2.2.2 ha10_1_hp0_N1_ hc_29 p2_)) (zdal_p dlD_M_uses_136 (i := 6) rfl) (fun v25_ hv25_ hv25_a hv25_b => ?_)
            rw [hf_N13_.jg (by decide) (by decide)] at hv25_
            refine zr_last (pc := 48) (zh_98 (hf_N13_.w hW)).2 (by decide) (by decide) (by (exact i15_)) (by (exact zo_831 gb.2.2.2.2.2 hc_29)) (zdal_p dlD_M_uses_136 (i := 7) rfl) (fun N26_ hN26_ hsN26_ => ?_)
            have hf_N26_ : zFr [60] [98, 111] Mz N26_ := hf_N13_.tr hsN26_ (by decide) (by decide)
            have hb0_N26_ : zFr [] [98] N3_ N26_ := hs14_.tr hsN26_ (by decide) (by decide)
            have e18_N26_ : ze N26_ 81 18 = ze N13_ 81 18 := hsN26_.e (by decide)
            have e26_N26_ : ze N26_ 81 26 = ze N13_ 81 26 := hsN26_.e (by decide)
            have e60_N26_ : ze N26_ 81 60 = ze N13_ 81 60 := hsN26_.e (by decide)
            have c27_ : zGB T N26_ := zGB.fr hsN26_ c16_ (by decide) (by decide)
            have c28_ : zTab T N26_ := zTab.fr hsN26_ c17_ (by decide) (by decide)
            have c29_ : zB 85 144 0 5 N26_ := zB.fr hsN26_ c18_ (by decide) (by decide)
            have c30_ : zJX T N26_ := zJX.fr hsN26_ c19_ (by decide) (by decide)
            have c31_ : zFirs T N26_ := zFirs.fr hsN26_ c20_ (by decide) (by decide)
            have c32_ : zSSm T N26_ := zSSm.fr hsN26_ c21_ (by decide) (by decide)
            have c33_ : zGD N26_ := zGD.fr hsN26_ c22_ (by decide) (by decide)
            refine zr_iinc (pc := 49) (i := 2) (a := u12_) (n := 1) (L2 := [some (.ref 81), some (.int (Int32.ofInt a0_)), some (.int (Int32.ofInt (u12_ + 1)))]) rfl (by decide) rfl (zdal_p dlD_M_uses_136 (i := 8) rfl) ?_
            refine zw_goto (pc := 52) (tgt := 24) (by decide) (zdal_p dlD_M_uses_136 (i := 9) rfl) ?_
            exact ih_24 (u12_ + 1) (by (exact zo_74 i15_)) (by (exact zo_832 gb.2.2.2.2.2 hc_29)) N26_ hb0_N26_ (show 0 ≤ (u12_ + 1) by first | assumption | (exact zo_76 i15_)) (by (exact zo_147 hc_29 hlt_24))
      exact lp_24 _ 0 (by decide) (by decide) N3_ zFr.rf (show 0 ≤ (0 : Int) by first | assumption | (decide)) (Nat.lt_succ_self _)
    · skip
      exact absurd hc_13 (by decide)
  · skip
    show zW l m_M_uses (zn Mz + 0, zw Mz + 0) Mz 13 [some (.ref 81), some (.int (Int32.ofInt a0_)), none] [.int (Int32.ofInt 0)] _
    refine zr_if_ne (pc := 13) (tgt := 18) ⟨(by decide), (by decide)⟩ (by decide) (zdal_p dlD_M_uses_135 (i := 9) rfl) (fun hc_13 => ?_) (fun hc_13 => ?_)
    · skip
      exact absurd hc_13 (by decide)
    · skip
      refine zw_iconst (pc := 16) (v := Int32.ofInt (-1)) (by decide) (zdal_p dlD_M_uses_135 (i := 10) rfl) ?_
      exact zr_iret (pc := 17) (ty := .int) rfl rfl ⟨by (decide), by (decide)⟩ hf ⟨(show 0 ≤ ze Mz 81 60 by first | assumption | omega), (show ze Mz 81 60 ≤ 12 by first | assumption | omega)⟩ (zdal_p dlD_M_uses_135 (i := 11) rfl)
set_option maxHeartbeats 4000000 in
theorem c_M_markAt_105 (l : Launch) (Mz : zMem) (hW : zMt Mz) (a1_ : Int) (ha1_a : -2147483648 ≤ a1_) (ha1_b : a1_ < 2147483648) (a2_ : Int) (ha2_a : -2147483648 ≤ a2_) (ha2_b : a2_ < 2147483648) (p0_ : zGD Mz) (p1_ : 0 ≤ a1_) (p2_ : a1_ ≤ 0) (p3_ : 0 ≤ a2_) (p4_ : a2_ ≤ 63) : zC l m_M_markAt 0 0 [.ref 81, .ref 105, .int (Int32.ofInt a1_), .int (Int32.ofInt a2_)] Mz (zpJ [] [] Mz (fun v N => True)) := by
  refine zC_of (L0 := [some (.ref 81), some (.ref 105), some (.int (Int32.ofInt a1_)), some (.int (Int32.ofInt a2_)), none, none, none]) md_M_markAt (Nat.le_of_ble_eq_true rfl) rfl ?_ zQ0
  have hf : zFr [] [] Mz Mz := zFr.rf
  have r_26 := ze_r Mz 81 26
  have gb := p0_.1
  refine zw_lconst (pc := 0) (v := Int64.ofInt 0) (by decide) (zdal_p dlC_M_markAt_114 (i := 0) rfl) ?_
  refine zw_lstore (pc := 1) (i := 4) (L2 := [some (.ref 81), some (.ref 105), some (.int (Int32.ofInt a1_)), some (.int (Int32.ofInt a2_)), some (.long (Int64.ofInt 0)), none, none]) (by decide) rfl (zdal_p dlC_M_markAt_114 (i := 1) rfl) ?_
  refine zw_iconst (pc := 3) (v := Int32.ofInt 0) (by decide) (zdal_p dlC_M_markAt_114 (i := 2) rfl) ?_
  refine zw_istore (pc := 4) (i := 6) (L2 := [some (.ref 81), some (.ref 105), some (.int (Int32.ofInt a1_)), some (.int (Int32.ofInt a2_)), some (.long (Int64.ofInt 0)), none, some (.int (Int32.ofInt 0))]) (by decide) rfl (zdal_p dlC_M_markAt_114 (i := 3) rfl) ?_
  have lp_6 : ∀ (n : Nat) (u1_ : Int) (hu1_a : -9223372036854775808 ≤ u1_) (hu1_b : u1_ < 9223372036854775808) (u2_ : Int) (hu2_a : -2147483648 ≤ u2_) (hu2_b : u2_ < 2147483648) (i3_ : 0 ≤ u2_), (ze Mz 81 26 - u2_).toNat < n → zW l m_M_markAt (zn Mz + 0, zw Mz + 0) Mz 6 [some (.ref 81), some (.ref 105), some (.int (Int32.ofInt a1_)), some (.int (Int32.ofInt a2_)), some (.long (Int64.ofInt u1_)), none, some (.int (Int32.ofInt u2_))] [] (zpJ [] [] Mz (fun v N => True)) := by
    intro n
    induction n with
    | zero =>
      intro u1_ hu1_a hu1_b u2_ hu2_a hu2_b i3_ h0
      exact absurd h0 (Nat.not_lt_zero _)
    | succ n ih_6 =>
      intro u1_ hu1_a hu1_b u2_ hu2_a hu2_b i3_ hlt_6
      refine zw_iload (pc := 6) (i := 6) (x := Int32.ofInt u2_) rfl (zdal_p dlC_M_markAt_114 (i := 4) rfl) ?_
      refine zw_aload_n (pc := 8) (n := 0) (x := 81) rfl (zdal_p dlC_M_markAt_114 (i := 5) rfl) ?_
      refine zr_getI0 hf hW (pc := 9) (by decide) f_M_235 rfl (zdal_p dlC_M_markAt_114 (i := 6) rfl) ?_
      refine zr_icmp_ge (pc := 12) (tgt := 46) ⟨hu2_a, hu2_b⟩ ⟨(ze_r Mz 81 26).1, (ze_r Mz 81 26).2⟩ (by decide) (zdal_p dlC_M_markAt_114 (i := 7) rfl) (fun hc_12 => ?_) (fun hc_12 => ?_)
      · skip
        refine zw_lload (pc := 46) (i := 4) (x := Int64.ofInt u1_) rfl (zdal_p dlC_M_markAt_115 (i := 4) rfl) ?_
        exact zr_lret (pc := 48) rfl ⟨by (exact hu1_a), by (exact hu1_b)⟩ hf trivial (zdal_p dlC_M_markAt_115 (i := 5) rfl)
      · skip
        refine zw_lload (pc := 15) (i := 4) (x := Int64.ofInt u1_) rfl (zdal_p dlC_M_markAt_114 (i := 8) rfl) ?_
        refine zw_aload_n (pc := 17) (n := 1) (x := 105) rfl (zdal_p dlC_M_markAt_114 (i := 9) rfl) ?_
        refine zw_iload_n (pc := 18) (n := 2) (x := Int32.ofInt a1_) rfl (zdal_p dlC_M_markAt_114 (i := 10) rfl) ?_
        refine zw_iload (pc := 19) (i := 6) (x := Int32.ofInt u2_) rfl (zdal_p dlC_M_markAt_114 (i := 11) rfl) ?_
        refine zr_iadd (pc := 21) (zdal_p dlC_M_markAt_114 (i := 12) rfl) ?_
        refine zr_laldn (pc := 22) (zh_105 (hf.w hW)).2 (by decide) (by (exact zo_833 i3_ p1_)) (by (exact zo_834 gb.2.2.2.2.2 hc_12 p2_)) (zdal_p dlC_M_markAt_114 (i := 13) rfl) (fun v4_ hv4_ hv4_a hv4_b => ?_)
        refine zw_aload_n (pc := 23) (n := 0) (x := 81) rfl (zdal_p dlC_M_markAt_114 (i := 14) rfl) ?_
        refine zr_getF (r := 93) (hf.w hW) (pc := 24) f_M_50 rfl (zh_93 (hf.w hW)).1 (zdal_p dlC_M_markAt_114 (i := 15) rfl) ?_
        refine zw_bipush (pc := 27) (v := Int32.ofInt 64) (by decide) (zdal_p dlC_M_markAt_114 (i := 16) rfl) ?_
        refine zw_iload (pc := 29) (i := 6) (x := Int32.ofInt u2_) rfl (zdal_p dlC_M_markAt_114 (i := 17) rfl) ?_
        refine zr_imul (pc := 31) (zdal_p dlC_M_markAt_114 (i := 18) rfl) ?_
        refine zw_iload_n (pc := 32) (n := 3) (x := Int32.ofInt a2_) rfl (zdal_p dlC_M_markAt_114 (i := 19) rfl) ?_
        refine zr_iadd (pc := 33) (zdal_p dlC_M_markAt_114 (i := 20) rfl) ?_
        refine zr_ialdn (pc := 34) (zh_93 (hf.w hW)).2 (by decide) (by (exact zo_529 i3_ p3_)) (by (exact zo_835 gb.2.2.2.2.2 hc_12 p4_)) (zdal_p dlC_M_markAt_114 (i := 21) rfl) (fun v5_ hv5_ hv5_a hv5_b => ?_)
        refine zr_i2l (pc := 35) ⟨hv5_a, hv5_b⟩ (zdal_p dlC_M_markAt_114 (i := 22) rfl) ?_
        refine zr_lmul (pc := 36) (zdal_p dlC_M_markAt_114 (i := 23) rfl) ?_
        refine zr_ladd (pc := 37) (zdal_p dlC_M_markAt_115 (i := 0) rfl) ?_
        refine zr_nmJ (fun v6_ hv6_ => ?_)
        obtain ⟨hv6_a, hv6_b⟩ := hv6_
        refine zw_lstore (pc := 38) (i := 4) (L2 := [some (.ref 81), some (.ref 105), some (.int (Int32.ofInt a1_)), some (.int (Int32.ofInt a2_)), some (.long (Int64.ofInt v6_)), none, some (.int (Int32.ofInt u2_))]) (by decide) rfl (zdal_p dlC_M_markAt_115 (i := 1) rfl) ?_
        refine zr_iinc (pc := 40) (i := 6) (a := u2_) (n := 1) (L2 := [some (.ref 81), some (.ref 105), some (.int (Int32.ofInt a1_)), some (.int (Int32.ofInt a2_)), some (.long (Int64.ofInt v6_)), none, some (.int (Int32.ofInt (u2_ + 1)))]) rfl (by decide) rfl (zdal_p dlC_M_markAt_115 (i := 2) rfl) ?_
        refine zw_goto (pc := 43) (tgt := 6) (by decide) (zdal_p dlC_M_markAt_115 (i := 3) rfl) ?_
        exact ih_6 v6_ hv6_a hv6_b (u2_ + 1) (by (exact zo_74 i3_)) (by (exact zo_832 gb.2.2.2.2.2 hc_12)) (show 0 ≤ (u2_ + 1) by first | assumption | (exact zo_76 i3_)) (by (exact zo_147 hc_12 hlt_6))
  exact lp_6 _ 0 (by decide) (by decide) 0 (by decide) (by decide) (show 0 ≤ (0 : Int) by first | assumption | (decide)) (Nat.lt_succ_self _)
set_option maxHeartbeats 4000000 in
theorem c_M_isFit_105 (l : Launch) (Mz : zMem) (hW : zMt Mz) (a1_ : Int) (ha1_a : -2147483648 ≤ a1_) (ha1_b : a1_ < 2147483648) (p0_ : zGD Mz) (p1_ : 0 ≤ a1_) (p2_ : a1_ ≤ 0) : zC l m_M_isFit 0 0 [.ref 81, .ref 105, .int (Int32.ofInt a1_)] Mz (zpI [] [] Mz (fun v N => ((v = 0 ∨ v = 1)))) := by
  refine zC_of (L0 := [some (.ref 81), some (.ref 105), some (.int (Int32.ofInt a1_)), none, none]) md_M_isFit (Nat.le_of_ble_eq_true rfl) rfl ?_ zQ0
  have hf : zFr [] [] Mz Mz := zFr.rf
  have r_26 := ze_r Mz 81 26
  have gb := p0_.1
  refine zw_iconst (pc := 0) (v := Int32.ofInt 1) (by decide) (zdal_p dlC_M_isFit_112 (i := 0) rfl) ?_
  refine zw_istore_n (pc := 1) (i := 3) (L2 := [some (.ref 81), some (.ref 105), some (.int (Int32.ofInt a1_)), some (.int (Int32.ofInt 1)), none]) rfl (by decide) rfl (zdal_p dlC_M_isFit_112 (i := 1) rfl) ?_
  refine zw_iconst (pc := 2) (v := Int32.ofInt 0) (by decide) (zdal_p dlC_M_isFit_112 (i := 2) rfl) ?_
  refine zw_istore (pc := 3) (i := 4) (L2 := [some (.ref 81), some (.ref 105), some (.int (Int32.ofInt a1_)), some (.int (Int32.ofInt 1)), some (.int (Int32.ofInt 0))]) (by decide) rfl (zdal_p dlC_M_isFit_112 (i := 3) rfl) ?_
  have lp_5 : ∀ (n : Nat) (u1_ : Int) (hu1_a : -2147483648 ≤ u1_) (hu1_b : u1_ < 2147483648) (hu1_z : u1_ = 0 ∨ u1_ = 1) (u2_ : Int) (hu2_a : -2147483648 ≤ u2_) (hu2_b : u2_ < 2147483648) (i3_ : 0 ≤ u2_), (ze Mz 81 26 - u2_).toNat < n → zW l m_M_isFit (zn Mz + 0, zw Mz + 0) Mz 5 [some (.ref 81), some (.ref 105), some (.int (Int32.ofInt a1_)), some (.int (Int32.ofInt u1_)), some (.int (Int32.ofInt u2_))] [] (zpI [] [] Mz (fun v N => ((v = 0 ∨ v = 1)))) := by
    intro n
    induction n with
    | zero =>
      intro u1_ hu1_a hu1_b hu1_z u2_ hu2_a hu2_b i3_ h0
      exact absurd h0 (Nat.not_lt_zero _)
    | succ n ih_5 =>
      intro u1_ hu1_a hu1_b hu1_z u2_ hu2_a hu2_b i3_ hlt_5
      refine zw_iload (pc := 5) (i := 4) (x := Int32.ofInt u2_) rfl (zdal_p dlC_M_isFit_112 (i := 4) rfl) ?_
      refine zw_aload_n (pc := 7) (n := 0) (x := 81) rfl (zdal_p dlC_M_isFit_112 (i := 5) rfl) ?_
      refine zr_getI0 hf hW (pc := 8) (by decide) f_M_235 rfl (zdal_p dlC_M_isFit_112 (i := 6) rfl) ?_
      refine zr_icmp_ge (pc := 11) (tgt := 48) ⟨hu2_a, hu2_b⟩ ⟨(ze_r Mz 81 26).1, (ze_r Mz 81 26).2⟩ (by decide) (zdal_p dlC_M_isFit_112 (i := 7) rfl) (fun hc_11 => ?_) (fun hc_11 => ?_)
      · skip
        refine zw_iconst (pc := 48) (v := Int32.ofInt 0) (by decide) (zdal_p dlC_M_isFit_113 (i := 1) rfl) ?_
        refine zw_istore (pc := 49) (i := 4) (L2 := [some (.ref 81), some (.ref 105), some (.int (Int32.ofInt a1_)), some (.int (Int32.ofInt u1_)), some (.int (Int32.ofInt 0))]) (by decide) rfl (zdal_p dlC_M_isFit_113 (i := 2) rfl) ?_
        have lp_51 : ∀ (n : Nat) (u4_ : Int) (hu4_a : -2147483648 ≤ u4_) (hu4_b : u4_ < 2147483648) (hu4_z : u4_ = 0 ∨ u4_ = 1) (u5_ : Int) (hu5_a : -2147483648 ≤ u5_) (hu5_b : u5_ < 2147483648) (i6_ : 0 ≤ u5_), (ze Mz 81 26 - u5_).toNat < n → zW l m_M_isFit (zn Mz + 0, zw Mz + 0) Mz 51 [some (.ref 81), some (.ref 105), some (.int (Int32.ofInt a1_)), some (.int (Int32.ofInt u4_)), some (.int (Int32.ofInt u5_))] [] (zpI [] [] Mz (fun v N => ((v = 0 ∨ v = 1)))) := by
          intro n
          induction n with
          | zero =>
            intro u4_ hu4_a hu4_b hu4_z u5_ hu5_a hu5_b i6_ h0
            exact absurd h0 (Nat.not_lt_zero _)
          | succ n ih_51 =>
            intro u4_ hu4_a hu4_b hu4_z u5_ hu5_a hu5_b i6_ hlt_51
            refine zw_iload (pc := 51) (i := 4) (x := Int32.ofInt u5_) rfl (zdal_p dlC_M_isFit_113 (i := 3) rfl) ?_
            refine zw_aload_n (pc := 53) (n := 0) (x := 81) rfl (zdal_p dlC_M_isFit_113 (i := 4) rfl) ?_
            refine zr_getI0 hf hW (pc := 54) (by decide) f_M_235 rfl (zdal_p dlC_M_isFit_113 (i := 5) rfl) ?_
            refine zr_icmp_ge (pc := 57) (tgt := 88) ⟨hu5_a, hu5_b⟩ ⟨(ze_r Mz 81 26).1, (ze_r Mz 81 26).2⟩ (by decide) (zdal_p dlC_M_isFit_113 (i := 6) rfl) (fun hc_57 => ?_) (fun hc_57 => ?_)
            · skip
              refine zw_iload_n (pc := 88) (n := 3) (x := Int32.ofInt u4_) rfl (zdal_p dlC_M_isFit_113 (i := 20) rfl) ?_
              exact zr_iret (pc := 89) (ty := .boolean) rfl (z_narB (by (exact hu4_z))) ⟨by (exact hu4_a), by (exact hu4_b)⟩ hf (show (u4_ = 0 ∨ u4_ = 1) by first | assumption | omega) (zdal_p dlC_M_isFit_113 (i := 21) rfl)
            · skip
              refine zw_iload_n (pc := 60) (n := 3) (x := Int32.ofInt u4_) rfl (zdal_p dlC_M_isFit_113 (i := 7) rfl) ?_
              refine zr_if_eq (pc := 61) (tgt := 88) ⟨hu4_a, hu4_b⟩ (by decide) (zdal_p dlC_M_isFit_113 (i := 8) rfl) (fun hc_61 => ?_) (fun hc_61 => ?_)
              · skip
                refine zw_iload_n (pc := 88) (n := 3) (x := Int32.ofInt u4_) rfl (zdal_p dlC_M_isFit_113 (i := 20) rfl) ?_
                exact zr_iret (pc := 89) (ty := .boolean) rfl (z_narB (by (exact hu4_z))) ⟨by (exact hu4_a), by (exact hu4_b)⟩ hf (show (u4_ = 0 ∨ u4_ = 1) by first | assumption | omega) (zdal_p dlC_M_isFit_113 (i := 21) rfl)
              · skip
                refine zw_aload_n (pc := 64) (n := 0) (x := 81) rfl (zdal_p dlC_M_isFit_113 (i := 9) rfl) ?_
                refine zw_aload_n (pc := 65) (n := 1) (x := 105) rfl (zdal_p dlC_M_isFit_113 (i := 10) rfl) ?_
                refine zw_iload_n (pc := 66) (n := 2) (x := Int32.ofInt a1_) rfl (zdal_p dlC_M_isFit_113 (i := 11) rfl) ?_
                refine zw_iload (pc := 67) (i := 4) (x := Int32.ofInt u5_) rfl (zdal_p dlC_M_isFit_113 (i := 12) rfl) ?_
                refine zr_callV (hf.w hW) hf.x (pc := 69) [.ref 105, .int (Int32.ofInt a1_), .int (Int32.ofInt u5_)] [] l_M_264 (c_M_markAt_105 l Mz (hf.w hW) a1_ ha1_a ha1_b u5_ hu5_a hu5_b p0_ (show 0 ≤ a1_ by first | assumption | omega) (show a1_ ≤ 0 by first | assumption | omega) (show 0 ≤ u5_ by first | assumption | omega) (show u5_ ≤ 63 by first | assumption | (exact zo_836 gb.2.2.2.2.2 hc_57))) rfl rfl rfl (by decide) (Nat.le_of_ble_eq_true rfl) (zdal_p dlC_M_isFit_113 (i := 13) rfl) ?_
                rintro _ N7_ ⟨v8_, rfl, ⟨hv8_a, hv8_b⟩, hsN7_, -⟩
                obtain rfl := hsN7_.eq.symm
                show zW l m_M_isFit (zn Mz + 0, zw Mz + 0) Mz 72 [some (.ref 81), some (.ref 105), some (.int (Int32.ofInt a1_)), some (.int (Int32.ofInt u4_)), some (.int (Int32.ofInt u5_))] [.long (Int64.ofInt v8_)] _
                refine zr_ldc2 (pc := 72) (n := (-1000000000000)) (by decide) k_M_260 (zdal_p dlC_M_isFit_113 (i := 14) rfl) ?_
                refine zr_ldc2 (pc := 75) (n := 1000000000000) (by decide) k_M_262 (zdal_p dlC_M_isFit_113 (i := 15) rfl) ?_
                refine zr_callS hf.x (pc := 78) [.long (Int64.ofInt v8_), .long (Int64.ofInt ((-1000000000000))), .long (Int64.ofInt 1000000000000)] [] l_M_131 (c_M_isIn l Mz (hf.w hW) v8_ hv8_a hv8_b ((-1000000000000)) (by decide) (by decide) 1000000000000 (by decide) (by decide)) rfl rfl (by decide) (Nat.le_of_ble_eq_true rfl) (zdal_p dlC_M_isFit_113 (i := 16) rfl) ?_
                rintro _ N9_ ⟨v10_, rfl, ⟨hv10_a, hv10_b⟩, hsN9_, hp0_N9_⟩
                obtain rfl := hsN9_.eq.symm
                replace hp0_N9_ : ((v10_ = 1 ∧ ((-1000000000000)) ≤ v8_ ∧ v8_ ≤ 1000000000000) ∨ (v10_ = 0 ∧ (v8_ < ((-1000000000000)) ∨ 1000000000000 < v8_))) := hp0_N9_
                rcases hp0_N9_ with ⟨rfl, ha78_0_hp0_N9_, ha78_1_hp0_N9_⟩ | ⟨rfl, ha78_0_hp0_N9_⟩
                · skip
                  show zW l m_M_isFit (zn Mz + 0, zw Mz + 0) Mz 81 [some (.ref 81), some (.ref 105), some (.int (Int32.ofInt a1_)), some (.int (Int32.ofInt u4_)), some (.int (Int32.ofInt u5_))] [.int (Int32.ofInt 1)] _
                  refine zw_istore_n (pc := 81) (i := 3) (L2 := [some (.ref 81), some (.ref 105), some (.int (Int32.ofInt a1_)), some (.int (Int32.ofInt 1)), some (.int (Int32.ofInt u5_))]) rfl (by decide) rfl (zdal_p dlC_M_isFit_113 (i := 17) rfl) ?_
                  refine zr_iinc (pc := 82) (i := 4) (a := u5_) (n := 1) (L2 := [some (.ref 81), some (.ref 105), some (.int (Int32.ofInt a1_)), some (.int (Int32.ofInt 1)), some (.int (Int32.ofInt (u5_ + 1)))]) rfl (by decide) rfl (zdal_p dlC_M_isFit_113 (i := 18) rfl) ?_
                  refine zw_goto (pc := 85) (tgt := 51) (by decide) (zdal_p dlC_M_isFit_113 (i := 19) rfl) ?_
                  exact ih_51 1 (by decide) (by decide) (by (decide)) (u5_ + 1) (by (exact zo_74 i6_)) (by (exact zo_832 gb.2.2.2.2.2 hc_57)) (show 0 ≤ (u5_ + 1) by first | assumption | (exact zo_76 i6_)) (by (exact zo_147 hc_57 hlt_51))
                · skip
                  show zW l m_M_isFit (zn Mz + 0, zw Mz + 0) Mz 81 [some (.ref 81), some (.ref 105), some (.int (Int32.ofInt a1_)), some (.int (Int32.ofInt u4_)), some (.int (Int32.ofInt u5_))] [.int (Int32.ofInt 0)] _
                  refine zw_istore_n (pc := 81) (i := 3) (L2 := [some (.ref 81), some (.ref 105), some (.int (Int32.ofInt a1_)), some (.int (Int32.ofInt 0)), some (.int (Int32.ofInt u5_))]) rfl (by decide) rfl (zdal_p dlC_M_isFit_113 (i := 17) rfl) ?_
                  refine zr_iinc (pc := 82) (i := 4) (a := u5_) (n := 1) (L2 := [some (.ref 81), some (.ref 105), some (.int (Int32.ofInt a1_)), some (.int (Int32.ofInt 0)), some (.int (Int32.ofInt (u5_ + 1)))]) rfl (by decide) rfl (zdal_p dlC_M_isFit_113 (i := 18) rfl) ?_
                  refine zw_goto (pc := 85) (tgt := 51) (by decide) (zdal_p dlC_M_isFit_113 (i := 19) rfl) ?_
                  exact ih_51 0 (by decide) (by decide) (by (decide)) (u5_ + 1) (by (exact zo_74 i6_)) (by (exact zo_832 gb.2.2.2.2.2 hc_57)) (show 0 ≤ (u5_ + 1) by first | assumption | (exact zo_76 i6_)) (by (exact zo_147 hc_57 hlt_51))
        exact lp_51 _ u1_ hu1_a hu1_b (by (exact hu1_z)) 0 (by decide) (by decide) (show 0 ≤ (0 : Int) by first | assumption | (decide)) (Nat.lt_succ_self _)
      · skip
        refine zw_iload_n (pc := 14) (n := 3) (x := Int32.ofInt u1_) rfl (zdal_p dlC_M_isFit_112 (i := 8) rfl) ?_
        refine zr_if_eq (pc := 15) (tgt := 40) ⟨hu1_a, hu1_b⟩ (by decide) (zdal_p dlC_M_isFit_112 (i := 9) rfl) (fun hc_15 => ?_) (fun hc_15 => ?_)
        · skip
          refine zw_iconst (pc := 40) (v := Int32.ofInt 0) (by decide) (zdal_p dlC_M_isFit_112 (i := 21) rfl) ?_
          refine zw_istore_n (pc := 41) (i := 3) (L2 := [some (.ref 81), some (.ref 105), some (.int (Int32.ofInt a1_)), some (.int (Int32.ofInt 0)), some (.int (Int32.ofInt u2_))]) rfl (by decide) rfl d_M_isFit_41 ?_
          refine zr_iinc (pc := 42) (i := 4) (a := u2_) (n := 1) (L2 := [some (.ref 81), some (.ref 105), some (.int (Int32.ofInt a1_)), some (.int (Int32.ofInt 0)), some (.int (Int32.ofInt (u2_ + 1)))]) rfl (by decide) rfl d_M_isFit_42 ?_
          refine zw_goto (pc := 45) (tgt := 5) (by decide) d_M_isFit_45 ?_
          exact ih_5 0 (by decide) (by decide) (by (decide)) (u2_ + 1) (by (exact zo_74 i3_)) (by (exact zo_832 gb.2.2.2.2.2 hc_11)) (show 0 ≤ (u2_ + 1) by first | assumption | (exact zo_76 i3_)) (by (exact zo_147 hc_11 hlt_5))
        · skip
          refine zw_aload_n (pc := 18) (n := 1) (x := 105) rfl (zdal_p dlC_M_isFit_112 (i := 10) rfl) ?_
          refine zw_iload_n (pc := 19) (n := 2) (x := Int32.ofInt a1_) rfl (zdal_p dlC_M_isFit_112 (i := 11) rfl) ?_
          refine zw_iload (pc := 20) (i := 4) (x := Int32.ofInt u2_) rfl (zdal_p dlC_M_isFit_112 (i := 12) rfl) ?_
          refine zr_iadd (pc := 22) (zdal_p dlC_M_isFit_112 (i := 13) rfl) ?_
          refine zr_laldn (pc := 23) (zh_105 (hf.w hW)).2 (by decide) (by (exact zo_833 i3_ p1_)) (by (exact zo_834 gb.2.2.2.2.2 hc_11 p2_)) (zdal_p dlC_M_isFit_112 (i := 14) rfl) (fun v11_ hv11_ hv11_a hv11_b => ?_)
          refine zr_ldc2 (pc := 24) (n := (-1000000000000)) (by decide) k_M_260 (zdal_p dlC_M_isFit_112 (i := 15) rfl) ?_
          refine zr_ldc2 (pc := 27) (n := 1000000000000) (by decide) k_M_262 (zdal_p dlC_M_isFit_112 (i := 16) rfl) ?_
          refine zr_callS hf.x (pc := 30) [.long (Int64.ofInt v11_), .long (Int64.ofInt ((-1000000000000))), .long (Int64.ofInt 1000000000000)] [] l_M_131 (c_M_isIn l Mz (hf.w hW) v11_ hv11_a hv11_b ((-1000000000000)) (by decide) (by decide) 1000000000000 (by decide) (by decide)) rfl rfl (by decide) (Nat.le_of_ble_eq_true rfl) (zdal_p dlC_M_isFit_112 (i := 17) rfl) ?_
          rintro _ N12_ ⟨v13_, rfl, ⟨hv13_a, hv13_b⟩, hsN12_, hp0_N12_⟩
          obtain rfl := hsN12_.eq.symm
          replace hp0_N12_ : ((v13_ = 1 ∧ ((-1000000000000)) ≤ v11_ ∧ v11_ ≤ 1000000000000) ∨ (v13_ = 0 ∧ (v11_ < ((-1000000000000)) ∨ 1000000000000 < v11_))) := hp0_N12_
          rcases hp0_N12_ with ⟨rfl, ha30_0_hp0_N12_, ha30_1_hp0_N12_⟩ | ⟨rfl, ha30_0_hp0_N12_⟩
          · skip
            show zW l m_M_isFit (zn Mz + 0, zw Mz + 0) Mz 33 [some (.ref 81), some (.ref 105), some (.int (Int32.ofInt a1_)), some (.int (Int32.ofInt u1_)), some (.int (Int32.ofInt u2_))] [.int (Int32.ofInt 1)] _
            refine zr_if_eq (pc := 33) (tgt := 40) ⟨(by decide), (by decide)⟩ (by decide) (zdal_p dlC_M_isFit_112 (i := 18) rfl) (fun hc_33 => ?_) (fun hc_33 => ?_)
            · skip
              exact absurd hc_33 (by decide)
            · skip
              refine zw_iconst (pc := 36) (v := Int32.ofInt 1) (by decide) (zdal_p dlC_M_isFit_112 (i := 19) rfl) ?_
              refine zw_goto (pc := 37) (tgt := 41) (by decide) (zdal_p dlC_M_isFit_112 (i := 20) rfl) ?_
              refine zw_istore_n (pc := 41) (i := 3) (L2 := [some (.ref 81), some (.ref 105), some (.int (Int32.ofInt a1_)), some (.int (Int32.ofInt 1)), some (.int (Int32.ofInt u2_))]) rfl (by decide) rfl d_M_isFit_41 ?_
              refine zr_iinc (pc := 42) (i := 4) (a := u2_) (n := 1) (L2 := [some (.ref 81), some (.ref 105), some (.int (Int32.ofInt a1_)), some (.int (Int32.ofInt 1)), some (.int (Int32.ofInt (u2_ + 1)))]) rfl (by decide) rfl d_M_isFit_42 ?_
              refine zw_goto (pc := 45) (tgt := 5) (by decide) d_M_isFit_45 ?_
              exact ih_5 1 (by decide) (by decide) (by (decide)) (u2_ + 1) (by (exact zo_74 i3_)) (by (exact zo_832 gb.2.2.2.2.2 hc_11)) (show 0 ≤ (u2_ + 1) by first | assumption | (exact zo_76 i3_)) (by (exact zo_147 hc_11 hlt_5))
          · skip
            show zW l m_M_isFit (zn Mz + 0, zw Mz + 0) Mz 33 [some (.ref 81), some (.ref 105), some (.int (Int32.ofInt a1_)), some (.int (Int32.ofInt u1_)), some (.int (Int32.ofInt u2_))] [.int (Int32.ofInt 0)] _
            refine zr_if_eq (pc := 33) (tgt := 40) ⟨(by decide), (by decide)⟩ (by decide) (zdal_p dlC_M_isFit_112 (i := 18) rfl) (fun hc_33 => ?_) (fun hc_33 => ?_)
            · skip
              refine zw_iconst (pc := 40) (v := Int32.ofInt 0) (by decide) (zdal_p dlC_M_isFit_112 (i := 21) rfl) ?_
              refine zw_istore_n (pc := 41) (i := 3) (L2 := [some (.ref 81), some (.ref 105), some (.int (Int32.ofInt a1_)), some (.int (Int32.ofInt 0)), some (.int (Int32.ofInt u2_))]) rfl (by decide) rfl d_M_isFit_41 ?_
              refine zr_iinc (pc := 42) (i := 4) (a := u2_) (n := 1) (L2 := [some (.ref 81), some (.ref 105), some (.int (Int32.ofInt a1_)), some (.int (Int32.ofInt 0)), some (.int (Int32.ofInt (u2_ + 1)))]) rfl (by decide) rfl d_M_isFit_42 ?_
              refine zw_goto (pc := 45) (tgt := 5) (by decide) d_M_isFit_45 ?_
              exact ih_5 0 (by decide) (by decide) (by (decide)) (u2_ + 1) (by (exact zo_74 i3_)) (by (exact zo_832 gb.2.2.2.2.2 hc_11)) (show 0 ≤ (u2_ + 1) by first | assumption | (exact zo_76 i3_)) (by (exact zo_147 hc_11 hlt_5))
            · skip
              exact absurd hc_33 (by decide)
  exact lp_5 _ 1 (by decide) (by decide) (by (decide)) 0 (by decide) (by decide) (show 0 ≤ (0 : Int) by first | assumption | (decide)) (Nat.lt_succ_self _)
set_option maxHeartbeats 4000000 in
theorem c_M_grows (l : Launch) (Mz : zMem) (hW : zMt Mz) (a0_ : Int) (ha0_a : -2147483648 ≤ a0_) (ha0_b : a0_ < 2147483648) (a1_ : Int) (ha1_a : -2147483648 ≤ a1_) (ha1_b : a1_ < 2147483648) (a2_ : Int) (ha2_a : -2147483648 ≤ a2_) (ha2_b : a2_ < 2147483648) (T : zGT) (hO : gOK T) (p0_ : zGB T Mz) (p1_ : 0 ≤ ze Mz 81 60) (p2_ : ze Mz 81 60 ≤ 12) : zC l m_M_grows 0 0 [.ref 81, .int (Int32.ofInt a0_), .int (Int32.ofInt a1_), .int (Int32.ofInt a2_)] Mz (zpJ [60] [98, 105, 111] Mz (fun v N => 0 ≤ ze N 81 60 ∧ ze N 81 60 ≤ 12)) := by
  refine zC_of (L0 := [some (.ref 81), some (.int (Int32.ofInt a0_)), some (.int (Int32.ofInt a1_)), some (.int (Int32.ofInt a2_)), none]) md_M_grows (Nat.le_of_ble_eq_true rfl) rfl ?_ zQ0
  have hf : zFr [60] [98, 105, 111] Mz Mz := zFr.rf
  have r_26 := ze_r Mz 81 26
  have r_60 := ze_r Mz 81 60
  have hG := hO.1
  have g24 := hG.2.1
  have g1 := hG.1
  have dv0 : zTab T Mz := p0_.1
  have dv1 : zB 85 144 0 5 Mz := p0_.2.1
  have dv2 : zJX T Mz := p0_.2.2.1
  have dv3 : zFirs T Mz := p0_.2.2.2.1
  have dv4 : zSSm T Mz := p0_.2.2.2.2.1
  have dv5 : zGD Mz := zGB.d hO p0_
  have gb := dv5.1
  have gn := dv0.1
  refine zw_aload_n (pc := 0) (n := 0) (x := 81) rfl (zdal_p dlD_M_grows_137 (i := 0) rfl) ?_
  refine zw_iload_n (pc := 1) (n := 3) (x := Int32.ofInt a2_) rfl (zdal_p dlD_M_grows_137 (i := 1) rfl) ?_
  refine zr_callV (hf.w hW) hf.x (pc := 2) [.int (Int32.ofInt a2_)] [] l_M_414 (c_M_isSort l Mz (hf.w hW) a2_ ha2_a ha2_b T hO p0_) rfl rfl rfl (by decide) (Nat.le_of_ble_eq_true rfl) (zdal_p dlD_M_grows_137 (i := 2) rfl) ?_
  rintro _ N1_ ⟨v2_, rfl, ⟨hv2_a, hv2_b⟩, hsN1_, hp0_N1_⟩
  obtain rfl := hsN1_.eq.symm
  replace hp0_N1_ : ((v2_ = 1 ∧ 0 ≤ a2_ ∧ a2_ < ze Mz 81 26) ∨ (v2_ = 0)) := hp0_N1_
  rcases hp0_N1_ with ⟨rfl, ha2_0_hp0_N1_, ha2_1_hp0_N1_⟩ | rfl
  · skip
    show zW l m_M_grows (zn Mz + 0, zw Mz + 0) Mz 5 [some (.ref 81), some (.int (Int32.ofInt a0_)), some (.int (Int32.ofInt a1_)), some (.int (Int32.ofInt a2_)), none] [.int (Int32.ofInt 1)] _
    refine zr_if_eq (pc := 5) (tgt := 36) ⟨(by decide), (by decide)⟩ (by decide) (zdal_p dlD_M_grows_137 (i := 3) rfl) (fun hc_5 => ?_) (fun hc_5 => ?_)
    · skip
      exact absurd hc_5 (by decide)
    · skip
      refine zw_iload_n (pc := 8) (n := 1) (x := Int32.ofInt a0_) rfl (zdal_p dlD_M_grows_137 (i := 4) rfl) ?_
      refine zr_i2l (pc := 9) ⟨ha0_a, ha0_b⟩ (zdal_p dlD_M_grows_137 (i := 5) rfl) ?_
      refine zr_ldc2 (pc := 10) (n := (-9)) (by decide) k_M_523 (zdal_p dlD_M_grows_137 (i := 6) rfl) ?_
      refine zr_ldc2 (pc := 13) (n := 9) (by decide) k_M_525 (zdal_p dlD_M_grows_137 (i := 7) rfl) ?_
      refine zr_callS hf.x (pc := 16) [.long (Int64.ofInt a0_), .long (Int64.ofInt ((-9))), .long (Int64.ofInt 9)] [] l_M_131 (c_M_isIn l Mz (hf.w hW) a0_ (by (exact zo_282 ha0_a)) (by (exact zo_283 ha0_b)) ((-9)) (by decide) (by decide) 9 (by decide) (by decide)) rfl rfl (by decide) (Nat.le_of_ble_eq_true rfl) (zdal_p dlD_M_grows_137 (i := 8) rfl) ?_
      rintro _ N3_ ⟨v4_, rfl, ⟨hv4_a, hv4_b⟩, hsN3_, hp0_N3_⟩
      obtain rfl := hsN3_.eq.symm
      replace hp0_N3_ : ((v4_ = 1 ∧ ((-9)) ≤ a0_ ∧ a0_ ≤ 9) ∨ (v4_ = 0 ∧ (a0_ < ((-9)) ∨ 9 < a0_))) := hp0_N3_
      rcases hp0_N3_ with ⟨rfl, ha16_0_hp0_N3_, ha16_1_hp0_N3_⟩ | ⟨rfl, ha16_0_hp0_N3_⟩
      · skip
        show zW l m_M_grows (zn Mz + 0, zw Mz + 0) Mz 19 [some (.ref 81), some (.int (Int32.ofInt a0_)), some (.int (Int32.ofInt a1_)), some (.int (Int32.ofInt a2_)), none] [.int (Int32.ofInt 1)] _
        refine zr_if_eq (pc := 19) (tgt := 36) ⟨(by decide), (by decide)⟩ (by decide) (zdal_p dlD_M_grows_137 (i := 9) rfl) (fun hc_19 => ?_) (fun hc_19 => ?_)
        · skip
          exact absurd hc_19 (by decide)
        · skip
          refine zw_iload_n (pc := 22) (n := 2) (x := Int32.ofInt a1_) rfl (zdal_p dlD_M_grows_137 (i := 10) rfl) ?_
          refine zr_i2l (pc := 23) ⟨ha1_a, ha1_b⟩ (zdal_p dlD_M_grows_137 (i := 11) rfl) ?_
          refine zr_ldc2 (pc := 24) (n := (-999)) (by decide) k_M_527 (zdal_p dlD_M_grows_137 (i := 12) rfl) ?_
          refine zr_ldc2 (pc := 27) (n := 999) (by decide) k_M_529 (zdal_p dlD_M_grows_137 (i := 13) rfl) ?_
          refine zr_callS hf.x (pc := 30) [.long (Int64.ofInt a1_), .long (Int64.ofInt ((-999))), .long (Int64.ofInt 999)] [] l_M_131 (c_M_isIn l Mz (hf.w hW) a1_ (by (exact zo_282 ha1_a)) (by (exact zo_283 ha1_b)) ((-999)) (by decide) (by decide) 999 (by decide) (by decide)) rfl rfl (by decide) (Nat.le_of_ble_eq_true rfl) (zdal_p dlD_M_grows_137 (i := 14) rfl) ?_
          rintro _ N5_ ⟨v6_, rfl, ⟨hv6_a, hv6_b⟩, hsN5_, hp0_N5_⟩
          obtain rfl := hsN5_.eq.symm
          replace hp0_N5_ : ((v6_ = 1 ∧ ((-999)) ≤ a1_ ∧ a1_ ≤ 999) ∨ (v6_ = 0 ∧ (a1_ < ((-999)) ∨ 999 < a1_))) := hp0_N5_
          rcases hp0_N5_ with ⟨rfl, ha30_0_hp0_N5_, ha30_1_hp0_N5_⟩ | ⟨rfl, ha30_0_hp0_N5_⟩
          · skip
            show zW l m_M_grows (zn Mz + 0, zw Mz + 0) Mz 33 [some (.ref 81), some (.int (Int32.ofInt a0_)), some (.int (Int32.ofInt a1_)), some (.int (Int32.ofInt a2_)), none] [.int (Int32.ofInt 1)] _
            refine zr_if_ne (pc := 33) (tgt := 40) ⟨(by decide), (by decide)⟩ (by decide) (zdal_p dlD_M_grows_137 (i := 15) rfl) (fun hc_33 => ?_) (fun hc_33 => ?_)
            · skip
              refine zw_iconst (pc := 40) (v := Int32.ofInt 0) (by decide) (zdal_p dlD_M_grows_137 (i := 18) rfl) ?_
              refine zw_istore (pc := 41) (i := 4) (L2 := [some (.ref 81), some (.int (Int32.ofInt a0_)), some (.int (Int32.ofInt a1_)), some (.int (Int32.ofInt a2_)), some (.int (Int32.ofInt 0))]) (by decide) rfl (zdal_p dlD_M_grows_137 (i := 19) rfl) ?_
              have lp_43 : ∀ (n : Nat) (u7_ : Int) (hu7_a : -2147483648 ≤ u7_) (hu7_b : u7_ < 2147483648) (N8_ : zMem) (hs9_ : zFr [] [105] Mz N8_) (i10_ : 0 ≤ u7_), (ze Mz 81 26 - u7_).toNat < n → zW l m_M_grows (zn Mz + 0, zw Mz + 0) N8_ 43 [some (.ref 81), some (.int (Int32.ofInt a0_)), some (.int (Int32.ofInt a1_)), some (.int (Int32.ofInt a2_)), some (.int (Int32.ofInt u7_))] [] (zpJ [60] [98, 105, 111] Mz (fun v N => 0 ≤ ze N 81 60 ∧ ze N 81 60 ≤ 12)) := by
                intro n
                induction n with
                | zero =>
                  intro u7_ hu7_a hu7_b N8_ hs9_ i10_ h0
                  exact absurd h0 (Nat.not_lt_zero _)
                | succ n ih_43 =>
                  intro u7_ hu7_a hu7_b N8_ hs9_ i10_ hlt_43
                  have hf_N8_ : zFr [60] [98, 105, 111] Mz N8_ := hf.tr hs9_ (by decide) (by decide)
                  have e26_N8_ : ze N8_ 81 26 = ze Mz 81 26 := hs9_.e (by decide)
                  have e60_N8_ : ze N8_ 81 60 = ze Mz 81 60 := hs9_.e (by decide)
                  have c11_ : zGB T N8_ := zGB.fr hs9_ p0_ (by decide) (by decide)
                  have c12_ : zTab T N8_ := zTab.fr hs9_ dv0 (by decide) (by decide)
                  have c13_ : zB 85 144 0 5 N8_ := zB.fr hs9_ dv1 (by decide) (by decide)
                  have c14_ : zJX T N8_ := zJX.fr hs9_ dv2 (by decide) (by decide)
                  have c15_ : zFirs T N8_ := zFirs.fr hs9_ dv3 (by decide) (by decide)
                  have c16_ : zSSm T N8_ := zSSm.fr hs9_ dv4 (by decide) (by decide)
                  have c17_ : zGD N8_ := zGD.fr hs9_ dv5 (by decide) (by decide)
                  refine zw_iload (pc := 43) (i := 4) (x := Int32.ofInt u7_) rfl (zdal_p dlD_M_grows_137 (i := 20) rfl) ?_
                  refine zw_aload_n (pc := 45) (n := 0) (x := 81) rfl (zdal_p dlD_M_grows_137 (i := 21) rfl) ?_
                  refine zr_getI0 hf_N8_ hW (pc := 46) (by decide) f_M_235 rfl (zdal_p dlD_M_grows_137 (i := 22) rfl) ?_
                  refine zr_icmp_ge (pc := 49) (tgt := 88) ⟨hu7_a, hu7_b⟩ ⟨(ze_r Mz 81 26).1, (ze_r Mz 81 26).2⟩ (by decide) (zdal_p dlD_M_grows_137 (i := 23) rfl) (fun hc_49 => ?_) (fun hc_49 => ?_)
                  · skip
                    refine zw_aload_n (pc := 88) (n := 0) (x := 81) rfl (zdal_p dlD_M_grows_138 (i := 21) rfl) ?_
                    refine zw_aload_n (pc := 89) (n := 0) (x := 81) rfl (zdal_p dlD_M_grows_138 (i := 22) rfl) ?_
                    refine zr_getF (r := 105) (hf_N8_.w hW) (pc := 90) f_M_87 rfl (zh_105 (hf_N8_.w hW)).1 (zdal_p dlD_M_grows_138 (i := 23) rfl) ?_
                    refine zw_iconst (pc := 93) (v := Int32.ofInt 0) (by decide) (zdal_p dlD_M_grows_139 (i := 0) rfl) ?_
                    refine zr_callV (hf_N8_.w hW) hf_N8_.x (pc := 94) [.ref 105, .int (Int32.ofInt 0)] [] l_M_271 (c_M_isFit_105 l N8_ (hf_N8_.w hW) 0 (by decide) (by decide) c17_ (show 0 ≤ 0 by first | assumption | (decide)) (show 0 ≤ 0 by first | assumption | (decide))) rfl rfl rfl (by decide) (Nat.le_of_ble_eq_true rfl) (zdal_p dlD_M_grows_139 (i := 1) rfl) ?_
                    rintro _ N18_ ⟨v19_, rfl, ⟨hv19_a, hv19_b⟩, hsN18_, hp0_N18_⟩
                    obtain rfl := hsN18_.eq.symm
                    replace hp0_N18_ : (v19_ = 0 ∨ v19_ = 1) := hp0_N18_
                    show zW l m_M_grows (zn Mz + 0, zw Mz + 0) N8_ 97 [some (.ref 81), some (.int (Int32.ofInt a0_)), some (.int (Int32.ofInt a1_)), some (.int (Int32.ofInt a2_)), some (.int (Int32.ofInt u7_))] [.int (Int32.ofInt v19_)] _
                    refine zr_if_ne (pc := 97) (tgt := 104) ⟨hv19_a, hv19_b⟩ (by decide) (zdal_p dlD_M_grows_139 (i := 2) rfl) (fun hc_97 => ?_) (fun hc_97 => ?_)
                    · skip
                      refine zw_aload_n (pc := 104) (n := 0) (x := 81) rfl (zdal_p dlD_M_grows_139 (i := 5) rfl) ?_
                      refine zr_callV (hf_N8_.w hW) hf_N8_.x (pc := 105) [] [] l_M_481 (c_M_act l N8_ (hf_N8_.w hW) (show 0 ≤ ze N8_ 81 60 by first | assumption | (exact zo_720 e60_N8_ p1_)) (show ze N8_ 81 60 ≤ 12 by first | assumption | (exact zo_829 e60_N8_ p2_))) rfl rfl rfl (by decide) (Nat.le_of_ble_eq_true rfl) (zdal_p dlD_M_grows_139 (i := 6) rfl) ?_
                      rintro _ N20_ ⟨rfl, hsN20_, ⟨hp0_N20_, hp1_N20_⟩⟩
                      have hf_N20_ : zFr [60] [98, 105, 111] Mz N20_ := hf_N8_.tr hsN20_ (by decide) (by decide)
                      have e26_N20_ : ze N20_ 81 26 = ze N8_ 81 26 := hsN20_.e (by decide)
                      have r60_N20_ := ze_r N20_ 81 60
                      have c22_ : zGB T N20_ := zGB.fr hsN20_ c11_ (by decide) (by decide)
                      have c23_ : zTab T N20_ := zTab.fr hsN20_ c12_ (by decide) (by decide)
                      have c24_ : zB 85 144 0 5 N20_ := zB.fr hsN20_ c13_ (by decide) (by decide)
                      have c25_ : zJX T N20_ := zJX.fr hsN20_ c14_ (by decide) (by decide)
                      have c26_ : zFirs T N20_ := zFirs.fr hsN20_ c15_ (by decide) (by decide)
                      have c27_ : zSSm T N20_ := zSSm.fr hsN20_ c16_ (by decide) (by decide)
                      have c28_ : zGD N20_ := zGD.fr hsN20_ c17_ (by decide) (by decide)
                      show zW l m_M_grows (zn Mz + 0, zw Mz + 0) N20_ 108 [some (.ref 81), some (.int (Int32.ofInt a0_)), some (.int (Int32.ofInt a1_)), some (.int (Int32.ofInt a2_)), some (.int (Int32.ofInt u7_))] [] _
                      refine zw_iconst (pc := 108) (v := Int32.ofInt 0) (by decide) (zdal_p dlD_M_grows_139 (i := 7) rfl) ?_
                      refine zw_istore (pc := 109) (i := 4) (L2 := [some (.ref 81), some (.int (Int32.ofInt a0_)), some (.int (Int32.ofInt a1_)), some (.int (Int32.ofInt a2_)), some (.int (Int32.ofInt 0))]) (by decide) rfl (zdal_p dlD_M_grows_139 (i := 8) rfl) ?_
                      have lp_111 : ∀ (n : Nat) (u29_ : Int) (hu29_a : -2147483648 ≤ u29_) (hu29_b : u29_ < 2147483648) (N30_ : zMem) (hs31_ : zFr [] [98] N20_ N30_) (i32_ : 0 ≤ u29_), (ze Mz 81 26 - u29_).toNat < n → zW l m_M_grows (zn Mz + 0, zw Mz + 0) N30_ 111 [some (.ref 81), some (.int (Int32.ofInt a0_)), some (.int (Int32.ofInt a1_)), some (.int (Int32.ofInt a2_)), some (.int (Int32.ofInt u29_))] [] (zpJ [60] [98, 105, 111] Mz (fun v N => 0 ≤ ze N 81 60 ∧ ze N 81 60 ≤ 12)) := by
                        intro n
                        induction n with
                        | zero =>
                          intro u29_ hu29_a hu29_b N30_ hs31_ i32_ h0
                          exact absurd h0 (Nat.not_lt_zero _)
                        | succ n ih_111 =>
                          intro u29_ hu29_a hu29_b N30_ hs31_ i32_ hlt_111
                          have hf_N30_ : zFr [60] [98, 105, 111] Mz N30_ := hf_N20_.tr hs31_ (by decide) (by decide)
                          have e26_N30_ : ze N30_ 81 26 = ze N20_ 81 26 := hs31_.e (by decide)
                          have e60_N30_ : ze N30_ 81 60 = ze N20_ 81 60 := hs31_.e (by decide)
                          have c33_ : zGB T N30_ := zGB.fr hs31_ c22_ (by decide) (by decide)
                          have c34_ : zTab T N30_ := zTab.fr hs31_ c23_ (by decide) (by decide)
                          have c35_ : zB 85 144 0 5 N30_ := zB.fr hs31_ c24_ (by decide) (by decide)
                          have c36_ : zJX T N30_ := zJX.fr hs31_ c25_ (by decide) (by decide)
                          have c37_ : zFirs T N30_ := zFirs.fr hs31_ c26_ (by decide) (by decide)
                          have c38_ : zSSm T N30_ := zSSm.fr hs31_ c27_ (by decide) (by decide)
                          have c39_ : zGD N30_ := zGD.fr hs31_ c28_ (by decide) (by decide)
                          refine zw_iload (pc := 111) (i := 4) (x := Int32.ofInt u29_) rfl (zdal_p dlD_M_grows_139 (i := 9) rfl) ?_
                          refine zw_aload_n (pc := 113) (n := 0) (x := 81) rfl (zdal_p dlD_M_grows_139 (i := 10) rfl) ?_
                          refine zr_getI0 hf_N30_ hW (pc := 114) (by decide) f_M_235 rfl (zdal_p dlD_M_grows_139 (i := 11) rfl) ?_
                          refine zr_icmp_ge (pc := 117) (tgt := 140) ⟨hu29_a, hu29_b⟩ ⟨(ze_r Mz 81 26).1, (ze_r Mz 81 26).2⟩ (by decide) (zdal_p dlD_M_grows_139 (i := 12) rfl) (fun hc_117 => ?_) (fun hc_117 => ?_)
                          · skip
                            refine zw_aload_n (pc := 140) (n := 0) (x := 81) rfl (zdal_p dlD_M_grows_139 (i := 23) rfl) ?_
                            refine zr_getF (r := 98) (hf_N30_.w hW) (pc := 141) f_M_66 rfl (zh_98 (hf_N30_.w hW)).1 (zdal_p dlD_M_grows_140 (i := 0) rfl) ?_
                            refine zw_iload_n (pc := 144) (n := 3) (x := Int32.ofInt a2_) rfl (zdal_p dlD_M_grows_140 (i := 1) rfl) ?_
                            refine zr_laldn (pc := 145) (zh_98 (hf_N30_.w hW)).2 (by decide) (by (exact ha2_0_hp0_N1_)) (by (exact zo_837 gb.2.2.2.2.2 ha2_1_hp0_N1_ ha2_b)) (zdal_p dlD_M_grows_140 (i := 2) rfl) (fun v40_ hv40_ hv40_a hv40_b => ?_)
                            exact zr_lret (pc := 146) rfl ⟨by (exact hv40_a), by (exact hv40_b)⟩ hf_N30_ ⟨(show 0 ≤ ze N30_ 81 60 by first | assumption | (exact zo_568 e60_N30_ hp0_N20_)), (show ze N30_ 81 60 ≤ 12 by first | assumption | (exact zo_829 e60_N30_ hp1_N20_))⟩ (zdal_p dlD_M_grows_140 (i := 3) rfl)
                          · skip
                            refine zw_aload_n (pc := 120) (n := 0) (x := 81) rfl (zdal_p dlD_M_grows_139 (i := 13) rfl) ?_
                            refine zr_getF (r := 98) (hf_N30_.w hW) (pc := 121) f_M_66 rfl (zh_98 (hf_N30_.w hW)).1 (zdal_p dlD_M_grows_139 (i := 14) rfl) ?_
                            refine zw_iload (pc := 124) (i := 4) (x := Int32.ofInt u29_) rfl (zdal_p dlD_M_grows_139 (i := 15) rfl) ?_
                            refine zw_aload_n (pc := 126) (n := 0) (x := 81) rfl (zdal_p dlD_M_grows_139 (i := 16) rfl) ?_
                            refine zr_getF (r := 105) (hf_N30_.w hW) (pc := 127) f_M_87 rfl (zh_105 (hf_N30_.w hW)).1 (zdal_p dlD_M_grows_139 (i := 17) rfl) ?_
                            refine zw_iload (pc := 130) (i := 4) (x := Int32.ofInt u29_) rfl (zdal_p dlD_M_grows_139 (i := 18) rfl) ?_
                            refine zr_laldn (pc := 132) (zh_105 (hf_N30_.w hW)).2 (by decide) (by (exact i32_)) (by (exact zo_831 gb.2.2.2.2.2 hc_117)) (zdal_p dlD_M_grows_139 (i := 19) rfl) (fun v41_ hv41_ hv41_a hv41_b => ?_)
                            refine zr_last (pc := 133) (zh_98 (hf_N30_.w hW)).2 (by decide) (by decide) (by (exact i32_)) (by (exact zo_831 gb.2.2.2.2.2 hc_117)) (zdal_p dlD_M_grows_139 (i := 20) rfl) (fun N42_ hN42_ hsN42_ => ?_)
                            have hf_N42_ : zFr [60] [98, 105, 111] Mz N42_ := hf_N30_.tr hsN42_ (by decide) (by decide)
                            have hb0_N42_ : zFr [] [98] N20_ N42_ := hs31_.tr hsN42_ (by decide) (by decide)
                            have e26_N42_ : ze N42_ 81 26 = ze N30_ 81 26 := hsN42_.e (by decide)
                            have e60_N42_ : ze N42_ 81 60 = ze N30_ 81 60 := hsN42_.e (by decide)
                            have c43_ : zGB T N42_ := zGB.fr hsN42_ c33_ (by decide) (by decide)
                            have c44_ : zTab T N42_ := zTab.fr hsN42_ c34_ (by decide) (by decide)
                            have c45_ : zB 85 144 0 5 N42_ := zB.fr hsN42_ c35_ (by decide) (by decide)
                            have c46_ : zJX T N42_ := zJX.fr hsN42_ c36_ (by decide) (by decide)
                            have c47_ : zFirs T N42_ := zFirs.fr hsN42_ c37_ (by decide) (by decide)
                            have c48_ : zSSm T N42_ := zSSm.fr hsN42_ c38_ (by decide) (by decide)
                            have c49_ : zGD N42_ := zGD.fr hsN42_ c39_ (by decide) (by decide)
                            refine zr_iinc (pc := 134) (i := 4) (a := u29_) (n := 1) (L2 := [some (.ref 81), some (.int (Int32.ofInt a0_)), some (.int (Int32.ofInt a1_)), some (.int (Int32.ofInt a2_)), some (.int (Int32.ofInt (u29_ + 1)))]) rfl (by decide) rfl (zdal_p dlD_M_grows_139 (i := 21) rfl) ?_
                            refine zw_goto (pc := 137) (tgt := 111) (by decide) (zdal_p dlD_M_grows_139 (i := 22) rfl) ?_
                            exact ih_111 (u29_ + 1) (by (exact zo_74 i32_)) (by (exact zo_832 gb.2.2.2.2.2 hc_117)) N42_ hb0_N42_ (show 0 ≤ (u29_ + 1) by first | assumption | (exact zo_76 i32_)) (by (exact zo_147 hc_117 hlt_111))
                      exact lp_111 _ 0 (by decide) (by decide) N20_ zFr.rf (show 0 ≤ (0 : Int) by first | assumption | (decide)) (Nat.lt_succ_self _)
                    · skip
                      refine zr_ldc2 (pc := 100) (n := (-9223372036854775808)) (by decide) k_M_470 (zdal_p dlD_M_grows_139 (i := 3) rfl) ?_
                      exact zr_lret (pc := 103) rfl ⟨by (decide), by (decide)⟩ hf_N8_ ⟨(show 0 ≤ ze N8_ 81 60 by first | assumption | (exact zo_720 e60_N8_ p1_)), (show ze N8_ 81 60 ≤ 12 by first | assumption | (exact zo_829 e60_N8_ p2_))⟩ (zdal_p dlD_M_grows_139 (i := 4) rfl)
                  · skip
                    refine zw_aload_n (pc := 52) (n := 0) (x := 81) rfl (zdal_p dlD_M_grows_138 (i := 0) rfl) ?_
                    refine zr_getF (r := 105) (hf_N8_.w hW) (pc := 53) f_M_87 rfl (zh_105 (hf_N8_.w hW)).1 (zdal_p dlD_M_grows_138 (i := 1) rfl) ?_
                    refine zw_iload (pc := 56) (i := 4) (x := Int32.ofInt u7_) rfl (zdal_p dlD_M_grows_138 (i := 2) rfl) ?_
                    refine zw_iload_n (pc := 58) (n := 1) (x := Int32.ofInt a0_) rfl (zdal_p dlD_M_grows_138 (i := 3) rfl) ?_
                    refine zr_i2l (pc := 59) ⟨ha0_a, ha0_b⟩ (zdal_p dlD_M_grows_138 (i := 4) rfl) ?_
                    refine zw_aload_n (pc := 60) (n := 0) (x := 81) rfl (zdal_p dlD_M_grows_138 (i := 5) rfl) ?_
                    refine zr_getF (r := 98) (hf_N8_.w hW) (pc := 61) f_M_66 rfl (zh_98 (hf_N8_.w hW)).1 (zdal_p dlD_M_grows_138 (i := 6) rfl) ?_
                    refine zw_iload (pc := 64) (i := 4) (x := Int32.ofInt u7_) rfl (zdal_p dlD_M_grows_138 (i := 7) rfl) ?_
                    refine zr_laldn (pc := 66) (zh_98 (hf_N8_.w hW)).2 (by decide) (by (exact i10_)) (by (exact zo_831 gb.2.2.2.2.2 hc_49)) (zdal_p dlD_M_grows_138 (i := 8) rfl) (fun v50_ hv50_ hv50_a hv50_b => ?_)
                    refine zr_lmul (pc := 67) (zdal_p dlD_M_grows_138 (i := 9) rfl) ?_
                    refine zw_iload (pc := 68) (i := 4) (x := Int32.ofInt u7_) rfl (zdal_p dlD_M_grows_138 (i := 10) rfl) ?_
                    refine zw_iload_n (pc := 70) (n := 3) (x := Int32.ofInt a2_) rfl (zdal_p dlD_M_grows_138 (i := 11) rfl) ?_
                    refine zr_icmp_ne (pc := 71) (tgt := 78) ⟨hu7_a, hu7_b⟩ ⟨ha2_a, ha2_b⟩ (by decide) (zdal_p dlD_M_grows_138 (i := 12) rfl) (fun hc_71 => ?_) (fun hc_71 => ?_)
                    · skip
                      refine zw_iconst (pc := 78) (v := Int32.ofInt 0) (by decide) (zdal_p dlD_M_grows_138 (i := 15) rfl) ?_
                      refine zr_i2l (pc := 79) ⟨(by decide), (by decide)⟩ (zdal_p dlD_M_grows_138 (i := 16) rfl) ?_
                      refine zr_ladd (pc := 80) (zdal_p dlD_M_grows_138 (i := 17) rfl) ?_
                      refine zr_last (pc := 81) (zh_105 (hf_N8_.w hW)).2 (by decide) (by decide) (by (exact i10_)) (by (exact zo_831 gb.2.2.2.2.2 hc_49)) (zdal_p dlD_M_grows_138 (i := 18) rfl) (fun N51_ hN51_ hsN51_ => ?_)
                      have hf_N51_ : zFr [60] [98, 105, 111] Mz N51_ := hf_N8_.tr hsN51_ (by decide) (by decide)
                      have hb0_N51_ : zFr [] [105] Mz N51_ := hs9_.tr hsN51_ (by decide) (by decide)
                      have e26_N51_ : ze N51_ 81 26 = ze N8_ 81 26 := hsN51_.e (by decide)
                      have e60_N51_ : ze N51_ 81 60 = ze N8_ 81 60 := hsN51_.e (by decide)
                      have c52_ : zGB T N51_ := zGB.fr hsN51_ c11_ (by decide) (by decide)
                      have c53_ : zTab T N51_ := zTab.fr hsN51_ c12_ (by decide) (by decide)
                      have c54_ : zB 85 144 0 5 N51_ := zB.fr hsN51_ c13_ (by decide) (by decide)
                      have c55_ : zJX T N51_ := zJX.fr hsN51_ c14_ (by decide) (by decide)
                      have c56_ : zFirs T N51_ := zFirs.fr hsN51_ c15_ (by decide) (by decide)
                      have c57_ : zSSm T N51_ := zSSm.fr hsN51_ c16_ (by decide) (by decide)
                      have c58_ : zGD N51_ := zGD.fr hsN51_ c17_ (by decide) (by decide)
                      refine zr_iinc (pc := 82) (i := 4) (a := u7_) (n := 1) (L2 := [some (.ref 81), some (.int (Int32.ofInt a0_)), some (.int (Int32.ofInt a1_)), some (.int (Int32.ofInt a2_)), some (.int (Int32.ofInt (u7_ + 1)))]) rfl (by decide) rfl (zdal_p dlD_M_grows_138 (i := 19) rfl) ?_
                      refine zw_goto (pc := 85) (tgt := 43) (by decide) (zdal_p dlD_M_grows_138 (i := 20) rfl) ?_
                      exact ih_43 (u7_ + 1) (by (exact zo_74 i10_)) (by (exact zo_832 gb.2.2.2.2.2 hc_49)) N51_ hb0_N51_ (show 0 ≤ (u7_ + 1) by first | assumption | (exact zo_76 i10_)) (by (exact zo_147 hc_49 hlt_43))
                    · skip
                      refine zw_iload_n (pc := 74) (n := 2) (x := Int32.ofInt a1_) rfl (zdal_p dlD_M_grows_138 (i := 13) rfl) ?_
                      refine zw_goto (pc := 75) (tgt := 79) (by decide) (zdal_p dlD_M_grows_138 (i := 14) rfl) ?_
                      refine zr_i2l (pc := 79) ⟨ha1_a, ha1_b⟩ (zdal_p dlD_M_grows_138 (i := 16) rfl) ?_
                      refine zr_ladd (pc := 80) (zdal_p dlD_M_grows_138 (i := 17) rfl) ?_
                      refine zr_last (pc := 81) (zh_105 (hf_N8_.w hW)).2 (by decide) (by decide) (by (exact i10_)) (by (exact zo_831 gb.2.2.2.2.2 hc_49)) (zdal_p dlD_M_grows_138 (i := 18) rfl) (fun N59_ hN59_ hsN59_ => ?_)
                      have hf_N59_ : zFr [60] [98, 105, 111] Mz N59_ := hf_N8_.tr hsN59_ (by decide) (by decide)
                      have hb0_N59_ : zFr [] [105] Mz N59_ := hs9_.tr hsN59_ (by decide) (by decide)
                      have e26_N59_ : ze N59_ 81 26 = ze N8_ 81 26 := hsN59_.e (by decide)
                      have e60_N59_ : ze N59_ 81 60 = ze N8_ 81 60 := hsN59_.e (by decide)
                      have c60_ : zGB T N59_ := zGB.fr hsN59_ c11_ (by decide) (by decide)
                      have c61_ : zTab T N59_ := zTab.fr hsN59_ c12_ (by decide) (by decide)
                      have c62_ : zB 85 144 0 5 N59_ := zB.fr hsN59_ c13_ (by decide) (by decide)
                      have c63_ : zJX T N59_ := zJX.fr hsN59_ c14_ (by decide) (by decide)
                      have c64_ : zFirs T N59_ := zFirs.fr hsN59_ c15_ (by decide) (by decide)
                      have c65_ : zSSm T N59_ := zSSm.fr hsN59_ c16_ (by decide) (by decide)
                      have c66_ : zGD N59_ := zGD.fr hsN59_ c17_ (by decide) (by decide)
                      refine zr_iinc (pc := 82) (i := 4) (a := u7_) (n := 1) (L2 := [some (.ref 81), some (.int (Int32.ofInt a0_)), some (.int (Int32.ofInt a1_)), some (.int (Int32.ofInt a2_)), some (.int (Int32.ofInt (u7_ + 1)))]) rfl (by decide) rfl (zdal_p dlD_M_grows_138 (i := 19) rfl) ?_
                      refine zw_goto (pc := 85) (tgt := 43) (by decide) (zdal_p dlD_M_grows_138 (i := 20) rfl) ?_
                      exact ih_43 (u7_ + 1) (by (exact zo_74 i10_)) (by (exact zo_832 gb.2.2.2.2.2 hc_49)) N59_ hb0_N59_ (show 0 ≤ (u7_ + 1) by first | assumption | (exact zo_76 i10_)) (by (exact zo_147 hc_49 hlt_43))
              exact lp_43 _ 0 (by decide) (by decide) Mz zFr.rf (show 0 ≤ (0 : Int) by first | assumption | (decide)) (Nat.lt_succ_self _)
            · skip
              exact absurd hc_33 (by decide)
          · skip
            show zW l m_M_grows (zn Mz + 0, zw Mz + 0) Mz 33 [some (.ref 81), some (.int (Int32.ofInt a0_)), some (.int (Int32.ofInt a1_)), some (.int (Int32.ofInt a2_)), none] [.int (Int32.ofInt 0)] _
            refine zr_if_ne (pc := 33) (tgt := 40) ⟨(by decide), (by decide)⟩ (by decide) (zdal_p dlD_M_grows_137 (i := 15) rfl) (fun hc_33 => ?_) (fun hc_33 => ?_)
            · skip
              exact absurd hc_33 (by decide)
            · skip
              refine zr_ldc2 (pc := 36) (n := (-9223372036854775808)) (by decide) k_M_470 (zdal_p dlD_M_grows_137 (i := 16) rfl) ?_
              exact zr_lret (pc := 39) rfl ⟨by (decide), by (decide)⟩ hf ⟨(show 0 ≤ ze Mz 81 60 by first | assumption | omega), (show ze Mz 81 60 ≤ 12 by first | assumption | omega)⟩ (zdal_p dlD_M_grows_137 (i := 17) rfl)
      · skip
        show zW l m_M_grows (zn Mz + 0, zw Mz + 0) Mz 19 [some (.ref 81), some (.int (Int32.ofInt a0_)), some (.int (Int32.ofInt a1_)), some (.int (Int32.ofInt a2_)), none] [.int (Int32.ofInt 0)] _
        refine zr_if_eq (pc := 19) (tgt := 36) ⟨(by decide), (by decide)⟩ (by decide) (zdal_p dlD_M_grows_137 (i := 9) rfl) (fun hc_19 => ?_) (fun hc_19 => ?_)
        · skip
          refine zr_ldc2 (pc := 36) (n := (-9223372036854775808)) (by decide) k_M_470 (zdal_p dlD_M_grows_137 (i := 16) rfl) ?_
          exact zr_lret (pc := 39) rfl ⟨by (decide), by (decide)⟩ hf ⟨(show 0 ≤ ze Mz 81 60 by first | assumption | omega), (show ze Mz 81 60 ≤ 12 by first | assumption | omega)⟩ (zdal_p dlD_M_grows_137 (i := 17) rfl)
        · skip
          exact absurd hc_19 (by decide)
  · skip
    show zW l m_M_grows (zn Mz + 0, zw Mz + 0) Mz 5 [some (.ref 81), some (.int (Int32.ofInt a0_)), some (.int (Int32.ofInt a1_)), some (.int (Int32.ofInt a2_)), none] [.int (Int32.ofInt 0)] _
    refine zr_if_eq (pc := 5) (tgt := 36) ⟨(by decide), (by decide)⟩ (by decide) (zdal_p dlD_M_grows_137 (i := 3) rfl) (fun hc_5 => ?_) (fun hc_5 => ?_)
    · skip
      refine zr_ldc2 (pc := 36) (n := (-9223372036854775808)) (by decide) k_M_470 (zdal_p dlD_M_grows_137 (i := 16) rfl) ?_
      exact zr_lret (pc := 39) rfl ⟨by (decide), by (decide)⟩ hf ⟨(show 0 ≤ ze Mz 81 60 by first | assumption | omega), (show ze Mz 81 60 ≤ 12 by first | assumption | omega)⟩ (zdal_p dlD_M_grows_137 (i := 17) rfl)
    · skip
      exact absurd hc_5 (by decide)
set_option maxHeartbeats 4000000 in
theorem c_M_isBlank (l : Launch) (Mz : zMem) (hW : zMt Mz) (a0_ : Int) (ha0_a : -2147483648 ≤ a0_) (ha0_b : a0_ < 2147483648) (p0_ : 0 ≤ ze Mz 81 64) (p1_ : a0_ ≤ 700) : zC l m_M_isBlank 0 0 [.ref 81, .int (Int32.ofInt a0_)] Mz (zpI [] [] Mz (fun v N => (((v = 1 ∧ ze Mz 81 64 < a0_) ∨ (v = 0))))) := by
  refine zC_of (L0 := [some (.ref 81), some (.int (Int32.ofInt a0_))]) md_M_isBlank (Nat.le_of_ble_eq_true rfl) rfl ?_ zQ0
  have hf : zFr [] [] Mz Mz := zFr.rf
  have r_64 := ze_r Mz 81 64
  refine zw_aload_n (pc := 0) (n := 0) (x := 81) rfl (zdal_p dlD_M_isBlank_130 (i := 0) rfl) ?_
  refine zr_getI0 hf hW (pc := 1) (by decide) f_M_504 rfl (zdal_p dlD_M_isBlank_130 (i := 1) rfl) ?_
  refine zw_iload_n (pc := 4) (n := 1) (x := Int32.ofInt a0_) rfl (zdal_p dlD_M_isBlank_130 (i := 2) rfl) ?_
  refine zr_icmp_ge (pc := 5) (tgt := 40) ⟨(ze_r Mz 81 64).1, (ze_r Mz 81 64).2⟩ ⟨ha0_a, ha0_b⟩ (by decide) (zdal_p dlD_M_isBlank_130 (i := 3) rfl) (fun hc_5 => ?_) (fun hc_5 => ?_)
  · skip
    refine zw_iconst (pc := 40) (v := Int32.ofInt 0) (by decide) (zdal_p dlD_M_isBlank_130 (i := 20) rfl) ?_
    exact zr_iret (pc := 41) (ty := .boolean) rfl (z_narB (by (decide))) ⟨by (decide), by (decide)⟩ hf (show ((0 = 1 ∧ ze Mz 81 64 < a0_) ∨ (0 = 0)) from Or.inr ((show 0 = 0 by first | assumption | (decide)))) (zdal_p dlD_M_isBlank_130 (i := 21) rfl)
  · skip
    refine zw_aload_n (pc := 8) (n := 0) (x := 81) rfl (zdal_p dlD_M_isBlank_130 (i := 4) rfl) ?_
    refine zr_getF (r := 82) (hf.w hW) (pc := 9) f_M_7 rfl (zh_82 (hf.w hW)).1 (zdal_p dlD_M_isBlank_130 (i := 5) rfl) ?_
    refine zw_aload_n (pc := 12) (n := 0) (x := 81) rfl (zdal_p dlD_M_isBlank_130 (i := 6) rfl) ?_
    refine zr_getI0 hf hW (pc := 13) (by decide) f_M_504 rfl (zdal_p dlD_M_isBlank_130 (i := 7) rfl) ?_
    refine zr_ialdn (pc := 16) (zh_82 (hf.w hW)).2 (by decide) (by (exact p0_)) (by (exact zo_838 hc_5 p1_ r_64.2)) (zdal_p dlD_M_isBlank_130 (i := 8) rfl) (fun v1_ hv1_ hv1_a hv1_b => ?_)
    refine zw_bipush (pc := 17) (v := Int32.ofInt 32) (by decide) (zdal_p dlD_M_isBlank_130 (i := 9) rfl) ?_
    refine zr_icmp_eq (pc := 19) (tgt := 36) ⟨hv1_a, hv1_b⟩ ⟨(by decide), (by decide)⟩ (by decide) (zdal_p dlD_M_isBlank_130 (i := 10) rfl) (fun hc_19 => ?_) (fun hc_19 => ?_)
    · skip
      refine zw_iconst (pc := 36) (v := Int32.ofInt 1) (by decide) (zdal_p dlD_M_isBlank_130 (i := 18) rfl) ?_
      refine zw_goto (pc := 37) (tgt := 41) (by decide) (zdal_p dlD_M_isBlank_130 (i := 19) rfl) ?_
      exact zr_iret (pc := 41) (ty := .boolean) rfl (z_narB (by (decide))) ⟨by (decide), by (decide)⟩ hf (show ((1 = 1 ∧ ze Mz 81 64 < a0_) ∨ (1 = 0)) from Or.inl (⟨(show 1 = 1 by first | assumption | (decide)), (show ze Mz 81 64 < a0_ by first | assumption | omega)⟩)) (zdal_p dlD_M_isBlank_130 (i := 21) rfl)
    · skip
      refine zw_aload_n (pc := 22) (n := 0) (x := 81) rfl (zdal_p dlD_M_isBlank_130 (i := 11) rfl) ?_
      refine zr_getF (r := 82) (hf.w hW) (pc := 23) f_M_7 rfl (zh_82 (hf.w hW)).1 (zdal_p dlD_M_isBlank_130 (i := 12) rfl) ?_
      refine zw_aload_n (pc := 26) (n := 0) (x := 81) rfl (zdal_p dlD_M_isBlank_130 (i := 13) rfl) ?_
      refine zr_getI0 hf hW (pc := 27) (by decide) f_M_504 rfl (zdal_p dlD_M_isBlank_130 (i := 14) rfl) ?_
      refine zr_ialdn (pc := 30) (zh_82 (hf.w hW)).2 (by decide) (by (exact p0_)) (by (exact zo_838 hc_5 p1_ r_64.2)) (zdal_p dlD_M_isBlank_130 (i := 15) rfl) (fun v2_ hv2_ hv2_a hv2_b => ?_)
      refine zw_bipush (pc := 31) (v := Int32.ofInt 10) (by decide) (zdal_p dlD_M_isBlank_130 (i := 16) rfl) ?_
      refine zr_icmp_ne (pc := 33) (tgt := 40) ⟨hv2_a, hv2_b⟩ ⟨(by decide), (by decide)⟩ (by decide) (zdal_p dlD_M_isBlank_130 (i := 17) rfl) (fun hc_33 => ?_) (fun hc_33 => ?_)
      · skip
        refine zw_iconst (pc := 40) (v := Int32.ofInt 0) (by decide) (zdal_p dlD_M_isBlank_130 (i := 20) rfl) ?_
        exact zr_iret (pc := 41) (ty := .boolean) rfl (z_narB (by (decide))) ⟨by (decide), by (decide)⟩ hf (show ((0 = 1 ∧ ze Mz 81 64 < a0_) ∨ (0 = 0)) from Or.inr ((show 0 = 0 by first | assumption | (decide)))) (zdal_p dlD_M_isBlank_130 (i := 21) rfl)
      · skip
        refine zw_iconst (pc := 36) (v := Int32.ofInt 1) (by decide) (zdal_p dlD_M_isBlank_130 (i := 18) rfl) ?_
        refine zw_goto (pc := 37) (tgt := 41) (by decide) (zdal_p dlD_M_isBlank_130 (i := 19) rfl) ?_
        exact zr_iret (pc := 41) (ty := .boolean) rfl (z_narB (by (decide))) ⟨by (decide), by (decide)⟩ hf (show ((1 = 1 ∧ ze Mz 81 64 < a0_) ∨ (1 = 0)) from Or.inl (⟨(show 1 = 1 by first | assumption | (decide)), (show ze Mz 81 64 < a0_ by first | assumption | omega)⟩)) (zdal_p dlD_M_isBlank_130 (i := 21) rfl)
set_option maxHeartbeats 4000000 in
theorem c_M_readsNumber (l : Launch) (Mz : zMem) (hW : zMt Mz) (a0_ : Int) (ha0_a : -2147483648 ≤ a0_) (ha0_b : a0_ < 2147483648) (T : zGT) (hO : gOK T) (p0_ : zGB T Mz) (p1_ : 0 ≤ ze Mz 81 64) (p2_ : ze Mz 81 64 ≤ a0_) (p3_ : a0_ ≤ 700) (p4_ : 0 ≤ ze Mz 81 65) (p5_ : ze Mz 81 65 ≤ ze Mz 81 26) : zC l m_M_readsNumber 0 0 [.ref 81, .int (Int32.ofInt a0_)] Mz (zpI [64, 65] [99] Mz (fun v N => 0 ≤ ze N 81 64 ∧ ze N 81 64 ≤ a0_ ∧ 0 ≤ ze N 81 65 ∧ ze N 81 65 ≤ ze Mz 81 26 ∧ (((v = 1 ∧ ze Mz 81 64 < ze N 81 64) ∨ (v = 0))))) := by
  refine zC_of (L0 := [some (.ref 81), some (.int (Int32.ofInt a0_)), none, none, none, none]) md_M_readsNumber (Nat.le_of_ble_eq_true rfl) rfl ?_ zQ0
  have hf : zFr [64, 65] [99] Mz Mz := zFr.rf
  have r_26 := ze_r Mz 81 26
  have r_64 := ze_r Mz 81 64
  have r_65 := ze_r Mz 81 65
  have hG := hO.1
  have g24 := hG.2.1
  have g1 := hG.1
  have dv0 : zTab T Mz := p0_.1
  have dv1 : zB 85 144 0 5 Mz := p0_.2.1
  have dv2 : zJX T Mz := p0_.2.2.1
  have dv3 : zFirs T Mz := p0_.2.2.2.1
  have dv4 : zSSm T Mz := p0_.2.2.2.2.1
  have dv5 : zGD Mz := zGB.d hO p0_
  have gb := dv5.1
  have gn := dv0.1
  refine zw_aload_n (pc := 0) (n := 0) (x := 81) rfl (zdal_p dlD_M_readsNumber_131 (i := 0) rfl) ?_
  refine zr_getI (hf.w hW) (pc := 1) f_M_504 rfl (zdal_p dlD_M_readsNumber_131 (i := 1) rfl) ?_
  refine zw_iload_n (pc := 4) (n := 1) (x := Int32.ofInt a0_) rfl (zdal_p dlD_M_readsNumber_131 (i := 2) rfl) ?_
  refine zr_icmp_ge (pc := 5) (tgt := 26) ⟨(ze_r Mz 81 64).1, (ze_r Mz 81 64).2⟩ ⟨ha0_a, ha0_b⟩ (by decide) (zdal_p dlD_M_readsNumber_131 (i := 3) rfl) (fun hc_5 => ?_) (fun hc_5 => ?_)
  · skip
    refine zw_iconst (pc := 26) (v := Int32.ofInt 0) (by decide) (zdal_p dlD_M_readsNumber_131 (i := 13) rfl) ?_
    refine zw_istore_n (pc := 27) (i := 2) (L2 := [some (.ref 81), some (.int (Int32.ofInt a0_)), some (.int (Int32.ofInt 0)), none, none, none]) rfl (by decide) rfl (zdal_p dlD_M_readsNumber_131 (i := 14) rfl) ?_
    refine zw_iload_n (pc := 28) (n := 2) (x := Int32.ofInt 0) rfl (zdal_p dlD_M_readsNumber_131 (i := 15) rfl) ?_
    refine zr_if_eq (pc := 29) (tgt := 42) ⟨(by decide), (by decide)⟩ (by decide) (zdal_p dlD_M_readsNumber_131 (i := 16) rfl) (fun hc_29 => ?_) (fun hc_29 => ?_)
    · skip
      refine zw_lconst (pc := 42) (v := Int64.ofInt 0) (by decide) (zdal_p dlD_M_readsNumber_131 (i := 23) rfl) ?_
      refine zw_lstore_n (pc := 43) (i := 3) (L2 := [some (.ref 81), some (.int (Int32.ofInt a0_)), some (.int (Int32.ofInt 0)), some (.long (Int64.ofInt 0)), none, none]) rfl (by decide) rfl (zdal_p dlD_M_readsNumber_132 (i := 0) rfl) ?_
      refine zw_iconst (pc := 44) (v := Int32.ofInt 0) (by decide) (zdal_p dlD_M_readsNumber_132 (i := 1) rfl) ?_
      refine zw_istore (pc := 45) (i := 5) (L2 := [some (.ref 81), some (.int (Int32.ofInt a0_)), some (.int (Int32.ofInt 0)), some (.long (Int64.ofInt 0)), none, some (.int (Int32.ofInt 0))]) (by decide) rfl (zdal_p dlD_M_readsNumber_132 (i := 2) rfl) ?_
      have lp_47 : ∀ (n : Nat) (u1_ : Int) (hu1_a : -9223372036854775808 ≤ u1_) (hu1_b : u1_ < 9223372036854775808) (u2_ : Int) (hu2_a : -2147483648 ≤ u2_) (hu2_b : u2_ < 2147483648) (N3_ : zMem) (hs4_ : zFr [64] [] Mz N3_) (i5_ : ze Mz 81 64 ≤ ze N3_ 81 64) (i6_ : ze N3_ 81 64 ≤ a0_) (i7_ : 0 ≤ u2_) (i8_ : u2_ ≤ 7) (i9_ : u2_ ≤ ze N3_ 81 64 - ze Mz 81 64), (a0_ - ze N3_ 81 64).toNat < n → zW l m_M_readsNumber (zn Mz + 0, zw Mz + 0) N3_ 47 [some (.ref 81), some (.int (Int32.ofInt a0_)), some (.int (Int32.ofInt 0)), some (.long (Int64.ofInt u1_)), none, some (.int (Int32.ofInt u2_))] [] (zpI [64, 65] [99] Mz (fun v N => 0 ≤ ze N 81 64 ∧ ze N 81 64 ≤ a0_ ∧ 0 ≤ ze N 81 65 ∧ ze N 81 65 ≤ ze Mz 81 26 ∧ (((v = 1 ∧ ze Mz 81 64 < ze N 81 64) ∨ (v = 0))))) := by
        intro n
        induction n with
        | zero =>
          intro u1_ hu1_a hu1_b u2_ hu2_a hu2_b N3_ hs4_ i5_ i6_ i7_ i8_ i9_ h0
          exact absurd h0 (Nat.not_lt_zero _)
        | succ n ih_47 =>
          intro u1_ hu1_a hu1_b u2_ hu2_a hu2_b N3_ hs4_ i5_ i6_ i7_ i8_ i9_ hlt_47
          have hf_N3_ : zFr [64, 65] [99] Mz N3_ := hf.tr hs4_ (by decide) (by decide)
          have e26_N3_ : ze N3_ 81 26 = ze Mz 81 26 := hs4_.e (by decide)
          have r64_N3_ := ze_r N3_ 81 64
          have e65_N3_ : ze N3_ 81 65 = ze Mz 81 65 := hs4_.e (by decide)
          have c10_ : zGB T N3_ := zGB.fr hs4_ p0_ (by decide) (by decide)
          have c11_ : zTab T N3_ := zTab.fr hs4_ dv0 (by decide) (by decide)
          have c12_ : zB 85 144 0 5 N3_ := zB.fr hs4_ dv1 (by decide) (by decide)
          have c13_ : zJX T N3_ := zJX.fr hs4_ dv2 (by decide) (by decide)
          have c14_ : zFirs T N3_ := zFirs.fr hs4_ dv3 (by decide) (by decide)
          have c15_ : zSSm T N3_ := zSSm.fr hs4_ dv4 (by decide) (by decide)
          have c16_ : zGD N3_ := zGD.fr hs4_ dv5 (by decide) (by decide)
          refine zw_aload_n (pc := 47) (n := 0) (x := 81) rfl (zdal_p dlD_M_readsNumber_132 (i := 3) rfl) ?_
          refine zr_getI (hf_N3_.w hW) (pc := 48) f_M_504 rfl (zdal_p dlD_M_readsNumber_132 (i := 4) rfl) ?_
          refine zw_iload_n (pc := 51) (n := 1) (x := Int32.ofInt a0_) rfl (zdal_p dlD_M_readsNumber_132 (i := 5) rfl) ?_
          refine zr_icmp_ge (pc := 52) (tgt := 114) ⟨(ze_r N3_ 81 64).1, (ze_r N3_ 81 64).2⟩ ⟨ha0_a, ha0_b⟩ (by decide) (zdal_p dlD_M_readsNumber_132 (i := 6) rfl) (fun hc_52 => ?_) (fun hc_52 => ?_)
          · skip
            refine zw_iload (pc := 114) (i := 5) (x := Int32.ofInt u2_) rfl d_M_readsNumber_114 ?_
            refine zr_if_eq (pc := 116) (tgt := 137) ⟨hu2_a, hu2_b⟩ (by decide) d_M_readsNumber_116 (fun hc_116 => ?_) (fun hc_116 => ?_)
            · skip
              refine zw_iconst (pc := 137) (v := Int32.ofInt 0) (by decide) d_M_readsNumber_137 ?_
              exact zr_iret (pc := 138) (ty := .boolean) rfl (z_narB (by (decide))) ⟨by (decide), by (decide)⟩ hf_N3_ ⟨(show 0 ≤ ze N3_ 81 64 by first | assumption | (exact zo_839 i5_ p1_ r64_N3_.1)), (show ze N3_ 81 64 ≤ a0_ by first | assumption | omega), (show 0 ≤ ze N3_ 81 65 by first | assumption | (exact zo_720 e65_N3_ p4_)), (show ze N3_ 81 65 ≤ ze Mz 81 26 by first | assumption | (exact zo_840 e65_N3_ p5_)), (show ((0 = 1 ∧ ze Mz 81 64 < ze N3_ 81 64) ∨ (0 = 0)) from Or.inr ((show 0 = 0 by first | assumption | omega)))⟩ d_M_readsNumber_138
            · skip
              refine zw_iload (pc := 119) (i := 5) (x := Int32.ofInt u2_) rfl d_M_readsNumber_119 ?_
              refine zw_bipush (pc := 121) (v := Int32.ofInt 6) (by decide) d_M_readsNumber_121 ?_
              refine zr_icmp_gt (pc := 123) (tgt := 137) ⟨hu2_a, hu2_b⟩ ⟨(by decide), (by decide)⟩ (by decide) d_M_readsNumber_123 (fun hc_123 => ?_) (fun hc_123 => ?_)
              · skip
                refine zw_iconst (pc := 137) (v := Int32.ofInt 0) (by decide) d_M_readsNumber_137 ?_
                exact zr_iret (pc := 138) (ty := .boolean) rfl (z_narB (by (decide))) ⟨by (decide), by (decide)⟩ hf_N3_ ⟨(show 0 ≤ ze N3_ 81 64 by first | assumption | (exact zo_839 i5_ p1_ r64_N3_.1)), (show ze N3_ 81 64 ≤ a0_ by first | assumption | omega), (show 0 ≤ ze N3_ 81 65 by first | assumption | (exact zo_720 e65_N3_ p4_)), (show ze N3_ 81 65 ≤ ze Mz 81 26 by first | assumption | (exact zo_840 e65_N3_ p5_)), (show ((0 = 1 ∧ ze Mz 81 64 < ze N3_ 81 64) ∨ (0 = 0)) from Or.inr ((show 0 = 0 by first | assumption | omega)))⟩ d_M_readsNumber_138
              · skip
                refine zw_aload_n (pc := 126) (n := 0) (x := 81) rfl d_M_readsNumber_126 ?_
                refine zr_getI (hf_N3_.w hW) (pc := 127) f_M_511 rfl d_M_readsNumber_127 ?_
                refine zw_aload_n (pc := 130) (n := 0) (x := 81) rfl d_M_readsNumber_130 ?_
                refine zr_getI0 hf_N3_ hW (pc := 131) (by decide) f_M_235 rfl d_M_readsNumber_131 ?_
                refine zr_icmp_ne (pc := 134) (tgt := 139) ⟨(ze_r N3_ 81 65).1, (ze_r N3_ 81 65).2⟩ ⟨(ze_r Mz 81 26).1, (ze_r Mz 81 26).2⟩ (by decide) d_M_readsNumber_134 (fun hc_134 => ?_) (fun hc_134 => ?_)
                · skip
                  refine zw_aload_n (pc := 139) (n := 0) (x := 81) rfl d_M_readsNumber_139 ?_
                  refine zr_getF (r := 99) (hf_N3_.w hW) (pc := 140) f_M_69 rfl (zh_99 (hf_N3_.w hW)).1 d_M_readsNumber_140 ?_
                  refine zw_aload_n (pc := 143) (n := 0) (x := 81) rfl d_M_readsNumber_143 ?_
                  refine zr_getI (hf_N3_.w hW) (pc := 144) f_M_511 rfl d_M_readsNumber_144 ?_
                  refine zw_iload_n (pc := 147) (n := 2) (x := Int32.ofInt 0) rfl d_M_readsNumber_147 ?_
                  refine zr_if_eq (pc := 148) (tgt := 156) ⟨(by decide), (by decide)⟩ (by decide) d_M_readsNumber_148 (fun hc_148 => ?_) (fun hc_148 => ?_)
                  · skip
                    refine zw_lload_n (pc := 156) (n := 3) (x := Int64.ofInt u1_) rfl d_M_readsNumber_156 ?_
                    refine zr_last (pc := 157) (zh_99 (hf_N3_.w hW)).2 (by decide) (by decide) (by (exact zo_720 e65_N3_ p4_)) (by (exact zo_841 e65_N3_ gb.2.2.2.2.2 p5_ hc_134)) d_M_readsNumber_157 (fun N17_ hN17_ hsN17_ => ?_)
                    have hf_N17_ : zFr [64, 65] [99] Mz N17_ := hf_N3_.tr hsN17_ (by decide) (by decide)
                    have e26_N17_ : ze N17_ 81 26 = ze N3_ 81 26 := hsN17_.e (by decide)
                    have e64_N17_ : ze N17_ 81 64 = ze N3_ 81 64 := hsN17_.e (by decide)
                    have e65_N17_ : ze N17_ 81 65 = ze N3_ 81 65 := hsN17_.e (by decide)
                    have c18_ : zGB T N17_ := zGB.fr hsN17_ c10_ (by decide) (by decide)
                    have c19_ : zTab T N17_ := zTab.fr hsN17_ c11_ (by decide) (by decide)
                    have c20_ : zB 85 144 0 5 N17_ := zB.fr hsN17_ c12_ (by decide) (by decide)
                    have c21_ : zJX T N17_ := zJX.fr hsN17_ c13_ (by decide) (by decide)
                    have c22_ : zFirs T N17_ := zFirs.fr hsN17_ c14_ (by decide) (by decide)
                    have c23_ : zSSm T N17_ := zSSm.fr hsN17_ c15_ (by decide) (by decide)
                    have c24_ : zGD N17_ := zGD.fr hsN17_ c16_ (by decide) (by decide)
                    refine zw_aload_n (pc := 158) (n := 0) (x := 81) rfl d_M_readsNumber_158 ?_
                    refine zw_dup (pc := 159) rfl d_M_readsNumber_159 ?_
                    refine zr_getI (hf_N17_.w hW) (pc := 160) f_M_511 rfl d_M_readsNumber_160 ?_
                    refine zw_iconst (pc := 163) (v := Int32.ofInt 1) (by decide) d_M_readsNumber_163 ?_
                    refine zr_iadd (pc := 164) d_M_readsNumber_164 ?_
                    refine zr_putI (hf_N17_.w hW) (pc := 165) f_M_511 rfl rfl ⟨by (exact zo_722 e65_N17_ e65_N3_ p4_), by (exact zo_842 e65_N17_ e65_N3_ gb.2.2.2.2.2 p5_ r_65.2)⟩ rfl rfl d_M_readsNumber_165 (fun N25_ hsN25_ hvN25_ => ?_)
                    have hf_N25_ : zFr [64, 65] [99] Mz N25_ := hf_N17_.tr hsN25_ (by decide) (by decide)
                    have e26_N25_ : ze N25_ 81 26 = ze N17_ 81 26 := hsN25_.e (by decide)
                    have e64_N25_ : ze N25_ 81 64 = ze N17_ 81 64 := hsN25_.e (by decide)
                    have r65_N25_ := ze_r N25_ 81 65
                    have c26_ : zGB T N25_ := zGB.fr hsN25_ c18_ (by decide) (by decide)
                    have c27_ : zTab T N25_ := zTab.fr hsN25_ c19_ (by decide) (by decide)
                    have c28_ : zB 85 144 0 5 N25_ := zB.fr hsN25_ c20_ (by decide) (by decide)
                    have c29_ : zJX T N25_ := zJX.fr hsN25_ c21_ (by decide) (by decide)
                    have c30_ : zFirs T N25_ := zFirs.fr hsN25_ c22_ (by decide) (by decide)
                    have c31_ : zSSm T N25_ := zSSm.fr hsN25_ c23_ (by decide) (by decide)
                    have c32_ : zGD N25_ := zGD.fr hsN25_ c24_ (by decide) (by decide)
                    refine zw_iconst (pc := 168) (v := Int32.ofInt 1) (by decide) d_M_readsNumber_168 ?_
                    exact zr_iret (pc := 169) (ty := .boolean) rfl (z_narB (by (decide))) ⟨by (decide), by (decide)⟩ hf_N25_ ⟨(show 0 ≤ ze N25_ 81 64 by first | assumption | (exact zo_843 e64_N17_ e64_N25_ i5_ p1_ r64_N3_.1)), (show ze N25_ 81 64 ≤ a0_ by first | assumption | (exact zo_844 e64_N17_ e64_N25_ i6_)), (show 0 ≤ ze N25_ 81 65 by first | assumption | (exact zo_845 e65_N17_ e65_N3_ hvN25_ p4_ r65_N25_.1)), (show ze N25_ 81 65 ≤ ze Mz 81 26 by first | assumption | (exact zo_846 e65_N17_ e65_N3_ gb.2.2.2.2.1 hvN25_ p5_ r65_N25_.2 hc_134)), (show ((1 = 1 ∧ ze Mz 81 64 < ze N25_ 81 64) ∨ (1 = 0)) from Or.inl (⟨(show 1 = 1 by first | assumption | (decide)), (show ze Mz 81 64 < ze N25_ 81 64 by first | assumption | (exact zo_847 e64_N17_ e64_N25_ i5_ i7_ i9_ hc_116))⟩))⟩ d_M_readsNumber_169
                  · skip
                    exact absurd hc_148 (by decide)
                · skip
                  refine zw_iconst (pc := 137) (v := Int32.ofInt 0) (by decide) d_M_readsNumber_137 ?_
                  exact zr_iret (pc := 138) (ty := .boolean) rfl (z_narB (by (decide))) ⟨by (decide), by (decide)⟩ hf_N3_ ⟨(show 0 ≤ ze N3_ 81 64 by first | assumption | (exact zo_839 i5_ p1_ r64_N3_.1)), (show ze N3_ 81 64 ≤ a0_ by first | assumption | omega), (show 0 ≤ ze N3_ 81 65 by first | assumption | (exact zo_848 gb.2.2.2.2.1 hc_134)), (show ze N3_ 81 65 ≤ ze Mz 81 26 by first | assumption | (exact zo_849 hc_134)), (show ((0 = 1 ∧ ze Mz 81 64 < ze N3_ 81 64) ∨ (0 = 0)) from Or.inr ((show 0 = 0 by first | assumption | omega)))⟩ d_M_readsNumber_138
          · skip
            refine zw_aload_n (pc := 55) (n := 0) (x := 81) rfl (zdal_p dlD_M_readsNumber_132 (i := 7) rfl) ?_
            refine zr_getF (r := 82) (hf_N3_.w hW) (pc := 56) f_M_7 rfl (zh_82 (hf_N3_.w hW)).1 (zdal_p dlD_M_readsNumber_132 (i := 8) rfl) ?_
            refine zw_aload_n (pc := 59) (n := 0) (x := 81) rfl (zdal_p dlD_M_readsNumber_132 (i := 9) rfl) ?_
            refine zr_getI (hf_N3_.w hW) (pc := 60) f_M_504 rfl (zdal_p dlD_M_readsNumber_132 (i := 10) rfl) ?_
            refine zr_ialdn (pc := 63) (zh_82 (hf_N3_.w hW)).2 (by decide) (by (exact zo_839 i5_ p1_ r64_N3_.1)) (by (exact zo_850 hc_52 p3_)) (zdal_p dlD_M_readsNumber_132 (i := 11) rfl) (fun v33_ hv33_ hv33_a hv33_b => ?_)
            rw [hf_N3_.ie (by decide) (by decide)] at hv33_
            refine zr_callS hf_N3_.x (pc := 64) [.int (Int32.ofInt v33_)] [] l_M_162 (c_M_isDigit l N3_ (hf_N3_.w hW) v33_ hv33_a hv33_b) rfl rfl (by decide) (Nat.le_of_ble_eq_true rfl) (zdal_p dlD_M_readsNumber_132 (i := 12) rfl) ?_
            rintro _ N34_ ⟨v35_, rfl, ⟨hv35_a, hv35_b⟩, hsN34_, hp0_N34_⟩
            obtain rfl := hsN34_.eq.symm
            replace hp0_N34_ : ((v35_ = 1 ∧ 48 ≤ v33_ ∧ v33_ ≤ 57) ∨ (v35_ = 0 ∧ (v33_ < 48 ∨ 57 < v33_))) := hp0_N34_
            rcases hp0_N34_ with ⟨rfl, ha64_0_hp0_N34_, ha64_1_hp0_N34_⟩ | ⟨rfl, ha64_0_hp0_N34_⟩
            · skip
              show zW l m_M_readsNumber (zn Mz + 0, zw Mz + 0) N3_ 67 [some (.ref 81), some (.int (Int32.ofInt a0_)), some (.int (Int32.ofInt 0)), some (.long (Int64.ofInt u1_)), none, some (.int (Int32.ofInt u2_))] [.int (Int32.ofInt 1)] _
              refine zr_if_eq (pc := 67) (tgt := 114) ⟨(by decide), (by decide)⟩ (by decide) d_M_readsNumber_67 (fun hc_67 => ?_) (fun hc_67 => ?_)
              · skip
                exact absurd hc_67 (by decide)
              · skip
                refine zw_iload (pc := 70) (i := 5) (x := Int32.ofInt u2_) rfl (zdal_p dlD_M_readsNumber_132 (i := 14) rfl) ?_
                refine zw_bipush (pc := 72) (v := Int32.ofInt 6) (by decide) (zdal_p dlD_M_readsNumber_132 (i := 15) rfl) ?_
                refine zr_icmp_gt (pc := 74) (tgt := 114) ⟨hu2_a, hu2_b⟩ ⟨(by decide), (by decide)⟩ (by decide) (zdal_p dlD_M_readsNumber_132 (i := 16) rfl) (fun hc_74 => ?_) (fun hc_74 => ?_)
                · skip
                  refine zw_iload (pc := 114) (i := 5) (x := Int32.ofInt u2_) rfl d_M_readsNumber_114 ?_
                  refine zr_if_eq (pc := 116) (tgt := 137) ⟨hu2_a, hu2_b⟩ (by decide) d_M_readsNumber_116 (fun hc_116 => ?_) (fun hc_116 => ?_)
                  · skip
                    refine zw_iconst (pc := 137) (v := Int32.ofInt 0) (by decide) d_M_readsNumber_137 ?_
                    exact zr_iret (pc := 138) (ty := .boolean) rfl (z_narB (by (decide))) ⟨by (decide), by (decide)⟩ hf_N3_ ⟨(show 0 ≤ ze N3_ 81 64 by first | assumption | (exact zo_839 i5_ p1_ r64_N3_.1)), (show ze N3_ 81 64 ≤ a0_ by first | assumption | omega), (show 0 ≤ ze N3_ 81 65 by first | assumption | (exact zo_720 e65_N3_ p4_)), (show ze N3_ 81 65 ≤ ze Mz 81 26 by first | assumption | (exact zo_840 e65_N3_ p5_)), (show ((0 = 1 ∧ ze Mz 81 64 < ze N3_ 81 64) ∨ (0 = 0)) from Or.inr ((show 0 = 0 by first | assumption | omega)))⟩ d_M_readsNumber_138
                  · skip
                    refine zw_iload (pc := 119) (i := 5) (x := Int32.ofInt u2_) rfl d_M_readsNumber_119 ?_
                    refine zw_bipush (pc := 121) (v := Int32.ofInt 6) (by decide) d_M_readsNumber_121 ?_
                    refine zr_icmp_gt (pc := 123) (tgt := 137) ⟨hu2_a, hu2_b⟩ ⟨(by decide), (by decide)⟩ (by decide) d_M_readsNumber_123 (fun hc_123 => ?_) (fun hc_123 => ?_)
                    · skip
                      refine zw_iconst (pc := 137) (v := Int32.ofInt 0) (by decide) d_M_readsNumber_137 ?_
                      exact zr_iret (pc := 138) (ty := .boolean) rfl (z_narB (by (decide))) ⟨by (decide), by (decide)⟩ hf_N3_ ⟨(show 0 ≤ ze N3_ 81 64 by first | assumption | (exact zo_839 i5_ p1_ r64_N3_.1)), (show ze N3_ 81 64 ≤ a0_ by first | assumption | omega), (show 0 ≤ ze N3_ 81 65 by first | assumption | (exact zo_720 e65_N3_ p4_)), (show ze N3_ 81 65 ≤ ze Mz 81 26 by first | assumption | (exact zo_840 e65_N3_ p5_)), (show ((0 = 1 ∧ ze Mz 81 64 < ze N3_ 81 64) ∨ (0 = 0)) from Or.inr ((show 0 = 0 by first | assumption | omega)))⟩ d_M_readsNumber_138
                    · skip
                      refine zw_aload_n (pc := 126) (n := 0) (x := 81) rfl d_M_readsNumber_126 ?_
                      refine zr_getI (hf_N3_.w hW) (pc := 127) f_M_511 rfl d_M_readsNumber_127 ?_
                      refine zw_aload_n (pc := 130) (n := 0) (x := 81) rfl d_M_readsNumber_130 ?_
                      refine zr_getI0 hf_N3_ hW (pc := 131) (by decide) f_M_235 rfl d_M_readsNumber_131 ?_
                      refine zr_icmp_ne (pc := 134) (tgt := 139) ⟨(ze_r N3_ 81 65).1, (ze_r N3_ 81 65).2⟩ ⟨(ze_r Mz 81 26).1, (ze_r Mz 81 26).2⟩ (by decide) d_M_readsNumber_134 (fun hc_134 => ?_) (fun hc_134 => ?_)
                      · skip
                        refine zw_aload_n (pc := 139) (n := 0) (x := 81) rfl d_M_readsNumber_139 ?_
                        refine zr_getF (r := 99) (hf_N3_.w hW) (pc := 140) f_M_69 rfl (zh_99 (hf_N3_.w hW)).1 d_M_readsNumber_140 ?_
                        refine zw_aload_n (pc := 143) (n := 0) (x := 81) rfl d_M_readsNumber_143 ?_
                        refine zr_getI (hf_N3_.w hW) (pc := 144) f_M_511 rfl d_M_readsNumber_144 ?_
                        refine zw_iload_n (pc := 147) (n := 2) (x := Int32.ofInt 0) rfl d_M_readsNumber_147 ?_
                        refine zr_if_eq (pc := 148) (tgt := 156) ⟨(by decide), (by decide)⟩ (by decide) d_M_readsNumber_148 (fun hc_148 => ?_) (fun hc_148 => ?_)
                        · skip
                          refine zw_lload_n (pc := 156) (n := 3) (x := Int64.ofInt u1_) rfl d_M_readsNumber_156 ?_
                          refine zr_last (pc := 157) (zh_99 (hf_N3_.w hW)).2 (by decide) (by decide) (by (exact zo_720 e65_N3_ p4_)) (by (exact zo_841 e65_N3_ gb.2.2.2.2.2 p5_ hc_134)) d_M_readsNumber_157 (fun N36_ hN36_ hsN36_ => ?_)
                          have hf_N36_ : zFr [64, 65] [99] Mz N36_ := hf_N3_.tr hsN36_ (by decide) (by decide)
                          have e26_N36_ : ze N36_ 81 26 = ze N3_ 81 26 := hsN36_.e (by decide)
                          have e64_N36_ : ze N36_ 81 64 = ze N3_ 81 64 := hsN36_.e (by decide)
                          have e65_N36_ : ze N36_ 81 65 = ze N3_ 81 65 := hsN36_.e (by decide)
                          have c37_ : zGB T N36_ := zGB.fr hsN36_ c10_ (by decide) (by decide)
                          have c38_ : zTab T N36_ := zTab.fr hsN36_ c11_ (by decide) (by decide)
                          have c39_ : zB 85 144 0 5 N36_ := zB.fr hsN36_ c12_ (by decide) (by decide)
                          have c40_ : zJX T N36_ := zJX.fr hsN36_ c13_ (by decide) (by decide)
                          have c41_ : zFirs T N36_ := zFirs.fr hsN36_ c14_ (by decide) (by decide)
                          have c42_ : zSSm T N36_ := zSSm.fr hsN36_ c15_ (by decide) (by decide)
                          have c43_ : zGD N36_ := zGD.fr hsN36_ c16_ (by decide) (by decide)
                          refine zw_aload_n (pc := 158) (n := 0) (x := 81) rfl d_M_readsNumber_158 ?_
                          refine zw_dup (pc := 159) rfl d_M_readsNumber_159 ?_
                          refine zr_getI (hf_N36_.w hW) (pc := 160) f_M_511 rfl d_M_readsNumber_160 ?_
                          refine zw_iconst (pc := 163) (v := Int32.ofInt 1) (by decide) d_M_readsNumber_163 ?_
                          refine zr_iadd (pc := 164) d_M_readsNumber_164 ?_
                          refine zr_putI (hf_N36_.w hW) (pc := 165) f_M_511 rfl rfl ⟨by (exact zo_722 e65_N36_ e65_N3_ p4_), by (exact zo_842 e65_N36_ e65_N3_ gb.2.2.2.2.2 p5_ r_65.2)⟩ rfl rfl d_M_readsNumber_165 (fun N44_ hsN44_ hvN44_ => ?_)
                          have hf_N44_ : zFr [64, 65] [99] Mz N44_ := hf_N36_.tr hsN44_ (by decide) (by decide)
                          have e26_N44_ : ze N44_ 81 26 = ze N36_ 81 26 := hsN44_.e (by decide)
                          have e64_N44_ : ze N44_ 81 64 = ze N36_ 81 64 := hsN44_.e (by decide)
                          have r65_N44_ := ze_r N44_ 81 65
                          have c45_ : zGB T N44_ := zGB.fr hsN44_ c37_ (by decide) (by decide)
                          have c46_ : zTab T N44_ := zTab.fr hsN44_ c38_ (by decide) (by decide)
                          have c47_ : zB 85 144 0 5 N44_ := zB.fr hsN44_ c39_ (by decide) (by decide)
                          have c48_ : zJX T N44_ := zJX.fr hsN44_ c40_ (by decide) (by decide)
                          have c49_ : zFirs T N44_ := zFirs.fr hsN44_ c41_ (by decide) (by decide)
                          have c50_ : zSSm T N44_ := zSSm.fr hsN44_ c42_ (by decide) (by decide)
                          have c51_ : zGD N44_ := zGD.fr hsN44_ c43_ (by decide) (by decide)
                          refine zw_iconst (pc := 168) (v := Int32.ofInt 1) (by decide) d_M_readsNumber_168 ?_
                          exact zr_iret (pc := 169) (ty := .boolean) rfl (z_narB (by (decide))) ⟨by (exact hv35_a), by (exact hv35_b)⟩ hf_N44_ ⟨(show 0 ≤ ze N44_ 81 64 by first | assumption | (exact zo_843 e64_N36_ e64_N44_ i5_ p1_ r64_N3_.1)), (show ze N44_ 81 64 ≤ a0_ by first | assumption | (exact zo_851 e64_N36_ e64_N44_ hc_52)), (show 0 ≤ ze N44_ 81 65 by first | assumption | (exact zo_845 e65_N36_ e65_N3_ hvN44_ p4_ r65_N44_.1)), (show ze N44_ 81 65 ≤ ze Mz 81 26 by first | assumption | (exact zo_846 e65_N36_ e65_N3_ gb.2.2.2.2.1 hvN44_ p5_ r65_N44_.2 hc_134)), (show ((1 = 1 ∧ ze Mz 81 64 < ze N44_ 81 64) ∨ (1 = 0)) from Or.inl (⟨(show 1 = 1 by first | assumption | (decide)), (show ze Mz 81 64 < ze N44_ 81 64 by first | assumption | (exact zo_852 e64_N36_ e64_N44_ hc_74 i5_ i9_))⟩))⟩ d_M_readsNumber_169
                        · skip
                          exact absurd hc_148 (by decide)
                      · skip
                        refine zw_iconst (pc := 137) (v := Int32.ofInt 0) (by decide) d_M_readsNumber_137 ?_
                        exact zr_iret (pc := 138) (ty := .boolean) rfl (z_narB (by (decide))) ⟨by (decide), by (decide)⟩ hf_N3_ ⟨(show 0 ≤ ze N3_ 81 64 by first | assumption | (exact zo_839 i5_ p1_ r64_N3_.1)), (show ze N3_ 81 64 ≤ a0_ by first | assumption | omega), (show 0 ≤ ze N3_ 81 65 by first | assumption | (exact zo_848 gb.2.2.2.2.1 hc_134)), (show ze N3_ 81 65 ≤ ze Mz 81 26 by first | assumption | (exact zo_849 hc_134)), (show ((0 = 1 ∧ ze Mz 81 64 < ze N3_ 81 64) ∨ (0 = 0)) from Or.inr ((show 0 = 0 by first | assumption | omega)))⟩ d_M_readsNumber_138
                · skip
                  refine zr_ldc2 (pc := 77) (n := 10) (by decide) k_M_507 (zdal_p dlD_M_readsNumber_132 (i := 17) rfl) ?_
                  refine zw_lload_n (pc := 80) (n := 3) (x := Int64.ofInt u1_) rfl (zdal_p dlD_M_readsNumber_132 (i := 18) rfl) ?_
                  refine zr_lmul (pc := 81) (zdal_p dlD_M_readsNumber_132 (i := 19) rfl) ?_
                  refine zw_aload_n (pc := 82) (n := 0) (x := 81) rfl (zdal_p dlD_M_readsNumber_132 (i := 20) rfl) ?_
                  refine zr_getF (r := 82) (hf_N3_.w hW) (pc := 83) f_M_7 rfl (zh_82 (hf_N3_.w hW)).1 (zdal_p dlD_M_readsNumber_132 (i := 21) rfl) ?_
                  refine zw_aload_n (pc := 86) (n := 0) (x := 81) rfl (zdal_p dlD_M_readsNumber_132 (i := 22) rfl) ?_
                  refine zr_getI (hf_N3_.w hW) (pc := 87) f_M_504 rfl (zdal_p dlD_M_readsNumber_132 (i := 23) rfl) ?_
                  refine zr_ialdn (pc := 90) (zh_82 (hf_N3_.w hW)).2 (by decide) (by (exact zo_839 i5_ p1_ r64_N3_.1)) (by (exact zo_850 hc_52 p3_)) (zdal_p dlD_M_readsNumber_133 (i := 0) rfl) (fun v52_ hv52_ hv52_a hv52_b => ?_)
                  rw [hf_N3_.ie (by decide) (by decide)] at hv52_
                  refine zr_i2l (pc := 91) ⟨hv52_a, hv52_b⟩ (zdal_p dlD_M_readsNumber_133 (i := 1) rfl) ?_
                  refine zr_ladd (pc := 92) (zdal_p dlD_M_readsNumber_133 (i := 2) rfl) ?_
                  refine zr_ldc2 (pc := 93) (n := 48) (by decide) k_M_509 (zdal_p dlD_M_readsNumber_133 (i := 3) rfl) ?_
                  refine zr_lsub (pc := 96) (zdal_p dlD_M_readsNumber_133 (i := 4) rfl) ?_
                  refine zr_nmJ (fun v53_ hv53_ => ?_)
                  obtain ⟨hv53_a, hv53_b⟩ := hv53_
                  refine zw_lstore_n (pc := 97) (i := 3) (L2 := [some (.ref 81), some (.int (Int32.ofInt a0_)), some (.int (Int32.ofInt 0)), some (.long (Int64.ofInt v53_)), none, some (.int (Int32.ofInt u2_))]) rfl (by decide) rfl (zdal_p dlD_M_readsNumber_133 (i := 5) rfl) ?_
                  refine zr_iinc (pc := 98) (i := 5) (a := u2_) (n := 1) (L2 := [some (.ref 81), some (.int (Int32.ofInt a0_)), some (.int (Int32.ofInt 0)), some (.long (Int64.ofInt v53_)), none, some (.int (Int32.ofInt (u2_ + 1)))]) rfl (by decide) rfl (zdal_p dlD_M_readsNumber_133 (i := 6) rfl) ?_
                  refine zw_aload_n (pc := 101) (n := 0) (x := 81) rfl (zdal_p dlD_M_readsNumber_133 (i := 7) rfl) ?_
                  refine zw_dup (pc := 102) rfl (zdal_p dlD_M_readsNumber_133 (i := 8) rfl) ?_
                  refine zr_getI (hf_N3_.w hW) (pc := 103) f_M_504 rfl (zdal_p dlD_M_readsNumber_133 (i := 9) rfl) ?_
                  refine zw_iconst (pc := 106) (v := Int32.ofInt 1) (by decide) (zdal_p dlD_M_readsNumber_133 (i := 10) rfl) ?_
                  refine zr_iadd (pc := 107) (zdal_p dlD_M_readsNumber_133 (i := 11) rfl) ?_
                  refine zr_putI (hf_N3_.w hW) (pc := 108) f_M_504 rfl rfl ⟨by (exact zo_679 r64_N3_.1), by (exact zo_853 hc_52 p3_)⟩ rfl rfl (zdal_p dlD_M_readsNumber_133 (i := 12) rfl) (fun N54_ hsN54_ hvN54_ => ?_)
                  have hf_N54_ : zFr [64, 65] [99] Mz N54_ := hf_N3_.tr hsN54_ (by decide) (by decide)
                  have hb0_N54_ : zFr [64] [] Mz N54_ := hs4_.tr hsN54_ (by decide) (by decide)
                  have e26_N54_ : ze N54_ 81 26 = ze N3_ 81 26 := hsN54_.e (by decide)
                  have r64_N54_ := ze_r N54_ 81 64
                  have e65_N54_ : ze N54_ 81 65 = ze N3_ 81 65 := hsN54_.e (by decide)
                  have c55_ : zGB T N54_ := zGB.fr hsN54_ c10_ (by decide) (by decide)
                  have c56_ : zTab T N54_ := zTab.fr hsN54_ c11_ (by decide) (by decide)
                  have c57_ : zB 85 144 0 5 N54_ := zB.fr hsN54_ c12_ (by decide) (by decide)
                  have c58_ : zJX T N54_ := zJX.fr hsN54_ c13_ (by decide) (by decide)
                  have c59_ : zFirs T N54_ := zFirs.fr hsN54_ c14_ (by decide) (by decide)
                  have c60_ : zSSm T N54_ := zSSm.fr hsN54_ c15_ (by decide) (by decide)
                  have c61_ : zGD N54_ := zGD.fr hsN54_ c16_ (by decide) (by decide)
                  refine zw_goto (pc := 111) (tgt := 47) (by decide) (zdal_p dlD_M_readsNumber_133 (i := 13) rfl) ?_
                  exact ih_47 v53_ hv53_a hv53_b (u2_ + 1) (by (exact zo_74 i7_)) (by (exact zo_854 hc_74)) N54_ hb0_N54_ (show ze Mz 81 64 ≤ ze N54_ 81 64 by first | assumption | (exact zo_855 hvN54_ i5_ r64_N54_.1 r_64.2)) (show ze N54_ 81 64 ≤ a0_ by first | assumption | (exact zo_856 hc_52 hvN54_)) (show 0 ≤ (u2_ + 1) by first | assumption | (exact zo_76 i7_)) (show (u2_ + 1) ≤ 7 by first | assumption | (exact zo_857 hc_74)) (show (u2_ + 1) ≤ ze N54_ 81 64 - ze Mz 81 64 by first | assumption | (exact zo_858 hvN54_ i9_)) (by (exact zo_859 hc_52 hlt_47 hvN54_ p3_ r64_N54_.1))
            · skip
              show zW l m_M_readsNumber (zn Mz + 0, zw Mz + 0) N3_ 67 [some (.ref 81), some (.int (Int32.ofInt a0_)), some (.int (Int32.ofInt 0)), some (.long (Int64.ofInt u1_)), none, some (.int (Int32.ofInt u2_))] [.int (Int32.ofInt 0)] _
              refine zr_if_eq (pc := 67) (tgt := 114) ⟨(by decide), (by decide)⟩ (by decide) d_M_readsNumber_67 (fun hc_67 => ?_) (fun hc_67 => ?_)
              · skip
                refine zw_iload (pc := 114) (i := 5) (x := Int32.ofInt u2_) rfl d_M_readsNumber_114 ?_
                refine zr_if_eq (pc := 116) (tgt := 137) ⟨hu2_a, hu2_b⟩ (by decide) d_M_readsNumber_116 (fun hc_116 => ?_) (fun hc_116 => ?_)
                · skip
                  refine zw_iconst (pc := 137) (v := Int32.ofInt 0) (by decide) d_M_readsNumber_137 ?_
                  exact zr_iret (pc := 138) (ty := .boolean) rfl (z_narB (by (decide))) ⟨by (exact hv35_a), by (exact hv35_b)⟩ hf_N3_ ⟨(show 0 ≤ ze N3_ 81 64 by first | assumption | (exact zo_839 i5_ p1_ r64_N3_.1)), (show ze N3_ 81 64 ≤ a0_ by first | assumption | omega), (show 0 ≤ ze N3_ 81 65 by first | assumption | (exact zo_720 e65_N3_ p4_)), (show ze N3_ 81 65 ≤ ze Mz 81 26 by first | assumption | (exact zo_840 e65_N3_ p5_)), (show ((0 = 1 ∧ ze Mz 81 64 < ze N3_ 81 64) ∨ (0 = 0)) from Or.inr ((show 0 = 0 by first | assumption | omega)))⟩ d_M_readsNumber_138
                · skip
                  refine zw_iload (pc := 119) (i := 5) (x := Int32.ofInt u2_) rfl d_M_readsNumber_119 ?_
                  refine zw_bipush (pc := 121) (v := Int32.ofInt 6) (by decide) d_M_readsNumber_121 ?_
                  refine zr_icmp_gt (pc := 123) (tgt := 137) ⟨hu2_a, hu2_b⟩ ⟨(by decide), (by decide)⟩ (by decide) d_M_readsNumber_123 (fun hc_123 => ?_) (fun hc_123 => ?_)
                  · skip
                    refine zw_iconst (pc := 137) (v := Int32.ofInt 0) (by decide) d_M_readsNumber_137 ?_
                    exact zr_iret (pc := 138) (ty := .boolean) rfl (z_narB (by (decide))) ⟨by (exact hv35_a), by (exact hv35_b)⟩ hf_N3_ ⟨(show 0 ≤ ze N3_ 81 64 by first | assumption | (exact zo_839 i5_ p1_ r64_N3_.1)), (show ze N3_ 81 64 ≤ a0_ by first | assumption | omega), (show 0 ≤ ze N3_ 81 65 by first | assumption | (exact zo_720 e65_N3_ p4_)), (show ze N3_ 81 65 ≤ ze Mz 81 26 by first | assumption | (exact zo_840 e65_N3_ p5_)), (show ((0 = 1 ∧ ze Mz 81 64 < ze N3_ 81 64) ∨ (0 = 0)) from Or.inr ((show 0 = 0 by first | assumption | omega)))⟩ d_M_readsNumber_138
                  · skip
                    refine zw_aload_n (pc := 126) (n := 0) (x := 81) rfl d_M_readsNumber_126 ?_
                    refine zr_getI (hf_N3_.w hW) (pc := 127) f_M_511 rfl d_M_readsNumber_127 ?_
                    refine zw_aload_n (pc := 130) (n := 0) (x := 81) rfl d_M_readsNumber_130 ?_
                    refine zr_getI0 hf_N3_ hW (pc := 131) (by decide) f_M_235 rfl d_M_readsNumber_131 ?_
                    refine zr_icmp_ne (pc := 134) (tgt := 139) ⟨(ze_r N3_ 81 65).1, (ze_r N3_ 81 65).2⟩ ⟨(ze_r Mz 81 26).1, (ze_r Mz 81 26).2⟩ (by decide) d_M_readsNumber_134 (fun hc_134 => ?_) (fun hc_134 => ?_)
                    · skip
                      refine zw_aload_n (pc := 139) (n := 0) (x := 81) rfl d_M_readsNumber_139 ?_
                      refine zr_getF (r := 99) (hf_N3_.w hW) (pc := 140) f_M_69 rfl (zh_99 (hf_N3_.w hW)).1 d_M_readsNumber_140 ?_
                      refine zw_aload_n (pc := 143) (n := 0) (x := 81) rfl d_M_readsNumber_143 ?_
                      refine zr_getI (hf_N3_.w hW) (pc := 144) f_M_511 rfl d_M_readsNumber_144 ?_
                      refine zw_iload_n (pc := 147) (n := 2) (x := Int32.ofInt 0) rfl d_M_readsNumber_147 ?_
                      refine zr_if_eq (pc := 148) (tgt := 156) ⟨(by decide), (by decide)⟩ (by decide) d_M_readsNumber_148 (fun hc_148 => ?_) (fun hc_148 => ?_)
                      · skip
                        refine zw_lload_n (pc := 156) (n := 3) (x := Int64.ofInt u1_) rfl d_M_readsNumber_156 ?_
                        refine zr_last (pc := 157) (zh_99 (hf_N3_.w hW)).2 (by decide) (by decide) (by (exact zo_720 e65_N3_ p4_)) (by (exact zo_841 e65_N3_ gb.2.2.2.2.2 p5_ hc_134)) d_M_readsNumber_157 (fun N62_ hN62_ hsN62_ => ?_)
                        have hf_N62_ : zFr [64, 65] [99] Mz N62_ := hf_N3_.tr hsN62_ (by decide) (by decide)
                        have e26_N62_ : ze N62_ 81 26 = ze N3_ 81 26 := hsN62_.e (by decide)
                        have e64_N62_ : ze N62_ 81 64 = ze N3_ 81 64 := hsN62_.e (by decide)
                        have e65_N62_ : ze N62_ 81 65 = ze N3_ 81 65 := hsN62_.e (by decide)
                        have c63_ : zGB T N62_ := zGB.fr hsN62_ c10_ (by decide) (by decide)
                        have c64_ : zTab T N62_ := zTab.fr hsN62_ c11_ (by decide) (by decide)
                        have c65_ : zB 85 144 0 5 N62_ := zB.fr hsN62_ c12_ (by decide) (by decide)
                        have c66_ : zJX T N62_ := zJX.fr hsN62_ c13_ (by decide) (by decide)
                        have c67_ : zFirs T N62_ := zFirs.fr hsN62_ c14_ (by decide) (by decide)
                        have c68_ : zSSm T N62_ := zSSm.fr hsN62_ c15_ (by decide) (by decide)
                        have c69_ : zGD N62_ := zGD.fr hsN62_ c16_ (by decide) (by decide)
                        refine zw_aload_n (pc := 158) (n := 0) (x := 81) rfl d_M_readsNumber_158 ?_
                        refine zw_dup (pc := 159) rfl d_M_readsNumber_159 ?_
                        refine zr_getI (hf_N62_.w hW) (pc := 160) f_M_511 rfl d_M_readsNumber_160 ?_
                        refine zw_iconst (pc := 163) (v := Int32.ofInt 1) (by decide) d_M_readsNumber_163 ?_
                        refine zr_iadd (pc := 164) d_M_readsNumber_164 ?_
                        refine zr_putI (hf_N62_.w hW) (pc := 165) f_M_511 rfl rfl ⟨by (exact zo_743 e65_N3_ e65_N62_ p4_), by (exact zo_860 e65_N3_ e65_N62_ gb.2.2.2.2.2 p5_ r_65.2)⟩ rfl rfl d_M_readsNumber_165 (fun N70_ hsN70_ hvN70_ => ?_)
                        have hf_N70_ : zFr [64, 65] [99] Mz N70_ := hf_N62_.tr hsN70_ (by decide) (by decide)
                        have e26_N70_ : ze N70_ 81 26 = ze N62_ 81 26 := hsN70_.e (by decide)
                        have e64_N70_ : ze N70_ 81 64 = ze N62_ 81 64 := hsN70_.e (by decide)
                        have r65_N70_ := ze_r N70_ 81 65
                        have c71_ : zGB T N70_ := zGB.fr hsN70_ c63_ (by decide) (by decide)
                        have c72_ : zTab T N70_ := zTab.fr hsN70_ c64_ (by decide) (by decide)
                        have c73_ : zB 85 144 0 5 N70_ := zB.fr hsN70_ c65_ (by decide) (by decide)
                        have c74_ : zJX T N70_ := zJX.fr hsN70_ c66_ (by decide) (by decide)
                        have c75_ : zFirs T N70_ := zFirs.fr hsN70_ c67_ (by decide) (by decide)
                        have c76_ : zSSm T N70_ := zSSm.fr hsN70_ c68_ (by decide) (by decide)
                        have c77_ : zGD N70_ := zGD.fr hsN70_ c69_ (by decide) (by decide)
                        refine zw_iconst (pc := 168) (v := Int32.ofInt 1) (by decide) d_M_readsNumber_168 ?_
                        exact zr_iret (pc := 169) (ty := .boolean) rfl (z_narB (by (decide))) ⟨by (decide), by (decide)⟩ hf_N70_ ⟨(show 0 ≤ ze N70_ 81 64 by first | assumption | (exact zo_843 e64_N62_ e64_N70_ i5_ p1_ r64_N3_.1)), (show ze N70_ 81 64 ≤ a0_ by first | assumption | (exact zo_851 e64_N62_ e64_N70_ hc_52)), (show 0 ≤ ze N70_ 81 65 by first | assumption | (exact zo_861 e65_N3_ e65_N62_ hvN70_ p4_ r65_N70_.1)), (show ze N70_ 81 65 ≤ ze Mz 81 26 by first | assumption | (exact zo_862 e65_N3_ e65_N62_ gb.2.2.2.2.1 hvN70_ p5_ r65_N70_.2 hc_134)), (show ((1 = 1 ∧ ze Mz 81 64 < ze N70_ 81 64) ∨ (1 = 0)) from Or.inl (⟨(show 1 = 1 by first | assumption | (decide)), (show ze Mz 81 64 < ze N70_ 81 64 by first | assumption | (exact zo_863 e64_N62_ e64_N70_ hc_5 hc_52 i5_))⟩))⟩ d_M_readsNumber_169
                      · skip
                        exact absurd hc_148 (by decide)
                    · skip
                      refine zw_iconst (pc := 137) (v := Int32.ofInt 0) (by decide) d_M_readsNumber_137 ?_
                      exact zr_iret (pc := 138) (ty := .boolean) rfl (z_narB (by (decide))) ⟨by (exact hv35_a), by (exact hv35_b)⟩ hf_N3_ ⟨(show 0 ≤ ze N3_ 81 64 by first | assumption | (exact zo_839 i5_ p1_ r64_N3_.1)), (show ze N3_ 81 64 ≤ a0_ by first | assumption | omega), (show 0 ≤ ze N3_ 81 65 by first | assumption | (exact zo_848 gb.2.2.2.2.1 hc_134)), (show ze N3_ 81 65 ≤ ze Mz 81 26 by first | assumption | (exact zo_849 hc_134)), (show ((0 = 1 ∧ ze Mz 81 64 < ze N3_ 81 64) ∨ (0 = 0)) from Or.inr ((show 0 = 0 by first | assumption | omega)))⟩ d_M_readsNumber_138
              · skip
                exact absurd hc_67 (by decide)
      exact lp_47 _ 0 (by decide) (by decide) 0 (by decide) (by decide) Mz zFr.rf (show ze Mz 81 64 ≤ ze Mz 81 64 by first | assumption | (exact zo_628)) (show ze Mz 81 64 ≤ a0_ by first | assumption | omega) (show 0 ≤ (0 : Int) by first | assumption | (decide)) (show (0 : Int) ≤ 7 by first | assumption | (decide)) (show (0 : Int) ≤ ze Mz 81 64 - ze Mz 81 64 by first | assumption | (exact zo_864)) (Nat.lt_succ_self _)
    · skip
      exact absurd hc_29 (by decide)
  · skip
    refine zw_aload_n (pc := 8) (n := 0) (x := 81) rfl (zdal_p dlD_M_readsNumber_131 (i := 4) rfl) ?_
    refine zr_getF (r := 82) (hf.w hW) (pc := 9) f_M_7 rfl (zh_82 (hf.w hW)).1 (zdal_p dlD_M_readsNumber_131 (i := 5) rfl) ?_
    refine zw_aload_n (pc := 12) (n := 0) (x := 81) rfl (zdal_p dlD_M_readsNumber_131 (i := 6) rfl) ?_
    refine zr_getI (hf.w hW) (pc := 13) f_M_504 rfl (zdal_p dlD_M_readsNumber_131 (i := 7) rfl) ?_
    refine zr_ialdn (pc := 16) (zh_82 (hf.w hW)).2 (by decide) (by (exact p1_)) (by (exact zo_838 hc_5 p3_ r_64.2)) (zdal_p dlD_M_readsNumber_131 (i := 8) rfl) (fun v78_ hv78_ hv78_a hv78_b => ?_)
    refine zw_bipush (pc := 17) (v := Int32.ofInt 45) (by decide) (zdal_p dlD_M_readsNumber_131 (i := 9) rfl) ?_
    refine zr_icmp_ne (pc := 19) (tgt := 26) ⟨hv78_a, hv78_b⟩ ⟨(by decide), (by decide)⟩ (by decide) (zdal_p dlD_M_readsNumber_131 (i := 10) rfl) (fun hc_19 => ?_) (fun hc_19 => ?_)
    · skip
      refine zw_iconst (pc := 26) (v := Int32.ofInt 0) (by decide) (zdal_p dlD_M_readsNumber_131 (i := 13) rfl) ?_
      refine zw_istore_n (pc := 27) (i := 2) (L2 := [some (.ref 81), some (.int (Int32.ofInt a0_)), some (.int (Int32.ofInt 0)), none, none, none]) rfl (by decide) rfl (zdal_p dlD_M_readsNumber_131 (i := 14) rfl) ?_
      refine zw_iload_n (pc := 28) (n := 2) (x := Int32.ofInt 0) rfl (zdal_p dlD_M_readsNumber_131 (i := 15) rfl) ?_
      refine zr_if_eq (pc := 29) (tgt := 42) ⟨(by decide), (by decide)⟩ (by decide) (zdal_p dlD_M_readsNumber_131 (i := 16) rfl) (fun hc_29 => ?_) (fun hc_29 => ?_)
      · skip
        refine zw_lconst (pc := 42) (v := Int64.ofInt 0) (by decide) (zdal_p dlD_M_readsNumber_131 (i := 23) rfl) ?_
        refine zw_lstore_n (pc := 43) (i := 3) (L2 := [some (.ref 81), some (.int (Int32.ofInt a0_)), some (.int (Int32.ofInt 0)), some (.long (Int64.ofInt 0)), none, none]) rfl (by decide) rfl (zdal_p dlD_M_readsNumber_132 (i := 0) rfl) ?_
        refine zw_iconst (pc := 44) (v := Int32.ofInt 0) (by decide) (zdal_p dlD_M_readsNumber_132 (i := 1) rfl) ?_
        refine zw_istore (pc := 45) (i := 5) (L2 := [some (.ref 81), some (.int (Int32.ofInt a0_)), some (.int (Int32.ofInt 0)), some (.long (Int64.ofInt 0)), none, some (.int (Int32.ofInt 0))]) (by decide) rfl (zdal_p dlD_M_readsNumber_132 (i := 2) rfl) ?_
        have lp_47 : ∀ (n : Nat) (u79_ : Int) (hu79_a : -9223372036854775808 ≤ u79_) (hu79_b : u79_ < 9223372036854775808) (u80_ : Int) (hu80_a : -2147483648 ≤ u80_) (hu80_b : u80_ < 2147483648) (N81_ : zMem) (hs82_ : zFr [64] [] Mz N81_) (i83_ : ze Mz 81 64 ≤ ze N81_ 81 64) (i84_ : ze N81_ 81 64 ≤ a0_) (i85_ : 0 ≤ u80_) (i86_ : u80_ ≤ 7) (i87_ : u80_ ≤ ze N81_ 81 64 - ze Mz 81 64), (a0_ - ze N81_ 81 64).toNat < n → zW l m_M_readsNumber (zn Mz + 0, zw Mz + 0) N81_ 47 [some (.ref 81), some (.int (Int32.ofInt a0_)), some (.int (Int32.ofInt 0)), some (.long (Int64.ofInt u79_)), none, some (.int (Int32.ofInt u80_))] [] (zpI [64, 65] [99] Mz (fun v N => 0 ≤ ze N 81 64 ∧ ze N 81 64 ≤ a0_ ∧ 0 ≤ ze N 81 65 ∧ ze N 81 65 ≤ ze Mz 81 26 ∧ (((v = 1 ∧ ze Mz 81 64 < ze N 81 64) ∨ (v = 0))))) := by
          intro n
          induction n with
          | zero =>
            intro u79_ hu79_a hu79_b u80_ hu80_a hu80_b N81_ hs82_ i83_ i84_ i85_ i86_ i87_ h0
            exact absurd h0 (Nat.not_lt_zero _)
          | succ n ih_47 =>
            intro u79_ hu79_a hu79_b u80_ hu80_a hu80_b N81_ hs82_ i83_ i84_ i85_ i86_ i87_ hlt_47
            have hf_N81_ : zFr [64, 65] [99] Mz N81_ := hf.tr hs82_ (by decide) (by decide)
            have e26_N81_ : ze N81_ 81 26 = ze Mz 81 26 := hs82_.e (by decide)
            have r64_N81_ := ze_r N81_ 81 64
            have e65_N81_ : ze N81_ 81 65 = ze Mz 81 65 := hs82_.e (by decide)
            have c88_ : zGB T N81_ := zGB.fr hs82_ p0_ (by decide) (by decide)
            have c89_ : zTab T N81_ := zTab.fr hs82_ dv0 (by decide) (by decide)
            have c90_ : zB 85 144 0 5 N81_ := zB.fr hs82_ dv1 (by decide) (by decide)
            have c91_ : zJX T N81_ := zJX.fr hs82_ dv2 (by decide) (by decide)
            have c92_ : zFirs T N81_ := zFirs.fr hs82_ dv3 (by decide) (by decide)
            have c93_ : zSSm T N81_ := zSSm.fr hs82_ dv4 (by decide) (by decide)
            have c94_ : zGD N81_ := zGD.fr hs82_ dv5 (by decide) (by decide)
            refine zw_aload_n (pc := 47) (n := 0) (x := 81) rfl (zdal_p dlD_M_readsNumber_132 (i := 3) rfl) ?_
            refine zr_getI (hf_N81_.w hW) (pc := 48) f_M_504 rfl (zdal_p dlD_M_readsNumber_132 (i := 4) rfl) ?_
            refine zw_iload_n (pc := 51) (n := 1) (x := Int32.ofInt a0_) rfl (zdal_p dlD_M_readsNumber_132 (i := 5) rfl) ?_
            refine zr_icmp_ge (pc := 52) (tgt := 114) ⟨(ze_r N81_ 81 64).1, (ze_r N81_ 81 64).2⟩ ⟨ha0_a, ha0_b⟩ (by decide) (zdal_p dlD_M_readsNumber_132 (i := 6) rfl) (fun hc_52 => ?_) (fun hc_52 => ?_)
            · skip
              refine zw_iload (pc := 114) (i := 5) (x := Int32.ofInt u80_) rfl d_M_readsNumber_114 ?_
              refine zr_if_eq (pc := 116) (tgt := 137) ⟨hu80_a, hu80_b⟩ (by decide) d_M_readsNumber_116 (fun hc_116 => ?_) (fun hc_116 => ?_)
              · skip
                refine zw_iconst (pc := 137) (v := Int32.ofInt 0) (by decide) d_M_readsNumber_137 ?_
                exact zr_iret (pc := 138) (ty := .boolean) rfl (z_narB (by (decide))) ⟨by (decide), by (decide)⟩ hf_N81_ ⟨(show 0 ≤ ze N81_ 81 64 by first | assumption | (exact zo_839 i83_ p1_ r64_N81_.1)), (show ze N81_ 81 64 ≤ a0_ by first | assumption | omega), (show 0 ≤ ze N81_ 81 65 by first | assumption | (exact zo_720 e65_N81_ p4_)), (show ze N81_ 81 65 ≤ ze Mz 81 26 by first | assumption | (exact zo_840 e65_N81_ p5_)), (show ((0 = 1 ∧ ze Mz 81 64 < ze N81_ 81 64) ∨ (0 = 0)) from Or.inr ((show 0 = 0 by first | assumption | omega)))⟩ d_M_readsNumber_138
              · skip
                refine zw_iload (pc := 119) (i := 5) (x := Int32.ofInt u80_) rfl d_M_readsNumber_119 ?_
                refine zw_bipush (pc := 121) (v := Int32.ofInt 6) (by decide) d_M_readsNumber_121 ?_
                refine zr_icmp_gt (pc := 123) (tgt := 137) ⟨hu80_a, hu80_b⟩ ⟨(by decide), (by decide)⟩ (by decide) d_M_readsNumber_123 (fun hc_123 => ?_) (fun hc_123 => ?_)
                · skip
                  refine zw_iconst (pc := 137) (v := Int32.ofInt 0) (by decide) d_M_readsNumber_137 ?_
                  exact zr_iret (pc := 138) (ty := .boolean) rfl (z_narB (by (decide))) ⟨by (decide), by (decide)⟩ hf_N81_ ⟨(show 0 ≤ ze N81_ 81 64 by first | assumption | (exact zo_839 i83_ p1_ r64_N81_.1)), (show ze N81_ 81 64 ≤ a0_ by first | assumption | omega), (show 0 ≤ ze N81_ 81 65 by first | assumption | (exact zo_720 e65_N81_ p4_)), (show ze N81_ 81 65 ≤ ze Mz 81 26 by first | assumption | (exact zo_840 e65_N81_ p5_)), (show ((0 = 1 ∧ ze Mz 81 64 < ze N81_ 81 64) ∨ (0 = 0)) from Or.inr ((show 0 = 0 by first | assumption | omega)))⟩ d_M_readsNumber_138
                · skip
                  refine zw_aload_n (pc := 126) (n := 0) (x := 81) rfl d_M_readsNumber_126 ?_
                  refine zr_getI (hf_N81_.w hW) (pc := 127) f_M_511 rfl d_M_readsNumber_127 ?_
                  refine zw_aload_n (pc := 130) (n := 0) (x := 81) rfl d_M_readsNumber_130 ?_
                  refine zr_getI0 hf_N81_ hW (pc := 131) (by decide) f_M_235 rfl d_M_readsNumber_131 ?_
                  refine zr_icmp_ne (pc := 134) (tgt := 139) ⟨(ze_r N81_ 81 65).1, (ze_r N81_ 81 65).2⟩ ⟨(ze_r Mz 81 26).1, (ze_r Mz 81 26).2⟩ (by decide) d_M_readsNumber_134 (fun hc_134 => ?_) (fun hc_134 => ?_)
                  · skip
                    refine zw_aload_n (pc := 139) (n := 0) (x := 81) rfl d_M_readsNumber_139 ?_
                    refine zr_getF (r := 99) (hf_N81_.w hW) (pc := 140) f_M_69 rfl (zh_99 (hf_N81_.w hW)).1 d_M_readsNumber_140 ?_
                    refine zw_aload_n (pc := 143) (n := 0) (x := 81) rfl d_M_readsNumber_143 ?_
                    refine zr_getI (hf_N81_.w hW) (pc := 144) f_M_511 rfl d_M_readsNumber_144 ?_
                    refine zw_iload_n (pc := 147) (n := 2) (x := Int32.ofInt 0) rfl d_M_readsNumber_147 ?_
                    refine zr_if_eq (pc := 148) (tgt := 156) ⟨(by decide), (by decide)⟩ (by decide) d_M_readsNumber_148 (fun hc_148 => ?_) (fun hc_148 => ?_)
                    · skip
                      refine zw_lload_n (pc := 156) (n := 3) (x := Int64.ofInt u79_) rfl d_M_readsNumber_156 ?_
                      refine zr_last (pc := 157) (zh_99 (hf_N81_.w hW)).2 (by decide) (by decide) (by (exact zo_720 e65_N81_ p4_)) (by (exact zo_841 e65_N81_ gb.2.2.2.2.2 p5_ hc_134)) d_M_readsNumber_157 (fun N95_ hN95_ hsN95_ => ?_)
                      have hf_N95_ : zFr [64, 65] [99] Mz N95_ := hf_N81_.tr hsN95_ (by decide) (by decide)
                      have e26_N95_ : ze N95_ 81 26 = ze N81_ 81 26 := hsN95_.e (by decide)
                      have e64_N95_ : ze N95_ 81 64 = ze N81_ 81 64 := hsN95_.e (by decide)
                      have e65_N95_ : ze N95_ 81 65 = ze N81_ 81 65 := hsN95_.e (by decide)
                      have c96_ : zGB T N95_ := zGB.fr hsN95_ c88_ (by decide) (by decide)
                      have c97_ : zTab T N95_ := zTab.fr hsN95_ c89_ (by decide) (by decide)
                      have c98_ : zB 85 144 0 5 N95_ := zB.fr hsN95_ c90_ (by decide) (by decide)
                      have c99_ : zJX T N95_ := zJX.fr hsN95_ c91_ (by decide) (by decide)
                      have c100_ : zFirs T N95_ := zFirs.fr hsN95_ c92_ (by decide) (by decide)
                      have c101_ : zSSm T N95_ := zSSm.fr hsN95_ c93_ (by decide) (by decide)
                      have c102_ : zGD N95_ := zGD.fr hsN95_ c94_ (by decide) (by decide)
                      refine zw_aload_n (pc := 158) (n := 0) (x := 81) rfl d_M_readsNumber_158 ?_
                      refine zw_dup (pc := 159) rfl d_M_readsNumber_159 ?_
                      refine zr_getI (hf_N95_.w hW) (pc := 160) f_M_511 rfl d_M_readsNumber_160 ?_
                      refine zw_iconst (pc := 163) (v := Int32.ofInt 1) (by decide) d_M_readsNumber_163 ?_
                      refine zr_iadd (pc := 164) d_M_readsNumber_164 ?_
                      refine zr_putI (hf_N95_.w hW) (pc := 165) f_M_511 rfl rfl ⟨by (exact zo_743 e65_N81_ e65_N95_ p4_), by (exact zo_860 e65_N81_ e65_N95_ gb.2.2.2.2.2 p5_ r_65.2)⟩ rfl rfl d_M_readsNumber_165 (fun N103_ hsN103_ hvN103_ => ?_)
                      have hf_N103_ : zFr [64, 65] [99] Mz N103_ := hf_N95_.tr hsN103_ (by decide) (by decide)
                      have e26_N103_ : ze N103_ 81 26 = ze N95_ 81 26 := hsN103_.e (by decide)
                      have e64_N103_ : ze N103_ 81 64 = ze N95_ 81 64 := hsN103_.e (by decide)
                      have r65_N103_ := ze_r N103_ 81 65
                      have c104_ : zGB T N103_ := zGB.fr hsN103_ c96_ (by decide) (by decide)
                      have c105_ : zTab T N103_ := zTab.fr hsN103_ c97_ (by decide) (by decide)
                      have c106_ : zB 85 144 0 5 N103_ := zB.fr hsN103_ c98_ (by decide) (by decide)
                      have c107_ : zJX T N103_ := zJX.fr hsN103_ c99_ (by decide) (by decide)
                      have c108_ : zFirs T N103_ := zFirs.fr hsN103_ c100_ (by decide) (by decide)
                      have c109_ : zSSm T N103_ := zSSm.fr hsN103_ c101_ (by decide) (by decide)
                      have c110_ : zGD N103_ := zGD.fr hsN103_ c102_ (by decide) (by decide)
                      refine zw_iconst (pc := 168) (v := Int32.ofInt 1) (by decide) d_M_readsNumber_168 ?_
                      exact zr_iret (pc := 169) (ty := .boolean) rfl (z_narB (by (decide))) ⟨by (decide), by (decide)⟩ hf_N103_ ⟨(show 0 ≤ ze N103_ 81 64 by first | assumption | (exact zo_865 e64_N103_ e64_N95_ i83_ p1_ r64_N81_.1)), (show ze N103_ 81 64 ≤ a0_ by first | assumption | (exact zo_866 e64_N103_ e64_N95_ i84_)), (show 0 ≤ ze N103_ 81 65 by first | assumption | (exact zo_861 e65_N81_ e65_N95_ hvN103_ p4_ r65_N103_.1)), (show ze N103_ 81 65 ≤ ze Mz 81 26 by first | assumption | (exact zo_862 e65_N81_ e65_N95_ gb.2.2.2.2.1 hvN103_ p5_ r65_N103_.2 hc_134)), (show ((1 = 1 ∧ ze Mz 81 64 < ze N103_ 81 64) ∨ (1 = 0)) from Or.inl (⟨(show 1 = 1 by first | assumption | (decide)), (show ze Mz 81 64 < ze N103_ 81 64 by first | assumption | (exact zo_867 e64_N103_ e64_N95_ hc_5 hc_52 i83_))⟩))⟩ d_M_readsNumber_169
                    · skip
                      exact absurd hc_148 (by decide)
                  · skip
                    refine zw_iconst (pc := 137) (v := Int32.ofInt 0) (by decide) d_M_readsNumber_137 ?_
                    exact zr_iret (pc := 138) (ty := .boolean) rfl (z_narB (by (decide))) ⟨by (decide), by (decide)⟩ hf_N81_ ⟨(show 0 ≤ ze N81_ 81 64 by first | assumption | (exact zo_839 i83_ p1_ r64_N81_.1)), (show ze N81_ 81 64 ≤ a0_ by first | assumption | omega), (show 0 ≤ ze N81_ 81 65 by first | assumption | (exact zo_848 gb.2.2.2.2.1 hc_134)), (show ze N81_ 81 65 ≤ ze Mz 81 26 by first | assumption | (exact zo_849 hc_134)), (show ((0 = 1 ∧ ze Mz 81 64 < ze N81_ 81 64) ∨ (0 = 0)) from Or.inr ((show 0 = 0 by first | assumption | omega)))⟩ d_M_readsNumber_138
            · skip
              refine zw_aload_n (pc := 55) (n := 0) (x := 81) rfl (zdal_p dlD_M_readsNumber_132 (i := 7) rfl) ?_
              refine zr_getF (r := 82) (hf_N81_.w hW) (pc := 56) f_M_7 rfl (zh_82 (hf_N81_.w hW)).1 (zdal_p dlD_M_readsNumber_132 (i := 8) rfl) ?_
              refine zw_aload_n (pc := 59) (n := 0) (x := 81) rfl (zdal_p dlD_M_readsNumber_132 (i := 9) rfl) ?_
              refine zr_getI (hf_N81_.w hW) (pc := 60) f_M_504 rfl (zdal_p dlD_M_readsNumber_132 (i := 10) rfl) ?_
              refine zr_ialdn (pc := 63) (zh_82 (hf_N81_.w hW)).2 (by decide) (by (exact zo_839 i83_ p1_ r64_N81_.1)) (by (exact zo_850 hc_52 p3_)) (zdal_p dlD_M_readsNumber_132 (i := 11) rfl) (fun v111_ hv111_ hv111_a hv111_b => ?_)
              rw [hf_N81_.ie (by decide) (by decide)] at hv111_
              refine zr_callS hf_N81_.x (pc := 64) [.int (Int32.ofInt v111_)] [] l_M_162 (c_M_isDigit l N81_ (hf_N81_.w hW) v111_ hv111_a hv111_b) rfl rfl (by decide) (Nat.le_of_ble_eq_true rfl) (zdal_p dlD_M_readsNumber_132 (i := 12) rfl) ?_
              rintro _ N112_ ⟨v113_, rfl, ⟨hv113_a, hv113_b⟩, hsN112_, hp0_N112_⟩
              obtain rfl := hsN112_.eq.symm
              replace hp0_N112_ : ((v113_ = 1 ∧ 48 ≤ v111_ ∧ v111_ ≤ 57) ∨ (v113_ = 0 ∧ (v111_ < 48 ∨ 57 < v111_))) := hp0_N112_
              rcases hp0_N112_ with ⟨rfl, ha64_0_hp0_N112_, ha64_1_hp0_N112_⟩ | ⟨rfl, ha64_0_hp0_N112_⟩
              · skip
                show zW l m_M_readsNumber (zn Mz + 0, zw Mz + 0) N81_ 67 [some (.ref 81), some (.int (Int32.ofInt a0_)), some (.int (Int32.ofInt 0)), some (.long (Int64.ofInt u79_)), none, some (.int (Int32.ofInt u80_))] [.int (Int32.ofInt 1)] _
                refine zr_if_eq (pc := 67) (tgt := 114) ⟨(by decide), (by decide)⟩ (by decide) d_M_readsNumber_67 (fun hc_67 => ?_) (fun hc_67 => ?_)
                · skip
                  exact absurd hc_67 (by decide)
                · skip
                  refine zw_iload (pc := 70) (i := 5) (x := Int32.ofInt u80_) rfl (zdal_p dlD_M_readsNumber_132 (i := 14) rfl) ?_
                  refine zw_bipush (pc := 72) (v := Int32.ofInt 6) (by decide) (zdal_p dlD_M_readsNumber_132 (i := 15) rfl) ?_
                  refine zr_icmp_gt (pc := 74) (tgt := 114) ⟨hu80_a, hu80_b⟩ ⟨(by decide), (by decide)⟩ (by decide) (zdal_p dlD_M_readsNumber_132 (i := 16) rfl) (fun hc_74 => ?_) (fun hc_74 => ?_)
                  · skip
                    refine zw_iload (pc := 114) (i := 5) (x := Int32.ofInt u80_) rfl d_M_readsNumber_114 ?_
                    refine zr_if_eq (pc := 116) (tgt := 137) ⟨hu80_a, hu80_b⟩ (by decide) d_M_readsNumber_116 (fun hc_116 => ?_) (fun hc_116 => ?_)
                    · skip
                      refine zw_iconst (pc := 137) (v := Int32.ofInt 0) (by decide) d_M_readsNumber_137 ?_
                      exact zr_iret (pc := 138) (ty := .boolean) rfl (z_narB (by (decide))) ⟨by (decide), by (decide)⟩ hf_N81_ ⟨(show 0 ≤ ze N81_ 81 64 by first | assumption | (exact zo_839 i83_ p1_ r64_N81_.1)), (show ze N81_ 81 64 ≤ a0_ by first | assumption | omega), (show 0 ≤ ze N81_ 81 65 by first | assumption | (exact zo_720 e65_N81_ p4_)), (show ze N81_ 81 65 ≤ ze Mz 81 26 by first | assumption | (exact zo_840 e65_N81_ p5_)), (show ((0 = 1 ∧ ze Mz 81 64 < ze N81_ 81 64) ∨ (0 = 0)) from Or.inr ((show 0 = 0 by first | assumption | omega)))⟩ d_M_readsNumber_138
                    · skip
                      refine zw_iload (pc := 119) (i := 5) (x := Int32.ofInt u80_) rfl d_M_readsNumber_119 ?_
                      refine zw_bipush (pc := 121) (v := Int32.ofInt 6) (by decide) d_M_readsNumber_121 ?_
                      refine zr_icmp_gt (pc := 123) (tgt := 137) ⟨hu80_a, hu80_b⟩ ⟨(by decide), (by decide)⟩ (by decide) d_M_readsNumber_123 (fun hc_123 => ?_) (fun hc_123 => ?_)
                      · skip
                        refine zw_iconst (pc := 137) (v := Int32.ofInt 0) (by decide) d_M_readsNumber_137 ?_
                        exact zr_iret (pc := 138) (ty := .boolean) rfl (z_narB (by (decide))) ⟨by (decide), by (decide)⟩ hf_N81_ ⟨(show 0 ≤ ze N81_ 81 64 by first | assumption | (exact zo_839 i83_ p1_ r64_N81_.1)), (show ze N81_ 81 64 ≤ a0_ by first | assumption | omega), (show 0 ≤ ze N81_ 81 65 by first | assumption | (exact zo_720 e65_N81_ p4_)), (show ze N81_ 81 65 ≤ ze Mz 81 26 by first | assumption | (exact zo_840 e65_N81_ p5_)), (show ((0 = 1 ∧ ze Mz 81 64 < ze N81_ 81 64) ∨ (0 = 0)) from Or.inr ((show 0 = 0 by first | assumption | omega)))⟩ d_M_readsNumber_138
                      · skip
                        refine zw_aload_n (pc := 126) (n := 0) (x := 81) rfl d_M_readsNumber_126 ?_
                        refine zr_getI (hf_N81_.w hW) (pc := 127) f_M_511 rfl d_M_readsNumber_127 ?_
                        refine zw_aload_n (pc := 130) (n := 0) (x := 81) rfl d_M_readsNumber_130 ?_
                        refine zr_getI0 hf_N81_ hW (pc := 131) (by decide) f_M_235 rfl d_M_readsNumber_131 ?_
                        refine zr_icmp_ne (pc := 134) (tgt := 139) ⟨(ze_r N81_ 81 65).1, (ze_r N81_ 81 65).2⟩ ⟨(ze_r Mz 81 26).1, (ze_r Mz 81 26).2⟩ (by decide) d_M_readsNumber_134 (fun hc_134 => ?_) (fun hc_134 => ?_)
                        · skip
                          refine zw_aload_n (pc := 139) (n := 0) (x := 81) rfl d_M_readsNumber_139 ?_
                          refine zr_getF (r := 99) (hf_N81_.w hW) (pc := 140) f_M_69 rfl (zh_99 (hf_N81_.w hW)).1 d_M_readsNumber_140 ?_
                          refine zw_aload_n (pc := 143) (n := 0) (x := 81) rfl d_M_readsNumber_143 ?_
                          refine zr_getI (hf_N81_.w hW) (pc := 144) f_M_511 rfl d_M_readsNumber_144 ?_
                          refine zw_iload_n (pc := 147) (n := 2) (x := Int32.ofInt 0) rfl d_M_readsNumber_147 ?_
                          refine zr_if_eq (pc := 148) (tgt := 156) ⟨(by decide), (by decide)⟩ (by decide) d_M_readsNumber_148 (fun hc_148 => ?_) (fun hc_148 => ?_)
                          · skip
                            refine zw_lload_n (pc := 156) (n := 3) (x := Int64.ofInt u79_) rfl d_M_readsNumber_156 ?_
                            refine zr_last (pc := 157) (zh_99 (hf_N81_.w hW)).2 (by decide) (by decide) (by (exact zo_720 e65_N81_ p4_)) (by (exact zo_841 e65_N81_ gb.2.2.2.2.2 p5_ hc_134)) d_M_readsNumber_157 (fun N114_ hN114_ hsN114_ => ?_)
                            have hf_N114_ : zFr [64, 65] [99] Mz N114_ := hf_N81_.tr hsN114_ (by decide) (by decide)
                            have e26_N114_ : ze N114_ 81 26 = ze N81_ 81 26 := hsN114_.e (by decide)
                            have e64_N114_ : ze N114_ 81 64 = ze N81_ 81 64 := hsN114_.e (by decide)
                            have e65_N114_ : ze N114_ 81 65 = ze N81_ 81 65 := hsN114_.e (by decide)
                            have c115_ : zGB T N114_ := zGB.fr hsN114_ c88_ (by decide) (by decide)
                            have c116_ : zTab T N114_ := zTab.fr hsN114_ c89_ (by decide) (by decide)
                            have c117_ : zB 85 144 0 5 N114_ := zB.fr hsN114_ c90_ (by decide) (by decide)
                            have c118_ : zJX T N114_ := zJX.fr hsN114_ c91_ (by decide) (by decide)
                            have c119_ : zFirs T N114_ := zFirs.fr hsN114_ c92_ (by decide) (by decide)
                            have c120_ : zSSm T N114_ := zSSm.fr hsN114_ c93_ (by decide) (by decide)
                            have c121_ : zGD N114_ := zGD.fr hsN114_ c94_ (by decide) (by decide)
                            refine zw_aload_n (pc := 158) (n := 0) (x := 81) rfl d_M_readsNumber_158 ?_
                            refine zw_dup (pc := 159) rfl d_M_readsNumber_159 ?_
                            refine zr_getI (hf_N114_.w hW) (pc := 160) f_M_511 rfl d_M_readsNumber_160 ?_
                            refine zw_iconst (pc := 163) (v := Int32.ofInt 1) (by decide) d_M_readsNumber_163 ?_
                            refine zr_iadd (pc := 164) d_M_readsNumber_164 ?_
                            refine zr_putI (hf_N114_.w hW) (pc := 165) f_M_511 rfl rfl ⟨by (exact zo_722 e65_N114_ e65_N81_ p4_), by (exact zo_842 e65_N114_ e65_N81_ gb.2.2.2.2.2 p5_ r_65.2)⟩ rfl rfl d_M_readsNumber_165 (fun N122_ hsN122_ hvN122_ => ?_)
                            have hf_N122_ : zFr [64, 65] [99] Mz N122_ := hf_N114_.tr hsN122_ (by decide) (by decide)
                            have e26_N122_ : ze N122_ 81 26 = ze N114_ 81 26 := hsN122_.e (by decide)
                            have e64_N122_ : ze N122_ 81 64 = ze N114_ 81 64 := hsN122_.e (by decide)
                            have r65_N122_ := ze_r N122_ 81 65
                            have c123_ : zGB T N122_ := zGB.fr hsN122_ c115_ (by decide) (by decide)
                            have c124_ : zTab T N122_ := zTab.fr hsN122_ c116_ (by decide) (by decide)
                            have c125_ : zB 85 144 0 5 N122_ := zB.fr hsN122_ c117_ (by decide) (by decide)
                            have c126_ : zJX T N122_ := zJX.fr hsN122_ c118_ (by decide) (by decide)
                            have c127_ : zFirs T N122_ := zFirs.fr hsN122_ c119_ (by decide) (by decide)
                            have c128_ : zSSm T N122_ := zSSm.fr hsN122_ c120_ (by decide) (by decide)
                            have c129_ : zGD N122_ := zGD.fr hsN122_ c121_ (by decide) (by decide)
                            refine zw_iconst (pc := 168) (v := Int32.ofInt 1) (by decide) d_M_readsNumber_168 ?_
                            exact zr_iret (pc := 169) (ty := .boolean) rfl (z_narB (by (decide))) ⟨by (exact hv113_a), by (exact hv113_b)⟩ hf_N122_ ⟨(show 0 ≤ ze N122_ 81 64 by first | assumption | (exact zo_843 e64_N114_ e64_N122_ i83_ p1_ r64_N81_.1)), (show ze N122_ 81 64 ≤ a0_ by first | assumption | (exact zo_851 e64_N114_ e64_N122_ hc_52)), (show 0 ≤ ze N122_ 81 65 by first | assumption | (exact zo_845 e65_N114_ e65_N81_ hvN122_ p4_ r65_N122_.1)), (show ze N122_ 81 65 ≤ ze Mz 81 26 by first | assumption | (exact zo_846 e65_N114_ e65_N81_ gb.2.2.2.2.1 hvN122_ p5_ r65_N122_.2 hc_134)), (show ((1 = 1 ∧ ze Mz 81 64 < ze N122_ 81 64) ∨ (1 = 0)) from Or.inl (⟨(show 1 = 1 by first | assumption | (decide)), (show ze Mz 81 64 < ze N122_ 81 64 by first | assumption | (exact zo_852 e64_N114_ e64_N122_ hc_74 i83_ i87_))⟩))⟩ d_M_readsNumber_169
                          · skip
                            exact absurd hc_148 (by decide)
                        · skip
                          refine zw_iconst (pc := 137) (v := Int32.ofInt 0) (by decide) d_M_readsNumber_137 ?_
                          exact zr_iret (pc := 138) (ty := .boolean) rfl (z_narB (by (decide))) ⟨by (decide), by (decide)⟩ hf_N81_ ⟨(show 0 ≤ ze N81_ 81 64 by first | assumption | (exact zo_839 i83_ p1_ r64_N81_.1)), (show ze N81_ 81 64 ≤ a0_ by first | assumption | omega), (show 0 ≤ ze N81_ 81 65 by first | assumption | (exact zo_848 gb.2.2.2.2.1 hc_134)), (show ze N81_ 81 65 ≤ ze Mz 81 26 by first | assumption | (exact zo_849 hc_134)), (show ((0 = 1 ∧ ze Mz 81 64 < ze N81_ 81 64) ∨ (0 = 0)) from Or.inr ((show 0 = 0 by first | assumption | omega)))⟩ d_M_readsNumber_138
                  · skip
                    refine zr_ldc2 (pc := 77) (n := 10) (by decide) k_M_507 (zdal_p dlD_M_readsNumber_132 (i := 17) rfl) ?_
                    refine zw_lload_n (pc := 80) (n := 3) (x := Int64.ofInt u79_) rfl (zdal_p dlD_M_readsNumber_132 (i := 18) rfl) ?_
                    refine zr_lmul (pc := 81) (zdal_p dlD_M_readsNumber_132 (i := 19) rfl) ?_
                    refine zw_aload_n (pc := 82) (n := 0) (x := 81) rfl (zdal_p dlD_M_readsNumber_132 (i := 20) rfl) ?_
                    refine zr_getF (r := 82) (hf_N81_.w hW) (pc := 83) f_M_7 rfl (zh_82 (hf_N81_.w hW)).1 (zdal_p dlD_M_readsNumber_132 (i := 21) rfl) ?_
                    refine zw_aload_n (pc := 86) (n := 0) (x := 81) rfl (zdal_p dlD_M_readsNumber_132 (i := 22) rfl) ?_
                    refine zr_getI (hf_N81_.w hW) (pc := 87) f_M_504 rfl (zdal_p dlD_M_readsNumber_132 (i := 23) rfl) ?_
                    refine zr_ialdn (pc := 90) (zh_82 (hf_N81_.w hW)).2 (by decide) (by (exact zo_839 i83_ p1_ r64_N81_.1)) (by (exact zo_850 hc_52 p3_)) (zdal_p dlD_M_readsNumber_133 (i := 0) rfl) (fun v130_ hv130_ hv130_a hv130_b => ?_)
                    rw [hf_N81_.ie (by decide) (by decide)] at hv130_
                    refine zr_i2l (pc := 91) ⟨hv130_a, hv130_b⟩ (zdal_p dlD_M_readsNumber_133 (i := 1) rfl) ?_
                    refine zr_ladd (pc := 92) (zdal_p dlD_M_readsNumber_133 (i := 2) rfl) ?_
                    refine zr_ldc2 (pc := 93) (n := 48) (by decide) k_M_509 (zdal_p dlD_M_readsNumber_133 (i := 3) rfl) ?_
                    refine zr_lsub (pc := 96) (zdal_p dlD_M_readsNumber_133 (i := 4) rfl) ?_
                    refine zr_nmJ (fun v131_ hv131_ => ?_)
                    obtain ⟨hv131_a, hv131_b⟩ := hv131_
                    refine zw_lstore_n (pc := 97) (i := 3) (L2 := [some (.ref 81), some (.int (Int32.ofInt a0_)), some (.int (Int32.ofInt 0)), some (.long (Int64.ofInt v131_)), none, some (.int (Int32.ofInt u80_))]) rfl (by decide) rfl (zdal_p dlD_M_readsNumber_133 (i := 5) rfl) ?_
                    refine zr_iinc (pc := 98) (i := 5) (a := u80_) (n := 1) (L2 := [some (.ref 81), some (.int (Int32.ofInt a0_)), some (.int (Int32.ofInt 0)), some (.long (Int64.ofInt v131_)), none, some (.int (Int32.ofInt (u80_ + 1)))]) rfl (by decide) rfl (zdal_p dlD_M_readsNumber_133 (i := 6) rfl) ?_
                    refine zw_aload_n (pc := 101) (n := 0) (x := 81) rfl (zdal_p dlD_M_readsNumber_133 (i := 7) rfl) ?_
                    refine zw_dup (pc := 102) rfl (zdal_p dlD_M_readsNumber_133 (i := 8) rfl) ?_
                    refine zr_getI (hf_N81_.w hW) (pc := 103) f_M_504 rfl (zdal_p dlD_M_readsNumber_133 (i := 9) rfl) ?_
                    refine zw_iconst (pc := 106) (v := Int32.ofInt 1) (by decide) (zdal_p dlD_M_readsNumber_133 (i := 10) rfl) ?_
                    refine zr_iadd (pc := 107) (zdal_p dlD_M_readsNumber_133 (i := 11) rfl) ?_
                    refine zr_putI (hf_N81_.w hW) (pc := 108) f_M_504 rfl rfl ⟨by (exact zo_679 r64_N81_.1), by (exact zo_853 hc_52 p3_)⟩ rfl rfl (zdal_p dlD_M_readsNumber_133 (i := 12) rfl) (fun N132_ hsN132_ hvN132_ => ?_)
                    have hf_N132_ : zFr [64, 65] [99] Mz N132_ := hf_N81_.tr hsN132_ (by decide) (by decide)
                    have hb0_N132_ : zFr [64] [] Mz N132_ := hs82_.tr hsN132_ (by decide) (by decide)
                    have e26_N132_ : ze N132_ 81 26 = ze N81_ 81 26 := hsN132_.e (by decide)
                    have r64_N132_ := ze_r N132_ 81 64
                    have e65_N132_ : ze N132_ 81 65 = ze N81_ 81 65 := hsN132_.e (by decide)
                    have c133_ : zGB T N132_ := zGB.fr hsN132_ c88_ (by decide) (by decide)
                    have c134_ : zTab T N132_ := zTab.fr hsN132_ c89_ (by decide) (by decide)
                    have c135_ : zB 85 144 0 5 N132_ := zB.fr hsN132_ c90_ (by decide) (by decide)
                    have c136_ : zJX T N132_ := zJX.fr hsN132_ c91_ (by decide) (by decide)
                    have c137_ : zFirs T N132_ := zFirs.fr hsN132_ c92_ (by decide) (by decide)
                    have c138_ : zSSm T N132_ := zSSm.fr hsN132_ c93_ (by decide) (by decide)
                    have c139_ : zGD N132_ := zGD.fr hsN132_ c94_ (by decide) (by decide)
                    refine zw_goto (pc := 111) (tgt := 47) (by decide) (zdal_p dlD_M_readsNumber_133 (i := 13) rfl) ?_
                    exact ih_47 v131_ hv131_a hv131_b (u80_ + 1) (by (exact zo_74 i85_)) (by (exact zo_868 i86_)) N132_ hb0_N132_ (show ze Mz 81 64 ≤ ze N132_ 81 64 by first | assumption | (exact zo_855 hvN132_ i83_ r64_N132_.1 r_64.2)) (show ze N132_ 81 64 ≤ a0_ by first | assumption | (exact zo_856 hc_52 hvN132_)) (show 0 ≤ (u80_ + 1) by first | assumption | (exact zo_76 i85_)) (show (u80_ + 1) ≤ 7 by first | assumption | (exact zo_869 hc_74 i86_)) (show (u80_ + 1) ≤ ze N132_ 81 64 - ze Mz 81 64 by first | assumption | (exact zo_858 hvN132_ i87_)) (by (exact zo_859 hc_52 hlt_47 hvN132_ p3_ r64_N132_.1))
              · skip
                show zW l m_M_readsNumber (zn Mz + 0, zw Mz + 0) N81_ 67 [some (.ref 81), some (.int (Int32.ofInt a0_)), some (.int (Int32.ofInt 0)), some (.long (Int64.ofInt u79_)), none, some (.int (Int32.ofInt u80_))] [.int (Int32.ofInt 0)] _
                refine zr_if_eq (pc := 67) (tgt := 114) ⟨(by decide), (by decide)⟩ (by decide) d_M_readsNumber_67 (fun hc_67 => ?_) (fun hc_67 => ?_)
                · skip
                  refine zw_iload (pc := 114) (i := 5) (x := Int32.ofInt u80_) rfl d_M_readsNumber_114 ?_
                  refine zr_if_eq (pc := 116) (tgt := 137) ⟨hu80_a, hu80_b⟩ (by decide) d_M_readsNumber_116 (fun hc_116 => ?_) (fun hc_116 => ?_)
                  · skip
                    refine zw_iconst (pc := 137) (v := Int32.ofInt 0) (by decide) d_M_readsNumber_137 ?_
                    exact zr_iret (pc := 138) (ty := .boolean) rfl (z_narB (by (decide))) ⟨by (exact hv113_a), by (exact hv113_b)⟩ hf_N81_ ⟨(show 0 ≤ ze N81_ 81 64 by first | assumption | (exact zo_839 i83_ p1_ r64_N81_.1)), (show ze N81_ 81 64 ≤ a0_ by first | assumption | omega), (show 0 ≤ ze N81_ 81 65 by first | assumption | (exact zo_720 e65_N81_ p4_)), (show ze N81_ 81 65 ≤ ze Mz 81 26 by first | assumption | (exact zo_840 e65_N81_ p5_)), (show ((0 = 1 ∧ ze Mz 81 64 < ze N81_ 81 64) ∨ (0 = 0)) from Or.inr ((show 0 = 0 by first | assumption | omega)))⟩ d_M_readsNumber_138
                  · skip
                    refine zw_iload (pc := 119) (i := 5) (x := Int32.ofInt u80_) rfl d_M_readsNumber_119 ?_
                    refine zw_bipush (pc := 121) (v := Int32.ofInt 6) (by decide) d_M_readsNumber_121 ?_
                    refine zr_icmp_gt (pc := 123) (tgt := 137) ⟨hu80_a, hu80_b⟩ ⟨(by decide), (by decide)⟩ (by decide) d_M_readsNumber_123 (fun hc_123 => ?_) (fun hc_123 => ?_)
                    · skip
                      refine zw_iconst (pc := 137) (v := Int32.ofInt 0) (by decide) d_M_readsNumber_137 ?_
                      exact zr_iret (pc := 138) (ty := .boolean) rfl (z_narB (by (decide))) ⟨by (exact hv113_a), by (exact hv113_b)⟩ hf_N81_ ⟨(show 0 ≤ ze N81_ 81 64 by first | assumption | (exact zo_839 i83_ p1_ r64_N81_.1)), (show ze N81_ 81 64 ≤ a0_ by first | assumption | omega), (show 0 ≤ ze N81_ 81 65 by first | assumption | (exact zo_720 e65_N81_ p4_)), (show ze N81_ 81 65 ≤ ze Mz 81 26 by first | assumption | (exact zo_840 e65_N81_ p5_)), (show ((0 = 1 ∧ ze Mz 81 64 < ze N81_ 81 64) ∨ (0 = 0)) from Or.inr ((show 0 = 0 by first | assumption | omega)))⟩ d_M_readsNumber_138
                    · skip
                      refine zw_aload_n (pc := 126) (n := 0) (x := 81) rfl d_M_readsNumber_126 ?_
                      refine zr_getI (hf_N81_.w hW) (pc := 127) f_M_511 rfl d_M_readsNumber_127 ?_
                      refine zw_aload_n (pc := 130) (n := 0) (x := 81) rfl d_M_readsNumber_130 ?_
                      refine zr_getI0 hf_N81_ hW (pc := 131) (by decide) f_M_235 rfl d_M_readsNumber_131 ?_
                      refine zr_icmp_ne (pc := 134) (tgt := 139) ⟨(ze_r N81_ 81 65).1, (ze_r N81_ 81 65).2⟩ ⟨(ze_r Mz 81 26).1, (ze_r Mz 81 26).2⟩ (by decide) d_M_readsNumber_134 (fun hc_134 => ?_) (fun hc_134 => ?_)
                      · skip
                        refine zw_aload_n (pc := 139) (n := 0) (x := 81) rfl d_M_readsNumber_139 ?_
                        refine zr_getF (r := 99) (hf_N81_.w hW) (pc := 140) f_M_69 rfl (zh_99 (hf_N81_.w hW)).1 d_M_readsNumber_140 ?_
                        refine zw_aload_n (pc := 143) (n := 0) (x := 81) rfl d_M_readsNumber_143 ?_
                        refine zr_getI (hf_N81_.w hW) (pc := 144) f_M_511 rfl d_M_readsNumber_144 ?_
                        refine zw_iload_n (pc := 147) (n := 2) (x := Int32.ofInt 0) rfl d_M_readsNumber_147 ?_
                        refine zr_if_eq (pc := 148) (tgt := 156) ⟨(by decide), (by decide)⟩ (by decide) d_M_readsNumber_148 (fun hc_148 => ?_) (fun hc_148 => ?_)
                        · skip
                          refine zw_lload_n (pc := 156) (n := 3) (x := Int64.ofInt u79_) rfl d_M_readsNumber_156 ?_
                          refine zr_last (pc := 157) (zh_99 (hf_N81_.w hW)).2 (by decide) (by decide) (by (exact zo_720 e65_N81_ p4_)) (by (exact zo_841 e65_N81_ gb.2.2.2.2.2 p5_ hc_134)) d_M_readsNumber_157 (fun N140_ hN140_ hsN140_ => ?_)
                          have hf_N140_ : zFr [64, 65] [99] Mz N140_ := hf_N81_.tr hsN140_ (by decide) (by decide)
                          have e26_N140_ : ze N140_ 81 26 = ze N81_ 81 26 := hsN140_.e (by decide)
                          have e64_N140_ : ze N140_ 81 64 = ze N81_ 81 64 := hsN140_.e (by decide)
                          have e65_N140_ : ze N140_ 81 65 = ze N81_ 81 65 := hsN140_.e (by decide)
                          have c141_ : zGB T N140_ := zGB.fr hsN140_ c88_ (by decide) (by decide)
                          have c142_ : zTab T N140_ := zTab.fr hsN140_ c89_ (by decide) (by decide)
                          have c143_ : zB 85 144 0 5 N140_ := zB.fr hsN140_ c90_ (by decide) (by decide)
                          have c144_ : zJX T N140_ := zJX.fr hsN140_ c91_ (by decide) (by decide)
                          have c145_ : zFirs T N140_ := zFirs.fr hsN140_ c92_ (by decide) (by decide)
                          have c146_ : zSSm T N140_ := zSSm.fr hsN140_ c93_ (by decide) (by decide)
                          have c147_ : zGD N140_ := zGD.fr hsN140_ c94_ (by decide) (by decide)
                          refine zw_aload_n (pc := 158) (n := 0) (x := 81) rfl d_M_readsNumber_158 ?_
                          refine zw_dup (pc := 159) rfl d_M_readsNumber_159 ?_
                          refine zr_getI (hf_N140_.w hW) (pc := 160) f_M_511 rfl d_M_readsNumber_160 ?_
                          refine zw_iconst (pc := 163) (v := Int32.ofInt 1) (by decide) d_M_readsNumber_163 ?_
                          refine zr_iadd (pc := 164) d_M_readsNumber_164 ?_
                          refine zr_putI (hf_N140_.w hW) (pc := 165) f_M_511 rfl rfl ⟨by (exact zo_722 e65_N140_ e65_N81_ p4_), by (exact zo_842 e65_N140_ e65_N81_ gb.2.2.2.2.2 p5_ r_65.2)⟩ rfl rfl d_M_readsNumber_165 (fun N148_ hsN148_ hvN148_ => ?_)
                          have hf_N148_ : zFr [64, 65] [99] Mz N148_ := hf_N140_.tr hsN148_ (by decide) (by decide)
                          have e26_N148_ : ze N148_ 81 26 = ze N140_ 81 26 := hsN148_.e (by decide)
                          have e64_N148_ : ze N148_ 81 64 = ze N140_ 81 64 := hsN148_.e (by decide)
                          have r65_N148_ := ze_r N148_ 81 65
                          have c149_ : zGB T N148_ := zGB.fr hsN148_ c141_ (by decide) (by decide)
                          have c150_ : zTab T N148_ := zTab.fr hsN148_ c142_ (by decide) (by decide)
                          have c151_ : zB 85 144 0 5 N148_ := zB.fr hsN148_ c143_ (by decide) (by decide)
                          have c152_ : zJX T N148_ := zJX.fr hsN148_ c144_ (by decide) (by decide)
                          have c153_ : zFirs T N148_ := zFirs.fr hsN148_ c145_ (by decide) (by decide)
                          have c154_ : zSSm T N148_ := zSSm.fr hsN148_ c146_ (by decide) (by decide)
                          have c155_ : zGD N148_ := zGD.fr hsN148_ c147_ (by decide) (by decide)
                          refine zw_iconst (pc := 168) (v := Int32.ofInt 1) (by decide) d_M_readsNumber_168 ?_
                          exact zr_iret (pc := 169) (ty := .boolean) rfl (z_narB (by (decide))) ⟨by (decide), by (decide)⟩ hf_N148_ ⟨(show 0 ≤ ze N148_ 81 64 by first | assumption | (exact zo_843 e64_N140_ e64_N148_ i83_ p1_ r64_N81_.1)), (show ze N148_ 81 64 ≤ a0_ by first | assumption | (exact zo_851 e64_N140_ e64_N148_ hc_52)), (show 0 ≤ ze N148_ 81 65 by first | assumption | (exact zo_845 e65_N140_ e65_N81_ hvN148_ p4_ r65_N148_.1)), (show ze N148_ 81 65 ≤ ze Mz 81 26 by first | assumption | (exact zo_846 e65_N140_ e65_N81_ gb.2.2.2.2.1 hvN148_ p5_ r65_N148_.2 hc_134)), (show ((1 = 1 ∧ ze Mz 81 64 < ze N148_ 81 64) ∨ (1 = 0)) from Or.inl (⟨(show 1 = 1 by first | assumption | (decide)), (show ze Mz 81 64 < ze N148_ 81 64 by first | assumption | (exact zo_847 e64_N140_ e64_N148_ i83_ i85_ i87_ hc_116))⟩))⟩ d_M_readsNumber_169
                        · skip
                          exact absurd hc_148 (by decide)
                      · skip
                        refine zw_iconst (pc := 137) (v := Int32.ofInt 0) (by decide) d_M_readsNumber_137 ?_
                        exact zr_iret (pc := 138) (ty := .boolean) rfl (z_narB (by (decide))) ⟨by (exact hv113_a), by (exact hv113_b)⟩ hf_N81_ ⟨(show 0 ≤ ze N81_ 81 64 by first | assumption | (exact zo_839 i83_ p1_ r64_N81_.1)), (show ze N81_ 81 64 ≤ a0_ by first | assumption | omega), (show 0 ≤ ze N81_ 81 65 by first | assumption | (exact zo_848 gb.2.2.2.2.1 hc_134)), (show ze N81_ 81 65 ≤ ze Mz 81 26 by first | assumption | (exact zo_849 hc_134)), (show ((0 = 1 ∧ ze Mz 81 64 < ze N81_ 81 64) ∨ (0 = 0)) from Or.inr ((show 0 = 0 by first | assumption | omega)))⟩ d_M_readsNumber_138
                · skip
                  exact absurd hc_67 (by decide)
        exact lp_47 _ 0 (by decide) (by decide) 0 (by decide) (by decide) Mz zFr.rf (show ze Mz 81 64 ≤ ze Mz 81 64 by first | assumption | (exact zo_628)) (show ze Mz 81 64 ≤ a0_ by first | assumption | omega) (show 0 ≤ (0 : Int) by first | assumption | (decide)) (show (0 : Int) ≤ 7 by first | assumption | (decide)) (show (0 : Int) ≤ ze Mz 81 64 - ze Mz 81 64 by first | assumption | (exact zo_864)) (Nat.lt_succ_self _)
      · skip
        exact absurd hc_29 (by decide)
    · skip
      refine zw_iconst (pc := 22) (v := Int32.ofInt 1) (by decide) (zdal_p dlD_M_readsNumber_131 (i := 11) rfl) ?_
      refine zw_goto (pc := 23) (tgt := 27) (by decide) (zdal_p dlD_M_readsNumber_131 (i := 12) rfl) ?_
      refine zw_istore_n (pc := 27) (i := 2) (L2 := [some (.ref 81), some (.int (Int32.ofInt a0_)), some (.int (Int32.ofInt 1)), none, none, none]) rfl (by decide) rfl (zdal_p dlD_M_readsNumber_131 (i := 14) rfl) ?_
      refine zw_iload_n (pc := 28) (n := 2) (x := Int32.ofInt 1) rfl (zdal_p dlD_M_readsNumber_131 (i := 15) rfl) ?_
      refine zr_if_eq (pc := 29) (tgt := 42) ⟨(by decide), (by decide)⟩ (by decide) (zdal_p dlD_M_readsNumber_131 (i := 16) rfl) (fun hc_29 => ?_) (fun hc_29 => ?_)
      · skip
        exact absurd hc_29 (by decide)
      · skip
        refine zw_aload_n (pc := 32) (n := 0) (x := 81) rfl (zdal_p dlD_M_readsNumber_131 (i := 17) rfl) ?_
        refine zw_dup (pc := 33) rfl (zdal_p dlD_M_readsNumber_131 (i := 18) rfl) ?_
        refine zr_getI (hf.w hW) (pc := 34) f_M_504 rfl (zdal_p dlD_M_readsNumber_131 (i := 19) rfl) ?_
        refine zw_iconst (pc := 37) (v := Int32.ofInt 1) (by decide) (zdal_p dlD_M_readsNumber_131 (i := 20) rfl) ?_
        refine zr_iadd (pc := 38) (zdal_p dlD_M_readsNumber_131 (i := 21) rfl) ?_
        refine zr_putI (hf.w hW) (pc := 39) f_M_504 rfl rfl ⟨by (exact zo_74 p1_), by (exact zo_870 hc_5 p3_ r_64.2)⟩ rfl rfl (zdal_p dlD_M_readsNumber_131 (i := 22) rfl) (fun N156_ hsN156_ hvN156_ => ?_)
        have hf_N156_ : zFr [64, 65] [99] Mz N156_ := hf.tr hsN156_ (by decide) (by decide)
        have e26_N156_ : ze N156_ 81 26 = ze Mz 81 26 := hsN156_.e (by decide)
        have r64_N156_ := ze_r N156_ 81 64
        have e65_N156_ : ze N156_ 81 65 = ze Mz 81 65 := hsN156_.e (by decide)
        have c157_ : zGB T N156_ := zGB.fr hsN156_ p0_ (by decide) (by decide)
        have c158_ : zTab T N156_ := zTab.fr hsN156_ dv0 (by decide) (by decide)
        have c159_ : zB 85 144 0 5 N156_ := zB.fr hsN156_ dv1 (by decide) (by decide)
        have c160_ : zJX T N156_ := zJX.fr hsN156_ dv2 (by decide) (by decide)
        have c161_ : zFirs T N156_ := zFirs.fr hsN156_ dv3 (by decide) (by decide)
        have c162_ : zSSm T N156_ := zSSm.fr hsN156_ dv4 (by decide) (by decide)
        have c163_ : zGD N156_ := zGD.fr hsN156_ dv5 (by decide) (by decide)
        refine zw_lconst (pc := 42) (v := Int64.ofInt 0) (by decide) (zdal_p dlD_M_readsNumber_131 (i := 23) rfl) ?_
        refine zw_lstore_n (pc := 43) (i := 3) (L2 := [some (.ref 81), some (.int (Int32.ofInt a0_)), some (.int (Int32.ofInt 1)), some (.long (Int64.ofInt 0)), none, none]) rfl (by decide) rfl (zdal_p dlD_M_readsNumber_132 (i := 0) rfl) ?_
        refine zw_iconst (pc := 44) (v := Int32.ofInt 0) (by decide) (zdal_p dlD_M_readsNumber_132 (i := 1) rfl) ?_
        refine zw_istore (pc := 45) (i := 5) (L2 := [some (.ref 81), some (.int (Int32.ofInt a0_)), some (.int (Int32.ofInt 1)), some (.long (Int64.ofInt 0)), none, some (.int (Int32.ofInt 0))]) (by decide) rfl (zdal_p dlD_M_readsNumber_132 (i := 2) rfl) ?_
        have lp_47 : ∀ (n : Nat) (u164_ : Int) (hu164_a : -9223372036854775808 ≤ u164_) (hu164_b : u164_ < 9223372036854775808) (u165_ : Int) (hu165_a : -2147483648 ≤ u165_) (hu165_b : u165_ < 2147483648) (N166_ : zMem) (hs167_ : zFr [64] [] N156_ N166_) (i168_ : ze Mz 81 64 ≤ ze N166_ 81 64) (i169_ : ze N166_ 81 64 ≤ a0_) (i170_ : 0 ≤ u165_) (i171_ : u165_ ≤ 7) (i172_ : u165_ ≤ ze N166_ 81 64 - ze Mz 81 64), (a0_ - ze N166_ 81 64).toNat < n → zW l m_M_readsNumber (zn Mz + 0, zw Mz + 0) N166_ 47 [some (.ref 81), some (.int (Int32.ofInt a0_)), some (.int (Int32.ofInt 1)), some (.long (Int64.ofInt u164_)), none, some (.int (Int32.ofInt u165_))] [] (zpI [64, 65] [99] Mz (fun v N => 0 ≤ ze N 81 64 ∧ ze N 81 64 ≤ a0_ ∧ 0 ≤ ze N 81 65 ∧ ze N 81 65 ≤ ze Mz 81 26 ∧ (((v = 1 ∧ ze Mz 81 64 < ze N 81 64) ∨ (v = 0))))) := by
          intro n
          induction n with
          | zero =>
            intro u164_ hu164_a hu164_b u165_ hu165_a hu165_b N166_ hs167_ i168_ i169_ i170_ i171_ i172_ h0
            exact absurd h0 (Nat.not_lt_zero _)
          | succ n ih_47 =>
            intro u164_ hu164_a hu164_b u165_ hu165_a hu165_b N166_ hs167_ i168_ i169_ i170_ i171_ i172_ hlt_47
            have hf_N166_ : zFr [64, 65] [99] Mz N166_ := hf_N156_.tr hs167_ (by decide) (by decide)
            have e26_N166_ : ze N166_ 81 26 = ze N156_ 81 26 := hs167_.e (by decide)
            have r64_N166_ := ze_r N166_ 81 64
            have e65_N166_ : ze N166_ 81 65 = ze N156_ 81 65 := hs167_.e (by decide)
            have c173_ : zGB T N166_ := zGB.fr hs167_ c157_ (by decide) (by decide)
            have c174_ : zTab T N166_ := zTab.fr hs167_ c158_ (by decide) (by decide)
            have c175_ : zB 85 144 0 5 N166_ := zB.fr hs167_ c159_ (by decide) (by decide)
            have c176_ : zJX T N166_ := zJX.fr hs167_ c160_ (by decide) (by decide)
            have c177_ : zFirs T N166_ := zFirs.fr hs167_ c161_ (by decide) (by decide)
            have c178_ : zSSm T N166_ := zSSm.fr hs167_ c162_ (by decide) (by decide)
            have c179_ : zGD N166_ := zGD.fr hs167_ c163_ (by decide) (by decide)
            refine zw_aload_n (pc := 47) (n := 0) (x := 81) rfl (zdal_p dlD_M_readsNumber_132 (i := 3) rfl) ?_
            refine zr_getI (hf_N166_.w hW) (pc := 48) f_M_504 rfl (zdal_p dlD_M_readsNumber_132 (i := 4) rfl) ?_
            refine zw_iload_n (pc := 51) (n := 1) (x := Int32.ofInt a0_) rfl (zdal_p dlD_M_readsNumber_132 (i := 5) rfl) ?_
            refine zr_icmp_ge (pc := 52) (tgt := 114) ⟨(ze_r N166_ 81 64).1, (ze_r N166_ 81 64).2⟩ ⟨ha0_a, ha0_b⟩ (by decide) (zdal_p dlD_M_readsNumber_132 (i := 6) rfl) (fun hc_52 => ?_) (fun hc_52 => ?_)
            · skip
              refine zw_iload (pc := 114) (i := 5) (x := Int32.ofInt u165_) rfl d_M_readsNumber_114 ?_
              refine zr_if_eq (pc := 116) (tgt := 137) ⟨hu165_a, hu165_b⟩ (by decide) d_M_readsNumber_116 (fun hc_116 => ?_) (fun hc_116 => ?_)
              · skip
                refine zw_iconst (pc := 137) (v := Int32.ofInt 0) (by decide) d_M_readsNumber_137 ?_
                exact zr_iret (pc := 138) (ty := .boolean) rfl (z_narB (by (decide))) ⟨by (decide), by (decide)⟩ hf_N166_ ⟨(show 0 ≤ ze N166_ 81 64 by first | assumption | (exact zo_839 i168_ p1_ r64_N166_.1)), (show ze N166_ 81 64 ≤ a0_ by first | assumption | omega), (show 0 ≤ ze N166_ 81 65 by first | assumption | (exact zo_871 e65_N156_ e65_N166_ p4_)), (show ze N166_ 81 65 ≤ ze Mz 81 26 by first | assumption | (exact zo_844 e65_N156_ e65_N166_ p5_)), (show ((0 = 1 ∧ ze Mz 81 64 < ze N166_ 81 64) ∨ (0 = 0)) from Or.inr ((show 0 = 0 by first | assumption | (decide))))⟩ d_M_readsNumber_138
              · skip
                refine zw_iload (pc := 119) (i := 5) (x := Int32.ofInt u165_) rfl d_M_readsNumber_119 ?_
                refine zw_bipush (pc := 121) (v := Int32.ofInt 6) (by decide) d_M_readsNumber_121 ?_
                refine zr_icmp_gt (pc := 123) (tgt := 137) ⟨hu165_a, hu165_b⟩ ⟨(by decide), (by decide)⟩ (by decide) d_M_readsNumber_123 (fun hc_123 => ?_) (fun hc_123 => ?_)
                · skip
                  refine zw_iconst (pc := 137) (v := Int32.ofInt 0) (by decide) d_M_readsNumber_137 ?_
                  exact zr_iret (pc := 138) (ty := .boolean) rfl (z_narB (by (decide))) ⟨by (decide), by (decide)⟩ hf_N166_ ⟨(show 0 ≤ ze N166_ 81 64 by first | assumption | (exact zo_839 i168_ p1_ r64_N166_.1)), (show ze N166_ 81 64 ≤ a0_ by first | assumption | omega), (show 0 ≤ ze N166_ 81 65 by first | assumption | (exact zo_871 e65_N156_ e65_N166_ p4_)), (show ze N166_ 81 65 ≤ ze Mz 81 26 by first | assumption | (exact zo_844 e65_N156_ e65_N166_ p5_)), (show ((0 = 1 ∧ ze Mz 81 64 < ze N166_ 81 64) ∨ (0 = 0)) from Or.inr ((show 0 = 0 by first | assumption | (decide))))⟩ d_M_readsNumber_138
                · skip
                  refine zw_aload_n (pc := 126) (n := 0) (x := 81) rfl d_M_readsNumber_126 ?_
                  refine zr_getI (hf_N166_.w hW) (pc := 127) f_M_511 rfl d_M_readsNumber_127 ?_
                  refine zw_aload_n (pc := 130) (n := 0) (x := 81) rfl d_M_readsNumber_130 ?_
                  refine zr_getI0 hf_N166_ hW (pc := 131) (by decide) f_M_235 rfl d_M_readsNumber_131 ?_
                  refine zr_icmp_ne (pc := 134) (tgt := 139) ⟨(ze_r N166_ 81 65).1, (ze_r N166_ 81 65).2⟩ ⟨(ze_r Mz 81 26).1, (ze_r Mz 81 26).2⟩ (by decide) d_M_readsNumber_134 (fun hc_134 => ?_) (fun hc_134 => ?_)
                  · skip
                    refine zw_aload_n (pc := 139) (n := 0) (x := 81) rfl d_M_readsNumber_139 ?_
                    refine zr_getF (r := 99) (hf_N166_.w hW) (pc := 140) f_M_69 rfl (zh_99 (hf_N166_.w hW)).1 d_M_readsNumber_140 ?_
                    refine zw_aload_n (pc := 143) (n := 0) (x := 81) rfl d_M_readsNumber_143 ?_
                    refine zr_getI (hf_N166_.w hW) (pc := 144) f_M_511 rfl d_M_readsNumber_144 ?_
                    refine zw_iload_n (pc := 147) (n := 2) (x := Int32.ofInt 1) rfl d_M_readsNumber_147 ?_
                    refine zr_if_eq (pc := 148) (tgt := 156) ⟨(by decide), (by decide)⟩ (by decide) d_M_readsNumber_148 (fun hc_148 => ?_) (fun hc_148 => ?_)
                    · skip
                      exact absurd hc_148 (by decide)
                    · skip
                      refine zw_lload_n (pc := 151) (n := 3) (x := Int64.ofInt u164_) rfl (zdal_p dlD_M_readsNumber_134 (i := 8) rfl) ?_
                      refine zr_lneg (pc := 152) (zdal_p dlD_M_readsNumber_134 (i := 9) rfl) ?_
                      refine zw_goto (pc := 153) (tgt := 157) (by decide) (zdal_p dlD_M_readsNumber_134 (i := 10) rfl) ?_
                      refine zr_last (pc := 157) (zh_99 (hf_N166_.w hW)).2 (by decide) (by decide) (by (exact zo_871 e65_N156_ e65_N166_ p4_)) (by (exact zo_872 e65_N156_ e65_N166_ gb.2.2.2.2.2 p5_ hc_134)) d_M_readsNumber_157 (fun N180_ hN180_ hsN180_ => ?_)
                      have hf_N180_ : zFr [64, 65] [99] Mz N180_ := hf_N166_.tr hsN180_ (by decide) (by decide)
                      have e26_N180_ : ze N180_ 81 26 = ze N166_ 81 26 := hsN180_.e (by decide)
                      have e64_N180_ : ze N180_ 81 64 = ze N166_ 81 64 := hsN180_.e (by decide)
                      have e65_N180_ : ze N180_ 81 65 = ze N166_ 81 65 := hsN180_.e (by decide)
                      have c181_ : zGB T N180_ := zGB.fr hsN180_ c173_ (by decide) (by decide)
                      have c182_ : zTab T N180_ := zTab.fr hsN180_ c174_ (by decide) (by decide)
                      have c183_ : zB 85 144 0 5 N180_ := zB.fr hsN180_ c175_ (by decide) (by decide)
                      have c184_ : zJX T N180_ := zJX.fr hsN180_ c176_ (by decide) (by decide)
                      have c185_ : zFirs T N180_ := zFirs.fr hsN180_ c177_ (by decide) (by decide)
                      have c186_ : zSSm T N180_ := zSSm.fr hsN180_ c178_ (by decide) (by decide)
                      have c187_ : zGD N180_ := zGD.fr hsN180_ c179_ (by decide) (by decide)
                      refine zw_aload_n (pc := 158) (n := 0) (x := 81) rfl d_M_readsNumber_158 ?_
                      refine zw_dup (pc := 159) rfl d_M_readsNumber_159 ?_
                      refine zr_getI (hf_N180_.w hW) (pc := 160) f_M_511 rfl d_M_readsNumber_160 ?_
                      refine zw_iconst (pc := 163) (v := Int32.ofInt 1) (by decide) d_M_readsNumber_163 ?_
                      refine zr_iadd (pc := 164) d_M_readsNumber_164 ?_
                      refine zr_putI (hf_N180_.w hW) (pc := 165) f_M_511 rfl rfl ⟨by (exact zo_873 e65_N156_ e65_N166_ e65_N180_ p4_), by (exact zo_874 e65_N156_ e65_N166_ e65_N180_ gb.2.2.2.2.2 p5_ r_65.2)⟩ rfl rfl d_M_readsNumber_165 (fun N188_ hsN188_ hvN188_ => ?_)
                      have hf_N188_ : zFr [64, 65] [99] Mz N188_ := hf_N180_.tr hsN188_ (by decide) (by decide)
                      have e26_N188_ : ze N188_ 81 26 = ze N180_ 81 26 := hsN188_.e (by decide)
                      have e64_N188_ : ze N188_ 81 64 = ze N180_ 81 64 := hsN188_.e (by decide)
                      have r65_N188_ := ze_r N188_ 81 65
                      have c189_ : zGB T N188_ := zGB.fr hsN188_ c181_ (by decide) (by decide)
                      have c190_ : zTab T N188_ := zTab.fr hsN188_ c182_ (by decide) (by decide)
                      have c191_ : zB 85 144 0 5 N188_ := zB.fr hsN188_ c183_ (by decide) (by decide)
                      have c192_ : zJX T N188_ := zJX.fr hsN188_ c184_ (by decide) (by decide)
                      have c193_ : zFirs T N188_ := zFirs.fr hsN188_ c185_ (by decide) (by decide)
                      have c194_ : zSSm T N188_ := zSSm.fr hsN188_ c186_ (by decide) (by decide)
                      have c195_ : zGD N188_ := zGD.fr hsN188_ c187_ (by decide) (by decide)
                      refine zw_iconst (pc := 168) (v := Int32.ofInt 1) (by decide) d_M_readsNumber_168 ?_
                      exact zr_iret (pc := 169) (ty := .boolean) rfl (z_narB (by (decide))) ⟨by (decide), by (decide)⟩ hf_N188_ ⟨(show 0 ≤ ze N188_ 81 64 by first | assumption | (exact zo_843 e64_N180_ e64_N188_ i168_ p1_ r64_N166_.1)), (show ze N188_ 81 64 ≤ a0_ by first | assumption | (exact zo_844 e64_N180_ e64_N188_ i169_)), (show 0 ≤ ze N188_ 81 65 by first | assumption | (exact zo_875 e65_N156_ e65_N166_ e65_N180_ hvN188_ p4_ r65_N188_.1)), (show ze N188_ 81 65 ≤ ze Mz 81 26 by first | assumption | (exact zo_876 e65_N156_ e65_N166_ e65_N180_ gb.2.2.2.2.1 hvN188_ p5_ r65_N188_.2 hc_134)), (show ((1 = 1 ∧ ze Mz 81 64 < ze N188_ 81 64) ∨ (1 = 0)) from Or.inl (⟨(show 1 = 1 by first | assumption | (decide)), (show ze Mz 81 64 < ze N188_ 81 64 by first | assumption | (exact zo_877 e64_N180_ e64_N188_ hc_5 hc_52 i168_))⟩))⟩ d_M_readsNumber_169
                  · skip
                    refine zw_iconst (pc := 137) (v := Int32.ofInt 0) (by decide) d_M_readsNumber_137 ?_
                    exact zr_iret (pc := 138) (ty := .boolean) rfl (z_narB (by (decide))) ⟨by (decide), by (decide)⟩ hf_N166_ ⟨(show 0 ≤ ze N166_ 81 64 by first | assumption | (exact zo_839 i168_ p1_ r64_N166_.1)), (show ze N166_ 81 64 ≤ a0_ by first | assumption | omega), (show 0 ≤ ze N166_ 81 65 by first | assumption | (exact zo_848 gb.2.2.2.2.1 hc_134)), (show ze N166_ 81 65 ≤ ze Mz 81 26 by first | assumption | (exact zo_849 hc_134)), (show ((0 = 1 ∧ ze Mz 81 64 < ze N166_ 81 64) ∨ (0 = 0)) from Or.inr ((show 0 = 0 by first | assumption | (decide))))⟩ d_M_readsNumber_138
            · skip
              refine zw_aload_n (pc := 55) (n := 0) (x := 81) rfl (zdal_p dlD_M_readsNumber_132 (i := 7) rfl) ?_
              refine zr_getF (r := 82) (hf_N166_.w hW) (pc := 56) f_M_7 rfl (zh_82 (hf_N166_.w hW)).1 (zdal_p dlD_M_readsNumber_132 (i := 8) rfl) ?_
              refine zw_aload_n (pc := 59) (n := 0) (x := 81) rfl (zdal_p dlD_M_readsNumber_132 (i := 9) rfl) ?_
              refine zr_getI (hf_N166_.w hW) (pc := 60) f_M_504 rfl (zdal_p dlD_M_readsNumber_132 (i := 10) rfl) ?_
              refine zr_ialdn (pc := 63) (zh_82 (hf_N166_.w hW)).2 (by decide) (by (exact zo_839 i168_ p1_ r64_N166_.1)) (by (exact zo_850 hc_52 p3_)) (zdal_p dlD_M_readsNumber_132 (i := 11) rfl) (fun v196_ hv196_ hv196_a hv196_b => ?_)
              rw [hf_N166_.ie (by decide) (by decide)] at hv196_
              refine zr_callS hf_N166_.x (pc := 64) [.int (Int32.ofInt v196_)] [] l_M_162 (c_M_isDigit l N166_ (hf_N166_.w hW) v196_ hv196_a hv196_b) rfl rfl (by decide) (Nat.le_of_ble_eq_true rfl) (zdal_p dlD_M_readsNumber_132 (i := 12) rfl) ?_
              rintro _ N197_ ⟨v198_, rfl, ⟨hv198_a, hv198_b⟩, hsN197_, hp0_N197_⟩
              obtain rfl := hsN197_.eq.symm
              replace hp0_N197_ : ((v198_ = 1 ∧ 48 ≤ v196_ ∧ v196_ ≤ 57) ∨ (v198_ = 0 ∧ (v196_ < 48 ∨ 57 < v196_))) := hp0_N197_
              rcases hp0_N197_ with ⟨rfl, ha64_0_hp0_N197_, ha64_1_hp0_N197_⟩ | ⟨rfl, ha64_0_hp0_N197_⟩
              · skip
                show zW l m_M_readsNumber (zn Mz + 0, zw Mz + 0) N166_ 67 [some (.ref 81), some (.int (Int32.ofInt a0_)), some (.int (Int32.ofInt 1)), some (.long (Int64.ofInt u164_)), none, some (.int (Int32.ofInt u165_))] [.int (Int32.ofInt 1)] _
                refine zr_if_eq (pc := 67) (tgt := 114) ⟨(by decide), (by decide)⟩ (by decide) d_M_readsNumber_67 (fun hc_67 => ?_) (fun hc_67 => ?_)
                · skip
                  exact absurd hc_67 (by decide)
                · skip
                  refine zw_iload (pc := 70) (i := 5) (x := Int32.ofInt u165_) rfl (zdal_p dlD_M_readsNumber_132 (i := 14) rfl) ?_
                  refine zw_bipush (pc := 72) (v := Int32.ofInt 6) (by decide) (zdal_p dlD_M_readsNumber_132 (i := 15) rfl) ?_
                  refine zr_icmp_gt (pc := 74) (tgt := 114) ⟨hu165_a, hu165_b⟩ ⟨(by decide), (by decide)⟩ (by decide) (zdal_p dlD_M_readsNumber_132 (i := 16) rfl) (fun hc_74 => ?_) (fun hc_74 => ?_)
                  · skip
                    refine zw_iload (pc := 114) (i := 5) (x := Int32.ofInt u165_) rfl d_M_readsNumber_114 ?_
                    refine zr_if_eq (pc := 116) (tgt := 137) ⟨hu165_a, hu165_b⟩ (by decide) d_M_readsNumber_116 (fun hc_116 => ?_) (fun hc_116 => ?_)
                    · skip
                      refine zw_iconst (pc := 137) (v := Int32.ofInt 0) (by decide) d_M_readsNumber_137 ?_
                      exact zr_iret (pc := 138) (ty := .boolean) rfl (z_narB (by (decide))) ⟨by (decide), by (decide)⟩ hf_N166_ ⟨(show 0 ≤ ze N166_ 81 64 by first | assumption | (exact zo_839 i168_ p1_ r64_N166_.1)), (show ze N166_ 81 64 ≤ a0_ by first | assumption | omega), (show 0 ≤ ze N166_ 81 65 by first | assumption | (exact zo_871 e65_N156_ e65_N166_ p4_)), (show ze N166_ 81 65 ≤ ze Mz 81 26 by first | assumption | (exact zo_844 e65_N156_ e65_N166_ p5_)), (show ((0 = 1 ∧ ze Mz 81 64 < ze N166_ 81 64) ∨ (0 = 0)) from Or.inr ((show 0 = 0 by first | assumption | (decide))))⟩ d_M_readsNumber_138
                    · skip
                      refine zw_iload (pc := 119) (i := 5) (x := Int32.ofInt u165_) rfl d_M_readsNumber_119 ?_
                      refine zw_bipush (pc := 121) (v := Int32.ofInt 6) (by decide) d_M_readsNumber_121 ?_
                      refine zr_icmp_gt (pc := 123) (tgt := 137) ⟨hu165_a, hu165_b⟩ ⟨(by decide), (by decide)⟩ (by decide) d_M_readsNumber_123 (fun hc_123 => ?_) (fun hc_123 => ?_)
                      · skip
                        refine zw_iconst (pc := 137) (v := Int32.ofInt 0) (by decide) d_M_readsNumber_137 ?_
                        exact zr_iret (pc := 138) (ty := .boolean) rfl (z_narB (by (decide))) ⟨by (decide), by (decide)⟩ hf_N166_ ⟨(show 0 ≤ ze N166_ 81 64 by first | assumption | (exact zo_839 i168_ p1_ r64_N166_.1)), (show ze N166_ 81 64 ≤ a0_ by first | assumption | omega), (show 0 ≤ ze N166_ 81 65 by first | assumption | (exact zo_871 e65_N156_ e65_N166_ p4_)), (show ze N166_ 81 65 ≤ ze Mz 81 26 by first | assumption | (exact zo_844 e65_N156_ e65_N166_ p5_)), (show ((0 = 1 ∧ ze Mz 81 64 < ze N166_ 81 64) ∨ (0 = 0)) from Or.inr ((show 0 = 0 by first | assumption | (decide))))⟩ d_M_readsNumber_138
                      · skip
                        refine zw_aload_n (pc := 126) (n := 0) (x := 81) rfl d_M_readsNumber_126 ?_
                        refine zr_getI (hf_N166_.w hW) (pc := 127) f_M_511 rfl d_M_readsNumber_127 ?_
                        refine zw_aload_n (pc := 130) (n := 0) (x := 81) rfl d_M_readsNumber_130 ?_
                        refine zr_getI0 hf_N166_ hW (pc := 131) (by decide) f_M_235 rfl d_M_readsNumber_131 ?_
                        refine zr_icmp_ne (pc := 134) (tgt := 139) ⟨(ze_r N166_ 81 65).1, (ze_r N166_ 81 65).2⟩ ⟨(ze_r Mz 81 26).1, (ze_r Mz 81 26).2⟩ (by decide) d_M_readsNumber_134 (fun hc_134 => ?_) (fun hc_134 => ?_)
                        · skip
                          refine zw_aload_n (pc := 139) (n := 0) (x := 81) rfl d_M_readsNumber_139 ?_
                          refine zr_getF (r := 99) (hf_N166_.w hW) (pc := 140) f_M_69 rfl (zh_99 (hf_N166_.w hW)).1 d_M_readsNumber_140 ?_
                          refine zw_aload_n (pc := 143) (n := 0) (x := 81) rfl d_M_readsNumber_143 ?_
                          refine zr_getI (hf_N166_.w hW) (pc := 144) f_M_511 rfl d_M_readsNumber_144 ?_
                          refine zw_iload_n (pc := 147) (n := 2) (x := Int32.ofInt 1) rfl d_M_readsNumber_147 ?_
                          refine zr_if_eq (pc := 148) (tgt := 156) ⟨(by decide), (by decide)⟩ (by decide) d_M_readsNumber_148 (fun hc_148 => ?_) (fun hc_148 => ?_)
                          · skip
                            exact absurd hc_148 (by decide)
                          · skip
                            refine zw_lload_n (pc := 151) (n := 3) (x := Int64.ofInt u164_) rfl (zdal_p dlD_M_readsNumber_134 (i := 8) rfl) ?_
                            refine zr_lneg (pc := 152) (zdal_p dlD_M_readsNumber_134 (i := 9) rfl) ?_
                            refine zw_goto (pc := 153) (tgt := 157) (by decide) (zdal_p dlD_M_readsNumber_134 (i := 10) rfl) ?_
                            refine zr_last (pc := 157) (zh_99 (hf_N166_.w hW)).2 (by decide) (by decide) (by (exact zo_871 e65_N156_ e65_N166_ p4_)) (by (exact zo_872 e65_N156_ e65_N166_ gb.2.2.2.2.2 p5_ hc_134)) d_M_readsNumber_157 (fun N199_ hN199_ hsN199_ => ?_)
                            have hf_N199_ : zFr [64, 65] [99] Mz N199_ := hf_N166_.tr hsN199_ (by decide) (by decide)
                            have e26_N199_ : ze N199_ 81 26 = ze N166_ 81 26 := hsN199_.e (by decide)
                            have e64_N199_ : ze N199_ 81 64 = ze N166_ 81 64 := hsN199_.e (by decide)
                            have e65_N199_ : ze N199_ 81 65 = ze N166_ 81 65 := hsN199_.e (by decide)
                            have c200_ : zGB T N199_ := zGB.fr hsN199_ c173_ (by decide) (by decide)
                            have c201_ : zTab T N199_ := zTab.fr hsN199_ c174_ (by decide) (by decide)
                            have c202_ : zB 85 144 0 5 N199_ := zB.fr hsN199_ c175_ (by decide) (by decide)
                            have c203_ : zJX T N199_ := zJX.fr hsN199_ c176_ (by decide) (by decide)
                            have c204_ : zFirs T N199_ := zFirs.fr hsN199_ c177_ (by decide) (by decide)
                            have c205_ : zSSm T N199_ := zSSm.fr hsN199_ c178_ (by decide) (by decide)
                            have c206_ : zGD N199_ := zGD.fr hsN199_ c179_ (by decide) (by decide)
                            refine zw_aload_n (pc := 158) (n := 0) (x := 81) rfl d_M_readsNumber_158 ?_
                            refine zw_dup (pc := 159) rfl d_M_readsNumber_159 ?_
                            refine zr_getI (hf_N199_.w hW) (pc := 160) f_M_511 rfl d_M_readsNumber_160 ?_
                            refine zw_iconst (pc := 163) (v := Int32.ofInt 1) (by decide) d_M_readsNumber_163 ?_
                            refine zr_iadd (pc := 164) d_M_readsNumber_164 ?_
                            refine zr_putI (hf_N199_.w hW) (pc := 165) f_M_511 rfl rfl ⟨by (exact zo_873 e65_N156_ e65_N166_ e65_N199_ p4_), by (exact zo_874 e65_N156_ e65_N166_ e65_N199_ gb.2.2.2.2.2 p5_ r_65.2)⟩ rfl rfl d_M_readsNumber_165 (fun N207_ hsN207_ hvN207_ => ?_)
                            have hf_N207_ : zFr [64, 65] [99] Mz N207_ := hf_N199_.tr hsN207_ (by decide) (by decide)
                            have e26_N207_ : ze N207_ 81 26 = ze N199_ 81 26 := hsN207_.e (by decide)
                            have e64_N207_ : ze N207_ 81 64 = ze N199_ 81 64 := hsN207_.e (by decide)
                            have r65_N207_ := ze_r N207_ 81 65
                            have c208_ : zGB T N207_ := zGB.fr hsN207_ c200_ (by decide) (by decide)
                            have c209_ : zTab T N207_ := zTab.fr hsN207_ c201_ (by decide) (by decide)
                            have c210_ : zB 85 144 0 5 N207_ := zB.fr hsN207_ c202_ (by decide) (by decide)
                            have c211_ : zJX T N207_ := zJX.fr hsN207_ c203_ (by decide) (by decide)
                            have c212_ : zFirs T N207_ := zFirs.fr hsN207_ c204_ (by decide) (by decide)
                            have c213_ : zSSm T N207_ := zSSm.fr hsN207_ c205_ (by decide) (by decide)
                            have c214_ : zGD N207_ := zGD.fr hsN207_ c206_ (by decide) (by decide)
                            refine zw_iconst (pc := 168) (v := Int32.ofInt 1) (by decide) d_M_readsNumber_168 ?_
                            exact zr_iret (pc := 169) (ty := .boolean) rfl (z_narB (by (decide))) ⟨by (exact hv198_a), by (exact hv198_b)⟩ hf_N207_ ⟨(show 0 ≤ ze N207_ 81 64 by first | assumption | (exact zo_843 e64_N199_ e64_N207_ i168_ p1_ r64_N166_.1)), (show ze N207_ 81 64 ≤ a0_ by first | assumption | (exact zo_851 e64_N199_ e64_N207_ hc_52)), (show 0 ≤ ze N207_ 81 65 by first | assumption | (exact zo_875 e65_N156_ e65_N166_ e65_N199_ hvN207_ p4_ r65_N207_.1)), (show ze N207_ 81 65 ≤ ze Mz 81 26 by first | assumption | (exact zo_876 e65_N156_ e65_N166_ e65_N199_ gb.2.2.2.2.1 hvN207_ p5_ r65_N207_.2 hc_134)), (show ((1 = 1 ∧ ze Mz 81 64 < ze N207_ 81 64) ∨ (1 = 0)) from Or.inl (⟨(show 1 = 1 by first | assumption | (decide)), (show ze Mz 81 64 < ze N207_ 81 64 by first | assumption | (exact zo_852 e64_N199_ e64_N207_ hc_74 i168_ i172_))⟩))⟩ d_M_readsNumber_169
                        · skip
                          refine zw_iconst (pc := 137) (v := Int32.ofInt 0) (by decide) d_M_readsNumber_137 ?_
                          exact zr_iret (pc := 138) (ty := .boolean) rfl (z_narB (by (decide))) ⟨by (decide), by (decide)⟩ hf_N166_ ⟨(show 0 ≤ ze N166_ 81 64 by first | assumption | (exact zo_839 i168_ p1_ r64_N166_.1)), (show ze N166_ 81 64 ≤ a0_ by first | assumption | omega), (show 0 ≤ ze N166_ 81 65 by first | assumption | (exact zo_848 gb.2.2.2.2.1 hc_134)), (show ze N166_ 81 65 ≤ ze Mz 81 26 by first | assumption | (exact zo_849 hc_134)), (show ((0 = 1 ∧ ze Mz 81 64 < ze N166_ 81 64) ∨ (0 = 0)) from Or.inr ((show 0 = 0 by first | assumption | (decide))))⟩ d_M_readsNumber_138
                  · skip
                    refine zr_ldc2 (pc := 77) (n := 10) (by decide) k_M_507 (zdal_p dlD_M_readsNumber_132 (i := 17) rfl) ?_
                    refine zw_lload_n (pc := 80) (n := 3) (x := Int64.ofInt u164_) rfl (zdal_p dlD_M_readsNumber_132 (i := 18) rfl) ?_
                    refine zr_lmul (pc := 81) (zdal_p dlD_M_readsNumber_132 (i := 19) rfl) ?_
                    refine zw_aload_n (pc := 82) (n := 0) (x := 81) rfl (zdal_p dlD_M_readsNumber_132 (i := 20) rfl) ?_
                    refine zr_getF (r := 82) (hf_N166_.w hW) (pc := 83) f_M_7 rfl (zh_82 (hf_N166_.w hW)).1 (zdal_p dlD_M_readsNumber_132 (i := 21) rfl) ?_
                    refine zw_aload_n (pc := 86) (n := 0) (x := 81) rfl (zdal_p dlD_M_readsNumber_132 (i := 22) rfl) ?_
                    refine zr_getI (hf_N166_.w hW) (pc := 87) f_M_504 rfl (zdal_p dlD_M_readsNumber_132 (i := 23) rfl) ?_
                    refine zr_ialdn (pc := 90) (zh_82 (hf_N166_.w hW)).2 (by decide) (by (exact zo_839 i168_ p1_ r64_N166_.1)) (by (exact zo_850 hc_52 p3_)) (zdal_p dlD_M_readsNumber_133 (i := 0) rfl) (fun v215_ hv215_ hv215_a hv215_b => ?_)
                    rw [hf_N166_.ie (by decide) (by decide)] at hv215_
                    refine zr_i2l (pc := 91) ⟨hv215_a, hv215_b⟩ (zdal_p dlD_M_readsNumber_133 (i := 1) rfl) ?_
                    refine zr_ladd (pc := 92) (zdal_p dlD_M_readsNumber_133 (i := 2) rfl) ?_
                    refine zr_ldc2 (pc := 93) (n := 48) (by decide) k_M_509 (zdal_p dlD_M_readsNumber_133 (i := 3) rfl) ?_
                    refine zr_lsub (pc := 96) (zdal_p dlD_M_readsNumber_133 (i := 4) rfl) ?_
                    refine zr_nmJ (fun v216_ hv216_ => ?_)
                    obtain ⟨hv216_a, hv216_b⟩ := hv216_
                    refine zw_lstore_n (pc := 97) (i := 3) (L2 := [some (.ref 81), some (.int (Int32.ofInt a0_)), some (.int (Int32.ofInt 1)), some (.long (Int64.ofInt v216_)), none, some (.int (Int32.ofInt u165_))]) rfl (by decide) rfl (zdal_p dlD_M_readsNumber_133 (i := 5) rfl) ?_
                    refine zr_iinc (pc := 98) (i := 5) (a := u165_) (n := 1) (L2 := [some (.ref 81), some (.int (Int32.ofInt a0_)), some (.int (Int32.ofInt 1)), some (.long (Int64.ofInt v216_)), none, some (.int (Int32.ofInt (u165_ + 1)))]) rfl (by decide) rfl (zdal_p dlD_M_readsNumber_133 (i := 6) rfl) ?_
                    refine zw_aload_n (pc := 101) (n := 0) (x := 81) rfl (zdal_p dlD_M_readsNumber_133 (i := 7) rfl) ?_
                    refine zw_dup (pc := 102) rfl (zdal_p dlD_M_readsNumber_133 (i := 8) rfl) ?_
                    refine zr_getI (hf_N166_.w hW) (pc := 103) f_M_504 rfl (zdal_p dlD_M_readsNumber_133 (i := 9) rfl) ?_
                    refine zw_iconst (pc := 106) (v := Int32.ofInt 1) (by decide) (zdal_p dlD_M_readsNumber_133 (i := 10) rfl) ?_
                    refine zr_iadd (pc := 107) (zdal_p dlD_M_readsNumber_133 (i := 11) rfl) ?_
                    refine zr_putI (hf_N166_.w hW) (pc := 108) f_M_504 rfl rfl ⟨by (exact zo_679 r64_N166_.1), by (exact zo_853 hc_52 p3_)⟩ rfl rfl (zdal_p dlD_M_readsNumber_133 (i := 12) rfl) (fun N217_ hsN217_ hvN217_ => ?_)
                    have hf_N217_ : zFr [64, 65] [99] Mz N217_ := hf_N166_.tr hsN217_ (by decide) (by decide)
                    have hb0_N217_ : zFr [64] [] N156_ N217_ := hs167_.tr hsN217_ (by decide) (by decide)
                    have e26_N217_ : ze N217_ 81 26 = ze N166_ 81 26 := hsN217_.e (by decide)
                    have r64_N217_ := ze_r N217_ 81 64
                    have e65_N217_ : ze N217_ 81 65 = ze N166_ 81 65 := hsN217_.e (by decide)
                    have c218_ : zGB T N217_ := zGB.fr hsN217_ c173_ (by decide) (by decide)
                    have c219_ : zTab T N217_ := zTab.fr hsN217_ c174_ (by decide) (by decide)
                    have c220_ : zB 85 144 0 5 N217_ := zB.fr hsN217_ c175_ (by decide) (by decide)
                    have c221_ : zJX T N217_ := zJX.fr hsN217_ c176_ (by decide) (by decide)
                    have c222_ : zFirs T N217_ := zFirs.fr hsN217_ c177_ (by decide) (by decide)
                    have c223_ : zSSm T N217_ := zSSm.fr hsN217_ c178_ (by decide) (by decide)
                    have c224_ : zGD N217_ := zGD.fr hsN217_ c179_ (by decide) (by decide)
                    refine zw_goto (pc := 111) (tgt := 47) (by decide) (zdal_p dlD_M_readsNumber_133 (i := 13) rfl) ?_
                    exact ih_47 v216_ hv216_a hv216_b (u165_ + 1) (by (exact zo_74 i170_)) (by (exact zo_854 hc_74)) N217_ hb0_N217_ (show ze Mz 81 64 ≤ ze N217_ 81 64 by first | assumption | (exact zo_855 hvN217_ i168_ r64_N217_.1 r_64.2)) (show ze N217_ 81 64 ≤ a0_ by first | assumption | (exact zo_856 hc_52 hvN217_)) (show 0 ≤ (u165_ + 1) by first | assumption | (exact zo_76 i170_)) (show (u165_ + 1) ≤ 7 by first | assumption | (exact zo_857 hc_74)) (show (u165_ + 1) ≤ ze N217_ 81 64 - ze Mz 81 64 by first | assumption | (exact zo_858 hvN217_ i172_)) (by (exact zo_859 hc_52 hlt_47 hvN217_ p3_ r64_N217_.1))
              · skip
                show zW l m_M_readsNumber (zn Mz + 0, zw Mz + 0) N166_ 67 [some (.ref 81), some (.int (Int32.ofInt a0_)), some (.int (Int32.ofInt 1)), some (.long (Int64.ofInt u164_)), none, some (.int (Int32.ofInt u165_))] [.int (Int32.ofInt 0)] _
                refine zr_if_eq (pc := 67) (tgt := 114) ⟨(by decide), (by decide)⟩ (by decide) d_M_readsNumber_67 (fun hc_67 => ?_) (fun hc_67 => ?_)
                · skip
                  refine zw_iload (pc := 114) (i := 5) (x := Int32.ofInt u165_) rfl d_M_readsNumber_114 ?_
                  refine zr_if_eq (pc := 116) (tgt := 137) ⟨hu165_a, hu165_b⟩ (by decide) d_M_readsNumber_116 (fun hc_116 => ?_) (fun hc_116 => ?_)
                  · skip
                    refine zw_iconst (pc := 137) (v := Int32.ofInt 0) (by decide) d_M_readsNumber_137 ?_
                    exact zr_iret (pc := 138) (ty := .boolean) rfl (z_narB (by (decide))) ⟨by (exact hv198_a), by (exact hv198_b)⟩ hf_N166_ ⟨(show 0 ≤ ze N166_ 81 64 by first | assumption | (exact zo_839 i168_ p1_ r64_N166_.1)), (show ze N166_ 81 64 ≤ a0_ by first | assumption | omega), (show 0 ≤ ze N166_ 81 65 by first | assumption | (exact zo_871 e65_N156_ e65_N166_ p4_)), (show ze N166_ 81 65 ≤ ze Mz 81 26 by first | assumption | (exact zo_844 e65_N156_ e65_N166_ p5_)), (show ((0 = 1 ∧ ze Mz 81 64 < ze N166_ 81 64) ∨ (0 = 0)) from Or.inr ((show 0 = 0 by first | assumption | omega)))⟩ d_M_readsNumber_138
                  · skip
                    refine zw_iload (pc := 119) (i := 5) (x := Int32.ofInt u165_) rfl d_M_readsNumber_119 ?_
                    refine zw_bipush (pc := 121) (v := Int32.ofInt 6) (by decide) d_M_readsNumber_121 ?_
                    refine zr_icmp_gt (pc := 123) (tgt := 137) ⟨hu165_a, hu165_b⟩ ⟨(by decide), (by decide)⟩ (by decide) d_M_readsNumber_123 (fun hc_123 => ?_) (fun hc_123 => ?_)
                    · skip
                      refine zw_iconst (pc := 137) (v := Int32.ofInt 0) (by decide) d_M_readsNumber_137 ?_
                      exact zr_iret (pc := 138) (ty := .boolean) rfl (z_narB (by (decide))) ⟨by (exact hv198_a), by (exact hv198_b)⟩ hf_N166_ ⟨(show 0 ≤ ze N166_ 81 64 by first | assumption | (exact zo_839 i168_ p1_ r64_N166_.1)), (show ze N166_ 81 64 ≤ a0_ by first | assumption | omega), (show 0 ≤ ze N166_ 81 65 by first | assumption | (exact zo_871 e65_N156_ e65_N166_ p4_)), (show ze N166_ 81 65 ≤ ze Mz 81 26 by first | assumption | (exact zo_844 e65_N156_ e65_N166_ p5_)), (show ((0 = 1 ∧ ze Mz 81 64 < ze N166_ 81 64) ∨ (0 = 0)) from Or.inr ((show 0 = 0 by first | assumption | omega)))⟩ d_M_readsNumber_138
                    · skip
                      refine zw_aload_n (pc := 126) (n := 0) (x := 81) rfl d_M_readsNumber_126 ?_
                      refine zr_getI (hf_N166_.w hW) (pc := 127) f_M_511 rfl d_M_readsNumber_127 ?_
                      refine zw_aload_n (pc := 130) (n := 0) (x := 81) rfl d_M_readsNumber_130 ?_
                      refine zr_getI0 hf_N166_ hW (pc := 131) (by decide) f_M_235 rfl d_M_readsNumber_131 ?_
                      refine zr_icmp_ne (pc := 134) (tgt := 139) ⟨(ze_r N166_ 81 65).1, (ze_r N166_ 81 65).2⟩ ⟨(ze_r Mz 81 26).1, (ze_r Mz 81 26).2⟩ (by decide) d_M_readsNumber_134 (fun hc_134 => ?_) (fun hc_134 => ?_)
                      · skip
                        refine zw_aload_n (pc := 139) (n := 0) (x := 81) rfl d_M_readsNumber_139 ?_
                        refine zr_getF (r := 99) (hf_N166_.w hW) (pc := 140) f_M_69 rfl (zh_99 (hf_N166_.w hW)).1 d_M_readsNumber_140 ?_
                        refine zw_aload_n (pc := 143) (n := 0) (x := 81) rfl d_M_readsNumber_143 ?_
                        refine zr_getI (hf_N166_.w hW) (pc := 144) f_M_511 rfl d_M_readsNumber_144 ?_
                        refine zw_iload_n (pc := 147) (n := 2) (x := Int32.ofInt 1) rfl d_M_readsNumber_147 ?_
                        refine zr_if_eq (pc := 148) (tgt := 156) ⟨(by decide), (by decide)⟩ (by decide) d_M_readsNumber_148 (fun hc_148 => ?_) (fun hc_148 => ?_)
                        · skip
                          exact absurd hc_148 (by decide)
                        · skip
                          refine zw_lload_n (pc := 151) (n := 3) (x := Int64.ofInt u164_) rfl (zdal_p dlD_M_readsNumber_134 (i := 8) rfl) ?_
                          refine zr_lneg (pc := 152) (zdal_p dlD_M_readsNumber_134 (i := 9) rfl) ?_
                          refine zw_goto (pc := 153) (tgt := 157) (by decide) (zdal_p dlD_M_readsNumber_134 (i := 10) rfl) ?_
                          refine zr_last (pc := 157) (zh_99 (hf_N166_.w hW)).2 (by decide) (by decide) (by (exact zo_871 e65_N156_ e65_N166_ p4_)) (by (exact zo_872 e65_N156_ e65_N166_ gb.2.2.2.2.2 p5_ hc_134)) d_M_readsNumber_157 (fun N225_ hN225_ hsN225_ => ?_)
                          have hf_N225_ : zFr [64, 65] [99] Mz N225_ := hf_N166_.tr hsN225_ (by decide) (by decide)
                          have e26_N225_ : ze N225_ 81 26 = ze N166_ 81 26 := hsN225_.e (by decide)
                          have e64_N225_ : ze N225_ 81 64 = ze N166_ 81 64 := hsN225_.e (by decide)
                          have e65_N225_ : ze N225_ 81 65 = ze N166_ 81 65 := hsN225_.e (by decide)
                          have c226_ : zGB T N225_ := zGB.fr hsN225_ c173_ (by decide) (by decide)
                          have c227_ : zTab T N225_ := zTab.fr hsN225_ c174_ (by decide) (by decide)
                          have c228_ : zB 85 144 0 5 N225_ := zB.fr hsN225_ c175_ (by decide) (by decide)
                          have c229_ : zJX T N225_ := zJX.fr hsN225_ c176_ (by decide) (by decide)
                          have c230_ : zFirs T N225_ := zFirs.fr hsN225_ c177_ (by decide) (by decide)
                          have c231_ : zSSm T N225_ := zSSm.fr hsN225_ c178_ (by decide) (by decide)
                          have c232_ : zGD N225_ := zGD.fr hsN225_ c179_ (by decide) (by decide)
                          refine zw_aload_n (pc := 158) (n := 0) (x := 81) rfl d_M_readsNumber_158 ?_
                          refine zw_dup (pc := 159) rfl d_M_readsNumber_159 ?_
                          refine zr_getI (hf_N225_.w hW) (pc := 160) f_M_511 rfl d_M_readsNumber_160 ?_
                          refine zw_iconst (pc := 163) (v := Int32.ofInt 1) (by decide) d_M_readsNumber_163 ?_
                          refine zr_iadd (pc := 164) d_M_readsNumber_164 ?_
                          refine zr_putI (hf_N225_.w hW) (pc := 165) f_M_511 rfl rfl ⟨by (exact zo_873 e65_N156_ e65_N166_ e65_N225_ p4_), by (exact zo_874 e65_N156_ e65_N166_ e65_N225_ gb.2.2.2.2.2 p5_ r_65.2)⟩ rfl rfl d_M_readsNumber_165 (fun N233_ hsN233_ hvN233_ => ?_)
                          have hf_N233_ : zFr [64, 65] [99] Mz N233_ := hf_N225_.tr hsN233_ (by decide) (by decide)
                          have e26_N233_ : ze N233_ 81 26 = ze N225_ 81 26 := hsN233_.e (by decide)
                          have e64_N233_ : ze N233_ 81 64 = ze N225_ 81 64 := hsN233_.e (by decide)
                          have r65_N233_ := ze_r N233_ 81 65
                          have c234_ : zGB T N233_ := zGB.fr hsN233_ c226_ (by decide) (by decide)
                          have c235_ : zTab T N233_ := zTab.fr hsN233_ c227_ (by decide) (by decide)
                          have c236_ : zB 85 144 0 5 N233_ := zB.fr hsN233_ c228_ (by decide) (by decide)
                          have c237_ : zJX T N233_ := zJX.fr hsN233_ c229_ (by decide) (by decide)
                          have c238_ : zFirs T N233_ := zFirs.fr hsN233_ c230_ (by decide) (by decide)
                          have c239_ : zSSm T N233_ := zSSm.fr hsN233_ c231_ (by decide) (by decide)
                          have c240_ : zGD N233_ := zGD.fr hsN233_ c232_ (by decide) (by decide)
                          refine zw_iconst (pc := 168) (v := Int32.ofInt 1) (by decide) d_M_readsNumber_168 ?_
                          exact zr_iret (pc := 169) (ty := .boolean) rfl (z_narB (by (decide))) ⟨by (decide), by (decide)⟩ hf_N233_ ⟨(show 0 ≤ ze N233_ 81 64 by first | assumption | (exact zo_843 e64_N225_ e64_N233_ i168_ p1_ r64_N166_.1)), (show ze N233_ 81 64 ≤ a0_ by first | assumption | (exact zo_851 e64_N225_ e64_N233_ hc_52)), (show 0 ≤ ze N233_ 81 65 by first | assumption | (exact zo_875 e65_N156_ e65_N166_ e65_N225_ hvN233_ p4_ r65_N233_.1)), (show ze N233_ 81 65 ≤ ze Mz 81 26 by first | assumption | (exact zo_876 e65_N156_ e65_N166_ e65_N225_ gb.2.2.2.2.1 hvN233_ p5_ r65_N233_.2 hc_134)), (show ((1 = 1 ∧ ze Mz 81 64 < ze N233_ 81 64) ∨ (1 = 0)) from Or.inl (⟨(show 1 = 1 by first | assumption | (decide)), (show ze Mz 81 64 < ze N233_ 81 64 by first | assumption | (exact zo_847 e64_N225_ e64_N233_ i168_ i170_ i172_ hc_116))⟩))⟩ d_M_readsNumber_169
                      · skip
                        refine zw_iconst (pc := 137) (v := Int32.ofInt 0) (by decide) d_M_readsNumber_137 ?_
                        exact zr_iret (pc := 138) (ty := .boolean) rfl (z_narB (by (decide))) ⟨by (exact hv198_a), by (exact hv198_b)⟩ hf_N166_ ⟨(show 0 ≤ ze N166_ 81 64 by first | assumption | (exact zo_839 i168_ p1_ r64_N166_.1)), (show ze N166_ 81 64 ≤ a0_ by first | assumption | omega), (show 0 ≤ ze N166_ 81 65 by first | assumption | (exact zo_848 gb.2.2.2.2.1 hc_134)), (show ze N166_ 81 65 ≤ ze Mz 81 26 by first | assumption | (exact zo_849 hc_134)), (show ((0 = 1 ∧ ze Mz 81 64 < ze N166_ 81 64) ∨ (0 = 0)) from Or.inr ((show 0 = 0 by first | assumption | omega)))⟩ d_M_readsNumber_138
                · skip
                  exact absurd hc_67 (by decide)
        exact lp_47 _ 0 (by decide) (by decide) 0 (by decide) (by decide) N156_ zFr.rf (show ze Mz 81 64 ≤ ze N156_ 81 64 by first | assumption | (exact zo_878 hvN156_)) (show ze N156_ 81 64 ≤ a0_ by first | assumption | (exact zo_856 hc_5 hvN156_)) (show 0 ≤ (0 : Int) by first | assumption | (decide)) (show (0 : Int) ≤ 7 by first | assumption | (decide)) (show (0 : Int) ≤ ze N156_ 81 64 - ze Mz 81 64 by first | assumption | (exact zo_879 hvN156_)) (Nat.lt_succ_self _)
set_option maxHeartbeats 4000000 in
theorem c_M_readsMarks (l : Launch) (Mz : zMem) (hW : zMt Mz) (a0_ : Int) (ha0_a : -2147483648 ≤ a0_) (ha0_b : a0_ < 2147483648) (T : zGT) (hO : gOK T) (p0_ : zGB T Mz) (p1_ : 0 ≤ a0_) (p2_ : a0_ ≤ 700) : zC l m_M_readsMarks 0 0 [.ref 81, .int (Int32.ofInt a0_)] Mz (zpI [64, 65] [99] Mz (fun v N => ((v = 0 ∨ v = 1)))) := by
  refine zC_of (L0 := [some (.ref 81), some (.int (Int32.ofInt a0_))]) md_M_readsMarks (Nat.le_of_ble_eq_true rfl) rfl ?_ zQ0
  have hf : zFr [64, 65] [99] Mz Mz := zFr.rf
  have r_26 := ze_r Mz 81 26
  have r_64 := ze_r Mz 81 64
  have r_65 := ze_r Mz 81 65
  have hG := hO.1
  have g24 := hG.2.1
  have g1 := hG.1
  have dv0 : zTab T Mz := p0_.1
  have dv1 : zB 85 144 0 5 Mz := p0_.2.1
  have dv2 : zJX T Mz := p0_.2.2.1
  have dv3 : zFirs T Mz := p0_.2.2.2.1
  have dv4 : zSSm T Mz := p0_.2.2.2.2.1
  have dv5 : zGD Mz := zGB.d hO p0_
  have gb := dv5.1
  have gn := dv0.1
  refine zw_aload_n (pc := 0) (n := 0) (x := 81) rfl (zdal_p dlD_M_readsMarks_127 (i := 0) rfl) ?_
  refine zw_iconst (pc := 1) (v := Int32.ofInt 0) (by decide) (zdal_p dlD_M_readsMarks_127 (i := 1) rfl) ?_
  refine zr_putI (hf.w hW) (pc := 2) f_M_504 rfl rfl ⟨by (decide), by (decide)⟩ rfl rfl (zdal_p dlD_M_readsMarks_127 (i := 2) rfl) (fun N1_ hsN1_ hvN1_ => ?_)
  have hf_N1_ : zFr [64, 65] [99] Mz N1_ := hf.tr hsN1_ (by decide) (by decide)
  have e26_N1_ : ze N1_ 81 26 = ze Mz 81 26 := hsN1_.e (by decide)
  have r64_N1_ := ze_r N1_ 81 64
  have e65_N1_ : ze N1_ 81 65 = ze Mz 81 65 := hsN1_.e (by decide)
  have c2_ : zGB T N1_ := zGB.fr hsN1_ p0_ (by decide) (by decide)
  have c3_ : zTab T N1_ := zTab.fr hsN1_ dv0 (by decide) (by decide)
  have c4_ : zB 85 144 0 5 N1_ := zB.fr hsN1_ dv1 (by decide) (by decide)
  have c5_ : zJX T N1_ := zJX.fr hsN1_ dv2 (by decide) (by decide)
  have c6_ : zFirs T N1_ := zFirs.fr hsN1_ dv3 (by decide) (by decide)
  have c7_ : zSSm T N1_ := zSSm.fr hsN1_ dv4 (by decide) (by decide)
  have c8_ : zGD N1_ := zGD.fr hsN1_ dv5 (by decide) (by decide)
  refine zw_aload_n (pc := 5) (n := 0) (x := 81) rfl (zdal_p dlD_M_readsMarks_127 (i := 3) rfl) ?_
  refine zw_iconst (pc := 6) (v := Int32.ofInt 0) (by decide) (zdal_p dlD_M_readsMarks_127 (i := 4) rfl) ?_
  refine zr_putI (hf_N1_.w hW) (pc := 7) f_M_511 rfl rfl ⟨by (decide), by (decide)⟩ rfl rfl (zdal_p dlD_M_readsMarks_127 (i := 5) rfl) (fun N9_ hsN9_ hvN9_ => ?_)
  have hf_N9_ : zFr [64, 65] [99] Mz N9_ := hf_N1_.tr hsN9_ (by decide) (by decide)
  have e26_N9_ : ze N9_ 81 26 = ze N1_ 81 26 := hsN9_.e (by decide)
  have e64_N9_ : ze N9_ 81 64 = ze N1_ 81 64 := hsN9_.e (by decide)
  have r65_N9_ := ze_r N9_ 81 65
  have c10_ : zGB T N9_ := zGB.fr hsN9_ c2_ (by decide) (by decide)
  have c11_ : zTab T N9_ := zTab.fr hsN9_ c3_ (by decide) (by decide)
  have c12_ : zB 85 144 0 5 N9_ := zB.fr hsN9_ c4_ (by decide) (by decide)
  have c13_ : zJX T N9_ := zJX.fr hsN9_ c5_ (by decide) (by decide)
  have c14_ : zFirs T N9_ := zFirs.fr hsN9_ c6_ (by decide) (by decide)
  have c15_ : zSSm T N9_ := zSSm.fr hsN9_ c7_ (by decide) (by decide)
  have c16_ : zGD N9_ := zGD.fr hsN9_ c8_ (by decide) (by decide)
  have lp_10 : ∀ (n : Nat) (N17_ : zMem) (hs18_ : zFr [64] [] N9_ N17_) (i19_ : 0 ≤ ze N17_ 81 64) (i20_ : ze N17_ 81 64 ≤ a0_), (a0_ - ze N17_ 81 64).toNat < n → zW l m_M_readsMarks (zn Mz + 0, zw Mz + 0) N17_ 10 [some (.ref 81), some (.int (Int32.ofInt a0_))] [] (zpI [64, 65] [99] Mz (fun v N => ((v = 0 ∨ v = 1)))) := by
    intro n
    induction n with
    | zero =>
      intro N17_ hs18_ i19_ i20_ h0
      exact absurd h0 (Nat.not_lt_zero _)
    | succ n ih_10 =>
      intro N17_ hs18_ i19_ i20_ hlt_10
      have hf_N17_ : zFr [64, 65] [99] Mz N17_ := hf_N9_.tr hs18_ (by decide) (by decide)
      have e26_N17_ : ze N17_ 81 26 = ze N9_ 81 26 := hs18_.e (by decide)
      have r64_N17_ := ze_r N17_ 81 64
      have e65_N17_ : ze N17_ 81 65 = ze N9_ 81 65 := hs18_.e (by decide)
      have c21_ : zGB T N17_ := zGB.fr hs18_ c10_ (by decide) (by decide)
      have c22_ : zTab T N17_ := zTab.fr hs18_ c11_ (by decide) (by decide)
      have c23_ : zB 85 144 0 5 N17_ := zB.fr hs18_ c12_ (by decide) (by decide)
      have c24_ : zJX T N17_ := zJX.fr hs18_ c13_ (by decide) (by decide)
      have c25_ : zFirs T N17_ := zFirs.fr hs18_ c14_ (by decide) (by decide)
      have c26_ : zSSm T N17_ := zSSm.fr hs18_ c15_ (by decide) (by decide)
      have c27_ : zGD N17_ := zGD.fr hs18_ c16_ (by decide) (by decide)
      refine zw_aload_n (pc := 10) (n := 0) (x := 81) rfl (zdal_p dlD_M_readsMarks_127 (i := 6) rfl) ?_
      refine zw_iload_n (pc := 11) (n := 1) (x := Int32.ofInt a0_) rfl (zdal_p dlD_M_readsMarks_127 (i := 7) rfl) ?_
      refine zr_callV (hf_N17_.w hW) hf_N17_.x (pc := 12) [.int (Int32.ofInt a0_)] [] l_M_514 (c_M_isBlank l N17_ (hf_N17_.w hW) a0_ ha0_a ha0_b (show 0 ≤ ze N17_ 81 64 by first | assumption | omega) (show a0_ ≤ 700 by first | assumption | omega)) rfl rfl rfl (by decide) (Nat.le_of_ble_eq_true rfl) (zdal_p dlD_M_readsMarks_127 (i := 8) rfl) ?_
      rintro _ N28_ ⟨v29_, rfl, ⟨hv29_a, hv29_b⟩, hsN28_, hp0_N28_⟩
      obtain rfl := hsN28_.eq.symm
      replace hp0_N28_ : ((v29_ = 1 ∧ ze N17_ 81 64 < a0_) ∨ (v29_ = 0)) := hp0_N28_
      rcases hp0_N28_ with ⟨rfl, ha12_0_hp0_N28_⟩ | rfl
      · skip
        show zW l m_M_readsMarks (zn Mz + 0, zw Mz + 0) N17_ 15 [some (.ref 81), some (.int (Int32.ofInt a0_))] [.int (Int32.ofInt 1)] _
        refine zr_if_eq (pc := 15) (tgt := 31) ⟨(by decide), (by decide)⟩ (by decide) (zdal_p dlD_M_readsMarks_127 (i := 9) rfl) (fun hc_15 => ?_) (fun hc_15 => ?_)
        · skip
          exact absurd hc_15 (by decide)
        · skip
          refine zw_aload_n (pc := 18) (n := 0) (x := 81) rfl (zdal_p dlD_M_readsMarks_127 (i := 10) rfl) ?_
          refine zw_dup (pc := 19) rfl (zdal_p dlD_M_readsMarks_127 (i := 11) rfl) ?_
          refine zr_getI (hf_N17_.w hW) (pc := 20) f_M_504 rfl (zdal_p dlD_M_readsMarks_127 (i := 12) rfl) ?_
          refine zw_iconst (pc := 23) (v := Int32.ofInt 1) (by decide) (zdal_p dlD_M_readsMarks_127 (i := 13) rfl) ?_
          refine zr_iadd (pc := 24) (zdal_p dlD_M_readsMarks_127 (i := 14) rfl) ?_
          refine zr_putI (hf_N17_.w hW) (pc := 25) f_M_504 rfl rfl ⟨by (exact zo_74 i19_), by (exact zo_853 ha12_0_hp0_N28_ p2_)⟩ rfl rfl (zdal_p dlD_M_readsMarks_127 (i := 15) rfl) (fun N30_ hsN30_ hvN30_ => ?_)
          have hf_N30_ : zFr [64, 65] [99] Mz N30_ := hf_N17_.tr hsN30_ (by decide) (by decide)
          have hb0_N30_ : zFr [64] [] N9_ N30_ := hs18_.tr hsN30_ (by decide) (by decide)
          have e26_N30_ : ze N30_ 81 26 = ze N17_ 81 26 := hsN30_.e (by decide)
          have r64_N30_ := ze_r N30_ 81 64
          have e65_N30_ : ze N30_ 81 65 = ze N17_ 81 65 := hsN30_.e (by decide)
          have c31_ : zGB T N30_ := zGB.fr hsN30_ c21_ (by decide) (by decide)
          have c32_ : zTab T N30_ := zTab.fr hsN30_ c22_ (by decide) (by decide)
          have c33_ : zB 85 144 0 5 N30_ := zB.fr hsN30_ c23_ (by decide) (by decide)
          have c34_ : zJX T N30_ := zJX.fr hsN30_ c24_ (by decide) (by decide)
          have c35_ : zFirs T N30_ := zFirs.fr hsN30_ c25_ (by decide) (by decide)
          have c36_ : zSSm T N30_ := zSSm.fr hsN30_ c26_ (by decide) (by decide)
          have c37_ : zGD N30_ := zGD.fr hsN30_ c27_ (by decide) (by decide)
          refine zw_goto (pc := 28) (tgt := 10) (by decide) (zdal_p dlD_M_readsMarks_127 (i := 16) rfl) ?_
          exact ih_10 N30_ hb0_N30_ (show 0 ≤ ze N30_ 81 64 by first | assumption | (exact zo_163 hvN30_ i19_ r64_N30_.1)) (show ze N30_ 81 64 ≤ a0_ by first | assumption | (exact zo_856 ha12_0_hp0_N28_ hvN30_)) (by (exact zo_859 ha12_0_hp0_N28_ hlt_10 hvN30_ p2_ r64_N30_.1))
      · skip
        show zW l m_M_readsMarks (zn Mz + 0, zw Mz + 0) N17_ 15 [some (.ref 81), some (.int (Int32.ofInt a0_))] [.int (Int32.ofInt 0)] _
        refine zr_if_eq (pc := 15) (tgt := 31) ⟨(by decide), (by decide)⟩ (by decide) (zdal_p dlD_M_readsMarks_127 (i := 9) rfl) (fun hc_15 => ?_) (fun hc_15 => ?_)
        · skip
          have lp_31 : ∀ (n : Nat) (N38_ : zMem) (hs39_ : zFr [64, 65] [99] N17_ N38_) (i40_ : 0 ≤ ze N38_ 81 64) (i41_ : ze N38_ 81 64 ≤ a0_) (i42_ : 0 ≤ ze N38_ 81 65) (i43_ : ze N38_ 81 65 ≤ ze Mz 81 26), (a0_ - ze N38_ 81 64).toNat < n → zW l m_M_readsMarks (zn Mz + 0, zw Mz + 0) N38_ 31 [some (.ref 81), some (.int (Int32.ofInt a0_))] [] (zpI [64, 65] [99] Mz (fun v N => ((v = 0 ∨ v = 1)))) := by
            intro n
            induction n with
            | zero =>
              intro N38_ hs39_ i40_ i41_ i42_ i43_ h0
              exact absurd h0 (Nat.not_lt_zero _)
            | succ n ih_31 =>
              intro N38_ hs39_ i40_ i41_ i42_ i43_ hlt_31
              have hf_N38_ : zFr [64, 65] [99] Mz N38_ := hf_N17_.tr hs39_ (by decide) (by decide)
              have e26_N38_ : ze N38_ 81 26 = ze N17_ 81 26 := hs39_.e (by decide)
              have r64_N38_ := ze_r N38_ 81 64
              have r65_N38_ := ze_r N38_ 81 65
              have c44_ : zGB T N38_ := zGB.fr hs39_ c21_ (by decide) (by decide)
              have c45_ : zTab T N38_ := zTab.fr hs39_ c22_ (by decide) (by decide)
              have c46_ : zB 85 144 0 5 N38_ := zB.fr hs39_ c23_ (by decide) (by decide)
              have c47_ : zJX T N38_ := zJX.fr hs39_ c24_ (by decide) (by decide)
              have c48_ : zFirs T N38_ := zFirs.fr hs39_ c25_ (by decide) (by decide)
              have c49_ : zSSm T N38_ := zSSm.fr hs39_ c26_ (by decide) (by decide)
              have c50_ : zGD N38_ := zGD.fr hs39_ c27_ (by decide) (by decide)
              refine zw_aload_n (pc := 31) (n := 0) (x := 81) rfl (zdal_p dlD_M_readsMarks_127 (i := 17) rfl) ?_
              refine zr_getI (hf_N38_.w hW) (pc := 32) f_M_504 rfl (zdal_p dlD_M_readsMarks_127 (i := 18) rfl) ?_
              refine zw_iload_n (pc := 35) (n := 1) (x := Int32.ofInt a0_) rfl (zdal_p dlD_M_readsMarks_127 (i := 19) rfl) ?_
              refine zr_icmp_ge (pc := 36) (tgt := 88) ⟨(ze_r N38_ 81 64).1, (ze_r N38_ 81 64).2⟩ ⟨ha0_a, ha0_b⟩ (by decide) (zdal_p dlD_M_readsMarks_127 (i := 20) rfl) (fun hc_36 => ?_) (fun hc_36 => ?_)
              · skip
                refine zw_aload_n (pc := 88) (n := 0) (x := 81) rfl (zdal_p dlD_M_readsMarks_129 (i := 0) rfl) ?_
                refine zr_getI (hf_N38_.w hW) (pc := 89) f_M_511 rfl (zdal_p dlD_M_readsMarks_129 (i := 1) rfl) ?_
                refine zw_aload_n (pc := 92) (n := 0) (x := 81) rfl (zdal_p dlD_M_readsMarks_129 (i := 2) rfl) ?_
                refine zr_getI0 hf_N38_ hW (pc := 93) (by decide) f_M_235 rfl (zdal_p dlD_M_readsMarks_129 (i := 3) rfl) ?_
                refine zr_icmp_ne (pc := 96) (tgt := 103) ⟨(ze_r N38_ 81 65).1, (ze_r N38_ 81 65).2⟩ ⟨(ze_r Mz 81 26).1, (ze_r Mz 81 26).2⟩ (by decide) (zdal_p dlD_M_readsMarks_129 (i := 4) rfl) (fun hc_96 => ?_) (fun hc_96 => ?_)
                · skip
                  refine zw_iconst (pc := 103) (v := Int32.ofInt 0) (by decide) (zdal_p dlD_M_readsMarks_129 (i := 7) rfl) ?_
                  exact zr_iret (pc := 104) (ty := .boolean) rfl (z_narB (by (decide))) ⟨by (exact hv29_a), by (exact hv29_b)⟩ hf_N38_ (show (0 = 0 ∨ 0 = 1) by first | assumption | (decide)) (zdal_p dlD_M_readsMarks_129 (i := 8) rfl)
                · skip
                  refine zw_iconst (pc := 99) (v := Int32.ofInt 1) (by decide) (zdal_p dlD_M_readsMarks_129 (i := 5) rfl) ?_
                  refine zw_goto (pc := 100) (tgt := 104) (by decide) (zdal_p dlD_M_readsMarks_129 (i := 6) rfl) ?_
                  exact zr_iret (pc := 104) (ty := .boolean) rfl (z_narB (by (decide))) ⟨by (decide), by (decide)⟩ hf_N38_ (show (1 = 0 ∨ 1 = 1) by first | assumption | (decide)) (zdal_p dlD_M_readsMarks_129 (i := 8) rfl)
              · skip
                refine zw_aload_n (pc := 39) (n := 0) (x := 81) rfl (zdal_p dlD_M_readsMarks_127 (i := 21) rfl) ?_
                refine zw_iload_n (pc := 40) (n := 1) (x := Int32.ofInt a0_) rfl (zdal_p dlD_M_readsMarks_127 (i := 22) rfl) ?_
                refine zr_callV (hf_N38_.w hW) hf_N38_.x (pc := 41) [.int (Int32.ofInt a0_)] [] l_M_517 (c_M_readsNumber l N38_ (hf_N38_.w hW) a0_ ha0_a ha0_b T hO c44_ (show 0 ≤ ze N38_ 81 64 by first | assumption | omega) (show ze N38_ 81 64 ≤ a0_ by first | assumption | omega) (show a0_ ≤ 700 by first | assumption | omega) (show 0 ≤ ze N38_ 81 65 by first | assumption | omega) (show ze N38_ 81 65 ≤ ze N38_ 81 26 by first | assumption | (exact zo_880 e26_N17_ e26_N1_ e26_N38_ e26_N9_ i43_))) rfl rfl rfl (by decide) (Nat.le_of_ble_eq_true rfl) (zdal_p dlD_M_readsMarks_127 (i := 23) rfl) ?_
                rintro _ N51_ ⟨v52_, rfl, ⟨hv52_a, hv52_b⟩, hsN51_, ⟨hp0_N51_, hp1_N51_, hp2_N51_, hp3_N51_, hp4_N51_⟩⟩
                have hf_N51_ : zFr [64, 65] [99] Mz N51_ := hf_N38_.tr hsN51_ (by decide) (by decide)
                have hb0_N51_ : zFr [64, 65] [99] N17_ N51_ := hs39_.tr hsN51_ (by decide) (by decide)
                have e26_N51_ : ze N51_ 81 26 = ze N38_ 81 26 := hsN51_.e (by decide)
                have r64_N51_ := ze_r N51_ 81 64
                have r65_N51_ := ze_r N51_ 81 65
                have c53_ : zGB T N51_ := zGB.fr hsN51_ c44_ (by decide) (by decide)
                have c54_ : zTab T N51_ := zTab.fr hsN51_ c45_ (by decide) (by decide)
                have c55_ : zB 85 144 0 5 N51_ := zB.fr hsN51_ c46_ (by decide) (by decide)
                have c56_ : zJX T N51_ := zJX.fr hsN51_ c47_ (by decide) (by decide)
                have c57_ : zFirs T N51_ := zFirs.fr hsN51_ c48_ (by decide) (by decide)
                have c58_ : zSSm T N51_ := zSSm.fr hsN51_ c49_ (by decide) (by decide)
                have c59_ : zGD N51_ := zGD.fr hsN51_ c50_ (by decide) (by decide)
                rcases hp4_N51_ with ⟨rfl, ha41_0_hp4_N51_⟩ | rfl
                · skip
                  show zW l m_M_readsMarks (zn Mz + 0, zw Mz + 0) N51_ 44 [some (.ref 81), some (.int (Int32.ofInt a0_))] [.int (Int32.ofInt 1)] _
                  refine zr_if_ne (pc := 44) (tgt := 49) ⟨(by decide), (by decide)⟩ (by decide) (zdal_p dlD_M_readsMarks_128 (i := 0) rfl) (fun hc_44 => ?_) (fun hc_44 => ?_)
                  · skip
                    refine zw_aload_n (pc := 49) (n := 0) (x := 81) rfl (zdal_p dlD_M_readsMarks_128 (i := 3) rfl) ?_
                    refine zr_getI (hf_N51_.w hW) (pc := 50) f_M_504 rfl (zdal_p dlD_M_readsMarks_128 (i := 4) rfl) ?_
                    refine zw_iload_n (pc := 53) (n := 1) (x := Int32.ofInt a0_) rfl (zdal_p dlD_M_readsMarks_128 (i := 5) rfl) ?_
                    refine zr_icmp_ge (pc := 54) (tgt := 67) ⟨(ze_r N51_ 81 64).1, (ze_r N51_ 81 64).2⟩ ⟨ha0_a, ha0_b⟩ (by decide) (zdal_p dlD_M_readsMarks_128 (i := 6) rfl) (fun hc_54 => ?_) (fun hc_54 => ?_)
                    · skip
                      have lp_67 : ∀ (n : Nat) (N60_ : zMem) (hs61_ : zFr [64] [] N51_ N60_) (i62_ : ze N38_ 81 64 < ze N60_ 81 64) (i63_ : ze N60_ 81 64 ≤ a0_), (a0_ - ze N60_ 81 64).toNat < n → zW l m_M_readsMarks (zn Mz + 0, zw Mz + 0) N60_ 67 [some (.ref 81), some (.int (Int32.ofInt a0_))] [] (zpI [64, 65] [99] Mz (fun v N => ((v = 0 ∨ v = 1)))) := by
                        intro n
                        induction n with
                        | zero =>
                          intro N60_ hs61_ i62_ i63_ h0
                          exact absurd h0 (Nat.not_lt_zero _)
                        | succ n ih_67 =>
                          intro N60_ hs61_ i62_ i63_ hlt_67
                          have hf_N60_ : zFr [64, 65] [99] Mz N60_ := hf_N51_.tr hs61_ (by decide) (by decide)
                          have hb0_N60_ : zFr [64, 65] [99] N17_ N60_ := hb0_N51_.tr hs61_ (by decide) (by decide)
                          have e26_N60_ : ze N60_ 81 26 = ze N51_ 81 26 := hs61_.e (by decide)
                          have r64_N60_ := ze_r N60_ 81 64
                          have e65_N60_ : ze N60_ 81 65 = ze N51_ 81 65 := hs61_.e (by decide)
                          have c64_ : zGB T N60_ := zGB.fr hs61_ c53_ (by decide) (by decide)
                          have c65_ : zTab T N60_ := zTab.fr hs61_ c54_ (by decide) (by decide)
                          have c66_ : zB 85 144 0 5 N60_ := zB.fr hs61_ c55_ (by decide) (by decide)
                          have c67_ : zJX T N60_ := zJX.fr hs61_ c56_ (by decide) (by decide)
                          have c68_ : zFirs T N60_ := zFirs.fr hs61_ c57_ (by decide) (by decide)
                          have c69_ : zSSm T N60_ := zSSm.fr hs61_ c58_ (by decide) (by decide)
                          have c70_ : zGD N60_ := zGD.fr hs61_ c59_ (by decide) (by decide)
                          refine zw_aload_n (pc := 67) (n := 0) (x := 81) rfl (zdal_p dlD_M_readsMarks_128 (i := 13) rfl) ?_
                          refine zw_iload_n (pc := 68) (n := 1) (x := Int32.ofInt a0_) rfl (zdal_p dlD_M_readsMarks_128 (i := 14) rfl) ?_
                          refine zr_callV (hf_N60_.w hW) hf_N60_.x (pc := 69) [.int (Int32.ofInt a0_)] [] l_M_514 (c_M_isBlank l N60_ (hf_N60_.w hW) a0_ ha0_a ha0_b (show 0 ≤ ze N60_ 81 64 by first | assumption | (exact zo_881 i40_ i62_ r64_N60_.1)) (show a0_ ≤ 700 by first | assumption | omega)) rfl rfl rfl (by decide) (Nat.le_of_ble_eq_true rfl) (zdal_p dlD_M_readsMarks_128 (i := 15) rfl) ?_
                          rintro _ N71_ ⟨v72_, rfl, ⟨hv72_a, hv72_b⟩, hsN71_, hp0_N71_⟩
                          obtain rfl := hsN71_.eq.symm
                          replace hp0_N71_ : ((v72_ = 1 ∧ ze N60_ 81 64 < a0_) ∨ (v72_ = 0)) := hp0_N71_
                          rcases hp0_N71_ with ⟨rfl, ha69_0_hp0_N71_⟩ | rfl
                          · skip
                            show zW l m_M_readsMarks (zn Mz + 0, zw Mz + 0) N60_ 72 [some (.ref 81), some (.int (Int32.ofInt a0_))] [.int (Int32.ofInt 1)] _
                            refine zr_if_eq (pc := 72) (tgt := 31) ⟨(by decide), (by decide)⟩ (by decide) (zdal_p dlD_M_readsMarks_128 (i := 16) rfl) (fun hc_72 => ?_) (fun hc_72 => ?_)
                            · skip
                              exact absurd hc_72 (by decide)
                            · skip
                              refine zw_aload_n (pc := 75) (n := 0) (x := 81) rfl (zdal_p dlD_M_readsMarks_128 (i := 17) rfl) ?_
                              refine zw_dup (pc := 76) rfl (zdal_p dlD_M_readsMarks_128 (i := 18) rfl) ?_
                              refine zr_getI (hf_N60_.w hW) (pc := 77) f_M_504 rfl (zdal_p dlD_M_readsMarks_128 (i := 19) rfl) ?_
                              refine zw_iconst (pc := 80) (v := Int32.ofInt 1) (by decide) (zdal_p dlD_M_readsMarks_128 (i := 20) rfl) ?_
                              refine zr_iadd (pc := 81) (zdal_p dlD_M_readsMarks_128 (i := 21) rfl) ?_
                              refine zr_putI (hf_N60_.w hW) (pc := 82) f_M_504 rfl rfl ⟨by (exact zo_679 r64_N60_.1), by (exact zo_853 ha69_0_hp0_N71_ p2_)⟩ rfl rfl (zdal_p dlD_M_readsMarks_128 (i := 22) rfl) (fun N73_ hsN73_ hvN73_ => ?_)
                              have hf_N73_ : zFr [64, 65] [99] Mz N73_ := hf_N60_.tr hsN73_ (by decide) (by decide)
                              have hb0_N73_ : zFr [64, 65] [99] N17_ N73_ := hb0_N60_.tr hsN73_ (by decide) (by decide)
                              have hb1_N73_ : zFr [64] [] N51_ N73_ := hs61_.tr hsN73_ (by decide) (by decide)
                              have e26_N73_ : ze N73_ 81 26 = ze N60_ 81 26 := hsN73_.e (by decide)
                              have r64_N73_ := ze_r N73_ 81 64
                              have e65_N73_ : ze N73_ 81 65 = ze N60_ 81 65 := hsN73_.e (by decide)
                              have c74_ : zGB T N73_ := zGB.fr hsN73_ c64_ (by decide) (by decide)
                              have c75_ : zTab T N73_ := zTab.fr hsN73_ c65_ (by decide) (by decide)
                              have c76_ : zB 85 144 0 5 N73_ := zB.fr hsN73_ c66_ (by decide) (by decide)
                              have c77_ : zJX T N73_ := zJX.fr hsN73_ c67_ (by decide) (by decide)
                              have c78_ : zFirs T N73_ := zFirs.fr hsN73_ c68_ (by decide) (by decide)
                              have c79_ : zSSm T N73_ := zSSm.fr hsN73_ c69_ (by decide) (by decide)
                              have c80_ : zGD N73_ := zGD.fr hsN73_ c70_ (by decide) (by decide)
                              refine zw_goto (pc := 85) (tgt := 67) (by decide) (zdal_p dlD_M_readsMarks_128 (i := 23) rfl) ?_
                              exact ih_67 N73_ hb1_N73_ (show ze N38_ 81 64 < ze N73_ 81 64 by first | assumption | (exact zo_882 hc_36 hvN73_ i62_ p2_ r64_N73_.1)) (show ze N73_ 81 64 ≤ a0_ by first | assumption | (exact zo_856 ha69_0_hp0_N71_ hvN73_)) (by (exact zo_859 ha69_0_hp0_N71_ hlt_67 hvN73_ p2_ r64_N73_.1))
                          · skip
                            show zW l m_M_readsMarks (zn Mz + 0, zw Mz + 0) N60_ 72 [some (.ref 81), some (.int (Int32.ofInt a0_))] [.int (Int32.ofInt 0)] _
                            refine zr_if_eq (pc := 72) (tgt := 31) ⟨(by decide), (by decide)⟩ (by decide) (zdal_p dlD_M_readsMarks_128 (i := 16) rfl) (fun hc_72 => ?_) (fun hc_72 => ?_)
                            · skip
                              exact ih_31 N60_ hb0_N60_ (show 0 ≤ ze N60_ 81 64 by first | assumption | (exact zo_881 i40_ i62_ r64_N60_.1)) (show ze N60_ 81 64 ≤ a0_ by first | assumption | omega) (show 0 ≤ ze N60_ 81 65 by first | assumption | (exact zo_720 e65_N60_ hp2_N51_)) (show ze N60_ 81 65 ≤ ze Mz 81 26 by first | assumption | (exact zo_883 e26_N17_ e26_N1_ e26_N38_ e26_N9_ e65_N60_ gb.2.2.2.2.1 hp3_N51_ r65_N51_.2)) (by (exact zo_884 hlt_31 i62_ i63_ p2_ r64_N60_.1))
                            · skip
                              exact absurd hc_72 (by decide)
                      exact lp_67 _ N51_ zFr.rf (show ze N38_ 81 64 < ze N51_ 81 64 by first | assumption | omega) (show ze N51_ 81 64 ≤ a0_ by first | assumption | omega) (Nat.lt_succ_self _)
                    · skip
                      refine zw_aload_n (pc := 57) (n := 0) (x := 81) rfl (zdal_p dlD_M_readsMarks_128 (i := 7) rfl) ?_
                      refine zw_iload_n (pc := 58) (n := 1) (x := Int32.ofInt a0_) rfl (zdal_p dlD_M_readsMarks_128 (i := 8) rfl) ?_
                      refine zr_callV (hf_N51_.w hW) hf_N51_.x (pc := 59) [.int (Int32.ofInt a0_)] [] l_M_514 (c_M_isBlank l N51_ (hf_N51_.w hW) a0_ ha0_a ha0_b (show 0 ≤ ze N51_ 81 64 by first | assumption | omega) (show a0_ ≤ 700 by first | assumption | omega)) rfl rfl rfl (by decide) (Nat.le_of_ble_eq_true rfl) (zdal_p dlD_M_readsMarks_128 (i := 9) rfl) ?_
                      rintro _ N81_ ⟨v82_, rfl, ⟨hv82_a, hv82_b⟩, hsN81_, hp0_N81_⟩
                      obtain rfl := hsN81_.eq.symm
                      replace hp0_N81_ : ((v82_ = 1 ∧ ze N51_ 81 64 < a0_) ∨ (v82_ = 0)) := hp0_N81_
                      rcases hp0_N81_ with ⟨rfl, ha59_0_hp0_N81_⟩ | rfl
                      · skip
                        show zW l m_M_readsMarks (zn Mz + 0, zw Mz + 0) N51_ 62 [some (.ref 81), some (.int (Int32.ofInt a0_))] [.int (Int32.ofInt 1)] _
                        refine zr_if_ne (pc := 62) (tgt := 67) ⟨(by decide), (by decide)⟩ (by decide) (zdal_p dlD_M_readsMarks_128 (i := 10) rfl) (fun hc_62 => ?_) (fun hc_62 => ?_)
                        · skip
                          have lp_67 : ∀ (n : Nat) (N83_ : zMem) (hs84_ : zFr [64] [] N51_ N83_) (i85_ : ze N38_ 81 64 < ze N83_ 81 64) (i86_ : ze N83_ 81 64 ≤ a0_), (a0_ - ze N83_ 81 64).toNat < n → zW l m_M_readsMarks (zn Mz + 0, zw Mz + 0) N83_ 67 [some (.ref 81), some (.int (Int32.ofInt a0_))] [] (zpI [64, 65] [99] Mz (fun v N => ((v = 0 ∨ v = 1)))) := by
                            intro n
                            induction n with
                            | zero =>
                              intro N83_ hs84_ i85_ i86_ h0
                              exact absurd h0 (Nat.not_lt_zero _)
                            | succ n ih_67 =>
                              intro N83_ hs84_ i85_ i86_ hlt_67
                              have hf_N83_ : zFr [64, 65] [99] Mz N83_ := hf_N51_.tr hs84_ (by decide) (by decide)
                              have hb0_N83_ : zFr [64, 65] [99] N17_ N83_ := hb0_N51_.tr hs84_ (by decide) (by decide)
                              have e26_N83_ : ze N83_ 81 26 = ze N51_ 81 26 := hs84_.e (by decide)
                              have r64_N83_ := ze_r N83_ 81 64
                              have e65_N83_ : ze N83_ 81 65 = ze N51_ 81 65 := hs84_.e (by decide)
                              have c87_ : zGB T N83_ := zGB.fr hs84_ c53_ (by decide) (by decide)
                              have c88_ : zTab T N83_ := zTab.fr hs84_ c54_ (by decide) (by decide)
                              have c89_ : zB 85 144 0 5 N83_ := zB.fr hs84_ c55_ (by decide) (by decide)
                              have c90_ : zJX T N83_ := zJX.fr hs84_ c56_ (by decide) (by decide)
                              have c91_ : zFirs T N83_ := zFirs.fr hs84_ c57_ (by decide) (by decide)
                              have c92_ : zSSm T N83_ := zSSm.fr hs84_ c58_ (by decide) (by decide)
                              have c93_ : zGD N83_ := zGD.fr hs84_ c59_ (by decide) (by decide)
                              refine zw_aload_n (pc := 67) (n := 0) (x := 81) rfl (zdal_p dlD_M_readsMarks_128 (i := 13) rfl) ?_
                              refine zw_iload_n (pc := 68) (n := 1) (x := Int32.ofInt a0_) rfl (zdal_p dlD_M_readsMarks_128 (i := 14) rfl) ?_
                              refine zr_callV (hf_N83_.w hW) hf_N83_.x (pc := 69) [.int (Int32.ofInt a0_)] [] l_M_514 (c_M_isBlank l N83_ (hf_N83_.w hW) a0_ ha0_a ha0_b (show 0 ≤ ze N83_ 81 64 by first | assumption | (exact zo_881 i40_ i85_ r64_N83_.1)) (show a0_ ≤ 700 by first | assumption | omega)) rfl rfl rfl (by decide) (Nat.le_of_ble_eq_true rfl) (zdal_p dlD_M_readsMarks_128 (i := 15) rfl) ?_
                              rintro _ N94_ ⟨v95_, rfl, ⟨hv95_a, hv95_b⟩, hsN94_, hp0_N94_⟩
                              obtain rfl := hsN94_.eq.symm
                              replace hp0_N94_ : ((v95_ = 1 ∧ ze N83_ 81 64 < a0_) ∨ (v95_ = 0)) := hp0_N94_
                              rcases hp0_N94_ with ⟨rfl, ha69_0_hp0_N94_⟩ | rfl
                              · skip
                                show zW l m_M_readsMarks (zn Mz + 0, zw Mz + 0) N83_ 72 [some (.ref 81), some (.int (Int32.ofInt a0_))] [.int (Int32.ofInt 1)] _
                                refine zr_if_eq (pc := 72) (tgt := 31) ⟨(by decide), (by decide)⟩ (by decide) (zdal_p dlD_M_readsMarks_128 (i := 16) rfl) (fun hc_72 => ?_) (fun hc_72 => ?_)
                                · skip
                                  exact absurd hc_72 (by decide)
                                · skip
                                  refine zw_aload_n (pc := 75) (n := 0) (x := 81) rfl (zdal_p dlD_M_readsMarks_128 (i := 17) rfl) ?_
                                  refine zw_dup (pc := 76) rfl (zdal_p dlD_M_readsMarks_128 (i := 18) rfl) ?_
                                  refine zr_getI (hf_N83_.w hW) (pc := 77) f_M_504 rfl (zdal_p dlD_M_readsMarks_128 (i := 19) rfl) ?_
                                  refine zw_iconst (pc := 80) (v := Int32.ofInt 1) (by decide) (zdal_p dlD_M_readsMarks_128 (i := 20) rfl) ?_
                                  refine zr_iadd (pc := 81) (zdal_p dlD_M_readsMarks_128 (i := 21) rfl) ?_
                                  refine zr_putI (hf_N83_.w hW) (pc := 82) f_M_504 rfl rfl ⟨by (exact zo_679 r64_N83_.1), by (exact zo_853 ha69_0_hp0_N94_ p2_)⟩ rfl rfl (zdal_p dlD_M_readsMarks_128 (i := 22) rfl) (fun N96_ hsN96_ hvN96_ => ?_)
                                  have hf_N96_ : zFr [64, 65] [99] Mz N96_ := hf_N83_.tr hsN96_ (by decide) (by decide)
                                  have hb0_N96_ : zFr [64, 65] [99] N17_ N96_ := hb0_N83_.tr hsN96_ (by decide) (by decide)
                                  have hb1_N96_ : zFr [64] [] N51_ N96_ := hs84_.tr hsN96_ (by decide) (by decide)
                                  have e26_N96_ : ze N96_ 81 26 = ze N83_ 81 26 := hsN96_.e (by decide)
                                  have r64_N96_ := ze_r N96_ 81 64
                                  have e65_N96_ : ze N96_ 81 65 = ze N83_ 81 65 := hsN96_.e (by decide)
                                  have c97_ : zGB T N96_ := zGB.fr hsN96_ c87_ (by decide) (by decide)
                                  have c98_ : zTab T N96_ := zTab.fr hsN96_ c88_ (by decide) (by decide)
                                  have c99_ : zB 85 144 0 5 N96_ := zB.fr hsN96_ c89_ (by decide) (by decide)
                                  have c100_ : zJX T N96_ := zJX.fr hsN96_ c90_ (by decide) (by decide)
                                  have c101_ : zFirs T N96_ := zFirs.fr hsN96_ c91_ (by decide) (by decide)
                                  have c102_ : zSSm T N96_ := zSSm.fr hsN96_ c92_ (by decide) (by decide)
                                  have c103_ : zGD N96_ := zGD.fr hsN96_ c93_ (by decide) (by decide)
                                  refine zw_goto (pc := 85) (tgt := 67) (by decide) (zdal_p dlD_M_readsMarks_128 (i := 23) rfl) ?_
                                  exact ih_67 N96_ hb1_N96_ (show ze N38_ 81 64 < ze N96_ 81 64 by first | assumption | (exact zo_882 hc_36 hvN96_ i85_ p2_ r64_N96_.1)) (show ze N96_ 81 64 ≤ a0_ by first | assumption | (exact zo_856 ha69_0_hp0_N94_ hvN96_)) (by (exact zo_859 ha69_0_hp0_N94_ hlt_67 hvN96_ p2_ r64_N96_.1))
                              · skip
                                show zW l m_M_readsMarks (zn Mz + 0, zw Mz + 0) N83_ 72 [some (.ref 81), some (.int (Int32.ofInt a0_))] [.int (Int32.ofInt 0)] _
                                refine zr_if_eq (pc := 72) (tgt := 31) ⟨(by decide), (by decide)⟩ (by decide) (zdal_p dlD_M_readsMarks_128 (i := 16) rfl) (fun hc_72 => ?_) (fun hc_72 => ?_)
                                · skip
                                  exact ih_31 N83_ hb0_N83_ (show 0 ≤ ze N83_ 81 64 by first | assumption | (exact zo_881 i40_ i85_ r64_N83_.1)) (show ze N83_ 81 64 ≤ a0_ by first | assumption | omega) (show 0 ≤ ze N83_ 81 65 by first | assumption | (exact zo_720 e65_N83_ hp2_N51_)) (show ze N83_ 81 65 ≤ ze Mz 81 26 by first | assumption | (exact zo_883 e26_N17_ e26_N1_ e26_N38_ e26_N9_ e65_N83_ gb.2.2.2.2.1 hp3_N51_ r65_N51_.2)) (by (exact zo_884 hlt_31 i85_ i86_ p2_ r64_N83_.1))
                                · skip
                                  exact absurd hc_72 (by decide)
                          exact lp_67 _ N51_ zFr.rf (show ze N38_ 81 64 < ze N51_ 81 64 by first | assumption | omega) (show ze N51_ 81 64 ≤ a0_ by first | assumption | omega) (Nat.lt_succ_self _)
                        · skip
                          exact absurd hc_62 (by decide)
                      · skip
                        show zW l m_M_readsMarks (zn Mz + 0, zw Mz + 0) N51_ 62 [some (.ref 81), some (.int (Int32.ofInt a0_))] [.int (Int32.ofInt 0)] _
                        refine zr_if_ne (pc := 62) (tgt := 67) ⟨(by decide), (by decide)⟩ (by decide) (zdal_p dlD_M_readsMarks_128 (i := 10) rfl) (fun hc_62 => ?_) (fun hc_62 => ?_)
                        · skip
                          exact absurd hc_62 (by decide)
                        · skip
                          refine zw_iconst (pc := 65) (v := Int32.ofInt 0) (by decide) (zdal_p dlD_M_readsMarks_128 (i := 11) rfl) ?_
                          exact zr_iret (pc := 66) (ty := .boolean) rfl (z_narB (by (decide))) ⟨by (exact hv29_a), by (exact hv29_b)⟩ hf_N51_ (show (0 = 0 ∨ 0 = 1) by first | assumption | (decide)) (zdal_p dlD_M_readsMarks_128 (i := 12) rfl)
                  · skip
                    exact absurd hc_44 (by decide)
                · skip
                  show zW l m_M_readsMarks (zn Mz + 0, zw Mz + 0) N51_ 44 [some (.ref 81), some (.int (Int32.ofInt a0_))] [.int (Int32.ofInt 0)] _
                  refine zr_if_ne (pc := 44) (tgt := 49) ⟨(by decide), (by decide)⟩ (by decide) (zdal_p dlD_M_readsMarks_128 (i := 0) rfl) (fun hc_44 => ?_) (fun hc_44 => ?_)
                  · skip
                    exact absurd hc_44 (by decide)
                  · skip
                    refine zw_iconst (pc := 47) (v := Int32.ofInt 0) (by decide) (zdal_p dlD_M_readsMarks_128 (i := 1) rfl) ?_
                    exact zr_iret (pc := 48) (ty := .boolean) rfl (z_narB (by (decide))) ⟨by (exact hv29_a), by (exact hv29_b)⟩ hf_N51_ (show (0 = 0 ∨ 0 = 1) by first | assumption | (decide)) (zdal_p dlD_M_readsMarks_128 (i := 2) rfl)
          exact lp_31 _ N17_ zFr.rf (show 0 ≤ ze N17_ 81 64 by first | assumption | omega) (show ze N17_ 81 64 ≤ a0_ by first | assumption | omega) (show 0 ≤ ze N17_ 81 65 by first | assumption | (exact zo_631 e65_N17_ hvN9_)) (show ze N17_ 81 65 ≤ ze Mz 81 26 by first | assumption | (exact zo_885 e65_N17_ gb.2.2.2.2.1 hvN9_)) (Nat.lt_succ_self _)
        · skip
          exact absurd hc_15 (by decide)
  exact lp_10 _ N9_ zFr.rf (show 0 ≤ ze N9_ 81 64 by first | assumption | (exact zo_631 e64_N9_ hvN1_)) (show ze N9_ 81 64 ≤ a0_ by first | assumption | (exact zo_886 e64_N9_ hvN1_ p1_)) (Nat.lt_succ_self _)
