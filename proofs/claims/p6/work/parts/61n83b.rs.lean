set_option maxHeartbeats 4000000 in
theorem c_M_takeS (l : Launch) (Mz : zMem) (hW : zMt Mz) (a0_ : Int) (ha0_a : -2147483648 ≤ a0_) (ha0_b : a0_ < 2147483648) (a1_ : Int) (ha1_a : -2147483648 ≤ a1_) (ha1_b : a1_ < 2147483648) (T : zGT) (hO : gOK T) (hTt : T ∈ gTabs) (P_ : Nat) (mv_ : List Nat) (s_ : zSg) (p0_ : zGB T Mz) (p1_ : zCdR (P_ : Int) mv_ T Mz) (p2_ : ze Mz 81 16 = (P_ : Int)) (p3_ : 1 ≤ P_) (p4_ : P_ ≤ 6) (p5_ : zSR (gF T).length s_ Mz) (p6_ : (∀ j : Nat, j < (gF T).length → zPt (zrch (gN T) (fun i_ => zrc Mz 85 i_ (P_ : Int)) (gFn T j)) P_)) : zC l m_M_take 0 0 [.ref 81, .int (Int32.ofInt a0_), .int (Int32.ofInt a1_)] Mz (zpI [60, 63] [96, 98, 111, 112, 113] Mz (fun v N => ((((a0_ = 0 ∨ ((a0_ = 1 ∨ a0_ = 2) ∧ 0 ≤ a1_ ∧ a1_ ≤ 6)) ∧ ∃ c_ : Nat → Nat, gTb mv_ c_ T ∧ zSR (gF T).length (zpush s_ (zsq (gF T).length (gmkI T) (fun j_ => tkv (zrr P_ T c_ (gFn T j_)) a0_ a1_))) N) ∨ (¬ (a0_ = 0 ∨ ((a0_ = 1 ∨ a0_ = 2) ∧ 0 ≤ a1_ ∧ a1_ ≤ 6)) ∧ zSR (gF T).length s_ N ∧ v = (-1 : Int)))))) := by
  refine zC_of (L0 := [some (.ref 81), some (.int (Int32.ofInt a0_)), some (.int (Int32.ofInt a1_)), none]) md_M_take (Nat.le_of_ble_eq_true rfl) rfl ?_ zQ0
  have hf : zFr [60, 63] [96, 98, 111, 112, 113] Mz Mz := zFr.rf
  have r_16 := ze_r Mz 81 16
  have r_26 := ze_r Mz 81 26
  have r_63 := ze_r Mz 81 63
  have hG := hO.1
  have g24 := hG.2.1
  have g1 := hG.1
  have dv0 : zTab T Mz := p0_.1
  have dv1 : zB 85 144 0 5 Mz := p0_.2.1
  have dv2 : zJX T Mz := p0_.2.2.1
  have dv3 : zFirs T Mz := p0_.2.2.2.1
  have dv4 : zSSm T Mz := p0_.2.2.2.2.1
  have dv5 : zGD Mz := zGB.d hO p0_
  have dv6 : zRmk (gF T).length (gmkI T) Mz := p0_.rm
  have gb := dv5.1
  have gn := dv0.1
  have hsz_ := dv0.1
  have hfl_ := dv3.1
  have hTA_ := gT_zTA hTt
  obtain ⟨⟨hF1_, hF27_⟩, hAr_⟩ := id hTA_
  have hF64_ : (gF T).length ≤ 64 := by (exact zo_2689 hF27_)
  obtain ⟨⟨hs1_, hs2_⟩, hs3_, hs4_⟩ := id p5_
  refine zw_iload_n (pc := 0) (n := 1) (x := Int32.ofInt a0_) rfl (zdal_p dlD_M_take_112 (i := 0) rfl) ?_
  refine zr_i2l (pc := 1) ⟨ha0_a, ha0_b⟩ (zdal_p dlD_M_take_112 (i := 1) rfl) ?_
  refine zw_lconst (pc := 2) (v := Int64.ofInt 0) (by decide) (zdal_p dlD_M_take_112 (i := 2) rfl) ?_
  refine zr_ldc2 (pc := 3) (n := 2) (by decide) k_M_493 (zdal_p dlD_M_take_112 (i := 3) rfl) ?_
  refine zr_callS hf.x (pc := 6) [.long (Int64.ofInt a0_), .long (Int64.ofInt 0), .long (Int64.ofInt 2)] [] l_M_131 (c_M_isIn l Mz (hf.w hW) a0_ (by (exact zo_282 ha0_a)) (by (exact zo_283 ha0_b)) 0 (by decide) (by decide) 2 (by decide) (by decide)) rfl rfl (by decide) (Nat.le_of_ble_eq_true rfl) (zdal_p dlD_M_take_112 (i := 4) rfl) ?_
  rintro _ N1_ ⟨v2_, rfl, ⟨hv2_a, hv2_b⟩, hsN1_, hp0_N1_⟩
  obtain rfl := hsN1_.eq.symm
  replace hp0_N1_ : ((v2_ = 1 ∧ 0 ≤ a0_ ∧ a0_ ≤ 2) ∨ (v2_ = 0 ∧ (a0_ < 0 ∨ 2 < a0_))) := hp0_N1_
  rcases hp0_N1_ with ⟨rfl, ha6_0_hp0_N1_, ha6_1_hp0_N1_⟩ | ⟨rfl, ha6_0_hp0_N1_⟩
  · skip
    show zW l m_M_take (zn Mz + 0, zw Mz + 0) Mz 9 [some (.ref 81), some (.int (Int32.ofInt a0_)), some (.int (Int32.ofInt a1_)), none] [.int (Int32.ofInt 1)] _
    refine zr_if_eq (pc := 9) (tgt := 28) ⟨(by decide), (by decide)⟩ (by decide) (zdal_p dlD_M_take_112 (i := 5) rfl) (fun hc_9 => ?_) (fun hc_9 => ?_)
    · skip
      exact absurd hc_9 (by decide)
    · skip
      refine zw_iload_n (pc := 12) (n := 1) (x := Int32.ofInt a0_) rfl (zdal_p dlD_M_take_112 (i := 6) rfl) ?_
      have j_30 : ∀ (i3_ : (a0_ = 0 ∨ ((a0_ = 1 ∨ a0_ = 2) ∧ 0 ≤ a1_ ∧ a1_ ≤ 6))), zW l m_M_take (zn Mz + 0, zw Mz + 0) Mz 30 [some (.ref 81), some (.int (Int32.ofInt a0_)), some (.int (Int32.ofInt a1_)), none] [] (zpI [60, 63] [96, 98, 111, 112, 113] Mz (fun v N => ((((a0_ = 0 ∨ ((a0_ = 1 ∨ a0_ = 2) ∧ 0 ≤ a1_ ∧ a1_ ≤ 6)) ∧ ∃ c_ : Nat → Nat, gTb mv_ c_ T ∧ zSR (gF T).length (zpush s_ (zsq (gF T).length (gmkI T) (fun j_ => tkv (zrr P_ T c_ (gFn T j_)) a0_ a1_))) N) ∨ (¬ (a0_ = 0 ∨ ((a0_ = 1 ∨ a0_ = 2) ∧ 0 ≤ a1_ ∧ a1_ ≤ 6)) ∧ zSR (gF T).length s_ N ∧ v = (-1 : Int)))))) := by
        intro i3_
        have htc_ := (show (a0_ = 0 ∨ ((a0_ = 1 ∨ a0_ = 2) ∧ 0 ≤ a1_ ∧ a1_ ≤ 6)) by first | with_reducible assumption | assumption)
        refine zw_iconst (pc := 30) (v := Int32.ofInt 0) (by decide) (zdal_p dlD_M_take_112 (i := 16) rfl) ?_
        refine zw_istore_n (pc := 31) (i := 3) (L2 := [some (.ref 81), some (.int (Int32.ofInt a0_)), some (.int (Int32.ofInt a1_)), some (.int (Int32.ofInt 0))]) rfl (by decide) rfl (zdal_p dlD_M_take_112 (i := 17) rfl) ?_
        have lp_32 : ∀ (n : Nat) (u4_ : Int) (hu4_a : -2147483648 ≤ u4_) (hu4_b : u4_ < 2147483648) (N5_ : zMem) (hs6_ : zFr [63] [96, 112, 113] Mz N5_) (i7_ : 0 ≤ u4_) (i8_ : u4_ ≤ ((gF T).length : Int)) (i9_ : (∀ j : Nat, (j : Int) < u4_ → zg N5_ 96 j = tkv (zrr P_ T (fun i_ => zrc Mz 85 i_ (P_ : Int)) (gFn T j)) a0_ a1_)), (((gF T).length : Int) - u4_).toNat < n → zW l m_M_take (zn Mz + 0, zw Mz + 0) N5_ 32 [some (.ref 81), some (.int (Int32.ofInt a0_)), some (.int (Int32.ofInt a1_)), some (.int (Int32.ofInt u4_))] [] (zpI [60, 63] [96, 98, 111, 112, 113] Mz (fun v N => ((((a0_ = 0 ∨ ((a0_ = 1 ∨ a0_ = 2) ∧ 0 ≤ a1_ ∧ a1_ ≤ 6)) ∧ ∃ c_ : Nat → Nat, gTb mv_ c_ T ∧ zSR (gF T).length (zpush s_ (zsq (gF T).length (gmkI T) (fun j_ => tkv (zrr P_ T c_ (gFn T j_)) a0_ a1_))) N) ∨ (¬ (a0_ = 0 ∨ ((a0_ = 1 ∨ a0_ = 2) ∧ 0 ≤ a1_ ∧ a1_ ≤ 6)) ∧ zSR (gF T).length s_ N ∧ v = (-1 : Int)))))) := by
          intro n
          induction n with
          | zero =>
            intro u4_ hu4_a hu4_b N5_ hs6_ i7_ i8_ i9_ h0
            exact absurd h0 (Nat.not_lt_zero _)
          | succ n ih_32 =>
            intro u4_ hu4_a hu4_b N5_ hs6_ i7_ i8_ i9_ hlt_32
            have hf_N5_ : zFr [60, 63] [96, 98, 111, 112, 113] Mz N5_ := hf.tr hs6_ (by decide) (by decide)
            have e16_N5_ : ze N5_ 81 16 = ze Mz 81 16 := hs6_.e (by decide)
            have e26_N5_ : ze N5_ 81 26 = ze Mz 81 26 := hs6_.e (by decide)
            have r63_N5_ := ze_r N5_ 81 63
            have c10_ : zGB T N5_ := zGB.fr hs6_ p0_ (by decide) (by decide)
            have c11_ : zCdR (P_ : Int) mv_ T N5_ := zCdR.fr hs6_ p1_ (by decide) (by decide)
            have c12_ : zSR (gF T).length s_ N5_ := zSR.fr hs6_ p5_ (by decide) (by decide)
            have c13_ : zTab T N5_ := zTab.fr hs6_ dv0 (by decide) (by decide)
            have c14_ : zB 85 144 0 5 N5_ := zB.fr hs6_ dv1 (by decide) (by decide)
            have c15_ : zJX T N5_ := zJX.fr hs6_ dv2 (by decide) (by decide)
            have c16_ : zFirs T N5_ := zFirs.fr hs6_ dv3 (by decide) (by decide)
            have c17_ : zSSm T N5_ := zSSm.fr hs6_ dv4 (by decide) (by decide)
            have c18_ : zGD N5_ := zGD.fr hs6_ dv5 (by decide) (by decide)
            have c19_ : zRmk (gF T).length (gmkI T) N5_ := zRmk.fr hs6_ dv6 (by decide) (by decide)
            have htk_ := (show (∀ j : Nat, (j : Int) < u4_ → zg N5_ 96 j = tkv (zrr P_ T (fun i_ => zrc Mz 85 i_ (P_ : Int)) (gFn T j)) a0_ a1_) by first | with_reducible assumption | assumption)
            refine zw_iload_n (pc := 32) (n := 3) (x := Int32.ofInt u4_) rfl (zdal_p dlD_M_take_112 (i := 18) rfl) ?_
            refine zw_aload_n (pc := 33) (n := 0) (x := 81) rfl (zdal_p dlD_M_take_112 (i := 19) rfl) ?_
            refine zr_getI0 hf_N5_ hW (pc := 34) (by decide) f_M_235 rfl (zdal_p dlD_M_take_112 (i := 20) rfl) ?_
            refine zr_icmp_ge (pc := 37) (tgt := 68) ⟨hu4_a, hu4_b⟩ ⟨(ze_r Mz 81 26).1, (ze_r Mz 81 26).2⟩ (by decide) (zdal_p dlD_M_take_112 (i := 21) rfl) (fun hc_37 => ?_) (fun hc_37 => ?_)
            · skip
              refine zw_aload_n (pc := 68) (n := 0) (x := 81) rfl (zdal_p dlD_M_take_113 (i := 14) rfl) ?_
              refine zr_callV (hf_N5_.w hW) hf_N5_.x (pc := 69) [] [] l_M_481 (c_M_actS l N5_ (hf_N5_.w hW) (gF T).length hF64_ s_ c12_) rfl rfl rfl (by decide) (Nat.le_of_ble_eq_true rfl) (zdal_p dlD_M_take_113 (i := 15) rfl) ?_
              rintro _ N20_ ⟨rfl, hsN20_, hp0_N20_⟩
              replace hp0_N20_ : zSA (gF T).length s_ N20_ := hp0_N20_
              have hf_N20_ : zFr [60, 63] [96, 98, 111, 112, 113] Mz N20_ := hf_N5_.tr hsN20_ (by decide) (by decide)
              have e16_N20_ : ze N20_ 81 16 = ze N5_ 81 16 := hsN20_.e (by decide)
              have e26_N20_ : ze N20_ 81 26 = ze N5_ 81 26 := hsN20_.e (by decide)
              have e63_N20_ : ze N20_ 81 63 = ze N5_ 81 63 := hsN20_.e (by decide)
              have c22_ : zGB T N20_ := zGB.fr hsN20_ c10_ (by decide) (by decide)
              have c23_ : zCdR (P_ : Int) mv_ T N20_ := zCdR.fr hsN20_ c11_ (by decide) (by decide)
              have c24_ : zTab T N20_ := zTab.fr hsN20_ c13_ (by decide) (by decide)
              have c25_ : zB 85 144 0 5 N20_ := zB.fr hsN20_ c14_ (by decide) (by decide)
              have c26_ : zJX T N20_ := zJX.fr hsN20_ c15_ (by decide) (by decide)
              have c27_ : zFirs T N20_ := zFirs.fr hsN20_ c16_ (by decide) (by decide)
              have c28_ : zSSm T N20_ := zSSm.fr hsN20_ c17_ (by decide) (by decide)
              have c29_ : zGD N20_ := zGD.fr hsN20_ c18_ (by decide) (by decide)
              have c30_ : zRmk (gF T).length (gmkI T) N20_ := zRmk.fr hsN20_ c19_ (by decide) (by decide)
              show zW l m_M_take (zn Mz + 0, zw Mz + 0) N20_ 72 [some (.ref 81), some (.int (Int32.ofInt a0_)), some (.int (Int32.ofInt a1_)), some (.int (Int32.ofInt u4_))] [] _
              have hte_ : ∀ j_ : Nat, j_ < (gF T).length → zg N20_ 96 j_ = tkv (zrr P_ T (fun i_ => zrc Mz 85 i_ (P_ : Int)) (gFn T j_)) a0_ a1_ := fun j_ hj_ => ((hsN20_).jg (by decide) (by decide) j_).trans (htk_ j_ (by (exact zo_2399 hF27_ hc_37 hfl_ hj_ i7_)))
              refine zw_aload_n (pc := 72) (n := 0) (x := 81) rfl (zdal_p dlD_M_take_113 (i := 16) rfl) ?_
              refine zw_aload_n (pc := 73) (n := 0) (x := 81) rfl (zdal_p dlD_M_take_113 (i := 17) rfl) ?_
              refine zr_getF (r := 96) (hf_N20_.w hW) (pc := 74) f_M_60 rfl (zh_96 (hf_N20_.w hW)).1 (zdal_p dlD_M_take_113 (i := 18) rfl) ?_
              refine zw_aload_n (pc := 77) (n := 0) (x := 81) rfl (zdal_p dlD_M_take_113 (i := 19) rfl) ?_
              refine zr_getF (r := 98) (hf_N20_.w hW) (pc := 78) f_M_66 rfl (zh_98 (hf_N20_.w hW)).1 (zdal_p dlD_M_take_113 (i := 20) rfl) ?_
              refine zw_iconst (pc := 81) (v := Int32.ofInt 0) (by decide) (zdal_p dlD_M_take_113 (i := 21) rfl) ?_
              refine zr_callV (hf_N20_.w hW) hf_N20_.x (pc := 82) [.ref 96, .ref 98, .int (Int32.ofInt 0)] [] l_M_289 (c_M_numbers_96_98S l N20_ (hf_N20_.w hW) 0 (by decide) (by decide) (gF T).length (gmkI T) hTA_ c30_ (show 0 ≤ 0 by first | with_reducible assumption | (decide) | assumption) (show 0 ≤ 0 by first | with_reducible assumption | (decide) | assumption) (show (∀ j : Nat, j < (gF T).length → -1000000 ≤ zg N20_ 96 j ∧ zg N20_ 96 j ≤ 1000000) by exact fun j_ hj_ => by rw [hte_ j_ hj_]; have h_ := tkv_b (by (exact p4_)) (p6_ j_ hj_) htc_; omega)) rfl rfl rfl (by decide) (Nat.le_of_ble_eq_true rfl) (zdal_p dlD_M_take_113 (i := 22) rfl) ?_
              rintro _ N31_ ⟨rfl, hsN31_, hp0_N31_⟩
              replace hp0_N31_ : (∀ k : Nat, k < (gF T).length → zg N31_ 98 k = (zsq (gF T).length (gmkI T) (fun j_ => zg N20_ 96 j_)) k) := hp0_N31_
              have hf_N31_ : zFr [60, 63] [96, 98, 111, 112, 113] Mz N31_ := hf_N20_.tr hsN31_ (by decide) (by decide)
              have e16_N31_ : ze N31_ 81 16 = ze N20_ 81 16 := hsN31_.e (by decide)
              have e26_N31_ : ze N31_ 81 26 = ze N20_ 81 26 := hsN31_.e (by decide)
              have e63_N31_ : ze N31_ 81 63 = ze N20_ 81 63 := hsN31_.e (by decide)
              have c33_ : zGB T N31_ := zGB.fr hsN31_ c22_ (by decide) (by decide)
              have c34_ : zCdR (P_ : Int) mv_ T N31_ := zCdR.fr hsN31_ c23_ (by decide) (by decide)
              have c35_ : zTab T N31_ := zTab.fr hsN31_ c24_ (by decide) (by decide)
              have c36_ : zB 85 144 0 5 N31_ := zB.fr hsN31_ c25_ (by decide) (by decide)
              have c37_ : zJX T N31_ := zJX.fr hsN31_ c26_ (by decide) (by decide)
              have c38_ : zFirs T N31_ := zFirs.fr hsN31_ c27_ (by decide) (by decide)
              have c39_ : zSSm T N31_ := zSSm.fr hsN31_ c28_ (by decide) (by decide)
              have c40_ : zGD N31_ := zGD.fr hsN31_ c29_ (by decide) (by decide)
              have c41_ : zRmk (gF T).length (gmkI T) N31_ := zRmk.fr hsN31_ c30_ (by decide) (by decide)
              have c42_ : zSA (gF T).length s_ N31_ := zSA.fr hsN31_ hp0_N20_ (by decide) (by decide)
              show zW l m_M_take (zn Mz + 0, zw Mz + 0) N31_ 85 [some (.ref 81), some (.int (Int32.ofInt a0_)), some (.int (Int32.ofInt a1_)), some (.int (Int32.ofInt u4_))] [] _
              have hnu_ := hp0_N31_
              have hsr_ := c42_.ps (fun k_ hk_ => (hnu_ k_ hk_).trans (zsq_cc (m' := fun j_ => tkv (zrr P_ T (fun i_ => zrc Mz 85 i_ (P_ : Int)) (gFn T j_)) a0_ a1_) hte_ k_ hk_))
              refine zw_aload_n (pc := 85) (n := 0) (x := 81) rfl (zdal_p dlD_M_take_113 (i := 23) rfl) ?_
              refine zr_getF (r := 96) (hf_N31_.w hW) (pc := 86) f_M_60 rfl (zh_96 (hf_N31_.w hW)).1 (zdal_p dlD_M_take_114 (i := 0) rfl) ?_
              refine zw_iconst (pc := 89) (v := Int32.ofInt 0) (by decide) (zdal_p dlD_M_take_114 (i := 1) rfl) ?_
              refine zr_laldn (pc := 90) (zh_96 (hf_N31_.w hW)).2 (by decide) (by (decide)) (by (decide)) (zdal_p dlD_M_take_114 (i := 2) rfl) (fun v43_ hv43_ hv43_a hv43_b => ?_)
              refine zr_l2i (pc := 91) (zdal_p dlD_M_take_114 (i := 3) rfl) ?_
              refine zr_nmI (fun v44_ hv44_ => ?_)
              obtain ⟨hv44_a, hv44_b⟩ := hv44_
              exact zr_iret (pc := 92) (ty := .int) rfl rfl ⟨by (exact hv44_a), by (exact hv44_b)⟩ hf_N31_ (show (((a0_ = 0 ∨ ((a0_ = 1 ∨ a0_ = 2) ∧ 0 ≤ a1_ ∧ a1_ ≤ 6)) ∧ ∃ c_ : Nat → Nat, gTb mv_ c_ T ∧ zSR (gF T).length (zpush s_ (zsq (gF T).length (gmkI T) (fun j_ => tkv (zrr P_ T c_ (gFn T j_)) a0_ a1_))) N31_) ∨ (¬ (a0_ = 0 ∨ ((a0_ = 1 ∨ a0_ = 2) ∧ 0 ≤ a1_ ∧ a1_ ≤ 6)) ∧ zSR (gF T).length s_ N31_ ∧ v44_ = (-1 : Int))) by exact Or.inl ⟨htc_, _, p1_, hsr_⟩) (zdal_p dlD_M_take_114 (i := 4) rfl)
            · skip
              refine zw_aload_n (pc := 40) (n := 0) (x := 81) rfl (zdal_p dlD_M_take_112 (i := 22) rfl) ?_
              refine zw_aload_n (pc := 41) (n := 0) (x := 81) rfl (zdal_p dlD_M_take_112 (i := 23) rfl) ?_
              refine zr_getF (r := 91) (hf_N5_.w hW) (pc := 42) f_M_44 rfl (zh_91 (hf_N5_.w hW)).1 (zdal_p dlD_M_take_113 (i := 0) rfl) ?_
              refine zw_iload_n (pc := 45) (n := 3) (x := Int32.ofInt u4_) rfl (zdal_p dlD_M_take_113 (i := 1) rfl) ?_
              refine zr_ialdn (pc := 46) (zh_91 (hf_N5_.w hW)).2 (by decide) (by (exact i7_)) (by (exact zo_70 hF27_ hu4_b i8_)) (zdal_p dlD_M_take_113 (i := 2) rfl) (fun v45_ hv45_ hv45_a hv45_b => ?_)
              rw [hf_N5_.ie (by decide) (by decide)] at hv45_
              have hfv_ := hv45_
              have hfw_ : v45_ = ((gFn T (u4_).toNat : Nat) : Int) := hfv_.trans (dv3.2 _ (by (exact zo_2387 hc_37 hfl_ hu4_b i7_ i8_)))
              have hft_ : (v45_).toNat = gFn T (u4_).toNat := by (exact zo_2680 hfw_ hv45_a hv45_b)
              have hfb_ := gS_b hO (hO.2.2.1.2.1 _ (gFn_m (T := T) (i := (u4_).toNat) (by (exact zo_2387 hc_37 hfl_ hu4_b i7_ i8_)))).1
              have hCx_ : (fun i_ => zrc N5_ 85 i_ (P_ : Int)) = (fun i_ => zrc Mz 85 i_ (P_ : Int)) := funext fun i_ => zrc_f (fun k_ => hf_N5_.ie (by decide) (by decide) k_) i_ _
              refine zr_callV (hf_N5_.w hW) hf_N5_.x (pc := 47) [.int (Int32.ofInt v45_)] [] l_M_497 (c_M_laysPartsS l N5_ (hf_N5_.w hW) v45_ hv45_a hv45_b T hO P_ mv_ c10_ c11_ (show ze N5_ 81 16 = (P_ : Int) by first | with_reducible assumption | (exact zo_2398 e16_N5_ p2_ r_16.2) | assumption) (show 1 ≤ P_ by first | with_reducible assumption | assumption | omega) (show P_ ≤ 6 by first | with_reducible assumption | assumption | omega) (show 0 ≤ v45_ by first | with_reducible assumption | (exact zo_2336 hfw_ hv45_a) | assumption) (show v45_ < 16777216 by first | with_reducible assumption | assumption | omega) (show zPt (zrch (gN T) (fun i_ => zrc N5_ 85 i_ (P_ : Int)) (v45_).toNat) P_ by rw [hft_, hCx_]; exact p6_ _ (by (exact zo_2387 hc_37 hfl_ hu4_b i7_ i8_)))) rfl rfl rfl (by decide) (Nat.le_of_ble_eq_true rfl) (zdal_p dlD_M_take_113 (i := 3) rfl) ?_
              rintro _ N46_ ⟨rfl, hsN46_, ⟨hp0_N46_, hp1_N46_, hp2_N46_⟩⟩
              have hf_N46_ : zFr [60, 63] [96, 98, 111, 112, 113] Mz N46_ := hf_N5_.tr hsN46_ (by decide) (by decide)
              have hb0_N46_ : zFr [63] [96, 112, 113] Mz N46_ := hs6_.tr hsN46_ (by decide) (by decide)
              have e16_N46_ : ze N46_ 81 16 = ze N5_ 81 16 := hsN46_.e (by decide)
              have e26_N46_ : ze N46_ 81 26 = ze N5_ 81 26 := hsN46_.e (by decide)
              have r63_N46_ := ze_r N46_ 81 63
              have c48_ : zGB T N46_ := zGB.fr hsN46_ c10_ (by decide) (by decide)
              have c49_ : zCdR (P_ : Int) mv_ T N46_ := zCdR.fr hsN46_ c11_ (by decide) (by decide)
              have c50_ : zSR (gF T).length s_ N46_ := zSR.fr hsN46_ c12_ (by decide) (by decide)
              have c51_ : zTab T N46_ := zTab.fr hsN46_ c13_ (by decide) (by decide)
              have c52_ : zB 85 144 0 5 N46_ := zB.fr hsN46_ c14_ (by decide) (by decide)
              have c53_ : zJX T N46_ := zJX.fr hsN46_ c15_ (by decide) (by decide)
              have c54_ : zFirs T N46_ := zFirs.fr hsN46_ c16_ (by decide) (by decide)
              have c55_ : zSSm T N46_ := zSSm.fr hsN46_ c17_ (by decide) (by decide)
              have c56_ : zGD N46_ := zGD.fr hsN46_ c18_ (by decide) (by decide)
              have c57_ : zRmk (gF T).length (gmkI T) N46_ := zRmk.fr hsN46_ c19_ (by decide) (by decide)
              show zW l m_M_take (zn Mz + 0, zw Mz + 0) N46_ 50 [some (.ref 81), some (.int (Int32.ofInt a0_)), some (.int (Int32.ofInt a1_)), some (.int (Int32.ofInt u4_))] [] _
              have hz_ := hp0_N46_
              rw [hft_, hCx_] at hz_
              refine zw_aload_n (pc := 50) (n := 0) (x := 81) rfl (zdal_p dlD_M_take_113 (i := 4) rfl) ?_
              refine zr_getF (r := 96) (hf_N46_.w hW) (pc := 51) f_M_60 rfl (zh_96 (hf_N46_.w hW)).1 (zdal_p dlD_M_take_113 (i := 5) rfl) ?_
              refine zw_iload_n (pc := 54) (n := 3) (x := Int32.ofInt u4_) rfl (zdal_p dlD_M_take_113 (i := 6) rfl) ?_
              refine zw_aload_n (pc := 55) (n := 0) (x := 81) rfl (zdal_p dlD_M_take_113 (i := 7) rfl) ?_
              refine zw_iload_n (pc := 56) (n := 1) (x := Int32.ofInt a0_) rfl (zdal_p dlD_M_take_113 (i := 8) rfl) ?_
              refine zw_iload_n (pc := 57) (n := 2) (x := Int32.ofInt a1_) rfl (zdal_p dlD_M_take_113 (i := 9) rfl) ?_
              refine zr_callV (hf_N46_.w hW) hf_N46_.x (pc := 58) [.int (Int32.ofInt a0_), .int (Int32.ofInt a1_)] [.int (Int32.ofInt u4_), .ref 96] l_M_500 (c_M_fixedByS l N46_ (hf_N46_.w hW) a0_ ha0_a ha0_b a1_ ha1_a ha1_b (tkz (zrr P_ T (fun i_ => zrc Mz 85 i_ (P_ : Int)) (gFn T (u4_).toNat))) hz_ (show (a0_ = 0 ∨ ((a0_ = 1 ∨ a0_ = 2) ∧ 0 ≤ a1_ ∧ a1_ ≤ 6)) by first | with_reducible assumption | assumption | omega)) rfl rfl rfl (by decide) (Nat.le_of_ble_eq_true rfl) (zdal_p dlD_M_take_113 (i := 10) rfl) ?_
              rintro _ N58_ ⟨v59_, rfl, ⟨hv59_a, hv59_b⟩, hsN58_, hp0_N58_⟩
              replace hp0_N58_ : ((a0_ = 0 → v59_ = ((tkone (tkz (zrr P_ T (fun i_ => zrc Mz 85 i_ (P_ : Int)) (gFn T (u4_).toNat))) : Nat) : Int)) ∧ (a0_ = 1 → v59_ = ((tkn (tkz (zrr P_ T (fun i_ => zrc Mz 85 i_ (P_ : Int)) (gFn T (u4_).toNat))) (tkz (zrr P_ T (fun i_ => zrc Mz 85 i_ (P_ : Int)) (gFn T (u4_).toNat))).length (a1_).toNat : Nat) : Int)) ∧ (a0_ = 2 → v59_ = a1_ ^ (tkz (zrr P_ T (fun i_ => zrc Mz 85 i_ (P_ : Int)) (gFn T (u4_).toNat))).length)) := hp0_N58_
              have hf_N58_ : zFr [60, 63] [96, 98, 111, 112, 113] Mz N58_ := hf_N46_.tr hsN58_ (by decide) (by decide)
              have hb0_N58_ : zFr [63] [96, 112, 113] Mz N58_ := hb0_N46_.tr hsN58_ (by decide) (by decide)
              have e16_N58_ : ze N58_ 81 16 = ze N46_ 81 16 := hsN58_.e (by decide)
              have e26_N58_ : ze N58_ 81 26 = ze N46_ 81 26 := hsN58_.e (by decide)
              have e63_N58_ : ze N58_ 81 63 = ze N46_ 81 63 := hsN58_.e (by decide)
              have c60_ : zGB T N58_ := zGB.fr hsN58_ c48_ (by decide) (by decide)
              have c61_ : zCdR (P_ : Int) mv_ T N58_ := zCdR.fr hsN58_ c49_ (by decide) (by decide)
              have c62_ : zSR (gF T).length s_ N58_ := zSR.fr hsN58_ c50_ (by decide) (by decide)
              have c63_ : zTab T N58_ := zTab.fr hsN58_ c51_ (by decide) (by decide)
              have c64_ : zB 85 144 0 5 N58_ := zB.fr hsN58_ c52_ (by decide) (by decide)
              have c65_ : zJX T N58_ := zJX.fr hsN58_ c53_ (by decide) (by decide)
              have c66_ : zFirs T N58_ := zFirs.fr hsN58_ c54_ (by decide) (by decide)
              have c67_ : zSSm T N58_ := zSSm.fr hsN58_ c55_ (by decide) (by decide)
              have c68_ : zGD N58_ := zGD.fr hsN58_ c56_ (by decide) (by decide)
              have c69_ : zRmk (gF T).length (gmkI T) N58_ := zRmk.fr hsN58_ c57_ (by decide) (by decide)
              have c70_ : zTkZ (tkz (zrr P_ T (fun i_ => zrc Mz 85 i_ (P_ : Int)) (gFn T (u4_).toNat))) N58_ := zTkZ.fr hsN58_ hz_ (by decide) (by decide)
              show zW l m_M_take (zn Mz + 0, zw Mz + 0) N58_ 61 [some (.ref 81), some (.int (Int32.ofInt a0_)), some (.int (Int32.ofInt a1_)), some (.int (Int32.ofInt u4_))] [.long (Int64.ofInt v59_), .int (Int32.ofInt u4_), .ref 96] _
              have hv_ := tkv_r (by (exact p4_)) (p6_ (u4_).toNat (by (exact zo_2387 hc_37 hfl_ hu4_b i7_ i8_))) htc_ (hp0_N58_).1 (hp0_N58_).2.1 (hp0_N58_).2.2
              have hvb_ := tkv_b (by (exact p4_)) (p6_ (u4_).toNat (by (exact zo_2387 hc_37 hfl_ hu4_b i7_ i8_))) htc_
              rw [← hv_] at hvb_
              have h96_ : ∀ j_ : Nat, zg N58_ 96 j_ = zg N5_ 96 j_ := fun j_ => ((hsN58_).jg (by decide) (by decide) j_).trans ((hsN46_).jg (by decide) (by decide) j_)
              refine zr_last (pc := 61) (zh_96 (hf_N58_.w hW)).2 (by decide) (by decide) (by (exact i7_)) (by (exact zo_70 hF27_ hu4_b i8_)) (zdal_p dlD_M_take_113 (i := 11) rfl) (fun N71_ hN71_ hsN71_ => ?_)
              have hf_N71_ : zFr [60, 63] [96, 98, 111, 112, 113] Mz N71_ := hf_N58_.tr hsN71_ (by decide) (by decide)
              have hb0_N71_ : zFr [63] [96, 112, 113] Mz N71_ := hb0_N58_.tr hsN71_ (by decide) (by decide)
              have e16_N71_ : ze N71_ 81 16 = ze N58_ 81 16 := hsN71_.e (by decide)
              have e26_N71_ : ze N71_ 81 26 = ze N58_ 81 26 := hsN71_.e (by decide)
              have e63_N71_ : ze N71_ 81 63 = ze N58_ 81 63 := hsN71_.e (by decide)
              have c72_ : zGB T N71_ := zGB.fr hsN71_ c60_ (by decide) (by decide)
              have c73_ : zCdR (P_ : Int) mv_ T N71_ := zCdR.fr hsN71_ c61_ (by decide) (by decide)
              have c74_ : zSR (gF T).length s_ N71_ := zSR.fr hsN71_ c62_ (by decide) (by decide)
              have c75_ : zTab T N71_ := zTab.fr hsN71_ c63_ (by decide) (by decide)
              have c76_ : zB 85 144 0 5 N71_ := zB.fr hsN71_ c64_ (by decide) (by decide)
              have c77_ : zJX T N71_ := zJX.fr hsN71_ c65_ (by decide) (by decide)
              have c78_ : zFirs T N71_ := zFirs.fr hsN71_ c66_ (by decide) (by decide)
              have c79_ : zSSm T N71_ := zSSm.fr hsN71_ c67_ (by decide) (by decide)
              have c80_ : zGD N71_ := zGD.fr hsN71_ c68_ (by decide) (by decide)
              have c81_ : zRmk (gF T).length (gmkI T) N71_ := zRmk.fr hsN71_ c69_ (by decide) (by decide)
              have c82_ : zTkZ (tkz (zrr P_ T (fun i_ => zrc Mz 85 i_ (P_ : Int)) (gFn T (u4_).toNat))) N71_ := zTkZ.fr hsN71_ c70_ (by decide) (by decide)
              have htn_ : (∀ j : Nat, (j : Int) < u4_ + 1 → zg N71_ 96 j = tkv (zrr P_ T (fun i_ => zrc Mz 85 i_ (P_ : Int)) (gFn T j)) a0_ a1_) := fun j_ hj_ => by by_cases g_ : (j_ : Int) = u4_; (rw [show j_ = (u4_).toNat by (exact zo_128 g_ hF27_ hj_ hu4_b i7_ i8_), zs_getJ hN71_ ⟨by (exact hv59_a), by (exact hv59_b)⟩]; exact hv_); (rw [zs_othJ hN71_ (by (exact zo_148 i7_ g_))]; exact (h96_ j_).trans (htk_ j_ (by (exact zo_130 hj_ g_))))
              refine zr_iinc (pc := 62) (i := 3) (a := u4_) (n := 1) (L2 := [some (.ref 81), some (.int (Int32.ofInt a0_)), some (.int (Int32.ofInt a1_)), some (.int (Int32.ofInt (u4_ + 1)))]) rfl (by decide) rfl (zdal_p dlD_M_take_113 (i := 12) rfl) ?_
              refine zw_goto (pc := 65) (tgt := 32) (by decide) (zdal_p dlD_M_take_113 (i := 13) rfl) ?_
              exact ih_32 (u4_ + 1) (by (exact zo_74 i7_)) (by (exact zo_75 hF27_ hu4_b i8_)) N71_ hb0_N71_ (show 0 ≤ (u4_ + 1) by first | with_reducible assumption | (exact zo_76 i7_) | assumption) (show (u4_ + 1) ≤ ((gF T).length : Int) by first | with_reducible assumption | (exact zo_1122 hc_37 hfl_ hu4_b i8_) | assumption) (show (∀ j : Nat, (j : Int) < (u4_ + 1) → zg N71_ 96 j = tkv (zrr P_ T (fun i_ => zrc Mz 85 i_ (P_ : Int)) (gFn T j)) a0_ a1_) by exact htn_) (by (exact zo_2397 hc_37 hfl_ hlt_32 hu4_b i8_))
        exact lp_32 _ 0 (by decide) (by decide) Mz zFr.rf (show 0 ≤ (0 : Int) by first | with_reducible assumption | (decide) | assumption) (show (0 : Int) ≤ ((gF T).length : Int) by first | with_reducible assumption | (exact zo_85) | assumption) (show (∀ j : Nat, (j : Int) < (0 : Int) → zg Mz 96 j = tkv (zrr P_ T (fun i_ => zrc Mz 85 i_ (P_ : Int)) (gFn T j)) a0_ a1_) by exact fun j_ hj_ => absurd hj_ (by (exact zo_131))) (Nat.lt_succ_self _)
      refine zr_if_le (pc := 13) (tgt := 30) ⟨ha0_a, ha0_b⟩ (by decide) (zdal_p dlD_M_take_112 (i := 7) rfl) (fun hc_13 => ?_) (fun hc_13 => ?_)
      · skip
        exact j_30 (show (a0_ = 0 ∨ ((a0_ = 1 ∨ a0_ = 2) ∧ 0 ≤ a1_ ∧ a1_ ≤ 6)) by first | with_reducible assumption | assumption | omega)
      · skip
        refine zw_iload_n (pc := 16) (n := 2) (x := Int32.ofInt a1_) rfl (zdal_p dlD_M_take_112 (i := 8) rfl) ?_
        refine zr_i2l (pc := 17) ⟨ha1_a, ha1_b⟩ (zdal_p dlD_M_take_112 (i := 9) rfl) ?_
        refine zw_lconst (pc := 18) (v := Int64.ofInt 0) (by decide) (zdal_p dlD_M_take_112 (i := 10) rfl) ?_
        refine zr_ldc2 (pc := 19) (n := 6) (by decide) k_M_495 (zdal_p dlD_M_take_112 (i := 11) rfl) ?_
        refine zr_callS hf.x (pc := 22) [.long (Int64.ofInt a1_), .long (Int64.ofInt 0), .long (Int64.ofInt 6)] [] l_M_131 (c_M_isIn l Mz (hf.w hW) a1_ (by (exact zo_282 ha1_a)) (by (exact zo_283 ha1_b)) 0 (by decide) (by decide) 6 (by decide) (by decide)) rfl rfl (by decide) (Nat.le_of_ble_eq_true rfl) (zdal_p dlD_M_take_112 (i := 12) rfl) ?_
        rintro _ N83_ ⟨v84_, rfl, ⟨hv84_a, hv84_b⟩, hsN83_, hp0_N83_⟩
        obtain rfl := hsN83_.eq.symm
        replace hp0_N83_ : ((v84_ = 1 ∧ 0 ≤ a1_ ∧ a1_ ≤ 6) ∨ (v84_ = 0 ∧ (a1_ < 0 ∨ 6 < a1_))) := hp0_N83_
        rcases hp0_N83_ with ⟨rfl, ha22_0_hp0_N83_, ha22_1_hp0_N83_⟩ | ⟨rfl, ha22_0_hp0_N83_⟩
        · skip
          show zW l m_M_take (zn Mz + 0, zw Mz + 0) Mz 25 [some (.ref 81), some (.int (Int32.ofInt a0_)), some (.int (Int32.ofInt a1_)), none] [.int (Int32.ofInt 1)] _
          refine zr_if_ne (pc := 25) (tgt := 30) ⟨(by decide), (by decide)⟩ (by decide) (zdal_p dlD_M_take_112 (i := 13) rfl) (fun hc_25 => ?_) (fun hc_25 => ?_)
          · skip
            exact j_30 (show (a0_ = 0 ∨ ((a0_ = 1 ∨ a0_ = 2) ∧ 0 ≤ a1_ ∧ a1_ ≤ 6)) by first | with_reducible assumption | assumption | omega)
          · skip
            exact absurd hc_25 (by decide)
        · skip
          show zW l m_M_take (zn Mz + 0, zw Mz + 0) Mz 25 [some (.ref 81), some (.int (Int32.ofInt a0_)), some (.int (Int32.ofInt a1_)), none] [.int (Int32.ofInt 0)] _
          refine zr_if_ne (pc := 25) (tgt := 30) ⟨(by decide), (by decide)⟩ (by decide) (zdal_p dlD_M_take_112 (i := 13) rfl) (fun hc_25 => ?_) (fun hc_25 => ?_)
          · skip
            exact absurd hc_25 (by decide)
          · skip
            refine zw_iconst (pc := 28) (v := Int32.ofInt (-1)) (by decide) (zdal_p dlD_M_take_112 (i := 14) rfl) ?_
            exact zr_iret (pc := 29) (ty := .int) rfl rfl ⟨by (decide), by (decide)⟩ hf (show (((a0_ = 0 ∨ ((a0_ = 1 ∨ a0_ = 2) ∧ 0 ≤ a1_ ∧ a1_ ≤ 6)) ∧ ∃ c_ : Nat → Nat, gTb mv_ c_ T ∧ zSR (gF T).length (zpush s_ (zsq (gF T).length (gmkI T) (fun j_ => tkv (zrr P_ T c_ (gFn T j_)) a0_ a1_))) Mz) ∨ (¬ (a0_ = 0 ∨ ((a0_ = 1 ∨ a0_ = 2) ∧ 0 ≤ a1_ ∧ a1_ ≤ 6)) ∧ zSR (gF T).length s_ Mz ∧ ((-1)) = (-1 : Int))) by exact Or.inr ⟨by omega, p5_, rfl⟩) (zdal_p dlD_M_take_112 (i := 15) rfl)
  · skip
    show zW l m_M_take (zn Mz + 0, zw Mz + 0) Mz 9 [some (.ref 81), some (.int (Int32.ofInt a0_)), some (.int (Int32.ofInt a1_)), none] [.int (Int32.ofInt 0)] _
    refine zr_if_eq (pc := 9) (tgt := 28) ⟨(by decide), (by decide)⟩ (by decide) (zdal_p dlD_M_take_112 (i := 5) rfl) (fun hc_9 => ?_) (fun hc_9 => ?_)
    · skip
      refine zw_iconst (pc := 28) (v := Int32.ofInt (-1)) (by decide) (zdal_p dlD_M_take_112 (i := 14) rfl) ?_
      exact zr_iret (pc := 29) (ty := .int) rfl rfl ⟨by (decide), by (decide)⟩ hf (show (((a0_ = 0 ∨ ((a0_ = 1 ∨ a0_ = 2) ∧ 0 ≤ a1_ ∧ a1_ ≤ 6)) ∧ ∃ c_ : Nat → Nat, gTb mv_ c_ T ∧ zSR (gF T).length (zpush s_ (zsq (gF T).length (gmkI T) (fun j_ => tkv (zrr P_ T c_ (gFn T j_)) a0_ a1_))) Mz) ∨ (¬ (a0_ = 0 ∨ ((a0_ = 1 ∨ a0_ = 2) ∧ 0 ≤ a1_ ∧ a1_ ≤ 6)) ∧ zSR (gF T).length s_ Mz ∧ ((-1)) = (-1 : Int))) by exact Or.inr ⟨by omega, p5_, rfl⟩) (zdal_p dlD_M_take_112 (i := 15) rfl)
    · skip
      exact absurd hc_9 (by decide)
noncomputable def gsr (T : zGT) (X : Nat) : Nat := @dite _ (∃ i : Nat, ∃ R, gLC T X R ∧ zSrt T R ((i : Nat) : Int)) (Classical.propDecidable _) (fun h => Classical.choose h) (fun _ => 0)
theorem gsr_u {T : zGT} (hO : gOK T) {X R : Nat} {v : Int} (h : gLC T X R) (hv : zSrt T R v) : v = ((gsr T X : Nat) : Int) := by
  have he : ∃ i : Nat, ∃ R, gLC T X R ∧ zSrt T R ((i : Nat) : Int) := ⟨v.toNat, R, h, by rw [Int.toNat_of_nonneg hv.1.1]; exact hv⟩
  have hs := Classical.choose_spec he
  have e : gsr T X = Classical.choose he := by
    unfold gsr
    rw [dif_pos he]
  obtain ⟨R', h1, h2⟩ := hs
  obtain rfl := h.uq h1
  rw [e]
  exact hv.u hO h2
theorem gsr_c {T : zGT} {X Y : Nat} (h : ∀ R, gLC T X R ↔ gLC T Y R) : gsr T X = gsr T Y := by
  have e : (fun i : Nat => ∃ R, gLC T X R ∧ zSrt T R ((i : Nat) : Int)) = (fun i : Nat => ∃ R, gLC T Y R ∧ zSrt T R ((i : Nat) : Int)) := funext fun i => propext ⟨fun ⟨R, h1, h2⟩ => ⟨R, (h R).mp h1, h2⟩, fun ⟨R, h1, h2⟩ => ⟨R, (h R).mpr h1, h2⟩⟩
  unfold gsr
  rw [e]
section GCG
variable {T : zGT} {H g x y h : Nat}
theorem gmz (hA : gGr T) (hG : gGd T) : gm T 0 0 = 0 := hA.1.2.1 0 (by have := hG.1; (exact zo_2516 this))
theorem gCl_i (hA : gGr T) (hG : gGd T) (hX : gEx T) (hB : gCl T H) (ha : h < gN T) (hb : H.testBit h = true) : H.testBit (gi T h) = true := by
  obtain ⟨V, ⟨hv1, hv2, -⟩, -⟩ := gOr_x hG hX ha
  have hin : ∀ k, H.testBit (gpw T h k) = true := fun k => by
    induction k with
    | zero => exact hb
    | succ k ih => exact hB.2 _ _ (gpw_lt hG ha k) ha ih hb
  have h1 := hA.2 h ha
  have hl := hA.l hG ha
  have key : ∀ b, b < gN T → gm T b h = 0 → gi T h = b := fun b hb1 hb2 => by
    have e : gm T b (gm T h (gi T h)) = gm T (gm T b h) (gi T h) := (hA.1.1 _ _ _ hb1 ha h1.1).symm
    rw [h1.2, hb2, hA.1.2.2 b hb1, hA.1.2.1 _ h1.1] at e
    exact e.symm
  by_cases g : V = 1
  · rw [g] at hv2
    have e : h = 0 := hv2
    have := key 0 (by have := hG.1; (exact zo_2516 this)) (by rw [e]; exact gmz hA hG)
    rw [this]
    exact hB.1
  · rw [show V - 1 = V - 2 + 1 by omega] at hv2
    rw [key _ (gpw_lt hG ha (V - 2)) hv2]
    exact hin _
theorem gcos_k (hA : gGr T) (hG : gGd T) (hB : gCl T H) (hx : x < gN T) : ∀ k, k ≤ gN T → (∀ h, h < k → H.testBit h = true → gup (gcoF T H x) x k ≤ gm T h x) ∧ ∃ h, h < gN T ∧ H.testBit h = true ∧ gup (gcoF T H x) x k = gm T h x
  | 0, _ => ⟨fun h hh => absurd hh (Nat.not_lt_zero h), 0, by omega, hB.1, (hA.1.2.1 x hx).symm⟩
  | k + 1, hk => by
    obtain ⟨h1, h2, h3, h4, h5⟩ := gcos_k hA hG hB hx k (by (exact zo_1077 hk))
    have e : gup (gcoF T H x) x (k + 1) = if (H.testBit k && decide (gm T k x < gup (gcoF T H x) x k)) = true then gm T k x else gup (gcoF T H x) x k := rfl
    rw [e]
    by_cases c : (H.testBit k && decide (gm T k x < gup (gcoF T H x) x k)) = true
    · rw [if_pos c]
      rw [Bool.and_eq_true, decide_eq_true_iff] at c
      refine ⟨fun h hh hb => ?_, k, by (exact zo_1078 hk), c.1, rfl⟩
      by_cases q : h = k
      · rw [q]
        exact Nat.le_refl _
      · exact Nat.le_trans (Nat.le_of_lt c.2) (h1 h (by (exact zo_2734 hh q)) hb)
    · rw [if_neg c]
      refine ⟨fun h hh hb => ?_, h2, h3, h4, h5⟩
      by_cases q : h = k
      · rw [q] at hb ⊢
        rcases Nat.lt_or_ge (gm T k x) (gup (gcoF T H x) x k) with q2 | q2
        · refine absurd ?_ c
          rw [hb, decide_eq_true q2]
          rfl
        · exact q2
      · exact h1 h (by (exact zo_2734 hh q)) hb
theorem gcos_x (hA : gGr T) (hG : gGd T) (hB : gCl T H) (hx : x < gN T) : (∀ h, h < gN T → H.testBit h = true → gcos T H x ≤ gm T h x) ∧ ∃ h, h < gN T ∧ H.testBit h = true ∧ gcos T H x = gm T h x := by
  rw [gcos_e]
  exact gcos_k hA hG hB hx (gN T) (Nat.le_refl _)
theorem gcos_h (hA : gGr T) (hG : gGd T) (hX : gEx T) (hB : gCl T H) (hx : x < gN T) (ha : h < gN T) (hb : H.testBit h = true) : gcos T H (gm T h x) = gcos T H x := by
  have hy := hG.2.2.2 h x ha hx
  obtain ⟨a1, k, k1, k2, k3⟩ := gcos_x hA hG hB hx
  obtain ⟨b1, m, m1, m2, m3⟩ := gcos_x hA hG hB hy
  have hi := hA.2 h ha
  have hib := gCl_i hA hG hX hB ha hb
  refine Nat.le_antisymm ?_ ?_
  · have e : gm T (gm T k (gi T h)) (gm T h x) = gm T k x := by
      rw [hA.1.1 _ _ _ k1 hi.1 hy, ← hA.1.1 _ _ _ hi.1 ha hx, hA.l hG ha, hA.1.2.1 x hx]
    rw [k3, ← e]
    exact b1 _ (hG.2.2.2 _ _ k1 hi.1) (hB.2 _ _ k1 hi.1 k2 hib)
  · rw [m3, ← hA.1.1 _ _ _ m1 ha hx]
    exact a1 _ (hG.2.2.2 _ _ m1 ha) (hB.2 _ _ m1 ha m2 hb)
theorem gcos_lt (hA : gGr T) (hG : gGd T) (hB : gCl T H) (hx : x < gN T) : gcos T H x < gN T := by
  obtain ⟨-, k, k1, k2, k3⟩ := gcos_x hA hG hB hx
  rw [k3]
  exact hG.2.2.2 _ _ k1 hx
theorem gcos_i (hA : gGr T) (hG : gGd T) (hX : gEx T) (hB : gCl T H) (hx : x < gN T) : gcos T H (gcos T H x) = gcos T H x := by
  obtain ⟨-, k, k1, k2, k3⟩ := gcos_x hA hG hB hx
  conv => lhs; rw [k3]
  exact gcos_h hA hG hX hB hx k1 k2
theorem gcos_n (hA : gGr T) (hG : gGd T) (hX : gEx T) (hB : gCl T H) (hH : H < 2 ^ gN T) (hx : x < gN T) (hc : gcos T H x = x) : zct (fun y => gcos T H y = x) (gN T) = gcb H := by
  have h24 := hG.2.1
  rw [gcb_nz hH (by omega), ← zct_ip (p := fun i => H.testBit i = true) (g := fun h => gm T h x) (n := gN T) (gN T) (fun k hk _ => hG.2.2.2 _ _ hk hx) (fun i j hij hj _ _ e => by
    have := hA.rc hG hx (by omega : i < gN T) hj e
    omega)]
  refine zct_c (fun y hy => ?_)
  constructor
  · intro e
    obtain ⟨-, k, k1, k2, k3⟩ := gcos_x hA hG hB hy
    have hi := hA.2 k k1
    refine ⟨gi T k, hi.1, gCl_i hA hG hX hB k1 k2, ?_⟩
    show gm T (gi T k) x = y
    rw [← e, k3, ← hA.1.1 _ _ _ hi.1 k1 hy, hA.l hG k1, hA.1.2.1 y hy]
  · rintro ⟨k, k1, k2, k3⟩
    have e : gm T k x = y := k3
    rw [← e, gcos_h hA hG hX hB hx k1 k2, hc]
theorem gtr_in (hA : gGr T) (hG : gGd T) (hX : gEx T) (hB : gCl T H) (hH : H < 2 ^ gN T) (ha : h < gN T) (hb : H.testBit h = true) : gtr T H h = H := by
  have hi := hA.2 h ha
  have hib := gCl_i hA hG hX hB ha hb
  refine Nat.eq_of_testBit_eq fun y => ?_
  rw [Bool.eq_iff_iff, gtr_x hG ha]
  constructor
  · rintro ⟨x, x1, x2, rfl⟩
    exact hB.2 _ _ (hG.2.2.2 _ _ hi.1 x1) ha (hB.2 _ _ hi.1 x1 hib x2) hb
  · intro hy
    have hyn := gbit_lt hH hy
    refine ⟨gm T (gm T h y) (gi T h), hG.2.2.2 _ _ (hG.2.2.2 _ _ ha hyn) hi.1, hB.2 _ _ (hG.2.2.2 _ _ ha hyn) hi.1 (hB.2 _ _ ha hyn hb hy) hib, ?_⟩
    rw [← hA.1.1 _ _ _ hi.1 (hG.2.2.2 _ _ ha hyn) hi.1, ← hA.1.1 _ _ _ hi.1 ha hyn, hA.l hG ha, hA.1.2.1 y hyn, hA.1.1 _ _ _ hyn hi.1 ha, hA.l hG ha, hA.1.2.2 y hyn]
theorem gtr_co (hA : gGr T) (hG : gGd T) (hX : gEx T) (hB : gCl T H) (hH : H < 2 ^ gN T) (hx : x < gN T) : gtr T H (gcos T H x) = gtr T H x := by
  obtain ⟨-, k, k1, k2, k3⟩ := gcos_x hA hG hB hx
  rw [k3, ← gtr_cm hA hG k1 hx, gtr_in hA hG hX hB hH k1 k2]
theorem gsr_co (hA : gGr T) (hG : gGd T) (hX : gEx T) (hB : gCl T H) (hx : x < gN T) : gsr T (H ||| 2 ^ gcos T H x) = gsr T (H ||| 2 ^ x) := by
  obtain ⟨-, k, k1, k2, k3⟩ := gcos_x hA hG hB hx
  have hi := hA.2 k k1
  have hib := gCl_i hA hG hX hB k1 k2
  have hy := hG.2.2.2 k x k1 hx
  have key : ∀ C, gCl T C → (gSb (H ||| 2 ^ gcos T H x) C ↔ gSb (H ||| 2 ^ x) C) := fun C hC => by
    rw [k3]
    constructor
    · intro h
      have h1 : gSb H C := fun q hq => h q (gSb.ol _ _ q hq)
      have h2 : C.testBit (gm T k x) = true := h _ (gSb.orr _ _ _ (by rw [Nat.testBit_two_pow, decide_eq_true_iff]))
      refine gSb.or h1 (gSb.p2 ?_)
      have h3 := hC.2 _ _ hi.1 hy (h1 _ hib) h2
      rw [← hA.1.1 _ _ _ hi.1 k1 hx, hA.l hG k1, hA.1.2.1 x hx] at h3
      exact h3
    · intro h
      have h1 : gSb H C := fun q hq => h q (gSb.ol _ _ q hq)
      have h2 : C.testBit x = true := h _ (gSb.orr _ _ _ (by rw [Nat.testBit_two_pow, decide_eq_true_iff]))
      exact gSb.or h1 (gSb.p2 (hC.2 _ _ k1 hx (h1 _ k2) h2))
  refine gsr_c (fun R => ?_)
  constructor
  · rintro ⟨a1, a2, a3, a4⟩
    exact ⟨a1, (key R a3).mp a2, a3, fun C hC hs => a4 C hC ((key C hC).mpr hs)⟩
  · rintro ⟨a1, a2, a3, a4⟩
    exact ⟨a1, (key R a3).mpr a2, a3, fun C hC hs => a4 C hC ((key C hC).mp hs)⟩
end GCG
noncomputable def zmi (T : zGT) (H : Nat) (F : Nat → Int) (x : Nat) : Int := zif (gtr T H x = H ∧ gcos T H x = x) (F x) 0
noncomputable def zni (T : zGT) (H : Nat) (F : Nat → Int) (x : Nat) : Int := zif (gtr T H x = H) (F x) 0
theorem zsm_zct {c : Int} (p : Nat → Prop) : ∀ n, zsm (fun g => zif (p g) c 0) n = c * ((zct p n : Nat) : Int)
  | 0 => (Int.mul_zero c).symm
  | n + 1 => by
    show zsm (fun g => zif (p g) c 0) n + zif (p n) c 0 = c * ((zct p (n + 1) : Nat) : Int)
    rw [zsm_zct p n]
    by_cases h : p n
    · rw [zif_t h, zct_t h]
      show _ = c * (((zct p n : Nat) : Int) + 1)
      rw [Int.mul_add, Int.mul_one]
    · rw [zif_f h, zct_f h, Int.add_zero]
theorem zcg_m {T : zGT} {H : Nat} (hA : gGr T) (hG : gGd T) (hX : gEx T) (hB : gCl T H) (hH : H < 2 ^ gN T) (F : Nat → Int) (hF : ∀ g, g < gN T → F (gcos T H g) = F g) : zsm (zni T H F) (gN T) = ((gcb H : Nat) : Int) * zsm (zmi T H F) (gN T) := by
  have e1 : ∀ g, g < gN T → zni T H F g = zsm (fun x => zif (gcos T H g = x) (zmi T H F x) 0) (gN T) := fun g hg => by
    rw [zsm_1 (f := fun x => zif (gcos T H g = x) (zmi T H F x) 0) (a := gcos T H g) (gcos_lt hA hG hB hg) (fun i _ hi => zif_f (fun q => hi q.symm))]
    show _ = zif (gcos T H g = gcos T H g) (zmi T H F (gcos T H g)) 0
    rw [zif_t rfl]
    unfold zni zmi
    rw [gtr_co hA hG hX hB hH hg, gcos_i hA hG hX hB hg, hF g hg]
    by_cases c : gtr T H g = H
    · rw [zif_t c, zif_t ⟨c, rfl⟩]
    · rw [zif_f c, zif_f (fun q => c q.1)]
  rw [zsm_c _ e1, zsm_sw, ← zsm_mul]
  refine zsm_c _ (fun x hx => ?_)
  rw [zsm_zct (c := zmi T H F x) (fun g => gcos T H g = x)]
  unfold zmi
  by_cases c : gtr T H x = H ∧ gcos T H x = x
  · rw [zif_t c, gcos_n hA hG hX hB hH hx c.2, Int.mul_comm]
  · rw [zif_f c, Int.mul_zero, Int.zero_mul]
theorem gmm_z (T : zGT) (H : Nat) : ∀ k, ((gup (gmmF T H) 0 k : Nat) : Int) = zsm (zmi T H (fun _ => 1)) k
  | 0 => rfl
  | k + 1 => by
    show ((gmmF T H k (gup (gmmF T H) 0 k) : Nat) : Int) = zsm (zmi T H (fun _ => 1)) k + zif (gtr T H k = H ∧ gcos T H k = k) 1 0
    rw [← gmm_z T H k]
    unfold gmmF
    by_cases c : gtr T H k = H ∧ gcos T H k = k
    · rw [if_pos c, zif_t c]
      rfl
    · rw [if_neg c, zif_f c, Int.add_zero]
theorem zni_n (T : zGT) (H : Nat) (n : Nat) : zsm (zni T H (fun _ => 1)) n = ((zct (fun g => gtr T H g = H) n : Nat) : Int) := by
  have h := zsm_zct (c := 1) (fun g => gtr T H g = H) n
  rw [Int.one_mul] at h
  exact h
noncomputable def zcgF (T : zGT) (H : Nat) (f : Nat → Int) : Nat → Int := fun x => f (gsr T (H ||| 2 ^ x))
def zCgr (T : zGT) (H : Nat) (f : Nat → Int) : Prop := ((gmm T H : Nat) : Int) ∣ zsm (zmi T H (zcgF T H f)) (gN T)
section ZCG
variable {T : zGT} {H : Nat} {f : Nat → Int}
theorem zcg_f (hT : T ∈ gTabs) (hA : gGr T) (hF : H ∈ gF T) (f : Nat → Int) : zsm (zni T H (zcgF T H f)) (gN T) = ((gcb H : Nat) : Int) * zsm (zmi T H (zcgF T H f)) (gN T) ∧ ((zct (fun g => gtr T H g = H) (gN T) : Nat) : Int) = ((gcb H : Nat) : Int) * ((gmm T H : Nat) : Int) ∧ 1 ≤ gcb H := by
  have hO := gTabs_ok T hT
  have hX := gTabs_ex T hT
  have hs := (hO.2.2.1.2.1 H hF).1
  have hsb := (hO.2.1.2.2 H hs).1
  refine ⟨zcg_m hA hO.1 hX hsb.2.2 hsb.2.1 _ (fun g hg => ?_), ?_, ?_⟩
  · unfold zcgF
    rw [gsr_co hA hO.1 hX hsb.2.2 hg]
  · rw [← zni_n, zcg_m hA hO.1 hX hsb.2.2 hsb.2.1 (fun _ => 1) (fun _ _ => rfl)]
    rw [show ((gmm T H : Nat) : Int) = zsm (zmi T H (fun _ => 1)) (gN T) from gmm_z T H (gN T)]
  · exact gcb_p hsb.2.2.1 (hO.sb hs)
theorem zcg_d (hT : T ∈ gTabs) (hA : gGr T) (hF : H ∈ gF T) : ((zct (fun g => gtr T H g = H) (gN T) : Nat) : Int) ∣ zsm (zni T H (zcgF T H f)) (gN T) ↔ zCgr T H f := by
  obtain ⟨h1, h2, h3⟩ := zcg_f hT hA hF f
  rw [h1, h2]
  exact Int.mul_dvd_mul_iff_left (by (exact zo_2418 h3))
theorem zmi_b {F : Nat → Int} {B : Nat} (h : ∀ x, (F x).natAbs ≤ B) (x : Nat) : (zmi T H F x).natAbs ≤ B := by
  unfold zmi
  by_cases c : gtr T H x = H ∧ gcos T H x = x
  · rw [zif_t c]
    exact h x
  · rw [zif_f c]
    exact Nat.zero_le _
theorem zni_b {F : Nat → Int} {B : Nat} (h : ∀ x, (F x).natAbs ≤ B) (x : Nat) : (zni T H F x).natAbs ≤ B := by
  unfold zni
  by_cases c : gtr T H x = H
  · rw [zif_t c]
    exact h x
  · rw [zif_f c]
    exact Nat.zero_le _
end ZCG
def zMkO (T : zGT) (f : Nat → Int) (v : Int) : Prop := (v = 0 ∧ ∀ j, j < (gF T).length → zCgr T (gFn T j) f) ∨ ∃ j : Nat, j < (gF T).length ∧ v = (j : Int) + 1 ∧ ¬ zCgr T (gFn T j) f ∧ ∀ i, i < j → zCgr T (gFn T i) f
theorem zMkO_u {T : zGT} {f : Nat → Int} {v w : Int} (h : zMkO T f v) (h' : zMkO T f w) : v = w := by
  rcases h with ⟨a1, a2⟩ | ⟨j, a1, a2, a3, a4⟩ <;> rcases h' with ⟨b1, b2⟩ | ⟨i, b1, b2, b3, b4⟩
  · omega
  · exact absurd (a2 i b1) b3
  · exact absurd (b2 j a1) a3
  · rcases Nat.lt_trichotomy i j with g | g | g
    · exact absurd (a4 i g) b3
    · omega
    · exact absurd (b4 j g) a3
def zMss (T : zGT) (H : Nat) (M : zMem) (x : Int) : Prop := True ∧ ∀ f : Nat → Int, zsm (fun k => f (ze M 109 k).toNat) (ze M 81 55).toNat = zsm (zmi T H (zcgF T H f)) x.toNat
section ZMS
variable {T : zGT} {H : Nat} {M N P : zMem} {x : Int} {S C : List Nat}
theorem zMss_0 (h : ze M 81 55 = 0) : zMss T H M 0 := ⟨trivial, fun f => by
  rw [h]
  rfl⟩
theorem zMss_n (h : zMss T H M x) (x0 : 0 ≤ x) (hn : gtr T H x.toNat ≠ H ∨ gcos T H x.toNat ≠ x.toNat) : zMss T H M (x + 1) := ⟨trivial, fun f => by
  rw [h.2 f, show (x + 1).toNat = x.toNat + 1 by (exact zo_1084 x0)]
  show _ = zsm (zmi T H (zcgF T H f)) x.toNat + zif (gtr T H x.toNat = H ∧ gcos T H x.toNat = x.toNat) (zcgF T H f x.toNat) 0
  rw [zif_f (fun q => by
    rcases hn with hn | hn
    · exact hn q.1
    · exact hn q.2), Int.add_zero]⟩
theorem zMss_s {v : Int} (h : zMss T H M x) (x0 : 0 ≤ x) (h1 : gtr T H x.toNat = H) (h2 : gcos T H x.toNat = x.toNat) (hv : v = ((gsr T (H ||| 2 ^ x.toNat) : Nat) : Int)) (hN : N = zsI M 109 (ze M 81 55).toNat (Int32.ofInt v)) (hv2 : zn32 v) (hP : zFr [55] [] N P) (h55 : ze P 81 55 = ze M 81 55 + 1) (c0 : 0 ≤ ze M 81 55) : zMss T H P (x + 1) := ⟨trivial, fun f => by
  have e1 : ∀ k : Nat, k < (ze M 81 55).toNat → f (ze P 109 k).toNat = f (ze M 109 k).toNat := fun k hk => by
    rw [hP.ie (by decide) (by decide) k, zs_oth hN (by omega)]
  have e2 : ze P 109 (ze M 81 55).toNat = v := by
    rw [hP.ie (by decide) (by decide)]
    exact zs_get hN hv2
  rw [h55, show (ze M 81 55 + 1).toNat = (ze M 81 55).toNat + 1 by (exact zo_1084 c0), show (x + 1).toNat = x.toNat + 1 by (exact zo_1084 x0)]
  show zsm (fun k => f (ze P 109 k).toNat) (ze M 81 55).toNat + f (ze P 109 (ze M 81 55).toNat).toNat = zsm (zmi T H (zcgF T H f)) x.toNat + zif (gtr T H x.toNat = H ∧ gcos T H x.toNat = x.toNat) (zcgF T H f x.toNat) 0
  rw [zif_t ⟨h1, h2⟩, zsm_c _ e1, h.2 f, e2, hv, Int.toNat_natCast]
  rfl⟩
theorem zMss.fr (hf : zFr S C M N) (h : zMss T H M x) (hs : 55 ∉ S) (hc : 109 ∉ C) : zMss T H N x := ⟨trivial, fun f => by
  rw [hf.e hs, ← h.2 f]
  exact zsm_c _ (fun k _ => by rw [hf.ie (by decide) hc k])⟩
end ZMS
theorem zsm_s64 {f : Nat → Int} {a b x k : Int} (h : Int64.ofInt a = Int64.ofInt (zsm f k.toNat)) (hb : Int64.ofInt b = Int64.ofInt (a + x)) (hx : x = f k.toNat) (k0 : 0 ≤ k) : Int64.ofInt b = Int64.ofInt (zsm f (k + 1).toNat) := by
  rw [show (k + 1).toNat = k.toNat + 1 by (exact zo_1084 k0)]
  show _ = Int64.ofInt (zsm f k.toNat + f k.toNat)
  rw [hb, Int64.ofInt_add, h, hx, ← Int64.ofInt_add]
theorem gsr_lt {T : zGT} (hT : T ∈ gTabs) (X : Nat) : gsr T X < (gF T).length := by
  have hF := (gT_zTA hT).1.1
  by_cases h : ∃ i : Nat, ∃ R, gLC T X R ∧ zSrt T R ((i : Nat) : Int)
  · have hs := Classical.choose_spec h
    have e : gsr T X = Classical.choose h := by
      unfold gsr
      rw [dif_pos h]
    obtain ⟨R', h1, h2⟩ := hs
    have h3 := h2.1
    rw [e]
    (exact zo_2422 h3.2)
  · unfold gsr
    rw [dif_neg h]
    (exact zo_2516 hF)
theorem zCgr_c {T : zGT} (hT : T ∈ gTabs) {H : Nat} {f f' : Nat → Int} (h : ∀ j, j < (gF T).length → f j = f' j) : zCgr T H f ↔ zCgr T H f' := by
  have e : zcgF T H f = zcgF T H f' := funext fun x => h _ (gsr_lt hT _)
  unfold zCgr
  rw [e]
theorem zMkO_c {T : zGT} (hT : T ∈ gTabs) {f f' : Nat → Int} {v : Int} (h : ∀ j, j < (gF T).length → f j = f' j) (ho : zMkO T f v) : zMkO T f' v := by
  rcases ho with ⟨a1, a2⟩ | ⟨j, a1, a2, a3, a4⟩
  · exact Or.inl ⟨a1, fun j hj => (zCgr_c hT h).mp (a2 j hj)⟩
  · exact Or.inr ⟨j, a1, a2, fun q => a3 ((zCgr_c hT h).mpr q), fun i hi => (zCgr_c hT h).mp (a4 i hi)⟩
theorem zmi_sb {T : zGT} (hT : T ∈ gTabs) {H n B : Nat} {f : Nat → Int} (hn : n ≤ 24) (hf : ∀ j, j < (gF T).length → (f j).natAbs ≤ B) : (zsm (zmi T H (zcgF T H f)) n).natAbs ≤ 24 * B := by
  have h := zsm_b (f := zmi T H (zcgF T H f)) (B := B) n (fun i _ => zmi_b (fun x => hf _ (gsr_lt hT _)) i)
  exact Nat.le_trans h (Nat.mul_le_mul_right _ hn)
theorem zni_sb {T : zGT} (hT : T ∈ gTabs) {H n B : Nat} {f : Nat → Int} (hn : n ≤ 24) (hf : ∀ j, j < (gF T).length → (f j).natAbs ≤ B) : (zsm (zni T H (zcgF T H f)) n).natAbs ≤ 24 * B := by
  have h := zsm_b (f := zni T H (zcgF T H f)) (B := B) n (fun i _ => zni_b (fun x => hf _ (gsr_lt hT _)) i)
  exact Nat.le_trans h (Nat.mul_le_mul_right _ hn)
theorem zlrem_d {a b : Int} (a0 : -4611686018427387903 ≤ a) (a1 : a ≤ 4611686018427387903) (b0 : 1 ≤ b) (b1 : b ≤ 1000) : zlrem a b = 0 ↔ b ∣ a := by
  have hq := zq_t a0 a1 b0 (by omega)
  have e : zlrem a b = a.tmod b := by
    have hb := zq_td a b0
    have hmul : (a.tdiv b * b).natAbs ≤ a.natAbs := by
      rw [Int.natAbs_mul, Int.natAbs_tdiv]
      exact Nat.div_mul_le_self _ _
    have hm : (a.tmod b).natAbs ≤ b.natAbs := by
      rw [Int.natAbs_tmod]
      exact Nat.le_of_lt (Nat.mod_lt _ (by omega))
    have hd := Int.tmod_def a b
    unfold zlrem
    have e1 : Int64.ofInt a / Int64.ofInt b = Int64.ofInt (a.tdiv b) := by
      have h1 : (Int64.ofInt a / Int64.ofInt b).toInt = a.tdiv b := hq
      rw [← h1, Int64.ofInt_toInt]
    rw [e1, ← Int64.ofInt_mul, ← Int64.ofInt_sub, Int.mul_comm (a.tdiv b), ← hd]
    exact z64 ⟨by omega, by omega⟩
  rw [e]
  exact (Int.dvd_iff_tmod_eq_zero).symm
theorem zsh_2 {k : Int} (k0 : 0 ≤ k) (k1 : k < 31) : (zshl 1 k).toNat = 2 ^ k.toNat := by
  have h : ∀ p : Nat, p < 31 → (zshl 1 (p : Int)).toNat = 2 ^ p := by decide +kernel
  have h2 := h k.toNat (by (exact zo_3018 k0 k1))
  rw [Int.toNat_of_nonneg k0] at h2
  exact h2
theorem norm_in {T : zGT} {H : Nat} {v g : Int} (hv : v = ((zbq (gNb T H) (gN T) : Nat) : Int)) (hg : 0 ≤ g ∧ g < (gN T : Int)) : zbt v g ↔ gtr T H g.toNat = H := by
  show v.toNat.testBit g.toNat = true ↔ _
  rw [hv, Int.toNat_natCast, zbq_t]
  exact ⟨fun q => q.2, fun q => ⟨by (exact zo_1085 hg.1 hg.2), q⟩⟩
theorem norm_or {T : zGT} {H : Nat} {v g : Int} (hv : v = ((H : Nat) : Int)) (hH : H < 16777216) (g0 : 0 ≤ g) (g1 : g < 31) : (zor v (zshl 1 g)).toNat = H ||| 2 ^ g.toNat := by
  have h1 := zsh_2 g0 g1
  have h2 : 0 ≤ zshl 1 g := by
    have h : ∀ p : Nat, p < 31 → 0 ≤ zshl 1 (p : Int) := by decide +kernel
    have h3 := h g.toNat (by (exact zo_3018 g0 g1))
    rwa [Int.toNat_of_nonneg g0] at h3
  have h3 : zshl 1 g = ((2 ^ g.toNat : Nat) : Int) := by
    rw [← h1]
    exact (Int.toNat_of_nonneg h2).symm
  have h4 : 2 ^ g.toNat < 2 ^ 31 := Nat.pow_lt_pow_right (by decide) (by (exact zo_3018 g0 g1))
  rw [hv, h3, zor_n _ _ (by omega) (by omega), Int.toNat_natCast]
theorem zsm_n64 {f : Nat → Int} {a k : Int} (h : Int64.ofInt a = Int64.ofInt (zsm f k.toNat)) (hx : f k.toNat = 0) (k0 : 0 ≤ k) : Int64.ofInt a = Int64.ofInt (zsm f (k + 1).toNat) := by
  rw [show (k + 1).toNat = k.toNat + 1 by (exact zo_1084 k0)]
  show _ = Int64.ofInt (zsm f k.toNat + f k.toNat)
  rw [hx, Int.add_zero]
  exact h
theorem nrm_p {T : zGT} (hT : T ∈ gTabs) {H : Nat} (hF : H ∈ gF T) : 1 ≤ zct (fun g => gtr T H g = H) (gN T) := by
  have hO := gTabs_ok T hT
  have hX := gTabs_ex T hT
  have h1 := hO.1.1
  have h2 : zct (fun g => gtr T H g = H) (0 + 1) = zct (fun g => gtr T H g = H) 0 + 1 := zct_t (hX.2.2.1 H hF)
  have h3 := zct_ad (fun g => gtr T H g = H) 1 (gN T - 1)
  rw [show 1 + (gN T - 1) = gN T by omega] at h3
  rw [h3]
  have h4 : zct (fun g => gtr T H g = H) 1 = zct (fun g => gtr T H g = H) 0 + 1 := h2
  omega
theorem zsh_0 {k : Int} (k0 : 0 ≤ k) (k1 : k < 31) : 0 ≤ zshl 1 k := by
  have h : ∀ p : Nat, p < 31 → 0 ≤ zshl 1 (p : Int) := by decide +kernel
  have h2 := h k.toNat (by (exact zo_3018 k0 k1))
  rwa [Int.toNat_of_nonneg k0] at h2
def zNb (b : Nat → Int) (n p : Nat) (v : Int) (q : Nat) : Prop := ∃ s t : Nat, ((p < n ∧ b p = 45 ∧ s = p + 1) ∨ (¬ (p < n ∧ b p = 45) ∧ s = p)) ∧ t = zru zpD b n s ∧ (s + 1 ≤ t ∧ t ≤ s + 6) ∧ (t < n → zpB (b t) = true) ∧ ((p < n ∧ b p = 45 ∧ v = -zvl b s (t - s)) ∨ (¬ (p < n ∧ b p = 45) ∧ v = zvl b s (t - s))) ∧ q = zru zpB b n t
theorem zNb_u {b : Nat → Int} {n p q q' : Nat} {v v' : Int} (h : zNb b n p v q) (h' : zNb b n p v' q') : v = v' ∧ q = q' := by
  obtain ⟨s, t, a1, a2, a3, a4, a5, a6⟩ := h
  obtain ⟨s', t', b1, b2, b3, b4, b5, b6⟩ := h'
  have es : s = s' := by
    rcases a1 with ⟨x1, x2, x3⟩ | ⟨x1, x3⟩ <;> rcases b1 with ⟨y1, y2, y3⟩ | ⟨y1, y3⟩
    · omega
    · exact absurd ⟨x1, x2⟩ y1
    · exact absurd ⟨y1, y2⟩ x1
    · omega
  subst es
  have et : t = t' := a2.trans b2.symm
  subst et
  refine ⟨?_, a6.trans b6.symm⟩
  rcases a5 with ⟨x1, x2, x3⟩ | ⟨x1, x3⟩ <;> rcases b5 with ⟨y1, y2, y3⟩ | ⟨y1, y3⟩
  · rw [x3, y3]
  · exact absurd ⟨x1, x2⟩ y1
  · exact absurd ⟨y1, y2⟩ x1
  · rw [x3, y3]
def zRwn (b : Nat → Int) (n : Nat) (p : Nat) (f : Nat → Int) : Nat → Nat → Prop
  | 0, q => q = p
  | k + 1, q => ∃ q', zRwn b n p f k q' ∧ zNb b n q' (f k) q
theorem zRwn_u {b : Nat → Int} {n p : Nat} {f f' : Nat → Int} : ∀ {k q q' : Nat}, zRwn b n p f k q → zRwn b n p f' k q' → (∀ i, i < k → f i = f' i) ∧ q = q'
  | 0, _, _, h, h' => ⟨fun i hi => absurd hi (Nat.not_lt_zero i), h.trans h'.symm⟩
  | k + 1, q, q', ⟨r, h1, h2⟩, ⟨r', h1', h2'⟩ => by
    obtain ⟨e1, rfl⟩ := zRwn_u h1 h1'
    obtain ⟨e2, e3⟩ := zNb_u h2 h2'
    refine ⟨fun i hi => ?_, e3⟩
    by_cases g : i = k
    · rw [g]
      exact e2
    · exact e1 i (by (exact zo_2734 hi g))
theorem zRwn_c {b : Nat → Int} {n p : Nat} {f f' : Nat → Int} : ∀ {k q : Nat}, (∀ i, i < k → f i = f' i) → zRwn b n p f k q → zRwn b n p f' k q
  | 0, _, _, h => h
  | k + 1, q, hc, ⟨r, h1, h2⟩ => ⟨r, zRwn_c (fun i hi => hc i (by (exact zo_2541 hi))) h1, by
    rw [← hc k (by (exact zo_1083))]
    exact h2⟩
theorem zRwn_p {b : Nat → Int} {n p : Nat} {f : Nat → Int} : ∀ {m k q : Nat}, k ≤ m → zRwn b n p f m q → ∃ r, zRwn b n p f k r
  | 0, k, q, hk, h => ⟨q, by rw [show k = 0 by omega]; exact h⟩
  | m + 1, k, q, hk, h => by
    by_cases g : k = m + 1
    · rw [g]
      exact ⟨q, h⟩
    · obtain ⟨r, h1, -⟩ := h
      exact zRwn_p (by omega) h1
def zRown (b : Nat → Int) (n F : Nat) (f : Nat → Int) : Prop := ∃ q, zRwn b n (zru zpB b n 0) f F q ∧ n ≤ q
theorem zRown_u {b : Nat → Int} {n F : Nat} {f f' : Nat → Int} (h : zRown b n F f) (h' : zRown b n F f') : ∀ i, i < F → f i = f' i := by
  obtain ⟨q, h1, -⟩ := h
  obtain ⟨q', h2, -⟩ := h'
  exact (zRwn_u h1 h2).1
theorem zRown_n {b : Nat → Int} {n F k q : Nat} {g : Nat → Int} (h : zRwn b n (zru zpB b n 0) g k q) (hk : k < F) (hn : ¬ ∃ v r, zNb b n q v r) : ¬ ∃ f, zRown b n F f := by
  rintro ⟨f, r, h1, -⟩
  obtain ⟨r2, h2⟩ := zRwn_p (k := k + 1) (by omega) h1
  obtain ⟨r3, h3, h4⟩ := h2
  obtain ⟨-, e⟩ := zRwn_u h h3
  rw [← e] at h4
  exact hn ⟨_, _, h4⟩
theorem zRown_e {b : Nat → Int} {n F q : Nat} {g : Nat → Int} (h : zRwn b n (zru zpB b n 0) g F q) (hq : q < n) : ¬ ∃ f, zRown b n F f := by
  rintro ⟨f, r, h1, h2⟩
  obtain ⟨-, e⟩ := zRwn_u h h1
  omega
theorem zRwn_s {b : Nat → Int} {n p k q r : Nat} {f g : Nat → Int} {v : Int} (h : zRwn b n p f k q) (h2 : zNb b n q v r) (hg : ∀ i, i < k → g i = f i) (hv : g k = v) : zRwn b n p g (k + 1) r := ⟨q, zRwn_c (fun i hi => (hg i hi).symm) h, by
  rw [hv]
  exact h2⟩
def zNs (b : Nat → Int) (n p : Nat) (v : Int) (t : Nat) : Prop := ∃ s : Nat, ((p < n ∧ b p = 45 ∧ s = p + 1) ∨ (¬ (p < n ∧ b p = 45) ∧ s = p)) ∧ t = zru zpD b n s ∧ (s + 1 ≤ t ∧ t ≤ s + 6) ∧ ((p < n ∧ b p = 45 ∧ v = -zvl b s (t - s)) ∨ (¬ (p < n ∧ b p = 45) ∧ v = zvl b s (t - s)))
theorem zNs.b {b : Nat → Int} {n p t q : Nat} {v : Int} (h : zNs b n p v t) (ht : t < n → zpB (b t) = true) (hq : q = zru zpB b n t) : zNb b n p v q := by
  obtain ⟨s, h1, h2, h3, h4⟩ := h
  exact ⟨s, t, h1, h2, h3, ht, h4, hq⟩
theorem zNs_no {b : Nat → Int} {n p : Nat} (h : ¬ ∃ v t, zNs b n p v t) : ¬ ∃ v q, zNb b n p v q := by
  rintro ⟨v, q, s, t, h1, h2, h3, h4, h5, h6⟩
  exact h ⟨v, t, s, h1, h2, h3, h5⟩
theorem zNs_t {b : Nat → Int} {n p t t' : Nat} {v v' : Int} (h : zNs b n p v t) (h' : zNs b n p v' t') : t = t' := by
  obtain ⟨s, a1, a2, a3, a4⟩ := h
  obtain ⟨s', b1, b2, b3, b4⟩ := h'
  have es : s = s' := by
    rcases a1 with ⟨x1, x2, x3⟩ | ⟨x1, x3⟩ <;> rcases b1 with ⟨y1, y2, y3⟩ | ⟨y1, y3⟩
    · omega
    · exact absurd ⟨x1, x2⟩ y1
    · exact absurd ⟨y1, y2⟩ x1
    · omega
  subst es
  exact a2.trans b2.symm
theorem zNs_nb {b : Nat → Int} {n p t : Nat} {v : Int} (h : zNs b n p v t) (h1 : t < n) (h2 : zpB (b t) = false) : ¬ ∃ v q, zNb b n p v q := by
  rintro ⟨v', q, s', t', b1, b2, b3, b4, b5, b6⟩
  have e := zNs_t h ⟨s', b1, b2, b3, b5⟩
  rw [← e] at b4
  have := b4 h1
  rw [h2] at this
  cases this
theorem zNb_no {b : Nat → Int} {n p s t : Nat} (hs : (p < n ∧ b p = 45 ∧ s = p + 1) ∨ (¬ (p < n ∧ b p = 45) ∧ s = p)) (ht : t = zru zpD b n s) (hb : ¬ (s + 1 ≤ t ∧ t ≤ s + 6) ∨ (t < n ∧ zpB (b t) = false)) : ¬ ∃ v q, zNb b n p v q := by
  rintro ⟨v, q, s', t', b1, b2, b3, b4, b5, b6⟩
  have es : s' = s := by
    rcases hs with ⟨x1, x2, x3⟩ | ⟨x1, x3⟩ <;> rcases b1 with ⟨y1, y2, y3⟩ | ⟨y1, y3⟩
    · omega
    · exact absurd ⟨x1, x2⟩ y1
    · exact absurd ⟨y1, y2⟩ x1
    · omega
  subst es
  have et : t' = t := b2.trans ht.symm
  subst et
  rcases hb with hb | ⟨h1, h2⟩
  · exact hb b3
  · have := b4 h1
    rw [h2] at this
    cases this
theorem zNs_n2 {b : Nat → Int} {n p s t : Nat} (hs : (p < n ∧ b p = 45 ∧ s = p + 1) ∨ (¬ (p < n ∧ b p = 45) ∧ s = p)) (ht : t = zru zpD b n s) (hb : ¬ (s + 1 ≤ t ∧ t ≤ s + 6)) : ¬ ∃ v t, zNs b n p v t := by
  rintro ⟨v, t', s', b1, b2, b3, b4⟩
  have es : s' = s := by
    rcases hs with ⟨x1, x2, x3⟩ | ⟨x1, x3⟩ <;> rcases b1 with ⟨y1, y2, y3⟩ | ⟨y1, y3⟩
    · omega
    · exact absurd ⟨x1, x2⟩ y1
    · exact absurd ⟨y1, y2⟩ x1
    · omega
  subst es
  have et : t' = t := b2.trans ht.symm
  subst et
  exact hb b3
theorem zvl_dn {b : Nat → Int} {s : Nat} : ∀ k : Nat, (∀ i, i < k → zpD (b (s + i)) = true) → 0 ≤ zvl b s k ∧ zvl b s k + 1 ≤ 10 ^ k
  | 0, _ => by
    show (0 : Int) ≤ 0 ∧ (0 : Int) + 1 ≤ 10 ^ 0
    decide
  | k + 1, h => by
    have ih := zvl_dn (b := b) (s := s) k (fun i hi => h i (by (exact zo_2541 hi)))
    have h2 := zpD_t.mp (h k (by (exact zo_1083)))
    rw [Int.pow_succ]
    show 0 ≤ 10 * zvl b s k + (b (s + k) - 48) ∧ 10 * zvl b s k + (b (s + k) - 48) + 1 ≤ 10 ^ k * 10
    omega
theorem zvl_6 {b : Nat → Int} {n s : Nat} {t : Nat} (ht : t = zru zpD b n s) (h1 : s ≤ t) (h6 : t ≤ s + 6) : 0 ≤ zvl b s (t - s) ∧ zvl b s (t - s) ≤ 999999 := by
  have h := zvl_dn (b := b) (s := s) (t - s) (fun i hi => (zru_in (P := zpD) (b := b) (n := n) (s + i) s (s + i) (by omega) (by (exact zo_1098)) (by omega)).1)
  have h10 : ∀ k, k < 7 → (10 : Int) ^ k ≤ 1000000 := by decide
  have h2 := h10 (t - s) (by omega)
  omega
def zR82 (b : Nat → Int) (n : Nat) (M : zMem) : Prop := n ≤ 700 ∧ zBy b n ∧ ∀ k, k < n → ze M 82 k = b k
theorem zR82.fr {b : Nat → Int} {n : Nat} {S C : List Nat} {M N : zMem} (hf : zFr S C M N) (h : zR82 b n M) (_ : True) (hc : 82 ∉ C) : zR82 b n N := ⟨h.1, h.2.1, fun k hk => (hf.ie (by decide) hc k).trans (h.2.2 k hk)⟩
theorem zRp.r82 {b : Nat → Int} {n : Nat} {M : zMem} (h : zRp b n M) : zR82 b n M := ⟨h.2.1, h.2.2.1, h.2.2.2⟩
theorem zvl_7 {b : Nat → Int} {s k : Nat} (hk : k ≤ 7) (h : ∀ i, i < k → zpD (b (s + i)) = true) : 0 ≤ zvl b s k ∧ zvl b s k ≤ 9999999 := by
  have h1 := zvl_dn (b := b) (s := s) k h
  have h10 : ∀ k, k < 8 → (10 : Int) ^ k ≤ 10000000 := by decide
  have h2 := h10 k (by omega)
  omega
theorem zdg_s {b : Nat → Int} {n : Nat} {S L V W pos : Int} (s0 : 0 ≤ S) (l0 : 0 ≤ L) (hp : pos = S + L) (hn : pos < n) (hd : 48 ≤ b pos.toNat ∧ b pos.toNat ≤ 57) (hD : ∀ i : Nat, (i : Int) < L → zpD (b (S.toNat + i)) = true) (hV : V = zvl b S.toNat L.toNat) (hZ : zru zpD b n pos.toNat = zru zpD b n S.toNat) (hW : W = 10 * V + b pos.toNat - 48) : (∀ i : Nat, (i : Int) < L + 1 → zpD (b (S.toNat + i)) = true) ∧ W = zvl b S.toNat (L + 1).toNat ∧ zru zpD b n (pos + 1).toNat = zru zpD b n S.toNat := by
  have e : pos.toNat = S.toNat + L.toNat := by omega
  have hdt := zpD_t.mpr hd
  refine ⟨fun i hi => ?_, ?_, ?_⟩
  · by_cases g : (i : Int) = L
    · rw [show S.toNat + i = pos.toNat by omega]
      exact hdt
    · exact hD i (by (exact zo_130 hi g))
  · rw [show (L + 1).toNat = L.toNat + 1 by (exact zo_1084 l0)]
    show W = 10 * zvl b S.toNat L.toNat + (b (S.toNat + L.toNat) - 48)
    rw [hW, ← hV, ← e]
    omega
  · rw [← hZ, zru_t (p := pos.toNat) (by omega) hdt, show (pos + 1).toNat = pos.toNat + 1 by omega]
theorem zNb_e {b : Nat → Int} {n p : Nat} (h : n ≤ p) : ¬ ∃ v q, zNb b n p v q := by
  rintro ⟨v, q, s, t, b1, b2, b3, b4, b5, b6⟩
  have es : s = p := by
    rcases b1 with ⟨y1, y2, y3⟩ | ⟨y1, y3⟩
    · omega
    · exact y3
  rw [es, zru_f (fun z => by have := z.1; omega)] at b2
  omega
set_option maxHeartbeats 4000000 in
theorem c_M_laysMadeS (l : Launch) (Mz : zMem) (hW : zMt Mz) (a0_ : Int) (ha0_a : -2147483648 ≤ a0_) (ha0_b : a0_ < 2147483648) (T : zGT) (hO : gOK T) (hX : gEx T) (p0_ : zGB T Mz) (p1_ : 0 ≤ a0_) (p2_ : a0_ < ze Mz 81 26) : zC l m_M_laysMade 0 0 [.ref 81, .int (Int32.ofInt a0_)] Mz (zpV [55] [109] Mz (fun N => zMq T a0_ N ∧ 1 ≤ ze N 81 55 ∧ ze N 81 55 ≤ 24 ∧ zMss T (gFn T (a0_).toNat) N (gN T : Int))) := by
  refine zC_of (L0 := [some (.ref 81), some (.int (Int32.ofInt a0_)), none, none, none]) md_M_laysMade (Nat.le_of_ble_eq_true rfl) rfl ?_ zQ0
  have hf : zFr [55] [109] Mz Mz := zFr.rf
  have r_20 := ze_r Mz 81 20
  have r_26 := ze_r Mz 81 26
  have r_55 := ze_r Mz 81 55
  have hG := hO.1
  have g24 := hG.2.1
  have g1 := hG.1
  have dv0 : zTab T Mz := p0_.1
  have dv1 : zB 85 144 0 5 Mz := p0_.2.1
  have dv2 : zJX T Mz := p0_.2.2.1
  have dv3 : zFirs T Mz := p0_.2.2.2.1
  have dv4 : zSSm T Mz := p0_.2.2.2.2.1
  have dv5 : zGD Mz := zGB.d hO p0_
  have gb := dv5.1
  have gn := dv0.1
  have gfl := dv3.1
  have gf6 := gF_pos hO
  have gxl := hX.2.1
  have hfz := dv3.2 (a0_).toNat (by (exact zo_1001 gb.2.2.2.2.2 gfl p1_ p2_))
  have hfg := dv3.g hO (e := a0_) (by (exact p1_)) (by (exact p2_))
  have hH_ : (ze Mz 91 (a0_).toNat).toNat = (gFn T (a0_).toNat) := by rw [hfz]; rfl
  refine zw_aload_n (pc := 0) (n := 0) (x := 81) rfl (zdal_p dlD_M_laysMade_81 (i := 0) rfl) ?_
  refine zr_getF (r := 91) (hf.w hW) (pc := 1) f_M_44 rfl (zh_91 (hf.w hW)).1 (zdal_p dlD_M_laysMade_81 (i := 1) rfl) ?_
  refine zw_iload_n (pc := 4) (n := 1) (x := Int32.ofInt a0_) rfl (zdal_p dlD_M_laysMade_81 (i := 2) rfl) ?_
  refine zr_ialdn (pc := 5) (zh_91 (hf.w hW)).2 (by decide) (by (exact p1_)) (by (exact zo_906 gb.2.2.2.2.2 ha0_b p2_)) (zdal_p dlD_M_laysMade_81 (i := 3) rfl) (fun v1_ hv1_ hv1_a hv1_b => ?_)
  refine zr_toI (show v1_ = ze Mz 91 (a0_).toNat by (exact hv1_)) ?_
  refine zw_istore_n (pc := 6) (i := 2) (L2 := [some (.ref 81), some (.int (Int32.ofInt a0_)), some (.int (Int32.ofInt (ze Mz 91 (a0_).toNat))), none, none]) rfl (by decide) rfl (zdal_p dlD_M_laysMade_81 (i := 4) rfl) ?_
  refine zw_aload_n (pc := 7) (n := 0) (x := 81) rfl (zdal_p dlD_M_laysMade_81 (i := 5) rfl) ?_
  refine zw_iload_n (pc := 8) (n := 2) (x := Int32.ofInt (ze Mz 91 (a0_).toNat)) rfl (zdal_p dlD_M_laysMade_81 (i := 6) rfl) ?_
  refine zr_callV (hf.w hW) hf.x (pc := 9) [.int (Int32.ofInt (ze Mz 91 (a0_).toNat))] [] l_M_417 (c_M_normOfF l Mz (hf.w hW) (ze Mz 91 (a0_).toNat) (by (exact zo_168 hfg.2.1)) (by (exact zo_550 hv1_ hv1_b)) T hO p0_ (show 0 ≤ (ze Mz 91 (a0_).toNat) by first | with_reducible assumption | (exact zo_57 hfg.2.1) | assumption) (show (ze Mz 91 (a0_).toNat) < 16777216 by first | with_reducible assumption | assumption | omega)) rfl rfl rfl (by decide) (Nat.le_of_ble_eq_true rfl) (zdal_p dlD_M_laysMade_81 (i := 7) rfl) ?_
  rintro _ N2_ ⟨v3_, rfl, ⟨hv3_a, hv3_b⟩, hsN2_, ⟨hp0_N2_, hp1_N2_, hp2_N2_⟩⟩
  obtain rfl := hsN2_.eq.symm
  show zW l m_M_laysMade (zn Mz + 0, zw Mz + 0) Mz 12 [some (.ref 81), some (.int (Int32.ofInt a0_)), some (.int (Int32.ofInt (ze Mz 91 (a0_).toNat))), none, none] [.int (Int32.ofInt v3_)] _
  have hnm_ := hp2_N2_
  refine zw_istore_n (pc := 12) (i := 3) (L2 := [some (.ref 81), some (.int (Int32.ofInt a0_)), some (.int (Int32.ofInt (ze Mz 91 (a0_).toNat))), some (.int (Int32.ofInt v3_)), none]) rfl (by decide) rfl (zdal_p dlD_M_laysMade_81 (i := 8) rfl) ?_
  refine zw_aload_n (pc := 13) (n := 0) (x := 81) rfl (zdal_p dlD_M_laysMade_81 (i := 9) rfl) ?_
  refine zw_iconst (pc := 14) (v := Int32.ofInt 0) (by decide) (zdal_p dlD_M_laysMade_81 (i := 10) rfl) ?_
  refine zr_putI (hf.w hW) (pc := 15) f_M_453 rfl rfl ⟨by (decide), by (decide)⟩ rfl rfl (zdal_p dlD_M_laysMade_81 (i := 11) rfl) (fun N4_ hsN4_ hvN4_ => ?_)
  have hf_N4_ : zFr [55] [109] Mz N4_ := hf.tr hsN4_ (by decide) (by decide)
  have e20_N4_ : ze N4_ 81 20 = ze Mz 81 20 := hsN4_.e (by decide)
  have e26_N4_ : ze N4_ 81 26 = ze Mz 81 26 := hsN4_.e (by decide)
  have r55_N4_ := ze_r N4_ 81 55
  have c5_ : zGB T N4_ := zGB.fr hsN4_ p0_ (by decide) (by decide)
  have c6_ : zTab T N4_ := zTab.fr hsN4_ dv0 (by decide) (by decide)
  have c7_ : zB 85 144 0 5 N4_ := zB.fr hsN4_ dv1 (by decide) (by decide)
  have c8_ : zJX T N4_ := zJX.fr hsN4_ dv2 (by decide) (by decide)
  have c9_ : zFirs T N4_ := zFirs.fr hsN4_ dv3 (by decide) (by decide)
  have c10_ : zSSm T N4_ := zSSm.fr hsN4_ dv4 (by decide) (by decide)
  have c11_ : zGD N4_ := zGD.fr hsN4_ dv5 (by decide) (by decide)
  refine zw_iconst (pc := 18) (v := Int32.ofInt 0) (by decide) (zdal_p dlD_M_laysMade_81 (i := 12) rfl) ?_
  refine zw_istore (pc := 19) (i := 4) (L2 := [some (.ref 81), some (.int (Int32.ofInt a0_)), some (.int (Int32.ofInt (ze Mz 91 (a0_).toNat))), some (.int (Int32.ofInt v3_)), some (.int (Int32.ofInt 0))]) (by decide) rfl (zdal_p dlD_M_laysMade_81 (i := 13) rfl) ?_
  have lp_21 : ∀ (n : Nat) (u12_ : Int) (hu12_a : -2147483648 ≤ u12_) (hu12_b : u12_ < 2147483648) (N13_ : zMem) (hs14_ : zFr [55] [109] N4_ N13_) (i15_ : 0 ≤ u12_) (i16_ : zMl T a0_ N13_ u12_) (i17_ : u12_ ≤ ze Mz 81 20) (i18_ : 0 ≤ ze N13_ 81 55) (i19_ : ze N13_ 81 55 ≤ u12_) (i20_ : zMss T (gFn T (a0_).toNat) N13_ u12_), (ze Mz 81 20 - u12_).toNat < n → zW l m_M_laysMade (zn Mz + 0, zw Mz + 0) N13_ 21 [some (.ref 81), some (.int (Int32.ofInt a0_)), some (.int (Int32.ofInt (ze Mz 91 (a0_).toNat))), some (.int (Int32.ofInt v3_)), some (.int (Int32.ofInt u12_))] [] (zpV [55] [109] Mz (fun N => zMq T a0_ N ∧ 1 ≤ ze N 81 55 ∧ ze N 81 55 ≤ 24 ∧ zMss T (gFn T (a0_).toNat) N (gN T : Int))) := by
    intro n
    induction n with
    | zero =>
      intro u12_ hu12_a hu12_b N13_ hs14_ i15_ i16_ i17_ i18_ i19_ i20_ h0
      exact absurd h0 (Nat.not_lt_zero _)
    | succ n ih_21 =>
      intro u12_ hu12_a hu12_b N13_ hs14_ i15_ i16_ i17_ i18_ i19_ i20_ hlt_21
      have hf_N13_ : zFr [55] [109] Mz N13_ := hf_N4_.tr hs14_ (by decide) (by decide)
      have e20_N13_ : ze N13_ 81 20 = ze N4_ 81 20 := hs14_.e (by decide)
      have e26_N13_ : ze N13_ 81 26 = ze N4_ 81 26 := hs14_.e (by decide)
      have r55_N13_ := ze_r N13_ 81 55
      have c21_ : zGB T N13_ := zGB.fr hs14_ c5_ (by decide) (by decide)
      have c22_ : zTab T N13_ := zTab.fr hs14_ c6_ (by decide) (by decide)
      have c23_ : zB 85 144 0 5 N13_ := zB.fr hs14_ c7_ (by decide) (by decide)
      have c24_ : zJX T N13_ := zJX.fr hs14_ c8_ (by decide) (by decide)
      have c25_ : zFirs T N13_ := zFirs.fr hs14_ c9_ (by decide) (by decide)
      have c26_ : zSSm T N13_ := zSSm.fr hs14_ c10_ (by decide) (by decide)
      have c27_ : zGD N13_ := zGD.fr hs14_ c11_ (by decide) (by decide)
      have hms0_ := (show zMss T (gFn T (a0_).toNat) N13_ u12_ by first | with_reducible assumption | assumption)
      refine zw_iload (pc := 21) (i := 4) (x := Int32.ofInt u12_) rfl (zdal_p dlD_M_laysMade_81 (i := 14) rfl) ?_
      refine zw_aload_n (pc := 23) (n := 0) (x := 81) rfl (zdal_p dlD_M_laysMade_81 (i := 15) rfl) ?_
      refine zr_getI0 hf_N13_ hW (pc := 24) (by decide) f_M_196 rfl (zdal_p dlD_M_laysMade_81 (i := 16) rfl) ?_
      refine zr_icmp_ge (pc := 27) (tgt := 93) ⟨hu12_a, hu12_b⟩ ⟨(ze_r Mz 81 20).1, (ze_r Mz 81 20).2⟩ (by decide) (zdal_p dlD_M_laysMade_81 (i := 17) rfl) (fun hc_27 => ?_) (fun hc_27 => ?_)
      · skip
        have hMd_ := zMl_e hG (show zMl T a0_ N13_ u12_ by first | with_reducible assumption | assumption) (by (exact zo_2583 g24 gb.2.1 gn hc_27 i15_ i17_))
        have hMd1_ := hMd_.1
        exact zr_vret (pc := 93) rfl hf_N13_ ⟨(show zMq T a0_ N13_ by exact hMd_), (show 1 ≤ ze N13_ 81 55 by first | with_reducible assumption | (exact zo_694 hMd1_.2.1) | assumption), (show ze N13_ 81 55 ≤ 24 by first | with_reducible assumption | (exact zo_0 hMd1_.2.2) | assumption), (show zMss T (gFn T (a0_).toNat) N13_ (gN T : Int) by have h_ := hms0_; rw [show u12_ = (gN T : Int) by (exact zo_2583 g24 gb.2.1 gn hc_27 i15_ i17_)] at h_; exact h_)⟩ (zdal_p dlD_M_laysMade_83 (i := 3) rfl)
      · skip
        refine zw_iload_n (pc := 30) (n := 3) (x := Int32.ofInt v3_) rfl (zdal_p dlD_M_laysMade_81 (i := 18) rfl) ?_
        refine zw_iload (pc := 31) (i := 4) (x := Int32.ofInt u12_) rfl (zdal_p dlD_M_laysMade_81 (i := 19) rfl) ?_
        refine zr_callS hf_N13_.x (pc := 33) [.int (Int32.ofInt v3_), .int (Int32.ofInt u12_)] [] l_M_213 (c_M_holds l N13_ (hf_N13_.w hW) v3_ hv3_a hv3_b u12_ hu12_a hu12_b (show 0 ≤ v3_ by first | with_reducible assumption | assumption | omega) (show 0 ≤ u12_ by first | with_reducible assumption | assumption | omega) (show u12_ < 32 by first | with_reducible assumption | (exact zo_918 gb.2.1 hc_27) | assumption)) rfl rfl (by decide) (Nat.le_of_ble_eq_true rfl) (zdal_p dlD_M_laysMade_81 (i := 20) rfl) ?_
        rintro _ N28_ ⟨v29_, rfl, ⟨hv29_a, hv29_b⟩, hsN28_, hp0_N28_⟩
        obtain rfl := hsN28_.eq.symm
        replace hp0_N28_ : ((v29_ = 1 ∧ zbt v3_ u12_) ∨ (v29_ = 0 ∧ ¬ zbt v3_ u12_)) := hp0_N28_
        rcases hp0_N28_ with ⟨rfl, ha33_0_hp0_N28_⟩ | ⟨rfl, ha33_0_hp0_N28_⟩
        · skip
          have hnt_ := (hnm_ (u12_).toNat (by (exact zo_925 gn hc_27 i15_))).mp ha33_0_hp0_N28_
          show zW l m_M_laysMade (zn Mz + 0, zw Mz + 0) N13_ 36 [some (.ref 81), some (.int (Int32.ofInt a0_)), some (.int (Int32.ofInt (ze Mz 91 (a0_).toNat))), some (.int (Int32.ofInt v3_)), some (.int (Int32.ofInt u12_))] [.int (Int32.ofInt 1)] _
          refine zr_if_eq (pc := 36) (tgt := 87) ⟨(by decide), (by decide)⟩ (by decide) (zdal_p dlD_M_laysMade_81 (i := 21) rfl) (fun hc_36 => ?_) (fun hc_36 => ?_)
          · skip
            exact absurd hc_36 (by decide)
          · skip
            refine zw_aload_n (pc := 39) (n := 0) (x := 81) rfl (zdal_p dlD_M_laysMade_81 (i := 22) rfl) ?_
            refine zw_iload_n (pc := 40) (n := 2) (x := Int32.ofInt (ze Mz 91 (a0_).toNat)) rfl (zdal_p dlD_M_laysMade_81 (i := 23) rfl) ?_
            refine zw_iload (pc := 41) (i := 4) (x := Int32.ofInt u12_) rfl (zdal_p dlD_M_laysMade_82 (i := 0) rfl) ?_
            refine zr_callV (hf_N13_.w hW) hf_N13_.x (pc := 43) [.int (Int32.ofInt (ze Mz 91 (a0_).toNat)), .int (Int32.ofInt u12_)] [] l_M_247 (c_M_leastOf l N13_ (hf_N13_.w hW) (ze Mz 91 (a0_).toNat) (by (exact zo_168 hfg.2.1)) (by (exact zo_550 hv1_ hv1_b)) u12_ hu12_a hu12_b T hG c22_ (show 0 ≤ (ze Mz 91 (a0_).toNat) by first | with_reducible assumption | (exact zo_57 hfg.2.1) | assumption) (show 0 ≤ u12_ by first | with_reducible assumption | assumption | omega) (show u12_ < ze N13_ 81 20 by first | with_reducible assumption | (exact zo_2584 e20_N13_ e20_N4_ hc_27) | assumption)) rfl rfl rfl (by decide) (Nat.le_of_ble_eq_true rfl) (zdal_p dlD_M_laysMade_82 (i := 1) rfl) ?_
            rintro _ N30_ ⟨v31_, rfl, ⟨hv31_a, hv31_b⟩, hsN30_, ⟨hp0_N30_, hp1_N30_, hp2_N30_⟩⟩
            obtain rfl := hsN30_.eq.symm
            show zW l m_M_laysMade (zn Mz + 0, zw Mz + 0) N13_ 46 [some (.ref 81), some (.int (Int32.ofInt a0_)), some (.int (Int32.ofInt (ze Mz 91 (a0_).toNat))), some (.int (Int32.ofInt v3_)), some (.int (Int32.ofInt u12_))] [.int (Int32.ofInt v31_)] _
            refine zw_iload (pc := 46) (i := 4) (x := Int32.ofInt u12_) rfl (zdal_p dlD_M_laysMade_82 (i := 2) rfl) ?_
            refine zr_icmp_eq (pc := 48) (tgt := 54) ⟨hv31_a, hv31_b⟩ ⟨hu12_a, hu12_b⟩ (by decide) (zdal_p dlD_M_laysMade_82 (i := 3) rfl) (fun hc_48 => ?_) (fun hc_48 => ?_)
            · skip
              refine zw_aload_n (pc := 54) (n := 0) (x := 81) rfl (zdal_p dlD_M_laysMade_82 (i := 5) rfl) ?_
              refine zr_getF (r := 109) (hf_N13_.w hW) (pc := 55) f_M_99 rfl (zh_109 (hf_N13_.w hW)).1 (zdal_p dlD_M_laysMade_82 (i := 6) rfl) ?_
              refine zw_aload_n (pc := 58) (n := 0) (x := 81) rfl (zdal_p dlD_M_laysMade_82 (i := 7) rfl) ?_
              refine zr_getI (hf_N13_.w hW) (pc := 59) f_M_453 rfl (zdal_p dlD_M_laysMade_82 (i := 8) rfl) ?_
              refine zw_aload_n (pc := 62) (n := 0) (x := 81) rfl (zdal_p dlD_M_laysMade_82 (i := 9) rfl) ?_
              refine zw_aload_n (pc := 63) (n := 0) (x := 81) rfl (zdal_p dlD_M_laysMade_82 (i := 10) rfl) ?_
              refine zw_iload_n (pc := 64) (n := 2) (x := Int32.ofInt (ze Mz 91 (a0_).toNat)) rfl (zdal_p dlD_M_laysMade_82 (i := 11) rfl) ?_
              refine zw_iconst (pc := 65) (v := Int32.ofInt 1) (by decide) (zdal_p dlD_M_laysMade_82 (i := 12) rfl) ?_
              refine zw_iload (pc := 66) (i := 4) (x := Int32.ofInt u12_) rfl (zdal_p dlD_M_laysMade_82 (i := 13) rfl) ?_
              refine zr_ishl (pc := 68) (zdal_p dlD_M_laysMade_82 (i := 14) rfl) ?_
              have hr32_ := zshl_r 1 u12_
              have hgi_ := gIn_or hG (x := (ze Mz 91 (a0_).toNat)) (g := u12_) (by (exact zo_57 hfg.2.1)) (hfg.1.i hO).2 (by (exact i15_)) (by (exact zo_1014 gn hc_27))
              refine zr_ior (pc := 69) (zdal_p dlD_M_laysMade_82 (i := 15) rfl) ?_
              have hr33_ := zor_r (ze Mz 91 (a0_).toNat) (zshl 1 u12_)
              refine zr_callV (hf_N13_.w hW) hf_N13_.x (pc := 70) [.int (Int32.ofInt (zor (ze Mz 91 (a0_).toNat) (zshl 1 u12_)))] [.ref 81, .int (Int32.ofInt (ze N13_ 81 55)), .ref 109] l_M_229 (c_M_closed l N13_ (hf_N13_.w hW) (zor (ze Mz 91 (a0_).toNat) (zshl 1 u12_)) (by (exact zo_284 hr33_.1)) (by (exact zo_285 hr33_.2)) T hG c22_ (show gIn T (zor (ze Mz 91 (a0_).toNat) (zshl 1 u12_)) by exact hgi_.1)) rfl rfl rfl (by decide) (Nat.le_of_ble_eq_true rfl) (zdal_p dlD_M_laysMade_82 (i := 16) rfl) ?_
              rintro _ N34_ ⟨v35_, rfl, ⟨hv35_a, hv35_b⟩, hsN34_, ⟨hp0_N34_, hp1_N34_, hp2_N34_⟩⟩
              obtain rfl := hsN34_.eq.symm
              show zW l m_M_laysMade (zn Mz + 0, zw Mz + 0) N13_ 73 [some (.ref 81), some (.int (Int32.ofInt a0_)), some (.int (Int32.ofInt (ze Mz 91 (a0_).toNat))), some (.int (Int32.ofInt v3_)), some (.int (Int32.ofInt u12_))] [.int (Int32.ofInt v35_), .ref 81, .int (Int32.ofInt (ze N13_ 81 55)), .ref 109] _
              have hLC_ := hp0_N34_
              rw [hgi_.2] at hLC_
              have hm_N13_ := gMe_c hO hp0_N34_ (by (exact hp1_N34_))
              refine zr_callV (hf_N13_.w hW) hf_N13_.x (pc := 73) [.int (Int32.ofInt v35_)] [.int (Int32.ofInt (ze N13_ 81 55)), .ref 109] l_M_411 (c_M_sortOfSetF l N13_ (hf_N13_.w hW) v35_ hv35_a hv35_b T hO c21_ (show gMe T v35_ by first | with_reducible assumption | assumption)) rfl rfl rfl (by decide) (Nat.le_of_ble_eq_true rfl) (zdal_p dlD_M_laysMade_82 (i := 17) rfl) ?_
              rintro _ N36_ ⟨v37_, rfl, ⟨hv37_a, hv37_b⟩, hsN36_, ⟨hp0_N36_, hp1_N36_, hp2_N36_⟩⟩
              obtain rfl := hsN36_.eq.symm
              show zW l m_M_laysMade (zn Mz + 0, zw Mz + 0) N13_ 76 [some (.ref 81), some (.int (Int32.ofInt a0_)), some (.int (Int32.ofInt (ze Mz 91 (a0_).toNat))), some (.int (Int32.ofInt v3_)), some (.int (Int32.ofInt u12_))] [.int (Int32.ofInt v37_), .int (Int32.ofInt (ze N13_ 81 55)), .ref 109] _
              have hgl_ := hp2_N36_
              have hFi_ := c25_
              have hg0_ := hp0_N36_
              have hg1_ := hp1_N36_
              have hgs_ : v37_ = ((gsr T ((gFn T (a0_).toNat) ||| 2 ^ (u12_).toNat) : Nat) : Int) := gsr_u hO (by rw [← hH_]; exact hLC_) ⟨⟨hg0_, by (exact zo_2589 e26_N13_ e26_N4_ gb.2.2.2.2.2 gfl hp1_N36_)⟩, Int.ofNat_inj.mp ((hFi_.2 _ (by omega)).symm.trans hgl_)⟩
              refine zr_iast (pc := 76) (zh_109 (hf_N13_.w hW)).2 (by decide) (by decide) (by (exact i18_)) (by (exact zo_2585 gb.2.1 hc_27 i19_)) (zdal_p dlD_M_laysMade_82 (i := 18) rfl) (fun N38_ hN38_ hsN38_ => ?_)
              have hf_N38_ : zFr [55] [109] Mz N38_ := hf_N13_.tr hsN38_ (by decide) (by decide)
              have hb0_N38_ : zFr [55] [109] N4_ N38_ := hs14_.tr hsN38_ (by decide) (by decide)
              have e20_N38_ : ze N38_ 81 20 = ze N13_ 81 20 := hsN38_.e (by decide)
              have e26_N38_ : ze N38_ 81 26 = ze N13_ 81 26 := hsN38_.e (by decide)
              have e55_N38_ : ze N38_ 81 55 = ze N13_ 81 55 := hsN38_.e (by decide)
              have c39_ : zGB T N38_ := zGB.fr hsN38_ c21_ (by decide) (by decide)
              have c40_ : zTab T N38_ := zTab.fr hsN38_ c22_ (by decide) (by decide)
              have c41_ : zB 85 144 0 5 N38_ := zB.fr hsN38_ c23_ (by decide) (by decide)
              have c42_ : zJX T N38_ := zJX.fr hsN38_ c24_ (by decide) (by decide)
              have c43_ : zFirs T N38_ := zFirs.fr hsN38_ c25_ (by decide) (by decide)
              have c44_ : zSSm T N38_ := zSSm.fr hsN38_ c26_ (by decide) (by decide)
              have c45_ : zGD N38_ := zGD.fr hsN38_ c27_ (by decide) (by decide)
              refine zw_aload_n (pc := 77) (n := 0) (x := 81) rfl (zdal_p dlD_M_laysMade_82 (i := 19) rfl) ?_
              refine zw_dup (pc := 78) rfl (zdal_p dlD_M_laysMade_82 (i := 20) rfl) ?_
              refine zr_getI (hf_N38_.w hW) (pc := 79) f_M_453 rfl (zdal_p dlD_M_laysMade_82 (i := 21) rfl) ?_
              refine zw_iconst (pc := 82) (v := Int32.ofInt 1) (by decide) (zdal_p dlD_M_laysMade_82 (i := 22) rfl) ?_
              refine zr_iadd (pc := 83) (zdal_p dlD_M_laysMade_82 (i := 23) rfl) ?_
              refine zr_putI (hf_N38_.w hW) (pc := 84) f_M_453 rfl rfl ⟨by (exact zo_1205 e55_N38_ i18_), by (exact zo_2586 e55_N38_ gb.2.1 hc_27 i19_ r55_N13_.2)⟩ rfl rfl (zdal_p dlD_M_laysMade_83 (i := 0) rfl) (fun N46_ hsN46_ hvN46_ => ?_)
              have hf_N46_ : zFr [55] [109] Mz N46_ := hf_N38_.tr hsN46_ (by decide) (by decide)
              have hb0_N46_ : zFr [55] [109] N4_ N46_ := hb0_N38_.tr hsN46_ (by decide) (by decide)
              have e20_N46_ : ze N46_ 81 20 = ze N38_ 81 20 := hsN46_.e (by decide)
              have e26_N46_ : ze N46_ 81 26 = ze N38_ 81 26 := hsN46_.e (by decide)
              have r55_N46_ := ze_r N46_ 81 55
              have c47_ : zGB T N46_ := zGB.fr hsN46_ c39_ (by decide) (by decide)
              have c48_ : zTab T N46_ := zTab.fr hsN46_ c40_ (by decide) (by decide)
              have c49_ : zB 85 144 0 5 N46_ := zB.fr hsN46_ c41_ (by decide) (by decide)
              have c50_ : zJX T N46_ := zJX.fr hsN46_ c42_ (by decide) (by decide)
              have c51_ : zFirs T N46_ := zFirs.fr hsN46_ c43_ (by decide) (by decide)
              have c52_ : zSSm T N46_ := zSSm.fr hsN46_ c44_ (by decide) (by decide)
              have c53_ : zGD N46_ := zGD.fr hsN46_ c45_ (by decide) (by decide)
              have hns_ := zMl_s hO hX hFi_ (show zMl T a0_ N13_ u12_ by first | with_reducible assumption | assumption) (by (exact i15_)) (by (exact zo_1014 gn hc_27)) (by (exact p1_)) (by (exact zo_2587 gb.2.2.2.2.2 gfl p2_)) (F := (ze Mz 91 (a0_).toNat)) (by (exact hfz)) hnt_ (by (exact zo_2588 gb.2.1 hc_27 hc_48 hp0_N30_ hp2_N30_ hv31_b i15_)) hLC_ (by (exact hp0_N36_)) (by (exact zo_2589 e26_N13_ e26_N4_ gb.2.2.2.2.2 gfl hp1_N36_)) hgl_ hN38_ hsN46_ (by (exact hvN46_))
              have hms_ := zMss_s (show zMss T (gFn T (a0_).toNat) N13_ u12_ by first | with_reducible assumption | assumption) (by (exact i15_)) (by rw [← hH_]; exact hnt_) (by rw [← hH_]; (exact zo_2588 gb.2.1 hc_27 hc_48 hp0_N30_ hp2_N30_ hv31_b i15_)) hgs_ hN38_ ⟨by (exact hv37_a), by (exact hv37_b)⟩ hsN46_ (by omega) (by (exact i18_))
              refine zr_iinc (pc := 87) (i := 4) (a := u12_) (n := 1) (L2 := [some (.ref 81), some (.int (Int32.ofInt a0_)), some (.int (Int32.ofInt (ze Mz 91 (a0_).toNat))), some (.int (Int32.ofInt v3_)), some (.int (Int32.ofInt (u12_ + 1)))]) rfl (by decide) rfl d_M_laysMade_87 ?_
              refine zw_goto (pc := 90) (tgt := 21) (by decide) d_M_laysMade_90 ?_
              exact ih_21 (u12_ + 1) (by (exact zo_74 i15_)) (by (exact zo_919 gb.2.1 hc_27)) N46_ hb0_N46_ (show 0 ≤ (u12_ + 1) by first | with_reducible assumption | (exact zo_76 i15_) | assumption) (show zMl T a0_ N46_ (u12_ + 1) by exact hns_) (show (u12_ + 1) ≤ ze Mz 81 20 by first | with_reducible assumption | assumption | omega) (show 0 ≤ ze N46_ 81 55 by first | with_reducible assumption | (exact zo_2492 e55_N38_ hvN46_ i18_ r55_N46_.1) | assumption) (show ze N46_ 81 55 ≤ (u12_ + 1) by first | with_reducible assumption | (exact zo_2493 e55_N38_ hvN46_ i15_ i19_ r55_N46_.2) | assumption) (show zMss T (gFn T (a0_).toNat) N46_ (u12_ + 1) by first | exact hms_ | exact hmn_) (by (exact zo_147 hc_27 hlt_21))
            · skip
              have hns_ := zMl_n hO hX (show zMl T a0_ N13_ u12_ by first | with_reducible assumption | assumption) (by (exact i15_)) (by (exact p1_)) (by (exact zo_2587 gb.2.2.2.2.2 gfl p2_)) (F := (ze Mz 91 (a0_).toNat)) (by (exact hfz)) (Or.inr (by (exact zo_2590 hp0_N30_ i15_ hc_48)))
              have hmn_ := zMss_n hms0_ (by (exact i15_)) (Or.inr (by rw [← hH_]; (exact zo_2590 hp0_N30_ i15_ hc_48)))
              refine zw_goto (pc := 51) (tgt := 87) (by decide) (zdal_p dlD_M_laysMade_82 (i := 4) rfl) ?_
              refine zr_iinc (pc := 87) (i := 4) (a := u12_) (n := 1) (L2 := [some (.ref 81), some (.int (Int32.ofInt a0_)), some (.int (Int32.ofInt (ze Mz 91 (a0_).toNat))), some (.int (Int32.ofInt v3_)), some (.int (Int32.ofInt (u12_ + 1)))]) rfl (by decide) rfl d_M_laysMade_87 ?_
              refine zw_goto (pc := 90) (tgt := 21) (by decide) d_M_laysMade_90 ?_
              exact ih_21 (u12_ + 1) (by (exact zo_74 i15_)) (by (exact zo_919 gb.2.1 hc_27)) N13_ hs14_ (show 0 ≤ (u12_ + 1) by first | with_reducible assumption | (exact zo_76 i15_) | assumption) (show zMl T a0_ N13_ (u12_ + 1) by exact hns_) (show (u12_ + 1) ≤ ze Mz 81 20 by first | with_reducible assumption | assumption | omega) (show 0 ≤ ze N13_ 81 55 by first | with_reducible assumption | assumption | omega) (show ze N13_ 81 55 ≤ (u12_ + 1) by first | with_reducible assumption | (exact zo_961 i19_) | assumption) (show zMss T (gFn T (a0_).toNat) N13_ (u12_ + 1) by first | exact hms_ | exact hmn_) (by (exact zo_147 hc_27 hlt_21))
        · skip
          have hns_ := zMl_n hO hX (show zMl T a0_ N13_ u12_ by first | with_reducible assumption | assumption) (by (exact i15_)) (by (exact p1_)) (by (exact zo_2587 gb.2.2.2.2.2 gfl p2_)) (F := (ze Mz 91 (a0_).toNat)) (by (exact hfz)) (Or.inl (fun e => ha33_0_hp0_N28_ ((hnm_ (u12_).toNat (by (exact zo_925 gn hc_27 i15_))).mpr e)))
          have hmn_ := zMss_n hms0_ (by (exact i15_)) (Or.inl (fun e => ha33_0_hp0_N28_ ((hnm_ (u12_).toNat (by (exact zo_925 gn hc_27 i15_))).mpr (by rw [hH_]; exact e))))
          show zW l m_M_laysMade (zn Mz + 0, zw Mz + 0) N13_ 36 [some (.ref 81), some (.int (Int32.ofInt a0_)), some (.int (Int32.ofInt (ze Mz 91 (a0_).toNat))), some (.int (Int32.ofInt v3_)), some (.int (Int32.ofInt u12_))] [.int (Int32.ofInt 0)] _
          refine zr_if_eq (pc := 36) (tgt := 87) ⟨(by decide), (by decide)⟩ (by decide) (zdal_p dlD_M_laysMade_81 (i := 21) rfl) (fun hc_36 => ?_) (fun hc_36 => ?_)
          · skip
            refine zr_iinc (pc := 87) (i := 4) (a := u12_) (n := 1) (L2 := [some (.ref 81), some (.int (Int32.ofInt a0_)), some (.int (Int32.ofInt (ze Mz 91 (a0_).toNat))), some (.int (Int32.ofInt v3_)), some (.int (Int32.ofInt (u12_ + 1)))]) rfl (by decide) rfl d_M_laysMade_87 ?_
            refine zw_goto (pc := 90) (tgt := 21) (by decide) d_M_laysMade_90 ?_
            exact ih_21 (u12_ + 1) (by (exact zo_74 i15_)) (by (exact zo_919 gb.2.1 hc_27)) N13_ hs14_ (show 0 ≤ (u12_ + 1) by first | with_reducible assumption | (exact zo_76 i15_) | assumption) (show zMl T a0_ N13_ (u12_ + 1) by exact hns_) (show (u12_ + 1) ≤ ze Mz 81 20 by first | with_reducible assumption | assumption | omega) (show 0 ≤ ze N13_ 81 55 by first | with_reducible assumption | assumption | omega) (show ze N13_ 81 55 ≤ (u12_ + 1) by first | with_reducible assumption | (exact zo_961 i19_) | assumption) (show zMss T (gFn T (a0_).toNat) N13_ (u12_ + 1) by first | exact hms_ | exact hmn_) (by (exact zo_147 hc_27 hlt_21))
          · skip
            exact absurd hc_36 (by decide)
  exact lp_21 _ 0 (by decide) (by decide) N4_ zFr.rf (show 0 ≤ (0 : Int) by first | with_reducible assumption | (decide) | assumption) (show zMl T a0_ N4_ (0 : Int) by exact zMl_0 (by (exact hvN4_))) (show (0 : Int) ≤ ze Mz 81 20 by first | with_reducible assumption | (exact zo_564 gb.1) | assumption) (show 0 ≤ ze N4_ 81 55 by first | with_reducible assumption | (exact zo_718 hvN4_) | assumption) (show ze N4_ 81 55 ≤ (0 : Int) by first | with_reducible assumption | (exact zo_2497 hvN4_) | assumption) (show zMss T (gFn T (a0_).toNat) N4_ (0 : Int) by exact zMss_0 (by (exact hvN4_))) (Nat.lt_succ_self _)
set_option maxHeartbeats 4000000 in
theorem c_M_congruenceOf_99S (l : Launch) (Mz : zMem) (hW : zMt Mz) (a1_ : Int) (ha1_a : -2147483648 ≤ a1_) (ha1_b : a1_ < 2147483648) (T : zGT) (hO : gOK T) (hX : gEx T) (p0_ : zGB T Mz) (p1_ : 0 ≤ a1_) (p2_ : a1_ < ze Mz 81 26) : zC l m_M_congruenceOf 0 0 [.ref 81, .ref 99, .int (Int32.ofInt a1_)] Mz (zpJ [55] [109] Mz (fun v N => Int64.ofInt v = Int64.ofInt (zsm (zmi T (gFn T (a1_).toNat) (zcgF T (gFn T (a1_).toNat) (fun j_ => zg Mz 99 j_))) (gN T)) ∧ ze N 81 55 = ((gmm T (gFn T (a1_).toNat) : Nat) : Int) ∧ 1 ≤ ze N 81 55 ∧ ze N 81 55 ≤ 24)) := by
  refine zC_of (L0 := [some (.ref 81), some (.ref 99), some (.int (Int32.ofInt a1_)), none, none, none]) md_M_congruenceOf (Nat.le_of_ble_eq_true rfl) rfl ?_ zQ0
  have hf : zFr [55] [109] Mz Mz := zFr.rf
  have r_26 := ze_r Mz 81 26
  have r_55 := ze_r Mz 81 55
  have hG := hO.1
  have g24 := hG.2.1
  have g1 := hG.1
  have dv0 : zTab T Mz := p0_.1
  have dv1 : zB 85 144 0 5 Mz := p0_.2.1
  have dv2 : zJX T Mz := p0_.2.2.1
  have dv3 : zFirs T Mz := p0_.2.2.2.1
  have dv4 : zSSm T Mz := p0_.2.2.2.2.1
  have dv5 : zGD Mz := zGB.d hO p0_
  have gb := dv5.1
  have gn := dv0.1
  have gfl := dv3.1
  have gf6 := gF_pos hO
  have gxl := hX.2.1
  refine zw_aload_n (pc := 0) (n := 0) (x := 81) rfl (zdal_p dlD_M_congruenceOf_100 (i := 0) rfl) ?_
  refine zw_iload_n (pc := 1) (n := 2) (x := Int32.ofInt a1_) rfl (zdal_p dlD_M_congruenceOf_100 (i := 1) rfl) ?_
  refine zr_callV (hf.w hW) hf.x (pc := 2) [.int (Int32.ofInt a1_)] [] l_M_456 (c_M_laysMadeS l Mz (hf.w hW) a1_ ha1_a ha1_b T hO hX p0_ (show 0 ≤ a1_ by first | with_reducible assumption | assumption | omega) (show a1_ < ze Mz 81 26 by first | with_reducible assumption | assumption | omega)) rfl rfl rfl (by decide) (Nat.le_of_ble_eq_true rfl) (zdal_p dlD_M_congruenceOf_100 (i := 2) rfl) ?_
  rintro _ N1_ ⟨rfl, hsN1_, ⟨hp0_N1_, hp1_N1_, hp2_N1_, hp3_N1_⟩⟩
  have hf_N1_ : zFr [55] [109] Mz N1_ := hf.tr hsN1_ (by decide) (by decide)
  have e26_N1_ : ze N1_ 81 26 = ze Mz 81 26 := hsN1_.e (by decide)
  have r55_N1_ := ze_r N1_ 81 55
  have c3_ : zGB T N1_ := zGB.fr hsN1_ p0_ (by decide) (by decide)
  have c4_ : zTab T N1_ := zTab.fr hsN1_ dv0 (by decide) (by decide)
  have c5_ : zB 85 144 0 5 N1_ := zB.fr hsN1_ dv1 (by decide) (by decide)
  have c6_ : zJX T N1_ := zJX.fr hsN1_ dv2 (by decide) (by decide)
  have c7_ : zFirs T N1_ := zFirs.fr hsN1_ dv3 (by decide) (by decide)
  have c8_ : zSSm T N1_ := zSSm.fr hsN1_ dv4 (by decide) (by decide)
  have c9_ : zGD N1_ := zGD.fr hsN1_ dv5 (by decide) (by decide)
  show zW l m_M_congruenceOf (zn Mz + 0, zw Mz + 0) N1_ 5 [some (.ref 81), some (.ref 99), some (.int (Int32.ofInt a1_)), none, none, none] [] _
  have hmq_ := hp0_N1_
  have hmr_ := hmq_.2.1
  have hm55_ := hmq_.1.1
  have hms_ := hp3_N1_
  refine zw_lconst (pc := 5) (v := Int64.ofInt 0) (by decide) (zdal_p dlD_M_congruenceOf_100 (i := 3) rfl) ?_
  refine zw_lstore_n (pc := 6) (i := 3) (L2 := [some (.ref 81), some (.ref 99), some (.int (Int32.ofInt a1_)), some (.long (Int64.ofInt 0)), none, none]) rfl (by decide) rfl (zdal_p dlD_M_congruenceOf_100 (i := 4) rfl) ?_
  refine zw_iconst (pc := 7) (v := Int32.ofInt 0) (by decide) (zdal_p dlD_M_congruenceOf_100 (i := 5) rfl) ?_
  refine zw_istore (pc := 8) (i := 5) (L2 := [some (.ref 81), some (.ref 99), some (.int (Int32.ofInt a1_)), some (.long (Int64.ofInt 0)), none, some (.int (Int32.ofInt 0))]) (by decide) rfl (zdal_p dlD_M_congruenceOf_100 (i := 6) rfl) ?_
  have lp_10 : ∀ (n : Nat) (u10_ : Int) (hu10_a : -9223372036854775808 ≤ u10_) (hu10_b : u10_ < 9223372036854775808) (u11_ : Int) (hu11_a : -2147483648 ≤ u11_) (hu11_b : u11_ < 2147483648) (i12_ : 0 ≤ u11_) (i13_ : u11_ ≤ ze N1_ 81 55) (i14_ : Int64.ofInt u10_ = Int64.ofInt (zsm (fun k_ => zg Mz 99 (ze N1_ 109 k_).toNat) (u11_).toNat)), (ze N1_ 81 55 - u11_).toNat < n → zW l m_M_congruenceOf (zn Mz + 0, zw Mz + 0) N1_ 10 [some (.ref 81), some (.ref 99), some (.int (Int32.ofInt a1_)), some (.long (Int64.ofInt u10_)), none, some (.int (Int32.ofInt u11_))] [] (zpJ [55] [109] Mz (fun v N => Int64.ofInt v = Int64.ofInt (zsm (zmi T (gFn T (a1_).toNat) (zcgF T (gFn T (a1_).toNat) (fun j_ => zg Mz 99 j_))) (gN T)) ∧ ze N 81 55 = ((gmm T (gFn T (a1_).toNat) : Nat) : Int) ∧ 1 ≤ ze N 81 55 ∧ ze N 81 55 ≤ 24)) := by
    intro n
    induction n with
    | zero =>
      intro u10_ hu10_a hu10_b u11_ hu11_a hu11_b i12_ i13_ i14_ h0
      exact absurd h0 (Nat.not_lt_zero _)
    | succ n ih_10 =>
      intro u10_ hu10_a hu10_b u11_ hu11_a hu11_b i12_ i13_ i14_ hlt_10
      have hci_ := (show Int64.ofInt u10_ = Int64.ofInt (zsm (fun k_ => zg Mz 99 (ze N1_ 109 k_).toNat) (u11_).toNat) by first | with_reducible assumption | assumption)
      refine zw_iload (pc := 10) (i := 5) (x := Int32.ofInt u11_) rfl (zdal_p dlD_M_congruenceOf_100 (i := 7) rfl) ?_
      refine zw_aload_n (pc := 12) (n := 0) (x := 81) rfl (zdal_p dlD_M_congruenceOf_100 (i := 8) rfl) ?_
      refine zr_getI (hf_N1_.w hW) (pc := 13) f_M_453 rfl (zdal_p dlD_M_congruenceOf_100 (i := 9) rfl) ?_
      refine zr_icmp_ge (pc := 16) (tgt := 37) ⟨hu11_a, hu11_b⟩ ⟨(ze_r N1_ 81 55).1, (ze_r N1_ 81 55).2⟩ (by decide) (zdal_p dlD_M_congruenceOf_100 (i := 10) rfl) (fun hc_16 => ?_) (fun hc_16 => ?_)
      · skip
        refine zw_lload_n (pc := 37) (n := 3) (x := Int64.ofInt u10_) rfl (zdal_p dlD_M_congruenceOf_100 (i := 22) rfl) ?_
        exact zr_lret (pc := 38) rfl ⟨by (exact hu10_a), by (exact hu10_b)⟩ hf_N1_ ⟨(show Int64.ofInt u10_ = Int64.ofInt (zsm (zmi T (gFn T (a1_).toNat) (zcgF T (gFn T (a1_).toNat) (fun j_ => zg Mz 99 j_))) (gN T)) by have h_ := hci_; rw [show (u11_).toNat = (ze N1_ 81 55).toNat by omega, hms_.2 (fun j_ => zg Mz 99 j_), Int.toNat_natCast] at h_; exact h_), (show ze N1_ 81 55 = ((gmm T (gFn T (a1_).toNat) : Nat) : Int) by exact hm55_), (show 1 ≤ ze N1_ 81 55 by first | with_reducible assumption | assumption | omega), (show ze N1_ 81 55 ≤ 24 by first | with_reducible assumption | assumption | omega)⟩ (zdal_p dlD_M_congruenceOf_100 (i := 23) rfl)
      · skip
        refine zw_lload_n (pc := 19) (n := 3) (x := Int64.ofInt u10_) rfl (zdal_p dlD_M_congruenceOf_100 (i := 11) rfl) ?_
        refine zw_aload_n (pc := 20) (n := 1) (x := 99) rfl (zdal_p dlD_M_congruenceOf_100 (i := 12) rfl) ?_
        refine zw_aload_n (pc := 21) (n := 0) (x := 81) rfl (zdal_p dlD_M_congruenceOf_100 (i := 13) rfl) ?_
        refine zr_getF (r := 109) (hf_N1_.w hW) (pc := 22) f_M_99 rfl (zh_109 (hf_N1_.w hW)).1 (zdal_p dlD_M_congruenceOf_100 (i := 14) rfl) ?_
        refine zw_iload (pc := 25) (i := 5) (x := Int32.ofInt u11_) rfl (zdal_p dlD_M_congruenceOf_100 (i := 15) rfl) ?_
        refine zr_ialdn (pc := 27) (zh_109 (hf_N1_.w hW)).2 (by decide) (by (exact i12_)) (by (exact zo_1374 hc_16 hp2_N1_)) (zdal_p dlD_M_congruenceOf_100 (i := 16) rfl) (fun v15_ hv15_ hv15_a hv15_b => ?_)
        have hmx_ := hmr_ (u11_).toNat (by (exact zo_695 hc_16 i12_))
        have hix_ := hv15_
        refine zr_laldn (pc := 28) (zh_99 (hf_N1_.w hW)).2 (by decide) (by (exact zo_574 hmx_.1 hv15_ hv15_a)) (by (exact zo_2603 gxl hmx_.2 hv15_ hv15_b)) (zdal_p dlD_M_congruenceOf_100 (i := 17) rfl) (fun v16_ hv16_ hv16_a hv16_b => ?_)
        rw [hf_N1_.jg (by decide) (by decide)] at hv16_
        have hx_ := hv16_
        rw [hix_] at hx_
        refine zr_ladd (pc := 29) (zdal_p dlD_M_congruenceOf_100 (i := 18) rfl) ?_
        refine zk_nmJ (fun v17_ hv17_ hv17_e => ?_)
        obtain ⟨hv17_a, hv17_b⟩ := hv17_
        have hcn_ := zsm_s64 (f := fun k_ => zg Mz 99 (ze N1_ 109 k_).toNat) hci_ hv17_e hx_ (by (exact i12_))
        refine zw_lstore_n (pc := 30) (i := 3) (L2 := [some (.ref 81), some (.ref 99), some (.int (Int32.ofInt a1_)), some (.long (Int64.ofInt v17_)), none, some (.int (Int32.ofInt u11_))]) rfl (by decide) rfl (zdal_p dlD_M_congruenceOf_100 (i := 19) rfl) ?_
        refine zr_iinc (pc := 31) (i := 5) (a := u11_) (n := 1) (L2 := [some (.ref 81), some (.ref 99), some (.int (Int32.ofInt a1_)), some (.long (Int64.ofInt v17_)), none, some (.int (Int32.ofInt (u11_ + 1)))]) rfl (by decide) rfl (zdal_p dlD_M_congruenceOf_100 (i := 20) rfl) ?_
        refine zw_goto (pc := 34) (tgt := 10) (by decide) (zdal_p dlD_M_congruenceOf_100 (i := 21) rfl) ?_
        exact ih_10 v17_ hv17_a hv17_b (u11_ + 1) (by (exact zo_74 i12_)) (by (exact zo_1371 hc_16 hp2_N1_)) (show 0 ≤ (u11_ + 1) by first | with_reducible assumption | (exact zo_76 i12_) | assumption) (show (u11_ + 1) ≤ ze N1_ 81 55 by first | with_reducible assumption | assumption | omega) (show Int64.ofInt v17_ = Int64.ofInt (zsm (fun k_ => zg Mz 99 (ze N1_ 109 k_).toNat) ((u11_ + 1)).toNat) by exact hcn_) (by (exact zo_147 hc_16 hlt_10))
  exact lp_10 _ 0 (by decide) (by decide) 0 (by decide) (by decide) (show 0 ≤ (0 : Int) by first | with_reducible assumption | (decide) | assumption) (show (0 : Int) ≤ ze N1_ 81 55 by first | with_reducible assumption | (exact zo_564 hp1_N1_) | assumption) (show Int64.ofInt (0 : Int) = Int64.ofInt (zsm (fun k_ => zg Mz 99 (ze N1_ 109 k_).toNat) ((0 : Int)).toNat) by rfl) (Nat.lt_succ_self _)
set_option maxHeartbeats 4000000 in
theorem c_M_isBlankS (l : Launch) (Mz : zMem) (hW : zMt Mz) (a0_ : Int) (ha0_a : -2147483648 ≤ a0_) (ha0_b : a0_ < 2147483648) (b_ : Nat → Int) (n_ : Nat) (p0_ : zR82 b_ n_ Mz) (p1_ : a0_ = n_) (p2_ : 0 ≤ ze Mz 81 64) : zC l m_M_isBlank 0 0 [.ref 81, .int (Int32.ofInt a0_)] Mz (zpI [] [] Mz (fun v N => (((v = 1 ∧ ze Mz 81 64 < n_ ∧ zpB (b_ (ze Mz 81 64).toNat) = true) ∨ (v = 0 ∧ (n_ ≤ ze Mz 81 64 ∨ (ze Mz 81 64 < n_ ∧ zpB (b_ (ze Mz 81 64).toNat) = false))))))) := by
  refine zC_of (L0 := [some (.ref 81), some (.int (Int32.ofInt a0_))]) md_M_isBlank (Nat.le_of_ble_eq_true rfl) rfl ?_ zQ0
  have hf : zFr [] [] Mz Mz := zFr.rf
  have r_64 := ze_r Mz 81 64
  obtain ⟨hn7_, hB_, hb_⟩ := id p0_
  refine zw_aload_n (pc := 0) (n := 0) (x := 81) rfl (zdal_p dlD_M_isBlank_130 (i := 0) rfl) ?_
  refine zr_getI0 hf hW (pc := 1) (by decide) f_M_504 rfl (zdal_p dlD_M_isBlank_130 (i := 1) rfl) ?_
  refine zw_iload_n (pc := 4) (n := 1) (x := Int32.ofInt a0_) rfl (zdal_p dlD_M_isBlank_130 (i := 2) rfl) ?_
  refine zr_icmp_ge (pc := 5) (tgt := 40) ⟨(ze_r Mz 81 64).1, (ze_r Mz 81 64).2⟩ ⟨ha0_a, ha0_b⟩ (by decide) (zdal_p dlD_M_isBlank_130 (i := 3) rfl) (fun hc_5 => ?_) (fun hc_5 => ?_)
  · skip
    refine zw_iconst (pc := 40) (v := Int32.ofInt 0) (by decide) (zdal_p dlD_M_isBlank_130 (i := 20) rfl) ?_
    exact zr_iret (pc := 41) (ty := .boolean) rfl (z_narB (by (decide))) ⟨by (decide), by (decide)⟩ hf (show ((0 = 1 ∧ ze Mz 81 64 < n_ ∧ zpB (b_ (ze Mz 81 64).toNat) = true) ∨ (0 = 0 ∧ (n_ ≤ ze Mz 81 64 ∨ (ze Mz 81 64 < n_ ∧ zpB (b_ (ze Mz 81 64).toNat) = false)))) from Or.inr (⟨(show 0 = 0 by first | rfl | exact Or.inl (by omega) | exact Or.inr ⟨by omega, Bool.eq_false_iff.mpr (fun h_ => by have h2_ := zpB_t.mp h_; omega)⟩), (show (n_ ≤ ze Mz 81 64 ∨ (ze Mz 81 64 < n_ ∧ zpB (b_ (ze Mz 81 64).toNat) = false)) by first | rfl | exact Or.inl (by omega) | exact Or.inr ⟨by omega, Bool.eq_false_iff.mpr (fun h_ => by have h2_ := zpB_t.mp h_; omega)⟩)⟩)) (zdal_p dlD_M_isBlank_130 (i := 21) rfl)
  · skip
    refine zw_aload_n (pc := 8) (n := 0) (x := 81) rfl (zdal_p dlD_M_isBlank_130 (i := 4) rfl) ?_
    refine zr_getF (r := 82) (hf.w hW) (pc := 9) f_M_7 rfl (zh_82 (hf.w hW)).1 (zdal_p dlD_M_isBlank_130 (i := 5) rfl) ?_
    refine zw_aload_n (pc := 12) (n := 0) (x := 81) rfl (zdal_p dlD_M_isBlank_130 (i := 6) rfl) ?_
    refine zr_getI0 hf hW (pc := 13) (by decide) f_M_504 rfl (zdal_p dlD_M_isBlank_130 (i := 7) rfl) ?_
    refine zr_ialdn (pc := 16) (zh_82 (hf.w hW)).2 (by decide) (by (exact p2_)) (by omega) (zdal_p dlD_M_isBlank_130 (i := 8) rfl) (fun v1_ hv1_ hv1_a hv1_b => ?_)
    have hx_ := hv1_.trans (hb_ (ze Mz 81 64).toNat (by omega))
    refine zw_bipush (pc := 17) (v := Int32.ofInt 32) (by decide) (zdal_p dlD_M_isBlank_130 (i := 9) rfl) ?_
    refine zr_icmp_eq (pc := 19) (tgt := 36) ⟨hv1_a, hv1_b⟩ ⟨(by decide), (by decide)⟩ (by decide) (zdal_p dlD_M_isBlank_130 (i := 10) rfl) (fun hc_19 => ?_) (fun hc_19 => ?_)
    · skip
      refine zw_iconst (pc := 36) (v := Int32.ofInt 1) (by decide) (zdal_p dlD_M_isBlank_130 (i := 18) rfl) ?_
      refine zw_goto (pc := 37) (tgt := 41) (by decide) (zdal_p dlD_M_isBlank_130 (i := 19) rfl) ?_
      exact zr_iret (pc := 41) (ty := .boolean) rfl (z_narB (by (decide))) ⟨by (decide), by (decide)⟩ hf (show ((1 = 1 ∧ ze Mz 81 64 < n_ ∧ zpB (b_ (ze Mz 81 64).toNat) = true) ∨ (1 = 0 ∧ (n_ ≤ ze Mz 81 64 ∨ (ze Mz 81 64 < n_ ∧ zpB (b_ (ze Mz 81 64).toNat) = false)))) from Or.inl (⟨(show 1 = 1 by first | rfl | omega | exact zpB_t.mpr (by omega)), (show ze Mz 81 64 < n_ by first | rfl | (exact zo_1413 hc_5 p1_ r_64.2) | exact zpB_t.mpr (by omega)), (show zpB (b_ (ze Mz 81 64).toNat) = true by first | rfl | omega | exact zpB_t.mpr (by (exact zo_161 hc_19 hx_)))⟩)) (zdal_p dlD_M_isBlank_130 (i := 21) rfl)
    · skip
      refine zw_aload_n (pc := 22) (n := 0) (x := 81) rfl (zdal_p dlD_M_isBlank_130 (i := 11) rfl) ?_
      refine zr_getF (r := 82) (hf.w hW) (pc := 23) f_M_7 rfl (zh_82 (hf.w hW)).1 (zdal_p dlD_M_isBlank_130 (i := 12) rfl) ?_
      refine zw_aload_n (pc := 26) (n := 0) (x := 81) rfl (zdal_p dlD_M_isBlank_130 (i := 13) rfl) ?_
      refine zr_getI0 hf hW (pc := 27) (by decide) f_M_504 rfl (zdal_p dlD_M_isBlank_130 (i := 14) rfl) ?_
      refine zr_ialdn (pc := 30) (zh_82 (hf.w hW)).2 (by decide) (by (exact p2_)) (by omega) (zdal_p dlD_M_isBlank_130 (i := 15) rfl) (fun v2_ hv2_ hv2_a hv2_b => ?_)
      have hy_ := hv2_.trans (hb_ (ze Mz 81 64).toNat (by omega))
      refine zw_bipush (pc := 31) (v := Int32.ofInt 10) (by decide) (zdal_p dlD_M_isBlank_130 (i := 16) rfl) ?_
      refine zr_icmp_ne (pc := 33) (tgt := 40) ⟨hv2_a, hv2_b⟩ ⟨(by decide), (by decide)⟩ (by decide) (zdal_p dlD_M_isBlank_130 (i := 17) rfl) (fun hc_33 => ?_) (fun hc_33 => ?_)
      · skip
        refine zw_iconst (pc := 40) (v := Int32.ofInt 0) (by decide) (zdal_p dlD_M_isBlank_130 (i := 20) rfl) ?_
        exact zr_iret (pc := 41) (ty := .boolean) rfl (z_narB (by (decide))) ⟨by (decide), by (decide)⟩ hf (show ((0 = 1 ∧ ze Mz 81 64 < n_ ∧ zpB (b_ (ze Mz 81 64).toNat) = true) ∨ (0 = 0 ∧ (n_ ≤ ze Mz 81 64 ∨ (ze Mz 81 64 < n_ ∧ zpB (b_ (ze Mz 81 64).toNat) = false)))) from Or.inr (⟨(show 0 = 0 by first | rfl | exact Or.inl (by omega) | exact Or.inr ⟨by omega, Bool.eq_false_iff.mpr (fun h_ => by have h2_ := zpB_t.mp h_; omega)⟩), (show (n_ ≤ ze Mz 81 64 ∨ (ze Mz 81 64 < n_ ∧ zpB (b_ (ze Mz 81 64).toNat) = false)) by first | rfl | exact Or.inl (by omega) | exact Or.inr ⟨by (exact zo_1413 hc_5 p1_ r_64.2), Bool.eq_false_iff.mpr (fun h_ => by have h2_ := zpB_t.mp h_; omega)⟩)⟩)) (zdal_p dlD_M_isBlank_130 (i := 21) rfl)
      · skip
        refine zw_iconst (pc := 36) (v := Int32.ofInt 1) (by decide) (zdal_p dlD_M_isBlank_130 (i := 18) rfl) ?_
        refine zw_goto (pc := 37) (tgt := 41) (by decide) (zdal_p dlD_M_isBlank_130 (i := 19) rfl) ?_
        exact zr_iret (pc := 41) (ty := .boolean) rfl (z_narB (by (decide))) ⟨by (decide), by (decide)⟩ hf (show ((1 = 1 ∧ ze Mz 81 64 < n_ ∧ zpB (b_ (ze Mz 81 64).toNat) = true) ∨ (1 = 0 ∧ (n_ ≤ ze Mz 81 64 ∨ (ze Mz 81 64 < n_ ∧ zpB (b_ (ze Mz 81 64).toNat) = false)))) from Or.inl (⟨(show 1 = 1 by first | rfl | omega | exact zpB_t.mpr (by omega)), (show ze Mz 81 64 < n_ by first | rfl | (exact zo_1413 hc_5 p1_ r_64.2) | exact zpB_t.mpr (by omega)), (show zpB (b_ (ze Mz 81 64).toNat) = true by first | rfl | omega | exact zpB_t.mpr (by (exact zo_258 hc_33 hy_)))⟩)) (zdal_p dlD_M_isBlank_130 (i := 21) rfl)
set_option maxHeartbeats 4000000 in
theorem c_M_readsNumberS (l : Launch) (Mz : zMem) (hW : zMt Mz) (a0_ : Int) (ha0_a : -2147483648 ≤ a0_) (ha0_b : a0_ < 2147483648) (T : zGT) (hO : gOK T) (b_ : Nat → Int) (n_ : Nat) (p0_ : zGB T Mz) (p1_ : zR82 b_ n_ Mz) (p2_ : a0_ = n_) (p3_ : 0 ≤ ze Mz 81 64) (p4_ : ze Mz 81 64 ≤ n_) (p5_ : 0 ≤ ze Mz 81 65) (p6_ : ze Mz 81 65 ≤ ((gF T).length : Int)) : zC l m_M_readsNumber 0 0 [.ref 81, .int (Int32.ofInt a0_)] Mz (zpI [64, 65] [99] Mz (fun v N => (((v = 1 ∧ ze Mz 81 65 < ((gF T).length : Int) ∧ ze N 81 65 = ze Mz 81 65 + 1 ∧ (∀ j : Nat, (j : Int) ≠ ze Mz 81 65 → zg N 99 j = zg Mz 99 j) ∧ zNs b_ n_ (ze Mz 81 64).toNat (zg N 99 (ze Mz 81 65).toNat) (ze N 81 64).toNat ∧ ze Mz 81 64 < ze N 81 64 ∧ ze N 81 64 ≤ n_ ∧ -999999 ≤ zg N 99 (ze Mz 81 65).toNat ∧ zg N 99 (ze Mz 81 65).toNat ≤ 999999) ∨ (v = 0 ∧ (ze Mz 81 65 = ((gF T).length : Int) ∨ ¬ ∃ v t, zNs b_ n_ (ze Mz 81 64).toNat v t)))))) := by
  refine zC_of (L0 := [some (.ref 81), some (.int (Int32.ofInt a0_)), none, none, none, none]) md_M_readsNumber (Nat.le_of_ble_eq_true rfl) rfl ?_ zQ0
  have hf : zFr [64, 65] [99] Mz Mz := zFr.rf
  have r_26 := ze_r Mz 81 26
  have r_64 := ze_r Mz 81 64
  have r_65 := ze_r Mz 81 65
  have hG := hO.1
  have g24 := hG.2.1
  have g1 := hG.1
  have dv0 : zTab T Mz := p0_.1
  have dv1 : zB 85 144 0 5 Mz := p0_.2.1
  have dv2 : zJX T Mz := p0_.2.2.1
  have dv3 : zFirs T Mz := p0_.2.2.2.1
  have dv4 : zSSm T Mz := p0_.2.2.2.2.1
  have dv5 : zGD Mz := zGB.d hO p0_
  have gb := dv5.1
  have gn := dv0.1
  have hfl_ := dv3.1
  obtain ⟨hn7_, hB_, hb_⟩ := id p1_
  refine zw_aload_n (pc := 0) (n := 0) (x := 81) rfl (zdal_p dlD_M_readsNumber_131 (i := 0) rfl) ?_
  refine zr_getI (hf.w hW) (pc := 1) f_M_504 rfl (zdal_p dlD_M_readsNumber_131 (i := 1) rfl) ?_
  refine zw_iload_n (pc := 4) (n := 1) (x := Int32.ofInt a0_) rfl (zdal_p dlD_M_readsNumber_131 (i := 2) rfl) ?_
  have j_27 : ∀ (u1_ : Int) (hu1_a : -2147483648 ≤ u1_) (hu1_b : u1_ < 2147483648) (hu1_z : u1_ = 0 ∨ u1_ = 1) (i2_ : (((u1_ : Int) = 1 ∧ ze Mz 81 64 < n_ ∧ b_ (ze Mz 81 64).toNat = 45) ∨ ((u1_ : Int) = 0 ∧ ¬ (ze Mz 81 64 < n_ ∧ b_ (ze Mz 81 64).toNat = 45)))), zW l m_M_readsNumber (zn Mz + 0, zw Mz + 0) Mz 27 [some (.ref 81), some (.int (Int32.ofInt a0_)), none, none, none, none] [.int (Int32.ofInt u1_)] (zpI [64, 65] [99] Mz (fun v N => (((v = 1 ∧ ze Mz 81 65 < ((gF T).length : Int) ∧ ze N 81 65 = ze Mz 81 65 + 1 ∧ (∀ j : Nat, (j : Int) ≠ ze Mz 81 65 → zg N 99 j = zg Mz 99 j) ∧ zNs b_ n_ (ze Mz 81 64).toNat (zg N 99 (ze Mz 81 65).toNat) (ze N 81 64).toNat ∧ ze Mz 81 64 < ze N 81 64 ∧ ze N 81 64 ≤ n_ ∧ -999999 ≤ zg N 99 (ze Mz 81 65).toNat ∧ zg N 99 (ze Mz 81 65).toNat ≤ 999999) ∨ (v = 0 ∧ (ze Mz 81 65 = ((gF T).length : Int) ∨ ¬ ∃ v t, zNs b_ n_ (ze Mz 81 64).toNat v t)))))) := by
    intro u1_ hu1_a hu1_b hu1_z i2_
    refine zw_istore_n (pc := 27) (i := 2) (L2 := [some (.ref 81), some (.int (Int32.ofInt a0_)), some (.int (Int32.ofInt u1_)), none, none, none]) rfl (by decide) rfl (zdal_p dlD_M_readsNumber_131 (i := 14) rfl) ?_
    have hsi_ : ((u1_ = 1 ∧ ze Mz 81 64 < n_ ∧ b_ (ze Mz 81 64).toNat = 45) ∨ (u1_ = 0 ∧ ¬ (ze Mz 81 64 < n_ ∧ b_ (ze Mz 81 64).toNat = 45))) := by assumption
    have hs_ : (((ze Mz 81 64).toNat < n_ ∧ b_ (ze Mz 81 64).toNat = 45 ∧ (ze Mz 81 64 + u1_).toNat = (ze Mz 81 64).toNat + 1) ∨ (¬ ((ze Mz 81 64).toNat < n_ ∧ b_ (ze Mz 81 64).toNat = 45) ∧ (ze Mz 81 64 + u1_).toNat = (ze Mz 81 64).toNat)) := by rcases hsi_ with q_ | q_; exact Or.inl ⟨by omega, q_.2.2, by omega⟩; exact Or.inr ⟨fun z_ => q_.2 ⟨by omega, z_.2⟩, by omega⟩
    refine zw_iload_n (pc := 28) (n := 2) (x := Int32.ofInt u1_) rfl (zdal_p dlD_M_readsNumber_131 (i := 15) rfl) ?_
    have j_42 : ∀ (N3_ : zMem) (hs4_ : zFr [64] [] Mz N3_) (i5_ : ze N3_ 81 64 = (ze Mz 81 64 + u1_)) (i6_ : (∀ j : Nat, zg N3_ 99 j = zg Mz 99 j)), zW l m_M_readsNumber (zn Mz + 0, zw Mz + 0) N3_ 42 [some (.ref 81), some (.int (Int32.ofInt a0_)), some (.int (Int32.ofInt u1_)), none, none, none] [] (zpI [64, 65] [99] Mz (fun v N => (((v = 1 ∧ ze Mz 81 65 < ((gF T).length : Int) ∧ ze N 81 65 = ze Mz 81 65 + 1 ∧ (∀ j : Nat, (j : Int) ≠ ze Mz 81 65 → zg N 99 j = zg Mz 99 j) ∧ zNs b_ n_ (ze Mz 81 64).toNat (zg N 99 (ze Mz 81 65).toNat) (ze N 81 64).toNat ∧ ze Mz 81 64 < ze N 81 64 ∧ ze N 81 64 ≤ n_ ∧ -999999 ≤ zg N 99 (ze Mz 81 65).toNat ∧ zg N 99 (ze Mz 81 65).toNat ≤ 999999) ∨ (v = 0 ∧ (ze Mz 81 65 = ((gF T).length : Int) ∨ ¬ ∃ v t, zNs b_ n_ (ze Mz 81 64).toNat v t)))))) := by
      intro N3_ hs4_ i5_ i6_
      have hf_N3_ : zFr [64, 65] [99] Mz N3_ := hf.tr hs4_ (by decide) (by decide)
      have e26_N3_ : ze N3_ 81 26 = ze Mz 81 26 := hs4_.e (by decide)
      have r64_N3_ := ze_r N3_ 81 64
      have e65_N3_ : ze N3_ 81 65 = ze Mz 81 65 := hs4_.e (by decide)
      have c7_ : zGB T N3_ := zGB.fr hs4_ p0_ (by decide) (by decide)
      have c8_ : zR82 b_ n_ N3_ := zR82.fr hs4_ p1_ (by decide) (by decide)
      have c9_ : zTab T N3_ := zTab.fr hs4_ dv0 (by decide) (by decide)
      have c10_ : zB 85 144 0 5 N3_ := zB.fr hs4_ dv1 (by decide) (by decide)
      have c11_ : zJX T N3_ := zJX.fr hs4_ dv2 (by decide) (by decide)
      have c12_ : zFirs T N3_ := zFirs.fr hs4_ dv3 (by decide) (by decide)
      have c13_ : zSSm T N3_ := zSSm.fr hs4_ dv4 (by decide) (by decide)
      have c14_ : zGD N3_ := zGD.fr hs4_ dv5 (by decide) (by decide)
      refine zw_lconst (pc := 42) (v := Int64.ofInt 0) (by decide) (zdal_p dlD_M_readsNumber_131 (i := 23) rfl) ?_
      refine zw_lstore_n (pc := 43) (i := 3) (L2 := [some (.ref 81), some (.int (Int32.ofInt a0_)), some (.int (Int32.ofInt u1_)), some (.long (Int64.ofInt 0)), none, none]) rfl (by decide) rfl (zdal_p dlD_M_readsNumber_132 (i := 0) rfl) ?_
      refine zw_iconst (pc := 44) (v := Int32.ofInt 0) (by decide) (zdal_p dlD_M_readsNumber_132 (i := 1) rfl) ?_
      refine zw_istore (pc := 45) (i := 5) (L2 := [some (.ref 81), some (.int (Int32.ofInt a0_)), some (.int (Int32.ofInt u1_)), some (.long (Int64.ofInt 0)), none, some (.int (Int32.ofInt 0))]) (by decide) rfl (zdal_p dlD_M_readsNumber_132 (i := 2) rfl) ?_
      have lp_47 : ∀ (n : Nat) (u15_ : Int) (hu15_a : -9223372036854775808 ≤ u15_) (hu15_b : u15_ < 9223372036854775808) (u16_ : Int) (hu16_a : -2147483648 ≤ u16_) (hu16_b : u16_ < 2147483648) (N17_ : zMem) (hs18_ : zFr [64] [] N3_ N17_) (i19_ : 0 ≤ u16_) (i20_ : u16_ ≤ 7) (i21_ : ze N17_ 81 64 = (ze Mz 81 64 + u1_) + u16_) (i22_ : ze N17_ 81 64 ≤ n_) (i23_ : (∀ i : Nat, (i : Int) < u16_ → zpD (b_ ((ze Mz 81 64 + u1_).toNat + i)) = true)) (i24_ : u15_ = zvl b_ (ze Mz 81 64 + u1_).toNat (u16_).toNat) (i25_ : zru zpD b_ n_ (ze N17_ 81 64).toNat = zru zpD b_ n_ (ze Mz 81 64 + u1_).toNat) (i26_ : (∀ j : Nat, zg N17_ 99 j = zg Mz 99 j)), (n_ - ze N17_ 81 64).toNat < n → zW l m_M_readsNumber (zn Mz + 0, zw Mz + 0) N17_ 47 [some (.ref 81), some (.int (Int32.ofInt a0_)), some (.int (Int32.ofInt u1_)), some (.long (Int64.ofInt u15_)), none, some (.int (Int32.ofInt u16_))] [] (zpI [64, 65] [99] Mz (fun v N => (((v = 1 ∧ ze Mz 81 65 < ((gF T).length : Int) ∧ ze N 81 65 = ze Mz 81 65 + 1 ∧ (∀ j : Nat, (j : Int) ≠ ze Mz 81 65 → zg N 99 j = zg Mz 99 j) ∧ zNs b_ n_ (ze Mz 81 64).toNat (zg N 99 (ze Mz 81 65).toNat) (ze N 81 64).toNat ∧ ze Mz 81 64 < ze N 81 64 ∧ ze N 81 64 ≤ n_ ∧ -999999 ≤ zg N 99 (ze Mz 81 65).toNat ∧ zg N 99 (ze Mz 81 65).toNat ≤ 999999) ∨ (v = 0 ∧ (ze Mz 81 65 = ((gF T).length : Int) ∨ ¬ ∃ v t, zNs b_ n_ (ze Mz 81 64).toNat v t)))))) := by
        intro n
        induction n with
        | zero =>
          intro u15_ hu15_a hu15_b u16_ hu16_a hu16_b N17_ hs18_ i19_ i20_ i21_ i22_ i23_ i24_ i25_ i26_ h0
          exact absurd h0 (Nat.not_lt_zero _)
        | succ n ih_47 =>
          intro u15_ hu15_a hu15_b u16_ hu16_a hu16_b N17_ hs18_ i19_ i20_ i21_ i22_ i23_ i24_ i25_ i26_ hlt_47
          have hf_N17_ : zFr [64, 65] [99] Mz N17_ := hf_N3_.tr hs18_ (by decide) (by decide)
          have e26_N17_ : ze N17_ 81 26 = ze N3_ 81 26 := hs18_.e (by decide)
          have r64_N17_ := ze_r N17_ 81 64
          have e65_N17_ : ze N17_ 81 65 = ze N3_ 81 65 := hs18_.e (by decide)
          have c27_ : zGB T N17_ := zGB.fr hs18_ c7_ (by decide) (by decide)
          have c28_ : zR82 b_ n_ N17_ := zR82.fr hs18_ c8_ (by decide) (by decide)
          have c29_ : zTab T N17_ := zTab.fr hs18_ c9_ (by decide) (by decide)
          have c30_ : zB 85 144 0 5 N17_ := zB.fr hs18_ c10_ (by decide) (by decide)
          have c31_ : zJX T N17_ := zJX.fr hs18_ c11_ (by decide) (by decide)
          have c32_ : zFirs T N17_ := zFirs.fr hs18_ c12_ (by decide) (by decide)
          have c33_ : zSSm T N17_ := zSSm.fr hs18_ c13_ (by decide) (by decide)
          have c34_ : zGD N17_ := zGD.fr hs18_ c14_ (by decide) (by decide)
          have hdi_ := (show (∀ i : Nat, (i : Int) < u16_ → zpD (b_ ((ze Mz 81 64 + u1_).toNat + i)) = true) by first | with_reducible assumption | assumption)
          have hvi_ := (show u15_ = zvl b_ (ze Mz 81 64 + u1_).toNat (u16_).toNat by first | with_reducible assumption | assumption)
          have hzi_ := (show zru zpD b_ n_ (ze N17_ 81 64).toNat = zru zpD b_ n_ (ze Mz 81 64 + u1_).toNat by first | with_reducible assumption | assumption)
          have hvb_ := zvl_7 (b := b_) (s := (ze Mz 81 64 + u1_).toNat) (k := (u16_).toNat) (by omega) (fun i_ hi_ => hdi_ i_ (by omega))
          have h99l_ := (show (∀ j : Nat, zg N17_ 99 j = zg Mz 99 j) by first | with_reducible assumption | assumption)
          have j_114 : ∀ (i35_ : 0 ≤ u16_) (i36_ : u16_ ≤ 7) (i37_ : ze N17_ 81 64 = (ze Mz 81 64 + u1_) + u16_) (i38_ : ze N17_ 81 64 ≤ n_) (i39_ : (∀ i : Nat, (i : Int) < u16_ → zpD (b_ ((ze Mz 81 64 + u1_).toNat + i)) = true)) (i40_ : u15_ = zvl b_ (ze Mz 81 64 + u1_).toNat (u16_).toNat) (i41_ : zru zpD b_ n_ (ze N17_ 81 64).toNat = zru zpD b_ n_ (ze Mz 81 64 + u1_).toNat) (i42_ : (u16_ ≤ 6 → zru zpD b_ n_ (ze Mz 81 64 + u1_).toNat = (ze N17_ 81 64).toNat)) (i43_ : (∀ j : Nat, zg N17_ 99 j = zg Mz 99 j)), zW l m_M_readsNumber (zn Mz + 0, zw Mz + 0) N17_ 114 [some (.ref 81), some (.int (Int32.ofInt a0_)), some (.int (Int32.ofInt u1_)), some (.long (Int64.ofInt u15_)), none, some (.int (Int32.ofInt u16_))] [] (zpI [64, 65] [99] Mz (fun v N => (((v = 1 ∧ ze Mz 81 65 < ((gF T).length : Int) ∧ ze N 81 65 = ze Mz 81 65 + 1 ∧ (∀ j : Nat, (j : Int) ≠ ze Mz 81 65 → zg N 99 j = zg Mz 99 j) ∧ zNs b_ n_ (ze Mz 81 64).toNat (zg N 99 (ze Mz 81 65).toNat) (ze N 81 64).toNat ∧ ze Mz 81 64 < ze N 81 64 ∧ ze N 81 64 ≤ n_ ∧ -999999 ≤ zg N 99 (ze Mz 81 65).toNat ∧ zg N 99 (ze Mz 81 65).toNat ≤ 999999) ∨ (v = 0 ∧ (ze Mz 81 65 = ((gF T).length : Int) ∨ ¬ ∃ v t, zNs b_ n_ (ze Mz 81 64).toNat v t)))))) := by
            intro i35_ i36_ i37_ i38_ i39_ i40_ i41_ i42_ i43_
            have hvj_ := (show u15_ = zvl b_ (ze Mz 81 64 + u1_).toNat (u16_).toNat by first | with_reducible assumption | assumption)
            have hej_ := (show (u16_ ≤ 6 → zru zpD b_ n_ (ze Mz 81 64 + u1_).toNat = (ze N17_ 81 64).toNat) by first | with_reducible assumption | assumption)
            have hzj_ := (show zru zpD b_ n_ (ze N17_ 81 64).toNat = zru zpD b_ n_ (ze Mz 81 64 + u1_).toNat by first | with_reducible assumption | assumption)
            have hdj_ := (show (∀ i : Nat, (i : Int) < u16_ → zpD (b_ ((ze Mz 81 64 + u1_).toNat + i)) = true) by first | with_reducible assumption | assumption)
            have hge_ := zru_ge (P := zpD) (b := b_) (n := n_) (p := (ze N17_ 81 64).toNat)
            have h99_ := (show (∀ j : Nat, zg N17_ 99 j = zg Mz 99 j) by first | with_reducible assumption | assumption)
            refine zw_iload (pc := 114) (i := 5) (x := Int32.ofInt u16_) rfl (zdal_p dlD_M_readsNumber_133 (i := 14) rfl) ?_
            refine zr_if_eq (pc := 116) (tgt := 137) ⟨hu16_a, hu16_b⟩ (by decide) (zdal_p dlD_M_readsNumber_133 (i := 15) rfl) (fun hc_116 => ?_) (fun hc_116 => ?_)
            · skip
              refine zw_iconst (pc := 137) (v := Int32.ofInt 0) (by decide) (zdal_p dlD_M_readsNumber_134 (i := 0) rfl) ?_
              exact zr_iret (pc := 138) (ty := .boolean) rfl (z_narB (by (decide))) ⟨by (decide), by (decide)⟩ hf_N17_ (show ((0 = 1 ∧ ze Mz 81 65 < ((gF T).length : Int) ∧ ze N17_ 81 65 = ze Mz 81 65 + 1 ∧ (∀ j : Nat, (j : Int) ≠ ze Mz 81 65 → zg N17_ 99 j = zg Mz 99 j) ∧ zNs b_ n_ (ze Mz 81 64).toNat (zg N17_ 99 (ze Mz 81 65).toNat) (ze N17_ 81 64).toNat ∧ ze Mz 81 64 < ze N17_ 81 64 ∧ ze N17_ 81 64 ≤ n_ ∧ -999999 ≤ zg N17_ 99 (ze Mz 81 65).toNat ∧ zg N17_ 99 (ze Mz 81 65).toNat ≤ 999999) ∨ (0 = 0 ∧ (ze Mz 81 65 = ((gF T).length : Int) ∨ ¬ ∃ v t, zNs b_ n_ (ze Mz 81 64).toNat v t))) from Or.inr (⟨(show 0 = 0 by first | rfl | exact Or.inl (by omega) | exact Or.inr (zNs_n2 hs_ hzj_ (by omega)) | exact Or.inr (zNs_n2 hs_ rfl (by rw [← hzj_]; omega))), (show (ze Mz 81 65 = ((gF T).length : Int) ∨ ¬ ∃ v t, zNs b_ n_ (ze Mz 81 64).toNat v t) by first | rfl | exact Or.inl (by omega) | exact Or.inr (zNs_n2 hs_ hzj_ (by omega)) | exact Or.inr (zNs_n2 hs_ rfl (by rw [← hzj_]; omega)))⟩)) (zdal_p dlD_M_readsNumber_134 (i := 1) rfl)
            · skip
              refine zw_iload (pc := 119) (i := 5) (x := Int32.ofInt u16_) rfl (zdal_p dlD_M_readsNumber_133 (i := 16) rfl) ?_
              refine zw_bipush (pc := 121) (v := Int32.ofInt 6) (by decide) (zdal_p dlD_M_readsNumber_133 (i := 17) rfl) ?_
              refine zr_icmp_gt (pc := 123) (tgt := 137) ⟨hu16_a, hu16_b⟩ ⟨(by decide), (by decide)⟩ (by decide) (zdal_p dlD_M_readsNumber_133 (i := 18) rfl) (fun hc_123 => ?_) (fun hc_123 => ?_)
              · skip
                refine zw_iconst (pc := 137) (v := Int32.ofInt 0) (by decide) (zdal_p dlD_M_readsNumber_134 (i := 0) rfl) ?_
                exact zr_iret (pc := 138) (ty := .boolean) rfl (z_narB (by (decide))) ⟨by (decide), by (decide)⟩ hf_N17_ (show ((0 = 1 ∧ ze Mz 81 65 < ((gF T).length : Int) ∧ ze N17_ 81 65 = ze Mz 81 65 + 1 ∧ (∀ j : Nat, (j : Int) ≠ ze Mz 81 65 → zg N17_ 99 j = zg Mz 99 j) ∧ zNs b_ n_ (ze Mz 81 64).toNat (zg N17_ 99 (ze Mz 81 65).toNat) (ze N17_ 81 64).toNat ∧ ze Mz 81 64 < ze N17_ 81 64 ∧ ze N17_ 81 64 ≤ n_ ∧ -999999 ≤ zg N17_ 99 (ze Mz 81 65).toNat ∧ zg N17_ 99 (ze Mz 81 65).toNat ≤ 999999) ∨ (0 = 0 ∧ (ze Mz 81 65 = ((gF T).length : Int) ∨ ¬ ∃ v t, zNs b_ n_ (ze Mz 81 64).toNat v t))) from Or.inr (⟨(show 0 = 0 by first | rfl | exact Or.inl (by omega) | exact Or.inr (zNs_n2 hs_ hzj_ (by omega)) | exact Or.inr (zNs_n2 hs_ rfl (by rw [← hzj_]; omega))), (show (ze Mz 81 65 = ((gF T).length : Int) ∨ ¬ ∃ v t, zNs b_ n_ (ze Mz 81 64).toNat v t) by first | rfl | exact Or.inl (by omega) | exact Or.inr (zNs_n2 hs_ hzj_ (by omega)) | exact Or.inr (zNs_n2 hs_ rfl (by rw [← hzj_]; omega)))⟩)) (zdal_p dlD_M_readsNumber_134 (i := 1) rfl)
              · skip
                refine zw_aload_n (pc := 126) (n := 0) (x := 81) rfl (zdal_p dlD_M_readsNumber_133 (i := 19) rfl) ?_
                refine zr_getI (hf_N17_.w hW) (pc := 127) f_M_511 rfl (zdal_p dlD_M_readsNumber_133 (i := 20) rfl) ?_
                refine zw_aload_n (pc := 130) (n := 0) (x := 81) rfl (zdal_p dlD_M_readsNumber_133 (i := 21) rfl) ?_
                refine zr_getI0 hf_N17_ hW (pc := 131) (by decide) f_M_235 rfl (zdal_p dlD_M_readsNumber_133 (i := 22) rfl) ?_
                refine zr_icmp_ne (pc := 134) (tgt := 139) ⟨(ze_r N17_ 81 65).1, (ze_r N17_ 81 65).2⟩ ⟨(ze_r Mz 81 26).1, (ze_r Mz 81 26).2⟩ (by decide) (zdal_p dlD_M_readsNumber_133 (i := 23) rfl) (fun hc_134 => ?_) (fun hc_134 => ?_)
                · skip
                  refine zw_aload_n (pc := 139) (n := 0) (x := 81) rfl (zdal_p dlD_M_readsNumber_134 (i := 2) rfl) ?_
                  refine zr_getF (r := 99) (hf_N17_.w hW) (pc := 140) f_M_69 rfl (zh_99 (hf_N17_.w hW)).1 (zdal_p dlD_M_readsNumber_134 (i := 3) rfl) ?_
                  refine zw_aload_n (pc := 143) (n := 0) (x := 81) rfl (zdal_p dlD_M_readsNumber_134 (i := 4) rfl) ?_
                  refine zr_getI (hf_N17_.w hW) (pc := 144) f_M_511 rfl (zdal_p dlD_M_readsNumber_134 (i := 5) rfl) ?_
                  refine zw_iload_n (pc := 147) (n := 2) (x := Int32.ofInt u1_) rfl (zdal_p dlD_M_readsNumber_134 (i := 6) rfl) ?_
                  refine zr_if_eq (pc := 148) (tgt := 156) ⟨hu1_a, hu1_b⟩ (by decide) (zdal_p dlD_M_readsNumber_134 (i := 7) rfl) (fun hc_148 => ?_) (fun hc_148 => ?_)
                  · skip
                    refine zw_lload_n (pc := 156) (n := 3) (x := Int64.ofInt u15_) rfl (zdal_p dlD_M_readsNumber_134 (i := 11) rfl) ?_
                    refine zr_last (pc := 157) (zh_99 (hf_N17_.w hW)).2 (by decide) (by decide) (by (exact zo_2720 e65_N17_ e65_N3_ p5_)) (by omega) (zdal_p dlD_M_readsNumber_134 (i := 12) rfl) (fun N44_ hN44_ hsN44_ => ?_)
                    have hf_N44_ : zFr [64, 65] [99] Mz N44_ := hf_N17_.tr hsN44_ (by decide) (by decide)
                    have e26_N44_ : ze N44_ 81 26 = ze N17_ 81 26 := hsN44_.e (by decide)
                    have e64_N44_ : ze N44_ 81 64 = ze N17_ 81 64 := hsN44_.e (by decide)
                    have e65_N44_ : ze N44_ 81 65 = ze N17_ 81 65 := hsN44_.e (by decide)
                    have c45_ : zGB T N44_ := zGB.fr hsN44_ c27_ (by decide) (by decide)
                    have c46_ : zR82 b_ n_ N44_ := zR82.fr hsN44_ c28_ (by decide) (by decide)
                    have c47_ : zTab T N44_ := zTab.fr hsN44_ c29_ (by decide) (by decide)
                    have c48_ : zB 85 144 0 5 N44_ := zB.fr hsN44_ c30_ (by decide) (by decide)
                    have c49_ : zJX T N44_ := zJX.fr hsN44_ c31_ (by decide) (by decide)
                    have c50_ : zFirs T N44_ := zFirs.fr hsN44_ c32_ (by decide) (by decide)
                    have c51_ : zSSm T N44_ := zSSm.fr hsN44_ c33_ (by decide) (by decide)
                    have c52_ : zGD N44_ := zGD.fr hsN44_ c34_ (by decide) (by decide)
                    have hq99_ : ∀ j_ : Nat, zg N17_ 99 j_ = zg Mz 99 j_ := fun j_ => h99_ j_
                    have hgt_ := zs_getJ hN44_ ⟨by (exact hu15_a), by (exact hu15_b)⟩
                    have hot_ := fun (j_ : Nat) (hj_ : (j_ : Int) ≠ ze Mz 81 65) => (zs_othJ hN44_ (j := j_) (by omega)).trans (hq99_ j_)
                    refine zw_aload_n (pc := 158) (n := 0) (x := 81) rfl (zdal_p dlD_M_readsNumber_134 (i := 13) rfl) ?_
                    refine zw_dup (pc := 159) rfl (zdal_p dlD_M_readsNumber_134 (i := 14) rfl) ?_
                    refine zr_getI (hf_N44_.w hW) (pc := 160) f_M_511 rfl (zdal_p dlD_M_readsNumber_134 (i := 15) rfl) ?_
                    refine zw_iconst (pc := 163) (v := Int32.ofInt 1) (by decide) (zdal_p dlD_M_readsNumber_134 (i := 16) rfl) ?_
                    refine zr_iadd (pc := 164) (zdal_p dlD_M_readsNumber_134 (i := 17) rfl) ?_
                    refine zr_putI (hf_N44_.w hW) (pc := 165) f_M_511 rfl rfl ⟨by (exact zo_2724 e65_N17_ e65_N3_ e65_N44_ p5_), by omega⟩ rfl rfl (zdal_p dlD_M_readsNumber_134 (i := 18) rfl) (fun N53_ hsN53_ hvN53_ => ?_)
                    have hf_N53_ : zFr [64, 65] [99] Mz N53_ := hf_N44_.tr hsN53_ (by decide) (by decide)
                    have e26_N53_ : ze N53_ 81 26 = ze N44_ 81 26 := hsN53_.e (by decide)
                    have e64_N53_ : ze N53_ 81 64 = ze N44_ 81 64 := hsN53_.e (by decide)
                    have r65_N53_ := ze_r N53_ 81 65
                    have c54_ : zGB T N53_ := zGB.fr hsN53_ c45_ (by decide) (by decide)
                    have c55_ : zR82 b_ n_ N53_ := zR82.fr hsN53_ c46_ (by decide) (by decide)
                    have c56_ : zTab T N53_ := zTab.fr hsN53_ c47_ (by decide) (by decide)
                    have c57_ : zB 85 144 0 5 N53_ := zB.fr hsN53_ c48_ (by decide) (by decide)
                    have c58_ : zJX T N53_ := zJX.fr hsN53_ c49_ (by decide) (by decide)
                    have c59_ : zFirs T N53_ := zFirs.fr hsN53_ c50_ (by decide) (by decide)
                    have c60_ : zSSm T N53_ := zSSm.fr hsN53_ c51_ (by decide) (by decide)
                    have c61_ : zGD N53_ := zGD.fr hsN53_ c52_ (by decide) (by decide)
                    have hgu_ : zg N53_ 99 (ze Mz 81 65).toNat = _ := ((hsN53_).jg (by decide) (by decide) _).trans ((congrArg (fun x_ => zg N44_ 99 x_) (show (ze Mz 81 65).toNat = (ze N17_ 81 65).toNat by omega)).trans hgt_)
                    have hou_ : ∀ j_ : Nat, (j_ : Int) ≠ ze Mz 81 65 → zg N53_ 99 j_ = zg Mz 99 j_ := fun j_ hj_ => ((hsN53_).jg (by decide) (by decide) j_).trans (hot_ j_ hj_)
                    have hte_ : (ze N53_ 81 64).toNat = zru zpD b_ n_ (ze Mz 81 64 + u1_).toNat := by rw [hej_ (by (exact hc_123))]; omega
                    have htv_ : u15_ = zvl b_ (ze Mz 81 64 + u1_).toNat ((ze N53_ 81 64).toNat - (ze Mz 81 64 + u1_).toNat) := by rw [show (ze N53_ 81 64).toNat - (ze Mz 81 64 + u1_).toNat = (u16_).toNat by omega]; exact hvj_
                    have h6_ := zvl_6 hte_ (by omega) (by omega)
                    rw [← htv_] at h6_
                    have hns_ : zNs b_ n_ (ze Mz 81 64).toNat (zg N53_ 99 (ze Mz 81 65).toNat) (ze N53_ 81 64).toNat := ⟨_, hs_, hte_, by omega, by first | exact Or.inl ⟨by omega, by omega, by rw [hgu_, htv_]⟩ | exact Or.inr ⟨by omega, by rw [hgu_, htv_]⟩⟩
                    refine zw_iconst (pc := 168) (v := Int32.ofInt 1) (by decide) (zdal_p dlD_M_readsNumber_134 (i := 19) rfl) ?_
                    exact zr_iret (pc := 169) (ty := .boolean) rfl (z_narB (by (decide))) ⟨by (decide), by (decide)⟩ hf_N53_ (show ((1 = 1 ∧ ze Mz 81 65 < ((gF T).length : Int) ∧ ze N53_ 81 65 = ze Mz 81 65 + 1 ∧ (∀ j : Nat, (j : Int) ≠ ze Mz 81 65 → zg N53_ 99 j = zg Mz 99 j) ∧ zNs b_ n_ (ze Mz 81 64).toNat (zg N53_ 99 (ze Mz 81 65).toNat) (ze N53_ 81 64).toNat ∧ ze Mz 81 64 < ze N53_ 81 64 ∧ ze N53_ 81 64 ≤ n_ ∧ -999999 ≤ zg N53_ 99 (ze Mz 81 65).toNat ∧ zg N53_ 99 (ze Mz 81 65).toNat ≤ 999999) ∨ (1 = 0 ∧ (ze Mz 81 65 = ((gF T).length : Int) ∨ ¬ ∃ v t, zNs b_ n_ (ze Mz 81 64).toNat v t))) from Or.inl (⟨(show 1 = 1 by first | rfl | omega | exact hou_ | exact hns_ | (rw [hgu_]; omega)), (show ze Mz 81 65 < ((gF T).length : Int) by first | rfl | omega | exact hou_ | exact hns_ | (rw [hgu_]; omega)), (show ze N53_ 81 65 = ze Mz 81 65 + 1 by first | rfl | omega | exact hou_ | exact hns_ | (rw [hgu_]; omega)), (show (∀ j : Nat, (j : Int) ≠ ze Mz 81 65 → zg N53_ 99 j = zg Mz 99 j) by first | rfl | omega | exact hou_ | exact hns_ | (rw [hgu_]; omega)), (show zNs b_ n_ (ze Mz 81 64).toNat (zg N53_ 99 (ze Mz 81 65).toNat) (ze N53_ 81 64).toNat by first | rfl | (exact hns_) | exact hou_ | exact hns_ | (rw [hgu_]; omega)), (show ze Mz 81 64 < ze N53_ 81 64 by first | rfl | omega | exact hou_ | exact hns_ | (rw [hgu_]; omega)), (show ze N53_ 81 64 ≤ n_ by first | rfl | omega | exact hou_ | exact hns_ | (rw [hgu_]; omega)), (show -999999 ≤ zg N53_ 99 (ze Mz 81 65).toNat ∧ zg N53_ 99 (ze Mz 81 65).toNat ≤ 999999 by first | rfl | omega | exact hou_ | exact hns_ | (rw [hgu_]; omega))⟩)) (zdal_p dlD_M_readsNumber_134 (i := 20) rfl)
                  · skip
                    refine zw_lload_n (pc := 151) (n := 3) (x := Int64.ofInt u15_) rfl (zdal_p dlD_M_readsNumber_134 (i := 8) rfl) ?_
                    refine zr_lneg (pc := 152) (zdal_p dlD_M_readsNumber_134 (i := 9) rfl) ?_
                    refine zw_goto (pc := 153) (tgt := 157) (by decide) (zdal_p dlD_M_readsNumber_134 (i := 10) rfl) ?_
                    refine zr_last (pc := 157) (zh_99 (hf_N17_.w hW)).2 (by decide) (by decide) (by (exact zo_2720 e65_N17_ e65_N3_ p5_)) (by omega) (zdal_p dlD_M_readsNumber_134 (i := 12) rfl) (fun N62_ hN62_ hsN62_ => ?_)
                    have hf_N62_ : zFr [64, 65] [99] Mz N62_ := hf_N17_.tr hsN62_ (by decide) (by decide)
                    have e26_N62_ : ze N62_ 81 26 = ze N17_ 81 26 := hsN62_.e (by decide)
                    have e64_N62_ : ze N62_ 81 64 = ze N17_ 81 64 := hsN62_.e (by decide)
                    have e65_N62_ : ze N62_ 81 65 = ze N17_ 81 65 := hsN62_.e (by decide)
                    have c63_ : zGB T N62_ := zGB.fr hsN62_ c27_ (by decide) (by decide)
                    have c64_ : zR82 b_ n_ N62_ := zR82.fr hsN62_ c28_ (by decide) (by decide)
                    have c65_ : zTab T N62_ := zTab.fr hsN62_ c29_ (by decide) (by decide)
                    have c66_ : zB 85 144 0 5 N62_ := zB.fr hsN62_ c30_ (by decide) (by decide)
                    have c67_ : zJX T N62_ := zJX.fr hsN62_ c31_ (by decide) (by decide)
                    have c68_ : zFirs T N62_ := zFirs.fr hsN62_ c32_ (by decide) (by decide)
                    have c69_ : zSSm T N62_ := zSSm.fr hsN62_ c33_ (by decide) (by decide)
                    have c70_ : zGD N62_ := zGD.fr hsN62_ c34_ (by decide) (by decide)
                    have hq99_ : ∀ j_ : Nat, zg N17_ 99 j_ = zg Mz 99 j_ := fun j_ => h99_ j_
                    have hgt_ := zs_getJ hN62_ ⟨by (exact zo_84 hu15_b), by omega⟩
                    have hot_ := fun (j_ : Nat) (hj_ : (j_ : Int) ≠ ze Mz 81 65) => (zs_othJ hN62_ (j := j_) (by omega)).trans (hq99_ j_)
                    refine zw_aload_n (pc := 158) (n := 0) (x := 81) rfl (zdal_p dlD_M_readsNumber_134 (i := 13) rfl) ?_
                    refine zw_dup (pc := 159) rfl (zdal_p dlD_M_readsNumber_134 (i := 14) rfl) ?_
                    refine zr_getI (hf_N62_.w hW) (pc := 160) f_M_511 rfl (zdal_p dlD_M_readsNumber_134 (i := 15) rfl) ?_
                    refine zw_iconst (pc := 163) (v := Int32.ofInt 1) (by decide) (zdal_p dlD_M_readsNumber_134 (i := 16) rfl) ?_
                    refine zr_iadd (pc := 164) (zdal_p dlD_M_readsNumber_134 (i := 17) rfl) ?_
                    refine zr_putI (hf_N62_.w hW) (pc := 165) f_M_511 rfl rfl ⟨by (exact zo_2724 e65_N17_ e65_N3_ e65_N62_ p5_), by omega⟩ rfl rfl (zdal_p dlD_M_readsNumber_134 (i := 18) rfl) (fun N71_ hsN71_ hvN71_ => ?_)
                    have hf_N71_ : zFr [64, 65] [99] Mz N71_ := hf_N62_.tr hsN71_ (by decide) (by decide)
                    have e26_N71_ : ze N71_ 81 26 = ze N62_ 81 26 := hsN71_.e (by decide)
                    have e64_N71_ : ze N71_ 81 64 = ze N62_ 81 64 := hsN71_.e (by decide)
                    have r65_N71_ := ze_r N71_ 81 65
                    have c72_ : zGB T N71_ := zGB.fr hsN71_ c63_ (by decide) (by decide)
                    have c73_ : zR82 b_ n_ N71_ := zR82.fr hsN71_ c64_ (by decide) (by decide)
                    have c74_ : zTab T N71_ := zTab.fr hsN71_ c65_ (by decide) (by decide)
                    have c75_ : zB 85 144 0 5 N71_ := zB.fr hsN71_ c66_ (by decide) (by decide)
                    have c76_ : zJX T N71_ := zJX.fr hsN71_ c67_ (by decide) (by decide)
                    have c77_ : zFirs T N71_ := zFirs.fr hsN71_ c68_ (by decide) (by decide)
                    have c78_ : zSSm T N71_ := zSSm.fr hsN71_ c69_ (by decide) (by decide)
                    have c79_ : zGD N71_ := zGD.fr hsN71_ c70_ (by decide) (by decide)
                    have hgu_ : zg N71_ 99 (ze Mz 81 65).toNat = _ := ((hsN71_).jg (by decide) (by decide) _).trans ((congrArg (fun x_ => zg N62_ 99 x_) (show (ze Mz 81 65).toNat = (ze N17_ 81 65).toNat by omega)).trans hgt_)
                    have hou_ : ∀ j_ : Nat, (j_ : Int) ≠ ze Mz 81 65 → zg N71_ 99 j_ = zg Mz 99 j_ := fun j_ hj_ => ((hsN71_).jg (by decide) (by decide) j_).trans (hot_ j_ hj_)
                    have hte_ : (ze N71_ 81 64).toNat = zru zpD b_ n_ (ze Mz 81 64 + u1_).toNat := by rw [hej_ (by (exact hc_123))]; omega
                    have htv_ : u15_ = zvl b_ (ze Mz 81 64 + u1_).toNat ((ze N71_ 81 64).toNat - (ze Mz 81 64 + u1_).toNat) := by rw [show (ze N71_ 81 64).toNat - (ze Mz 81 64 + u1_).toNat = (u16_).toNat by omega]; exact hvj_
                    have h6_ := zvl_6 hte_ (by omega) (by omega)
                    rw [← htv_] at h6_
                    have hns_ : zNs b_ n_ (ze Mz 81 64).toNat (zg N71_ 99 (ze Mz 81 65).toNat) (ze N71_ 81 64).toNat := ⟨_, hs_, hte_, by omega, by first | exact Or.inl ⟨by omega, by omega, by rw [hgu_, htv_]⟩ | exact Or.inr ⟨by omega, by rw [hgu_, htv_]⟩⟩
                    refine zw_iconst (pc := 168) (v := Int32.ofInt 1) (by decide) (zdal_p dlD_M_readsNumber_134 (i := 19) rfl) ?_
                    exact zr_iret (pc := 169) (ty := .boolean) rfl (z_narB (by (decide))) ⟨by (decide), by (decide)⟩ hf_N71_ (show ((1 = 1 ∧ ze Mz 81 65 < ((gF T).length : Int) ∧ ze N71_ 81 65 = ze Mz 81 65 + 1 ∧ (∀ j : Nat, (j : Int) ≠ ze Mz 81 65 → zg N71_ 99 j = zg Mz 99 j) ∧ zNs b_ n_ (ze Mz 81 64).toNat (zg N71_ 99 (ze Mz 81 65).toNat) (ze N71_ 81 64).toNat ∧ ze Mz 81 64 < ze N71_ 81 64 ∧ ze N71_ 81 64 ≤ n_ ∧ -999999 ≤ zg N71_ 99 (ze Mz 81 65).toNat ∧ zg N71_ 99 (ze Mz 81 65).toNat ≤ 999999) ∨ (1 = 0 ∧ (ze Mz 81 65 = ((gF T).length : Int) ∨ ¬ ∃ v t, zNs b_ n_ (ze Mz 81 64).toNat v t))) from Or.inl (⟨(show 1 = 1 by first | rfl | omega | exact hou_ | exact hns_ | (rw [hgu_]; omega)), (show ze Mz 81 65 < ((gF T).length : Int) by first | rfl | omega | exact hou_ | exact hns_ | (rw [hgu_]; omega)), (show ze N71_ 81 65 = ze Mz 81 65 + 1 by first | rfl | omega | exact hou_ | exact hns_ | (rw [hgu_]; omega)), (show (∀ j : Nat, (j : Int) ≠ ze Mz 81 65 → zg N71_ 99 j = zg Mz 99 j) by first | rfl | omega | exact hou_ | exact hns_ | (rw [hgu_]; omega)), (show zNs b_ n_ (ze Mz 81 64).toNat (zg N71_ 99 (ze Mz 81 65).toNat) (ze N71_ 81 64).toNat by first | rfl | (exact hns_) | exact hou_ | exact hns_ | (rw [hgu_]; omega)), (show ze Mz 81 64 < ze N71_ 81 64 by first | rfl | omega | exact hou_ | exact hns_ | (rw [hgu_]; omega)), (show ze N71_ 81 64 ≤ n_ by first | rfl | omega | exact hou_ | exact hns_ | (rw [hgu_]; omega)), (show -999999 ≤ zg N71_ 99 (ze Mz 81 65).toNat ∧ zg N71_ 99 (ze Mz 81 65).toNat ≤ 999999 by first | rfl | omega | exact hou_ | exact hns_ | (rw [hgu_]; omega))⟩)) (zdal_p dlD_M_readsNumber_134 (i := 20) rfl)
                · skip
                  refine zw_iconst (pc := 137) (v := Int32.ofInt 0) (by decide) (zdal_p dlD_M_readsNumber_134 (i := 0) rfl) ?_
                  exact zr_iret (pc := 138) (ty := .boolean) rfl (z_narB (by (decide))) ⟨by (decide), by (decide)⟩ hf_N17_ (show ((0 = 1 ∧ ze Mz 81 65 < ((gF T).length : Int) ∧ ze N17_ 81 65 = ze Mz 81 65 + 1 ∧ (∀ j : Nat, (j : Int) ≠ ze Mz 81 65 → zg N17_ 99 j = zg Mz 99 j) ∧ zNs b_ n_ (ze Mz 81 64).toNat (zg N17_ 99 (ze Mz 81 65).toNat) (ze N17_ 81 64).toNat ∧ ze Mz 81 64 < ze N17_ 81 64 ∧ ze N17_ 81 64 ≤ n_ ∧ -999999 ≤ zg N17_ 99 (ze Mz 81 65).toNat ∧ zg N17_ 99 (ze Mz 81 65).toNat ≤ 999999) ∨ (0 = 0 ∧ (ze Mz 81 65 = ((gF T).length : Int) ∨ ¬ ∃ v t, zNs b_ n_ (ze Mz 81 64).toNat v t))) from Or.inr (⟨(show 0 = 0 by first | rfl | exact Or.inl (by omega) | exact Or.inr (zNs_n2 hs_ hzj_ (by omega)) | exact Or.inr (zNs_n2 hs_ rfl (by rw [← hzj_]; omega))), (show (ze Mz 81 65 = ((gF T).length : Int) ∨ ¬ ∃ v t, zNs b_ n_ (ze Mz 81 64).toNat v t) by first | rfl | exact Or.inl (by omega) | exact Or.inr (zNs_n2 hs_ hzj_ (by omega)) | exact Or.inr (zNs_n2 hs_ rfl (by rw [← hzj_]; omega)))⟩)) (zdal_p dlD_M_readsNumber_134 (i := 1) rfl)
          refine zw_aload_n (pc := 47) (n := 0) (x := 81) rfl (zdal_p dlD_M_readsNumber_132 (i := 3) rfl) ?_
          refine zr_getI (hf_N17_.w hW) (pc := 48) f_M_504 rfl (zdal_p dlD_M_readsNumber_132 (i := 4) rfl) ?_
          refine zw_iload_n (pc := 51) (n := 1) (x := Int32.ofInt a0_) rfl (zdal_p dlD_M_readsNumber_132 (i := 5) rfl) ?_
          refine zr_icmp_ge (pc := 52) (tgt := 114) ⟨(ze_r N17_ 81 64).1, (ze_r N17_ 81 64).2⟩ ⟨ha0_a, ha0_b⟩ (by decide) (zdal_p dlD_M_readsNumber_132 (i := 6) rfl) (fun hc_52 => ?_) (fun hc_52 => ?_)
          · skip
            exact j_114 (show 0 ≤ u16_ by first | with_reducible assumption | assumption | omega) (show u16_ ≤ 7 by first | with_reducible assumption | assumption | omega) (show ze N17_ 81 64 = (ze Mz 81 64 + u1_) + u16_ by first | with_reducible assumption | assumption | omega) (show ze N17_ 81 64 ≤ n_ by first | with_reducible assumption | assumption | omega) (show (∀ i : Nat, (i : Int) < u16_ → zpD (b_ ((ze Mz 81 64 + u1_).toNat + i)) = true) by first | with_reducible assumption | assumption) (show u15_ = zvl b_ (ze Mz 81 64 + u1_).toNat (u16_).toNat by first | with_reducible assumption | assumption) (show zru zpD b_ n_ (ze N17_ 81 64).toNat = zru zpD b_ n_ (ze Mz 81 64 + u1_).toNat by first | with_reducible assumption | assumption) (show (u16_ ≤ 6 → zru zpD b_ n_ (ze Mz 81 64 + u1_).toNat = (ze N17_ 81 64).toNat) by first | (intro h_; exfalso; omega) | (intro _; rw [← hzi_]; exact zru_f (fun q_ => by have h_ := q_.1; omega)) | (intro _; rw [← hzi_]; exact zru_f (fun q_ => by have h_ := zpD_t.mp q_.2; rw [← hy_] at h_; omega))) (show (∀ j : Nat, zg N17_ 99 j = zg Mz 99 j) by first | with_reducible assumption | assumption)
          · skip
            refine zw_aload_n (pc := 55) (n := 0) (x := 81) rfl (zdal_p dlD_M_readsNumber_132 (i := 7) rfl) ?_
            refine zr_getF (r := 82) (hf_N17_.w hW) (pc := 56) f_M_7 rfl (zh_82 (hf_N17_.w hW)).1 (zdal_p dlD_M_readsNumber_132 (i := 8) rfl) ?_
            refine zw_aload_n (pc := 59) (n := 0) (x := 81) rfl (zdal_p dlD_M_readsNumber_132 (i := 9) rfl) ?_
            refine zr_getI (hf_N17_.w hW) (pc := 60) f_M_504 rfl (zdal_p dlD_M_readsNumber_132 (i := 10) rfl) ?_
            refine zr_ialdn (pc := 63) (zh_82 (hf_N17_.w hW)).2 (by decide) (by omega) (by omega) (zdal_p dlD_M_readsNumber_132 (i := 11) rfl) (fun v80_ hv80_ hv80_a hv80_b => ?_)
            rw [hf_N17_.ie (by decide) (by decide)] at hv80_
            have hy_ := hv80_.trans (hb_ (ze N17_ 81 64).toNat (by omega))
            refine zr_callS hf_N17_.x (pc := 64) [.int (Int32.ofInt v80_)] [] l_M_162 (c_M_isDigit l N17_ (hf_N17_.w hW) v80_ hv80_a hv80_b) rfl rfl (by decide) (Nat.le_of_ble_eq_true rfl) (zdal_p dlD_M_readsNumber_132 (i := 12) rfl) ?_
            rintro _ N81_ ⟨v82_, rfl, ⟨hv82_a, hv82_b⟩, hsN81_, hp0_N81_⟩
            obtain rfl := hsN81_.eq.symm
            replace hp0_N81_ : ((v82_ = 1 ∧ 48 ≤ v80_ ∧ v80_ ≤ 57) ∨ (v82_ = 0 ∧ (v80_ < 48 ∨ 57 < v80_))) := hp0_N81_
            rcases hp0_N81_ with ⟨rfl, ha64_0_hp0_N81_, ha64_1_hp0_N81_⟩ | ⟨rfl, ha64_0_hp0_N81_⟩
            · skip
              have hdg_ := ha64_0_hp0_N81_
              show zW l m_M_readsNumber (zn Mz + 0, zw Mz + 0) N17_ 67 [some (.ref 81), some (.int (Int32.ofInt a0_)), some (.int (Int32.ofInt u1_)), some (.long (Int64.ofInt u15_)), none, some (.int (Int32.ofInt u16_))] [.int (Int32.ofInt 1)] _
              refine zr_if_eq (pc := 67) (tgt := 114) ⟨(by decide), (by decide)⟩ (by decide) (zdal_p dlD_M_readsNumber_132 (i := 13) rfl) (fun hc_67 => ?_) (fun hc_67 => ?_)
              · skip
                exact absurd hc_67 (by decide)
              · skip
                refine zw_iload (pc := 70) (i := 5) (x := Int32.ofInt u16_) rfl (zdal_p dlD_M_readsNumber_132 (i := 14) rfl) ?_
                refine zw_bipush (pc := 72) (v := Int32.ofInt 6) (by decide) (zdal_p dlD_M_readsNumber_132 (i := 15) rfl) ?_
                refine zr_icmp_gt (pc := 74) (tgt := 114) ⟨hu16_a, hu16_b⟩ ⟨(by decide), (by decide)⟩ (by decide) (zdal_p dlD_M_readsNumber_132 (i := 16) rfl) (fun hc_74 => ?_) (fun hc_74 => ?_)
                · skip
                  exact j_114 (show 0 ≤ u16_ by first | with_reducible assumption | assumption | omega) (show u16_ ≤ 7 by first | with_reducible assumption | assumption | omega) (show ze N17_ 81 64 = (ze Mz 81 64 + u1_) + u16_ by first | with_reducible assumption | assumption | omega) (show ze N17_ 81 64 ≤ n_ by first | with_reducible assumption | assumption | omega) (show (∀ i : Nat, (i : Int) < u16_ → zpD (b_ ((ze Mz 81 64 + u1_).toNat + i)) = true) by first | with_reducible assumption | assumption) (show u15_ = zvl b_ (ze Mz 81 64 + u1_).toNat (u16_).toNat by first | with_reducible assumption | assumption) (show zru zpD b_ n_ (ze N17_ 81 64).toNat = zru zpD b_ n_ (ze Mz 81 64 + u1_).toNat by first | with_reducible assumption | assumption) (show (u16_ ≤ 6 → zru zpD b_ n_ (ze Mz 81 64 + u1_).toNat = (ze N17_ 81 64).toNat) by first | (intro h_; exfalso; omega) | (intro _; rw [← hzi_]; exact zru_f (fun q_ => by have h_ := q_.1; omega)) | (intro _; rw [← hzi_]; exact zru_f (fun q_ => by have h_ := zpD_t.mp q_.2; rw [← hy_] at h_; omega))) (show (∀ j : Nat, zg N17_ 99 j = zg Mz 99 j) by first | with_reducible assumption | assumption)
                · skip
                  refine zr_ldc2 (pc := 77) (n := 10) (by decide) k_M_507 (zdal_p dlD_M_readsNumber_132 (i := 17) rfl) ?_
                  refine zw_lload_n (pc := 80) (n := 3) (x := Int64.ofInt u15_) rfl (zdal_p dlD_M_readsNumber_132 (i := 18) rfl) ?_
                  refine zr_lmul (pc := 81) (zdal_p dlD_M_readsNumber_132 (i := 19) rfl) ?_
                  refine zw_aload_n (pc := 82) (n := 0) (x := 81) rfl (zdal_p dlD_M_readsNumber_132 (i := 20) rfl) ?_
                  refine zr_getF (r := 82) (hf_N17_.w hW) (pc := 83) f_M_7 rfl (zh_82 (hf_N17_.w hW)).1 (zdal_p dlD_M_readsNumber_132 (i := 21) rfl) ?_
                  refine zw_aload_n (pc := 86) (n := 0) (x := 81) rfl (zdal_p dlD_M_readsNumber_132 (i := 22) rfl) ?_
                  refine zr_getI (hf_N17_.w hW) (pc := 87) f_M_504 rfl (zdal_p dlD_M_readsNumber_132 (i := 23) rfl) ?_
                  refine zr_ialdn (pc := 90) (zh_82 (hf_N17_.w hW)).2 (by decide) (by omega) (by omega) (zdal_p dlD_M_readsNumber_133 (i := 0) rfl) (fun v83_ hv83_ hv83_a hv83_b => ?_)
                  rw [hf_N17_.ie (by decide) (by decide)] at hv83_
                  have hz_ := hv83_.trans (hb_ (ze N17_ 81 64).toNat (by omega))
                  have hzb_ := hB_ (ze N17_ 81 64).toNat (by omega)
                  refine zr_i2l (pc := 91) ⟨hv83_a, hv83_b⟩ (zdal_p dlD_M_readsNumber_133 (i := 1) rfl) ?_
                  refine zr_ladd (pc := 92) (zdal_p dlD_M_readsNumber_133 (i := 2) rfl) ?_
                  refine zk_nmJ (fun v84_ hv84_ hv84_e => ?_)
                  obtain ⟨hv84_a, hv84_b⟩ := hv84_
                  have ha_ := z64q ⟨by (exact hv84_a), by (exact hv84_b)⟩ ⟨by omega, by omega⟩ hv84_e
                  refine zr_ldc2 (pc := 93) (n := 48) (by decide) k_M_509 (zdal_p dlD_M_readsNumber_133 (i := 3) rfl) ?_
                  refine zr_lsub (pc := 96) (zdal_p dlD_M_readsNumber_133 (i := 4) rfl) ?_
                  refine zk_nmJ (fun v85_ hv85_ hv85_e => ?_)
                  obtain ⟨hv85_a, hv85_b⟩ := hv85_
                  have hc_ := z64q ⟨by (exact hv85_a), by (exact hv85_b)⟩ ⟨by omega, by omega⟩ hv85_e
                  have hst_ := zdg_s (W := v85_) (show 0 ≤ (ze Mz 81 64 + u1_) by omega) (show 0 ≤ u16_ by (exact i19_)) (show ze N17_ 81 64 = (ze Mz 81 64 + u1_) + u16_ by (exact i21_)) (by omega) (by omega) hdi_ hvi_ hzi_ (by omega)
                  refine zw_lstore_n (pc := 97) (i := 3) (L2 := [some (.ref 81), some (.int (Int32.ofInt a0_)), some (.int (Int32.ofInt u1_)), some (.long (Int64.ofInt v85_)), none, some (.int (Int32.ofInt u16_))]) rfl (by decide) rfl (zdal_p dlD_M_readsNumber_133 (i := 5) rfl) ?_
                  refine zr_iinc (pc := 98) (i := 5) (a := u16_) (n := 1) (L2 := [some (.ref 81), some (.int (Int32.ofInt a0_)), some (.int (Int32.ofInt u1_)), some (.long (Int64.ofInt v85_)), none, some (.int (Int32.ofInt (u16_ + 1)))]) rfl (by decide) rfl (zdal_p dlD_M_readsNumber_133 (i := 6) rfl) ?_
                  refine zw_aload_n (pc := 101) (n := 0) (x := 81) rfl (zdal_p dlD_M_readsNumber_133 (i := 7) rfl) ?_
                  refine zw_dup (pc := 102) rfl (zdal_p dlD_M_readsNumber_133 (i := 8) rfl) ?_
                  refine zr_getI (hf_N17_.w hW) (pc := 103) f_M_504 rfl (zdal_p dlD_M_readsNumber_133 (i := 9) rfl) ?_
                  refine zw_iconst (pc := 106) (v := Int32.ofInt 1) (by decide) (zdal_p dlD_M_readsNumber_133 (i := 10) rfl) ?_
                  refine zr_iadd (pc := 107) (zdal_p dlD_M_readsNumber_133 (i := 11) rfl) ?_
                  refine zr_putI (hf_N17_.w hW) (pc := 108) f_M_504 rfl rfl ⟨by (exact zo_679 r64_N17_.1), by (exact zo_162 hn7_ i22_ r64_N17_.2)⟩ rfl rfl (zdal_p dlD_M_readsNumber_133 (i := 12) rfl) (fun N86_ hsN86_ hvN86_ => ?_)
                  have hf_N86_ : zFr [64, 65] [99] Mz N86_ := hf_N17_.tr hsN86_ (by decide) (by decide)
                  have hb0_N86_ : zFr [64] [] N3_ N86_ := hs18_.tr hsN86_ (by decide) (by decide)
                  have e26_N86_ : ze N86_ 81 26 = ze N17_ 81 26 := hsN86_.e (by decide)
                  have r64_N86_ := ze_r N86_ 81 64
                  have e65_N86_ : ze N86_ 81 65 = ze N17_ 81 65 := hsN86_.e (by decide)
                  have c87_ : zGB T N86_ := zGB.fr hsN86_ c27_ (by decide) (by decide)
                  have c88_ : zR82 b_ n_ N86_ := zR82.fr hsN86_ c28_ (by decide) (by decide)
                  have c89_ : zTab T N86_ := zTab.fr hsN86_ c29_ (by decide) (by decide)
                  have c90_ : zB 85 144 0 5 N86_ := zB.fr hsN86_ c30_ (by decide) (by decide)
                  have c91_ : zJX T N86_ := zJX.fr hsN86_ c31_ (by decide) (by decide)
                  have c92_ : zFirs T N86_ := zFirs.fr hsN86_ c32_ (by decide) (by decide)
                  have c93_ : zSSm T N86_ := zSSm.fr hsN86_ c33_ (by decide) (by decide)
                  have c94_ : zGD N86_ := zGD.fr hsN86_ c34_ (by decide) (by decide)
                  have hpe_ : ze N86_ 81 64 = ze N17_ 81 64 + 1 := by (exact hvN86_)
                  refine zw_goto (pc := 111) (tgt := 47) (by decide) (zdal_p dlD_M_readsNumber_133 (i := 13) rfl) ?_
                  exact ih_47 v85_ hv85_a hv85_b (u16_ + 1) (by (exact zo_74 i19_)) (by (exact zo_854 hc_74)) N86_ hb0_N86_ (show 0 ≤ (u16_ + 1) by first | with_reducible assumption | (exact zo_76 i19_) | assumption) (show (u16_ + 1) ≤ 7 by first | with_reducible assumption | (exact zo_857 hc_74) | assumption) (show ze N86_ 81 64 = (ze Mz 81 64 + u1_) + (u16_ + 1) by first | with_reducible assumption | assumption | omega) (show ze N86_ 81 64 ≤ n_ by first | with_reducible assumption | assumption | omega) (show (∀ i : Nat, (i : Int) < (u16_ + 1) → zpD (b_ ((ze Mz 81 64 + u1_).toNat + i)) = true) by exact hst_.1) (show v85_ = zvl b_ (ze Mz 81 64 + u1_).toNat ((u16_ + 1)).toNat by exact hst_.2.1) (show zru zpD b_ n_ (ze N86_ 81 64).toNat = zru zpD b_ n_ (ze Mz 81 64 + u1_).toNat by rw [hpe_]; exact hst_.2.2) (show (∀ j : Nat, zg N86_ 99 j = zg Mz 99 j) by exact fun j_ => ((hsN86_).jg (by decide) (by decide) j_).trans (h99l_ j_)) (by omega)
            · skip
              have hnd_ := ha64_0_hp0_N81_
              show zW l m_M_readsNumber (zn Mz + 0, zw Mz + 0) N17_ 67 [some (.ref 81), some (.int (Int32.ofInt a0_)), some (.int (Int32.ofInt u1_)), some (.long (Int64.ofInt u15_)), none, some (.int (Int32.ofInt u16_))] [.int (Int32.ofInt 0)] _
              refine zr_if_eq (pc := 67) (tgt := 114) ⟨(by decide), (by decide)⟩ (by decide) (zdal_p dlD_M_readsNumber_132 (i := 13) rfl) (fun hc_67 => ?_) (fun hc_67 => ?_)
              · skip
                exact j_114 (show 0 ≤ u16_ by first | with_reducible assumption | assumption | omega) (show u16_ ≤ 7 by first | with_reducible assumption | assumption | omega) (show ze N17_ 81 64 = (ze Mz 81 64 + u1_) + u16_ by first | with_reducible assumption | assumption | omega) (show ze N17_ 81 64 ≤ n_ by first | with_reducible assumption | assumption | omega) (show (∀ i : Nat, (i : Int) < u16_ → zpD (b_ ((ze Mz 81 64 + u1_).toNat + i)) = true) by first | with_reducible assumption | assumption) (show u15_ = zvl b_ (ze Mz 81 64 + u1_).toNat (u16_).toNat by first | with_reducible assumption | assumption) (show zru zpD b_ n_ (ze N17_ 81 64).toNat = zru zpD b_ n_ (ze Mz 81 64 + u1_).toNat by first | with_reducible assumption | assumption) (show (u16_ ≤ 6 → zru zpD b_ n_ (ze Mz 81 64 + u1_).toNat = (ze N17_ 81 64).toNat) by first | (intro h_; exfalso; omega) | (intro _; rw [← hzi_]; exact zru_f (fun q_ => by have h_ := q_.1; omega)) | (intro _; rw [← hzi_]; exact zru_f (fun q_ => by have h_ := zpD_t.mp q_.2; rw [← hy_] at h_; (exact zo_246 h_.1 h_.2 ha64_0_hp0_N81_)))) (show (∀ j : Nat, zg N17_ 99 j = zg Mz 99 j) by first | with_reducible assumption | assumption)
              · skip
                exact absurd hc_67 (by decide)
      exact lp_47 _ 0 (by decide) (by decide) 0 (by decide) (by decide) N3_ zFr.rf (show 0 ≤ (0 : Int) by first | with_reducible assumption | (decide) | assumption) (show (0 : Int) ≤ 7 by first | with_reducible assumption | (decide) | assumption) (show ze N3_ 81 64 = (ze Mz 81 64 + u1_) + (0 : Int) by first | with_reducible assumption | assumption | omega) (show ze N3_ 81 64 ≤ n_ by first | with_reducible assumption | assumption | omega) (show (∀ i : Nat, (i : Int) < (0 : Int) → zpD (b_ ((ze Mz 81 64 + u1_).toNat + i)) = true) by exact fun i_ hi_ => absurd hi_ (by (exact zo_131))) (show (0 : Int) = zvl b_ (ze Mz 81 64 + u1_).toNat ((0 : Int)).toNat by rfl) (show zru zpD b_ n_ (ze N3_ 81 64).toNat = zru zpD b_ n_ (ze Mz 81 64 + u1_).toNat by rw [show (ze N3_ 81 64).toNat = (ze Mz 81 64 + u1_).toNat by omega]) (show (∀ j : Nat, zg N3_ 99 j = zg Mz 99 j) by first | with_reducible assumption | assumption) (Nat.lt_succ_self _)
    refine zr_if_eq (pc := 29) (tgt := 42) ⟨hu1_a, hu1_b⟩ (by decide) (zdal_p dlD_M_readsNumber_131 (i := 16) rfl) (fun hc_29 => ?_) (fun hc_29 => ?_)
    · skip
      exact j_42 Mz zFr.rf (show ze Mz 81 64 = (ze Mz 81 64 + u1_) by first | with_reducible assumption | assumption | omega) (show (∀ j : Nat, zg Mz 99 j = zg Mz 99 j) by first | exact fun j_ => rfl | exact fun j_ => (hsMz).jg (by decide) (by decide) j_)
    · skip
      refine zw_aload_n (pc := 32) (n := 0) (x := 81) rfl (zdal_p dlD_M_readsNumber_131 (i := 17) rfl) ?_
      refine zw_dup (pc := 33) rfl (zdal_p dlD_M_readsNumber_131 (i := 18) rfl) ?_
      refine zr_getI (hf.w hW) (pc := 34) f_M_504 rfl (zdal_p dlD_M_readsNumber_131 (i := 19) rfl) ?_
      refine zw_iconst (pc := 37) (v := Int32.ofInt 1) (by decide) (zdal_p dlD_M_readsNumber_131 (i := 20) rfl) ?_
      refine zr_iadd (pc := 38) (zdal_p dlD_M_readsNumber_131 (i := 21) rfl) ?_
      refine zr_putI (hf.w hW) (pc := 39) f_M_504 rfl rfl ⟨by (exact zo_74 p3_), by (exact zo_162 hn7_ p4_ r_64.2)⟩ rfl rfl (zdal_p dlD_M_readsNumber_131 (i := 22) rfl) (fun N95_ hsN95_ hvN95_ => ?_)
      have hf_N95_ : zFr [64, 65] [99] Mz N95_ := hf.tr hsN95_ (by decide) (by decide)
      have hb0_N95_ : zFr [64] [] Mz N95_ := zFr.rf.tr hsN95_ (by decide) (by decide)
      have e26_N95_ : ze N95_ 81 26 = ze Mz 81 26 := hsN95_.e (by decide)
      have r64_N95_ := ze_r N95_ 81 64
      have e65_N95_ : ze N95_ 81 65 = ze Mz 81 65 := hsN95_.e (by decide)
      have c96_ : zGB T N95_ := zGB.fr hsN95_ p0_ (by decide) (by decide)
      have c97_ : zR82 b_ n_ N95_ := zR82.fr hsN95_ p1_ (by decide) (by decide)
      have c98_ : zTab T N95_ := zTab.fr hsN95_ dv0 (by decide) (by decide)
      have c99_ : zB 85 144 0 5 N95_ := zB.fr hsN95_ dv1 (by decide) (by decide)
      have c100_ : zJX T N95_ := zJX.fr hsN95_ dv2 (by decide) (by decide)
      have c101_ : zFirs T N95_ := zFirs.fr hsN95_ dv3 (by decide) (by decide)
      have c102_ : zSSm T N95_ := zSSm.fr hsN95_ dv4 (by decide) (by decide)
      have c103_ : zGD N95_ := zGD.fr hsN95_ dv5 (by decide) (by decide)
      exact j_42 N95_ hb0_N95_ (show ze N95_ 81 64 = (ze Mz 81 64 + u1_) by first | with_reducible assumption | assumption | omega) (show (∀ j : Nat, zg N95_ 99 j = zg Mz 99 j) by first | exact fun j_ => rfl | exact fun j_ => (hsN95_).jg (by decide) (by decide) j_)
  refine zr_icmp_ge (pc := 5) (tgt := 26) ⟨(ze_r Mz 81 64).1, (ze_r Mz 81 64).2⟩ ⟨ha0_a, ha0_b⟩ (by decide) (zdal_p dlD_M_readsNumber_131 (i := 3) rfl) (fun hc_5 => ?_) (fun hc_5 => ?_)
  · skip
    refine zw_iconst (pc := 26) (v := Int32.ofInt 0) (by decide) (zdal_p dlD_M_readsNumber_131 (i := 13) rfl) ?_
    exact j_27 0 (by decide) (by decide) (by (decide)) (show (((0 : Int) = 1 ∧ ze Mz 81 64 < n_ ∧ b_ (ze Mz 81 64).toNat = 45) ∨ ((0 : Int) = 0 ∧ ¬ (ze Mz 81 64 < n_ ∧ b_ (ze Mz 81 64).toNat = 45))) by first | with_reducible assumption | assumption | omega)
  · skip
    refine zw_aload_n (pc := 8) (n := 0) (x := 81) rfl (zdal_p dlD_M_readsNumber_131 (i := 4) rfl) ?_
    refine zr_getF (r := 82) (hf.w hW) (pc := 9) f_M_7 rfl (zh_82 (hf.w hW)).1 (zdal_p dlD_M_readsNumber_131 (i := 5) rfl) ?_
    refine zw_aload_n (pc := 12) (n := 0) (x := 81) rfl (zdal_p dlD_M_readsNumber_131 (i := 6) rfl) ?_
    refine zr_getI (hf.w hW) (pc := 13) f_M_504 rfl (zdal_p dlD_M_readsNumber_131 (i := 7) rfl) ?_
    refine zr_ialdn (pc := 16) (zh_82 (hf.w hW)).2 (by decide) (by (exact p3_)) (by omega) (zdal_p dlD_M_readsNumber_131 (i := 8) rfl) (fun v104_ hv104_ hv104_a hv104_b => ?_)
    have hx_ := hv104_.trans (hb_ (ze Mz 81 64).toNat (by omega))
    refine zw_bipush (pc := 17) (v := Int32.ofInt 45) (by decide) (zdal_p dlD_M_readsNumber_131 (i := 9) rfl) ?_
    refine zr_icmp_ne (pc := 19) (tgt := 26) ⟨hv104_a, hv104_b⟩ ⟨(by decide), (by decide)⟩ (by decide) (zdal_p dlD_M_readsNumber_131 (i := 10) rfl) (fun hc_19 => ?_) (fun hc_19 => ?_)
    · skip
      refine zw_iconst (pc := 26) (v := Int32.ofInt 0) (by decide) (zdal_p dlD_M_readsNumber_131 (i := 13) rfl) ?_
      exact j_27 0 (by decide) (by decide) (by (decide)) (show (((0 : Int) = 1 ∧ ze Mz 81 64 < n_ ∧ b_ (ze Mz 81 64).toNat = 45) ∨ ((0 : Int) = 0 ∧ ¬ (ze Mz 81 64 < n_ ∧ b_ (ze Mz 81 64).toNat = 45))) by first | with_reducible assumption | assumption | omega)
    · skip
      refine zw_iconst (pc := 22) (v := Int32.ofInt 1) (by decide) (zdal_p dlD_M_readsNumber_131 (i := 11) rfl) ?_
      refine zw_goto (pc := 23) (tgt := 27) (by decide) (zdal_p dlD_M_readsNumber_131 (i := 12) rfl) ?_
      exact j_27 1 (by decide) (by decide) (by (decide)) (show (((1 : Int) = 1 ∧ ze Mz 81 64 < n_ ∧ b_ (ze Mz 81 64).toNat = 45) ∨ ((1 : Int) = 0 ∧ ¬ (ze Mz 81 64 < n_ ∧ b_ (ze Mz 81 64).toNat = 45))) by first | with_reducible assumption | assumption | omega)
set_option maxHeartbeats 4000000 in
theorem c_M_readsMarksS (l : Launch) (Mz : zMem) (hW : zMt Mz) (a0_ : Int) (ha0_a : -2147483648 ≤ a0_) (ha0_b : a0_ < 2147483648) (T : zGT) (hO : gOK T) (b_ : Nat → Int) (n_ : Nat) (p0_ : zGB T Mz) (p1_ : zR82 b_ n_ Mz) (p2_ : a0_ = n_) : zC l m_M_readsMarks 0 0 [.ref 81, .int (Int32.ofInt a0_)] Mz (zpI [64, 65] [99] Mz (fun v N => (((v = 1 ∧ zRown b_ n_ (gF T).length (fun j_ => zg N 99 j_) ∧ (∀ j : Nat, j < (gF T).length → -999999 ≤ zg N 99 j ∧ zg N 99 j ≤ 999999)) ∨ (v = 0 ∧ ¬ ∃ f_ : Nat → Int, zRown b_ n_ (gF T).length f_))))) := by
  refine zC_of (L0 := [some (.ref 81), some (.int (Int32.ofInt a0_))]) md_M_readsMarks (Nat.le_of_ble_eq_true rfl) rfl ?_ zQ0
  have hf : zFr [64, 65] [99] Mz Mz := zFr.rf
  have r_26 := ze_r Mz 81 26
  have r_64 := ze_r Mz 81 64
  have r_65 := ze_r Mz 81 65
  have hG := hO.1
  have g24 := hG.2.1
  have g1 := hG.1
  have dv0 : zTab T Mz := p0_.1
  have dv1 : zB 85 144 0 5 Mz := p0_.2.1
  have dv2 : zJX T Mz := p0_.2.2.1
  have dv3 : zFirs T Mz := p0_.2.2.2.1
  have dv4 : zSSm T Mz := p0_.2.2.2.2.1
  have dv5 : zGD Mz := zGB.d hO p0_
  have gb := dv5.1
  have gn := dv0.1
  have hfl_ := dv3.1
  obtain ⟨hn7_, hB_, hb_⟩ := id p1_
  refine zw_aload_n (pc := 0) (n := 0) (x := 81) rfl (zdal_p dlD_M_readsMarks_127 (i := 0) rfl) ?_
  refine zw_iconst (pc := 1) (v := Int32.ofInt 0) (by decide) (zdal_p dlD_M_readsMarks_127 (i := 1) rfl) ?_
  refine zr_putI (hf.w hW) (pc := 2) f_M_504 rfl rfl ⟨by (decide), by (decide)⟩ rfl rfl (zdal_p dlD_M_readsMarks_127 (i := 2) rfl) (fun N1_ hsN1_ hvN1_ => ?_)
  have hf_N1_ : zFr [64, 65] [99] Mz N1_ := hf.tr hsN1_ (by decide) (by decide)
  have e26_N1_ : ze N1_ 81 26 = ze Mz 81 26 := hsN1_.e (by decide)
  have r64_N1_ := ze_r N1_ 81 64
  have e65_N1_ : ze N1_ 81 65 = ze Mz 81 65 := hsN1_.e (by decide)
  have c2_ : zGB T N1_ := zGB.fr hsN1_ p0_ (by decide) (by decide)
  have c3_ : zR82 b_ n_ N1_ := zR82.fr hsN1_ p1_ (by decide) (by decide)
  have c4_ : zTab T N1_ := zTab.fr hsN1_ dv0 (by decide) (by decide)
  have c5_ : zB 85 144 0 5 N1_ := zB.fr hsN1_ dv1 (by decide) (by decide)
  have c6_ : zJX T N1_ := zJX.fr hsN1_ dv2 (by decide) (by decide)
  have c7_ : zFirs T N1_ := zFirs.fr hsN1_ dv3 (by decide) (by decide)
  have c8_ : zSSm T N1_ := zSSm.fr hsN1_ dv4 (by decide) (by decide)
  have c9_ : zGD N1_ := zGD.fr hsN1_ dv5 (by decide) (by decide)
  refine zw_aload_n (pc := 5) (n := 0) (x := 81) rfl (zdal_p dlD_M_readsMarks_127 (i := 3) rfl) ?_
  refine zw_iconst (pc := 6) (v := Int32.ofInt 0) (by decide) (zdal_p dlD_M_readsMarks_127 (i := 4) rfl) ?_
  refine zr_putI (hf_N1_.w hW) (pc := 7) f_M_511 rfl rfl ⟨by (decide), by (decide)⟩ rfl rfl (zdal_p dlD_M_readsMarks_127 (i := 5) rfl) (fun N10_ hsN10_ hvN10_ => ?_)
  have hf_N10_ : zFr [64, 65] [99] Mz N10_ := hf_N1_.tr hsN10_ (by decide) (by decide)
  have e26_N10_ : ze N10_ 81 26 = ze N1_ 81 26 := hsN10_.e (by decide)
  have e64_N10_ : ze N10_ 81 64 = ze N1_ 81 64 := hsN10_.e (by decide)
  have r65_N10_ := ze_r N10_ 81 65
  have c11_ : zGB T N10_ := zGB.fr hsN10_ c2_ (by decide) (by decide)
  have c12_ : zR82 b_ n_ N10_ := zR82.fr hsN10_ c3_ (by decide) (by decide)
  have c13_ : zTab T N10_ := zTab.fr hsN10_ c4_ (by decide) (by decide)
  have c14_ : zB 85 144 0 5 N10_ := zB.fr hsN10_ c5_ (by decide) (by decide)
  have c15_ : zJX T N10_ := zJX.fr hsN10_ c6_ (by decide) (by decide)
  have c16_ : zFirs T N10_ := zFirs.fr hsN10_ c7_ (by decide) (by decide)
  have c17_ : zSSm T N10_ := zSSm.fr hsN10_ c8_ (by decide) (by decide)
  have c18_ : zGD N10_ := zGD.fr hsN10_ c9_ (by decide) (by decide)
  have lp_10 : ∀ (n : Nat) (N19_ : zMem) (hs20_ : zFr [64] [] N10_ N19_) (i21_ : 0 ≤ ze N19_ 81 64) (i22_ : ze N19_ 81 64 ≤ n_) (i23_ : ze N19_ 81 65 = 0) (i24_ : zru zpB b_ n_ (ze N19_ 81 64).toNat = (zru zpB b_ n_ 0)), (n_ - ze N19_ 81 64).toNat < n → zW l m_M_readsMarks (zn Mz + 0, zw Mz + 0) N19_ 10 [some (.ref 81), some (.int (Int32.ofInt a0_))] [] (zpI [64, 65] [99] Mz (fun v N => (((v = 1 ∧ zRown b_ n_ (gF T).length (fun j_ => zg N 99 j_) ∧ (∀ j : Nat, j < (gF T).length → -999999 ≤ zg N 99 j ∧ zg N 99 j ≤ 999999)) ∨ (v = 0 ∧ ¬ ∃ f_ : Nat → Int, zRown b_ n_ (gF T).length f_))))) := by
    intro n
    induction n with
    | zero =>
      intro N19_ hs20_ i21_ i22_ i23_ i24_ h0
      exact absurd h0 (Nat.not_lt_zero _)
    | succ n ih_10 =>
      intro N19_ hs20_ i21_ i22_ i23_ i24_ hlt_10
      have hf_N19_ : zFr [64, 65] [99] Mz N19_ := hf_N10_.tr hs20_ (by decide) (by decide)
      have e26_N19_ : ze N19_ 81 26 = ze N10_ 81 26 := hs20_.e (by decide)
      have r64_N19_ := ze_r N19_ 81 64
      have e65_N19_ : ze N19_ 81 65 = ze N10_ 81 65 := hs20_.e (by decide)
      have c25_ : zGB T N19_ := zGB.fr hs20_ c11_ (by decide) (by decide)
      have c26_ : zR82 b_ n_ N19_ := zR82.fr hs20_ c12_ (by decide) (by decide)
      have c27_ : zTab T N19_ := zTab.fr hs20_ c13_ (by decide) (by decide)
      have c28_ : zB 85 144 0 5 N19_ := zB.fr hs20_ c14_ (by decide) (by decide)
      have c29_ : zJX T N19_ := zJX.fr hs20_ c15_ (by decide) (by decide)
      have c30_ : zFirs T N19_ := zFirs.fr hs20_ c16_ (by decide) (by decide)
      have c31_ : zSSm T N19_ := zSSm.fr hs20_ c17_ (by decide) (by decide)
      have c32_ : zGD N19_ := zGD.fr hs20_ c18_ (by decide) (by decide)
      have hzb_ := (show zru zpB b_ n_ (ze N19_ 81 64).toNat = (zru zpB b_ n_ 0) by first | with_reducible assumption | assumption)
      refine zw_aload_n (pc := 10) (n := 0) (x := 81) rfl (zdal_p dlD_M_readsMarks_127 (i := 6) rfl) ?_
      refine zw_iload_n (pc := 11) (n := 1) (x := Int32.ofInt a0_) rfl (zdal_p dlD_M_readsMarks_127 (i := 7) rfl) ?_
      refine zr_callV (hf_N19_.w hW) hf_N19_.x (pc := 12) [.int (Int32.ofInt a0_)] [] l_M_514 (c_M_isBlankS l N19_ (hf_N19_.w hW) a0_ ha0_a ha0_b b_ n_ c26_ (show a0_ = n_ by first | with_reducible assumption | assumption | omega) (show 0 ≤ ze N19_ 81 64 by first | with_reducible assumption | assumption | omega)) rfl rfl rfl (by decide) (Nat.le_of_ble_eq_true rfl) (zdal_p dlD_M_readsMarks_127 (i := 8) rfl) ?_
      rintro _ N33_ ⟨v34_, rfl, ⟨hv34_a, hv34_b⟩, hsN33_, hp0_N33_⟩
      obtain rfl := hsN33_.eq.symm
      replace hp0_N33_ : ((v34_ = 1 ∧ ze N19_ 81 64 < n_ ∧ zpB (b_ (ze N19_ 81 64).toNat) = true) ∨ (v34_ = 0 ∧ (n_ ≤ ze N19_ 81 64 ∨ (ze N19_ 81 64 < n_ ∧ zpB (b_ (ze N19_ 81 64).toNat) = false)))) := hp0_N33_
      rcases hp0_N33_ with ⟨rfl, ha12_0_hp0_N33_, ha12_1_hp0_N33_⟩ | ⟨rfl, ha12_0_hp0_N33_⟩
      · skip
        have hk1_ := ha12_0_hp0_N33_
        have hk2_ := ha12_1_hp0_N33_
        show zW l m_M_readsMarks (zn Mz + 0, zw Mz + 0) N19_ 15 [some (.ref 81), some (.int (Int32.ofInt a0_))] [.int (Int32.ofInt 1)] _
        refine zr_if_eq (pc := 15) (tgt := 31) ⟨(by decide), (by decide)⟩ (by decide) (zdal_p dlD_M_readsMarks_127 (i := 9) rfl) (fun hc_15 => ?_) (fun hc_15 => ?_)
        · skip
          exact absurd hc_15 (by decide)
        · skip
          refine zw_aload_n (pc := 18) (n := 0) (x := 81) rfl (zdal_p dlD_M_readsMarks_127 (i := 10) rfl) ?_
          refine zw_dup (pc := 19) rfl (zdal_p dlD_M_readsMarks_127 (i := 11) rfl) ?_
          refine zr_getI (hf_N19_.w hW) (pc := 20) f_M_504 rfl (zdal_p dlD_M_readsMarks_127 (i := 12) rfl) ?_
          refine zw_iconst (pc := 23) (v := Int32.ofInt 1) (by decide) (zdal_p dlD_M_readsMarks_127 (i := 13) rfl) ?_
          refine zr_iadd (pc := 24) (zdal_p dlD_M_readsMarks_127 (i := 14) rfl) ?_
          refine zr_putI (hf_N19_.w hW) (pc := 25) f_M_504 rfl rfl ⟨by (exact zo_74 i21_), by (exact zo_3093 ha12_0_hp0_N33_ hn7_ r64_N19_.2)⟩ rfl rfl (zdal_p dlD_M_readsMarks_127 (i := 15) rfl) (fun N35_ hsN35_ hvN35_ => ?_)
          have hf_N35_ : zFr [64, 65] [99] Mz N35_ := hf_N19_.tr hsN35_ (by decide) (by decide)
          have hb0_N35_ : zFr [64] [] N10_ N35_ := hs20_.tr hsN35_ (by decide) (by decide)
          have e26_N35_ : ze N35_ 81 26 = ze N19_ 81 26 := hsN35_.e (by decide)
          have r64_N35_ := ze_r N35_ 81 64
          have e65_N35_ : ze N35_ 81 65 = ze N19_ 81 65 := hsN35_.e (by decide)
          have c36_ : zGB T N35_ := zGB.fr hsN35_ c25_ (by decide) (by decide)
          have c37_ : zR82 b_ n_ N35_ := zR82.fr hsN35_ c26_ (by decide) (by decide)
          have c38_ : zTab T N35_ := zTab.fr hsN35_ c27_ (by decide) (by decide)
          have c39_ : zB 85 144 0 5 N35_ := zB.fr hsN35_ c28_ (by decide) (by decide)
          have c40_ : zJX T N35_ := zJX.fr hsN35_ c29_ (by decide) (by decide)
          have c41_ : zFirs T N35_ := zFirs.fr hsN35_ c30_ (by decide) (by decide)
          have c42_ : zSSm T N35_ := zSSm.fr hsN35_ c31_ (by decide) (by decide)
          have c43_ : zGD N35_ := zGD.fr hsN35_ c32_ (by decide) (by decide)
          have hze_ : zru zpB b_ n_ (ze N35_ 81 64).toNat = (zru zpB b_ n_ 0) := by rw [show (ze N35_ 81 64).toNat = (ze N19_ 81 64).toNat + 1 by omega, ← zru_t (by omega) hk2_]; exact hzb_
          refine zw_goto (pc := 28) (tgt := 10) (by decide) (zdal_p dlD_M_readsMarks_127 (i := 16) rfl) ?_
          exact ih_10 N35_ hb0_N35_ (show 0 ≤ ze N35_ 81 64 by first | with_reducible assumption | (exact zo_163 hvN35_ i21_ r64_N35_.1) | assumption) (show ze N35_ 81 64 ≤ n_ by first | with_reducible assumption | (exact zo_3096 ha12_0_hp0_N33_ hvN35_ r64_N19_.2) | assumption) (show ze N35_ 81 65 = 0 by first | with_reducible assumption | (exact zo_610 e65_N35_ i23_) | assumption) (show zru zpB b_ n_ (ze N35_ 81 64).toNat = (zru zpB b_ n_ 0) by exact hze_) (by omega)
      · skip
        have hk0_ := ha12_0_hp0_N33_
        show zW l m_M_readsMarks (zn Mz + 0, zw Mz + 0) N19_ 15 [some (.ref 81), some (.int (Int32.ofInt a0_))] [.int (Int32.ofInt 0)] _
        refine zr_if_eq (pc := 15) (tgt := 31) ⟨(by decide), (by decide)⟩ (by decide) (zdal_p dlD_M_readsMarks_127 (i := 9) rfl) (fun hc_15 => ?_) (fun hc_15 => ?_)
        · skip
          have lp_31 : ∀ (n : Nat) (N44_ : zMem) (hs45_ : zFr [64, 65] [99] N19_ N44_) (i46_ : 0 ≤ ze N44_ 81 64) (i47_ : ze N44_ 81 64 ≤ n_) (i48_ : 0 ≤ ze N44_ 81 65) (i49_ : ze N44_ 81 65 ≤ ((gF T).length : Int)) (i50_ : zRwn b_ n_ (zru zpB b_ n_ 0) (fun j_ => zg N44_ 99 j_) (ze N44_ 81 65).toNat (ze N44_ 81 64).toNat) (i51_ : (∀ j : Nat, (j : Int) < ze N44_ 81 65 → -999999 ≤ zg N44_ 99 j ∧ zg N44_ 99 j ≤ 999999)), (n_ - ze N44_ 81 64).toNat < n → zW l m_M_readsMarks (zn Mz + 0, zw Mz + 0) N44_ 31 [some (.ref 81), some (.int (Int32.ofInt a0_))] [] (zpI [64, 65] [99] Mz (fun v N => (((v = 1 ∧ zRown b_ n_ (gF T).length (fun j_ => zg N 99 j_) ∧ (∀ j : Nat, j < (gF T).length → -999999 ≤ zg N 99 j ∧ zg N 99 j ≤ 999999)) ∨ (v = 0 ∧ ¬ ∃ f_ : Nat → Int, zRown b_ n_ (gF T).length f_))))) := by
            intro n
            induction n with
            | zero =>
              intro N44_ hs45_ i46_ i47_ i48_ i49_ i50_ i51_ h0
              exact absurd h0 (Nat.not_lt_zero _)
            | succ n ih_31 =>
              intro N44_ hs45_ i46_ i47_ i48_ i49_ i50_ i51_ hlt_31
              have hf_N44_ : zFr [64, 65] [99] Mz N44_ := hf_N19_.tr hs45_ (by decide) (by decide)
              have e26_N44_ : ze N44_ 81 26 = ze N19_ 81 26 := hs45_.e (by decide)
              have r64_N44_ := ze_r N44_ 81 64
              have r65_N44_ := ze_r N44_ 81 65
              have c52_ : zGB T N44_ := zGB.fr hs45_ c25_ (by decide) (by decide)
              have c53_ : zR82 b_ n_ N44_ := zR82.fr hs45_ c26_ (by decide) (by decide)
              have c54_ : zTab T N44_ := zTab.fr hs45_ c27_ (by decide) (by decide)
              have c55_ : zB 85 144 0 5 N44_ := zB.fr hs45_ c28_ (by decide) (by decide)
              have c56_ : zJX T N44_ := zJX.fr hs45_ c29_ (by decide) (by decide)
              have c57_ : zFirs T N44_ := zFirs.fr hs45_ c30_ (by decide) (by decide)
              have c58_ : zSSm T N44_ := zSSm.fr hs45_ c31_ (by decide) (by decide)
              have c59_ : zGD N44_ := zGD.fr hs45_ c32_ (by decide) (by decide)
              have hrw_ := (show zRwn b_ n_ (zru zpB b_ n_ 0) (fun j_ => zg N44_ 99 j_) (ze N44_ 81 65).toNat (ze N44_ 81 64).toNat by first | with_reducible assumption | assumption)
              have hbb_ := (show (∀ j : Nat, (j : Int) < ze N44_ 81 65 → -999999 ≤ zg N44_ 99 j ∧ zg N44_ 99 j ≤ 999999) by first | with_reducible assumption | assumption)
              refine zw_aload_n (pc := 31) (n := 0) (x := 81) rfl (zdal_p dlD_M_readsMarks_127 (i := 17) rfl) ?_
              refine zr_getI (hf_N44_.w hW) (pc := 32) f_M_504 rfl (zdal_p dlD_M_readsMarks_127 (i := 18) rfl) ?_
              refine zw_iload_n (pc := 35) (n := 1) (x := Int32.ofInt a0_) rfl (zdal_p dlD_M_readsMarks_127 (i := 19) rfl) ?_
              refine zr_icmp_ge (pc := 36) (tgt := 88) ⟨(ze_r N44_ 81 64).1, (ze_r N44_ 81 64).2⟩ ⟨ha0_a, ha0_b⟩ (by decide) (zdal_p dlD_M_readsMarks_127 (i := 20) rfl) (fun hc_36 => ?_) (fun hc_36 => ?_)
              · skip
                refine zw_aload_n (pc := 88) (n := 0) (x := 81) rfl (zdal_p dlD_M_readsMarks_129 (i := 0) rfl) ?_
                refine zr_getI (hf_N44_.w hW) (pc := 89) f_M_511 rfl (zdal_p dlD_M_readsMarks_129 (i := 1) rfl) ?_
                refine zw_aload_n (pc := 92) (n := 0) (x := 81) rfl (zdal_p dlD_M_readsMarks_129 (i := 2) rfl) ?_
                refine zr_getI0 hf_N44_ hW (pc := 93) (by decide) f_M_235 rfl (zdal_p dlD_M_readsMarks_129 (i := 3) rfl) ?_
                refine zr_icmp_ne (pc := 96) (tgt := 103) ⟨(ze_r N44_ 81 65).1, (ze_r N44_ 81 65).2⟩ ⟨(ze_r Mz 81 26).1, (ze_r Mz 81 26).2⟩ (by decide) (zdal_p dlD_M_readsMarks_129 (i := 4) rfl) (fun hc_96 => ?_) (fun hc_96 => ?_)
                · skip
                  refine zw_iconst (pc := 103) (v := Int32.ofInt 0) (by decide) (zdal_p dlD_M_readsMarks_129 (i := 7) rfl) ?_
                  exact zr_iret (pc := 104) (ty := .boolean) rfl (z_narB (by (decide))) ⟨by (exact hv34_a), by (exact hv34_b)⟩ hf_N44_ (show ((0 = 1 ∧ zRown b_ n_ (gF T).length (fun j_ => zg N44_ 99 j_) ∧ (∀ j : Nat, j < (gF T).length → -999999 ≤ zg N44_ 99 j ∧ zg N44_ 99 j ≤ 999999)) ∨ (0 = 0 ∧ ¬ ∃ f_ : Nat → Int, zRown b_ n_ (gF T).length f_)) from Or.inr (⟨(show 0 = 0 by first | rfl | exact hnn_ | exact zRown_n hrw_ (by omega) (zNs_nb hn3_ (by omega) (by rcases hl0_ with h_ | h_; exfalso; omega; exact h_.2)) | exact zRown_n hrw_ (by omega) (zNb_e (by omega))), (show ¬ ∃ f_ : Nat → Int, zRown b_ n_ (gF T).length f_ by first | rfl | exact hnn_ | exact zRown_n hrw_ (by omega) (zNs_nb hn3_ (by omega) (by rcases hl0_ with h_ | h_; exfalso; omega; exact h_.2)) | exact zRown_n hrw_ (by omega) (zNb_e (by omega)))⟩)) (zdal_p dlD_M_readsMarks_129 (i := 8) rfl)
                · skip
                  refine zw_iconst (pc := 99) (v := Int32.ofInt 1) (by decide) (zdal_p dlD_M_readsMarks_129 (i := 5) rfl) ?_
                  refine zw_goto (pc := 100) (tgt := 104) (by decide) (zdal_p dlD_M_readsMarks_129 (i := 6) rfl) ?_
                  exact zr_iret (pc := 104) (ty := .boolean) rfl (z_narB (by (decide))) ⟨by (decide), by (decide)⟩ hf_N44_ (show ((1 = 1 ∧ zRown b_ n_ (gF T).length (fun j_ => zg N44_ 99 j_) ∧ (∀ j : Nat, j < (gF T).length → -999999 ≤ zg N44_ 99 j ∧ zg N44_ 99 j ≤ 999999)) ∨ (1 = 0 ∧ ¬ ∃ f_ : Nat → Int, zRown b_ n_ (gF T).length f_)) from Or.inl (⟨(show 1 = 1 by first | rfl | exact ⟨_, by have h_ := hrw_; rw [show (ze N44_ 81 65).toNat = (gF T).length by omega] at h_; exact h_, by omega⟩ | exact fun j_ hj_ => hbb_ j_ (by omega)), (show zRown b_ n_ (gF T).length (fun j_ => zg N44_ 99 j_) by first | rfl | exact ⟨_, by have h_ := hrw_; rw [show (ze N44_ 81 65).toNat = (gF T).length by omega] at h_; exact h_, by omega⟩ | exact fun j_ hj_ => hbb_ j_ (by omega)), (show (∀ j : Nat, j < (gF T).length → -999999 ≤ zg N44_ 99 j ∧ zg N44_ 99 j ≤ 999999) by first | rfl | exact ⟨_, by have h_ := hrw_; rw [show (ze N44_ 81 65).toNat = (gF T).length by omega] at h_; exact h_, by omega⟩ | exact fun j_ hj_ => hbb_ j_ (by omega))⟩)) (zdal_p dlD_M_readsMarks_129 (i := 8) rfl)
              · skip
                refine zw_aload_n (pc := 39) (n := 0) (x := 81) rfl (zdal_p dlD_M_readsMarks_127 (i := 21) rfl) ?_
                refine zw_iload_n (pc := 40) (n := 1) (x := Int32.ofInt a0_) rfl (zdal_p dlD_M_readsMarks_127 (i := 22) rfl) ?_
                refine zr_callV (hf_N44_.w hW) hf_N44_.x (pc := 41) [.int (Int32.ofInt a0_)] [] l_M_517 (c_M_readsNumberS l N44_ (hf_N44_.w hW) a0_ ha0_a ha0_b T hO b_ n_ c52_ c53_ (show a0_ = n_ by first | with_reducible assumption | assumption | omega) (show 0 ≤ ze N44_ 81 64 by first | with_reducible assumption | assumption | omega) (show ze N44_ 81 64 ≤ n_ by first | with_reducible assumption | assumption | omega) (show 0 ≤ ze N44_ 81 65 by first | with_reducible assumption | assumption | omega) (show ze N44_ 81 65 ≤ ((gF T).length : Int) by first | with_reducible assumption | assumption | omega)) rfl rfl rfl (by decide) (Nat.le_of_ble_eq_true rfl) (zdal_p dlD_M_readsMarks_127 (i := 23) rfl) ?_
                rintro _ N60_ ⟨v61_, rfl, ⟨hv61_a, hv61_b⟩, hsN60_, hp0_N60_⟩
                replace hp0_N60_ : ((v61_ = 1 ∧ ze N44_ 81 65 < ((gF T).length : Int) ∧ ze N60_ 81 65 = ze N44_ 81 65 + 1 ∧ (∀ j : Nat, (j : Int) ≠ ze N44_ 81 65 → zg N60_ 99 j = zg N44_ 99 j) ∧ zNs b_ n_ (ze N44_ 81 64).toNat (zg N60_ 99 (ze N44_ 81 65).toNat) (ze N60_ 81 64).toNat ∧ ze N44_ 81 64 < ze N60_ 81 64 ∧ ze N60_ 81 64 ≤ n_ ∧ -999999 ≤ zg N60_ 99 (ze N44_ 81 65).toNat ∧ zg N60_ 99 (ze N44_ 81 65).toNat ≤ 999999) ∨ (v61_ = 0 ∧ (ze N44_ 81 65 = ((gF T).length : Int) ∨ ¬ ∃ v t, zNs b_ n_ (ze N44_ 81 64).toNat v t))) := hp0_N60_
                have hf_N60_ : zFr [64, 65] [99] Mz N60_ := hf_N44_.tr hsN60_ (by decide) (by decide)
                have hb0_N60_ : zFr [64, 65] [99] N19_ N60_ := hs45_.tr hsN60_ (by decide) (by decide)
                have e26_N60_ : ze N60_ 81 26 = ze N44_ 81 26 := hsN60_.e (by decide)
                have r64_N60_ := ze_r N60_ 81 64
                have r65_N60_ := ze_r N60_ 81 65
                have c62_ : zGB T N60_ := zGB.fr hsN60_ c52_ (by decide) (by decide)
                have c63_ : zR82 b_ n_ N60_ := zR82.fr hsN60_ c53_ (by decide) (by decide)
                have c64_ : zTab T N60_ := zTab.fr hsN60_ c54_ (by decide) (by decide)
                have c65_ : zB 85 144 0 5 N60_ := zB.fr hsN60_ c55_ (by decide) (by decide)
                have c66_ : zJX T N60_ := zJX.fr hsN60_ c56_ (by decide) (by decide)
                have c67_ : zFirs T N60_ := zFirs.fr hsN60_ c57_ (by decide) (by decide)
                have c68_ : zSSm T N60_ := zSSm.fr hsN60_ c58_ (by decide) (by decide)
                have c69_ : zGD N60_ := zGD.fr hsN60_ c59_ (by decide) (by decide)
                rcases hp0_N60_ with ⟨rfl, ha41_0_hp0_N60_, ha41_1_hp0_N60_, ha41_2_hp0_N60_, ha41_3_hp0_N60_, ha41_4_hp0_N60_, ha41_5_hp0_N60_, ha41_6_hp0_N60_⟩ | ⟨rfl, ha41_0_hp0_N60_⟩
                · skip
                  have hn0_ := ha41_0_hp0_N60_
                  have hn1_ := ha41_1_hp0_N60_
                  have hn2_ := ha41_2_hp0_N60_
                  have hn3_ := ha41_3_hp0_N60_
                  have hn4_ := ha41_4_hp0_N60_
                  have hn5_ := ha41_5_hp0_N60_
                  have hn6_ := ha41_6_hp0_N60_
                  have hrk_ : zRwn b_ n_ (zru zpB b_ n_ 0) (fun j_ => zg N60_ 99 j_) ((ze N60_ 81 65).toNat - 1) (ze N44_ 81 64).toNat := by rw [show (ze N60_ 81 65).toNat - 1 = (ze N44_ 81 65).toNat by omega]; exact zRwn_c (fun i_ hi_ => (hn2_ i_ (by omega)).symm) hrw_
                  have hnk_ : zNs b_ n_ (ze N44_ 81 64).toNat (zg N60_ 99 ((ze N60_ 81 65).toNat - 1)) (ze N60_ 81 64).toNat := by rw [show (ze N60_ 81 65).toNat - 1 = (ze N44_ 81 65).toNat by omega]; exact hn3_
                  have hbk_ : (∀ j : Nat, (j : Int) < ze N60_ 81 65 → -999999 ≤ zg N60_ 99 j ∧ zg N60_ 99 j ≤ 999999) := fun j_ hj_ => by by_cases g_ : (j_ : Int) = ze N44_ 81 65; (rw [show j_ = (ze N44_ 81 65).toNat by omega]; exact hn6_); (rw [hn2_ j_ g_]; exact hbb_ j_ (by (exact zo_1303 ha41_1_hp0_N60_ hj_ g_)))
                  show zW l m_M_readsMarks (zn Mz + 0, zw Mz + 0) N60_ 44 [some (.ref 81), some (.int (Int32.ofInt a0_))] [.int (Int32.ofInt 1)] _
                  refine zr_if_ne (pc := 44) (tgt := 49) ⟨(by decide), (by decide)⟩ (by decide) (zdal_p dlD_M_readsMarks_128 (i := 0) rfl) (fun hc_44 => ?_) (fun hc_44 => ?_)
                  · skip
                    refine zw_aload_n (pc := 49) (n := 0) (x := 81) rfl (zdal_p dlD_M_readsMarks_128 (i := 3) rfl) ?_
                    refine zr_getI (hf_N60_.w hW) (pc := 50) f_M_504 rfl (zdal_p dlD_M_readsMarks_128 (i := 4) rfl) ?_
                    refine zw_iload_n (pc := 53) (n := 1) (x := Int32.ofInt a0_) rfl (zdal_p dlD_M_readsMarks_128 (i := 5) rfl) ?_
                    refine zr_icmp_ge (pc := 54) (tgt := 67) ⟨(ze_r N60_ 81 64).1, (ze_r N60_ 81 64).2⟩ ⟨ha0_a, ha0_b⟩ (by decide) (zdal_p dlD_M_readsMarks_128 (i := 6) rfl) (fun hc_54 => ?_) (fun hc_54 => ?_)
                    · skip
                      have lp_67 : ∀ (n : Nat) (N70_ : zMem) (hs71_ : zFr [64] [] N60_ N70_) (i72_ : ze N44_ 81 64 < ze N70_ 81 64) (i73_ : ze N70_ 81 64 ≤ n_) (i74_ : 1 ≤ ze N70_ 81 65) (i75_ : ze N70_ 81 65 ≤ ((gF T).length : Int)) (i76_ : (∀ j : Nat, (j : Int) < ze N70_ 81 65 → -999999 ≤ zg N70_ 99 j ∧ zg N70_ 99 j ≤ 999999)) (i77_ : (∃ q0 t : Nat, zRwn b_ n_ (zru zpB b_ n_ 0) (fun j_ => zg N70_ 99 j_) ((ze N70_ 81 65).toNat - 1) q0 ∧ zNs b_ n_ q0 (zg N70_ 99 ((ze N70_ 81 65).toNat - 1)) t ∧ (t < n_ → zpB (b_ t) = true) ∧ zru zpB b_ n_ (ze N70_ 81 64).toNat = zru zpB b_ n_ t)), (n_ - ze N70_ 81 64).toNat < n → zW l m_M_readsMarks (zn Mz + 0, zw Mz + 0) N70_ 67 [some (.ref 81), some (.int (Int32.ofInt a0_))] [] (zpI [64, 65] [99] Mz (fun v N => (((v = 1 ∧ zRown b_ n_ (gF T).length (fun j_ => zg N 99 j_) ∧ (∀ j : Nat, j < (gF T).length → -999999 ≤ zg N 99 j ∧ zg N 99 j ≤ 999999)) ∨ (v = 0 ∧ ¬ ∃ f_ : Nat → Int, zRown b_ n_ (gF T).length f_))))) := by
                        intro n
                        induction n with
                        | zero =>
                          intro N70_ hs71_ i72_ i73_ i74_ i75_ i76_ i77_ h0
                          exact absurd h0 (Nat.not_lt_zero _)
                        | succ n ih_67 =>
                          intro N70_ hs71_ i72_ i73_ i74_ i75_ i76_ i77_ hlt_67
                          have hf_N70_ : zFr [64, 65] [99] Mz N70_ := hf_N60_.tr hs71_ (by decide) (by decide)
                          have hb0_N70_ : zFr [64, 65] [99] N19_ N70_ := hb0_N60_.tr hs71_ (by decide) (by decide)
                          have e26_N70_ : ze N70_ 81 26 = ze N60_ 81 26 := hs71_.e (by decide)
                          have r64_N70_ := ze_r N70_ 81 64
                          have e65_N70_ : ze N70_ 81 65 = ze N60_ 81 65 := hs71_.e (by decide)
                          have c78_ : zGB T N70_ := zGB.fr hs71_ c62_ (by decide) (by decide)
                          have c79_ : zR82 b_ n_ N70_ := zR82.fr hs71_ c63_ (by decide) (by decide)
                          have c80_ : zTab T N70_ := zTab.fr hs71_ c64_ (by decide) (by decide)
                          have c81_ : zB 85 144 0 5 N70_ := zB.fr hs71_ c65_ (by decide) (by decide)
                          have c82_ : zJX T N70_ := zJX.fr hs71_ c66_ (by decide) (by decide)
                          have c83_ : zFirs T N70_ := zFirs.fr hs71_ c67_ (by decide) (by decide)
                          have c84_ : zSSm T N70_ := zSSm.fr hs71_ c68_ (by decide) (by decide)
                          have c85_ : zGD N70_ := zGD.fr hs71_ c69_ (by decide) (by decide)
                          have hbb2_ := (show (∀ j : Nat, (j : Int) < ze N70_ 81 65 → -999999 ≤ zg N70_ 99 j ∧ zg N70_ 99 j ≤ 999999) by first | with_reducible assumption | assumption)
                          obtain ⟨q0_, t_, i1_, i2_, i3_, i4_⟩ := (show (∃ q0 t : Nat, zRwn b_ n_ (zru zpB b_ n_ 0) (fun j_ => zg N70_ 99 j_) ((ze N70_ 81 65).toNat - 1) q0 ∧ zNs b_ n_ q0 (zg N70_ 99 ((ze N70_ 81 65).toNat - 1)) t ∧ (t < n_ → zpB (b_ t) = true) ∧ zru zpB b_ n_ (ze N70_ 81 64).toNat = zru zpB b_ n_ t) by first | with_reducible assumption | assumption)
                          refine zw_aload_n (pc := 67) (n := 0) (x := 81) rfl (zdal_p dlD_M_readsMarks_128 (i := 13) rfl) ?_
                          refine zw_iload_n (pc := 68) (n := 1) (x := Int32.ofInt a0_) rfl (zdal_p dlD_M_readsMarks_128 (i := 14) rfl) ?_
                          refine zr_callV (hf_N70_.w hW) hf_N70_.x (pc := 69) [.int (Int32.ofInt a0_)] [] l_M_514 (c_M_isBlankS l N70_ (hf_N70_.w hW) a0_ ha0_a ha0_b b_ n_ c79_ (show a0_ = n_ by first | with_reducible assumption | assumption | omega) (show 0 ≤ ze N70_ 81 64 by first | with_reducible assumption | (exact zo_881 i46_ i72_ r64_N70_.1) | assumption)) rfl rfl rfl (by decide) (Nat.le_of_ble_eq_true rfl) (zdal_p dlD_M_readsMarks_128 (i := 15) rfl) ?_
                          rintro _ N86_ ⟨v87_, rfl, ⟨hv87_a, hv87_b⟩, hsN86_, hp0_N86_⟩
                          obtain rfl := hsN86_.eq.symm
                          replace hp0_N86_ : ((v87_ = 1 ∧ ze N70_ 81 64 < n_ ∧ zpB (b_ (ze N70_ 81 64).toNat) = true) ∨ (v87_ = 0 ∧ (n_ ≤ ze N70_ 81 64 ∨ (ze N70_ 81 64 < n_ ∧ zpB (b_ (ze N70_ 81 64).toNat) = false)))) := hp0_N86_
                          rcases hp0_N86_ with ⟨rfl, ha69_0_hp0_N86_, ha69_1_hp0_N86_⟩ | ⟨rfl, ha69_0_hp0_N86_⟩
                          · skip
                            have hm1_ := ha69_0_hp0_N86_
                            have hm2_ := ha69_1_hp0_N86_
                            show zW l m_M_readsMarks (zn Mz + 0, zw Mz + 0) N70_ 72 [some (.ref 81), some (.int (Int32.ofInt a0_))] [.int (Int32.ofInt 1)] _
                            refine zr_if_eq (pc := 72) (tgt := 31) ⟨(by decide), (by decide)⟩ (by decide) (zdal_p dlD_M_readsMarks_128 (i := 16) rfl) (fun hc_72 => ?_) (fun hc_72 => ?_)
                            · skip
                              exact absurd hc_72 (by decide)
                            · skip
                              refine zw_aload_n (pc := 75) (n := 0) (x := 81) rfl (zdal_p dlD_M_readsMarks_128 (i := 17) rfl) ?_
                              refine zw_dup (pc := 76) rfl (zdal_p dlD_M_readsMarks_128 (i := 18) rfl) ?_
                              refine zr_getI (hf_N70_.w hW) (pc := 77) f_M_504 rfl (zdal_p dlD_M_readsMarks_128 (i := 19) rfl) ?_
                              refine zw_iconst (pc := 80) (v := Int32.ofInt 1) (by decide) (zdal_p dlD_M_readsMarks_128 (i := 20) rfl) ?_
                              refine zr_iadd (pc := 81) (zdal_p dlD_M_readsMarks_128 (i := 21) rfl) ?_
                              refine zr_putI (hf_N70_.w hW) (pc := 82) f_M_504 rfl rfl ⟨by (exact zo_679 r64_N70_.1), by (exact zo_3093 ha69_0_hp0_N86_ hn7_ r64_N70_.2)⟩ rfl rfl (zdal_p dlD_M_readsMarks_128 (i := 22) rfl) (fun N88_ hsN88_ hvN88_ => ?_)
                              have hf_N88_ : zFr [64, 65] [99] Mz N88_ := hf_N70_.tr hsN88_ (by decide) (by decide)
                              have hb0_N88_ : zFr [64, 65] [99] N19_ N88_ := hb0_N70_.tr hsN88_ (by decide) (by decide)
                              have hb1_N88_ : zFr [64] [] N60_ N88_ := hs71_.tr hsN88_ (by decide) (by decide)
                              have e26_N88_ : ze N88_ 81 26 = ze N70_ 81 26 := hsN88_.e (by decide)
                              have r64_N88_ := ze_r N88_ 81 64
                              have e65_N88_ : ze N88_ 81 65 = ze N70_ 81 65 := hsN88_.e (by decide)
                              have c89_ : zGB T N88_ := zGB.fr hsN88_ c78_ (by decide) (by decide)
                              have c90_ : zR82 b_ n_ N88_ := zR82.fr hsN88_ c79_ (by decide) (by decide)
                              have c91_ : zTab T N88_ := zTab.fr hsN88_ c80_ (by decide) (by decide)
                              have c92_ : zB 85 144 0 5 N88_ := zB.fr hsN88_ c81_ (by decide) (by decide)
                              have c93_ : zJX T N88_ := zJX.fr hsN88_ c82_ (by decide) (by decide)
                              have c94_ : zFirs T N88_ := zFirs.fr hsN88_ c83_ (by decide) (by decide)
                              have c95_ : zSSm T N88_ := zSSm.fr hsN88_ c84_ (by decide) (by decide)
                              have c96_ : zGD N88_ := zGD.fr hsN88_ c85_ (by decide) (by decide)
                              have hzf_ : zru zpB b_ n_ (ze N88_ 81 64).toNat = zru zpB b_ n_ t_ := by rw [show (ze N88_ 81 64).toNat = (ze N70_ 81 64).toNat + 1 by omega, ← zru_t (by omega) hm2_]; exact i4_
                              refine zw_goto (pc := 85) (tgt := 67) (by decide) (zdal_p dlD_M_readsMarks_128 (i := 23) rfl) ?_
                              exact ih_67 N88_ hb1_N88_ (show ze N44_ 81 64 < ze N88_ 81 64 by first | with_reducible assumption | assumption | omega) (show ze N88_ 81 64 ≤ n_ by first | with_reducible assumption | (exact zo_3096 ha69_0_hp0_N86_ hvN88_ r64_N70_.2) | assumption) (show 1 ≤ ze N88_ 81 65 by first | with_reducible assumption | (exact zo_533 e65_N88_ i74_) | assumption) (show ze N88_ 81 65 ≤ ((gF T).length : Int) by first | with_reducible assumption | assumption | omega) (show (∀ j : Nat, (j : Int) < ze N88_ 81 65 → -999999 ≤ zg N88_ 99 j ∧ zg N88_ 99 j ≤ 999999) by exact fun j_ hj_ => by rw [(hsN88_).jg (by decide) (by decide) j_]; exact hbb2_ j_ (by omega)) (show (∃ q0 t : Nat, zRwn b_ n_ (zru zpB b_ n_ 0) (fun j_ => zg N88_ 99 j_) ((ze N88_ 81 65).toNat - 1) q0 ∧ zNs b_ n_ q0 (zg N88_ 99 ((ze N88_ 81 65).toNat - 1)) t ∧ (t < n_ → zpB (b_ t) = true) ∧ zru zpB b_ n_ (ze N88_ 81 64).toNat = zru zpB b_ n_ t) by exact ⟨q0_, t_, by rw [show (ze N88_ 81 65).toNat = (ze N70_ 81 65).toNat by (exact zo_3109 e65_N88_ i74_)]; exact zRwn_c (fun i_ _ => ((hsN88_).jg (by decide) (by decide) i_).symm) i1_, by rw [show (ze N88_ 81 65).toNat = (ze N70_ 81 65).toNat by (exact zo_3109 e65_N88_ i74_), (hsN88_).jg (by decide) (by decide)]; exact i2_, i3_, hzf_⟩) (by omega)
                          · skip
                            have hm0_ := ha69_0_hp0_N86_
                            show zW l m_M_readsMarks (zn Mz + 0, zw Mz + 0) N70_ 72 [some (.ref 81), some (.int (Int32.ofInt a0_))] [.int (Int32.ofInt 0)] _
                            refine zr_if_eq (pc := 72) (tgt := 31) ⟨(by decide), (by decide)⟩ (by decide) (zdal_p dlD_M_readsMarks_128 (i := 16) rfl) (fun hc_72 => ?_) (fun hc_72 => ?_)
                            · skip
                              exact ih_31 N70_ hb0_N70_ (show 0 ≤ ze N70_ 81 64 by first | with_reducible assumption | (exact zo_881 i46_ i72_ r64_N70_.1) | assumption) (show ze N70_ 81 64 ≤ n_ by first | with_reducible assumption | assumption | omega) (show 0 ≤ ze N70_ 81 65 by first | with_reducible assumption | (exact zo_564 i74_) | assumption) (show ze N70_ 81 65 ≤ ((gF T).length : Int) by first | with_reducible assumption | assumption | omega) (show zRwn b_ n_ (zru zpB b_ n_ 0) (fun j_ => zg N70_ 99 j_) (ze N70_ 81 65).toNat (ze N70_ 81 64).toNat by rw [show (ze N70_ 81 65).toNat = ((ze N70_ 81 65).toNat - 1) + 1 by omega]; exact zRwn_s i1_ (i2_.b i3_ (by rw [← i4_]; exact (zru_f (fun q_ => by rcases hm0_ with h_ | h_; have h2_ := q_.1; (exact zo_1086 h_ q_.1); have h2_ := q_.2; rw [h_.2] at h2_; cases h2_)).symm)) (fun _ _ => rfl) rfl) (show (∀ j : Nat, (j : Int) < ze N70_ 81 65 → -999999 ≤ zg N70_ 99 j ∧ zg N70_ 99 j ≤ 999999) by exact hbb2_) (by omega)
                            · skip
                              exact absurd hc_72 (by decide)
                      exact lp_67 _ N60_ zFr.rf (show ze N44_ 81 64 < ze N60_ 81 64 by first | with_reducible assumption | assumption | omega) (show ze N60_ 81 64 ≤ n_ by first | with_reducible assumption | assumption | omega) (show 1 ≤ ze N60_ 81 65 by first | with_reducible assumption | assumption | omega) (show ze N60_ 81 65 ≤ ((gF T).length : Int) by first | with_reducible assumption | assumption | omega) (show (∀ j : Nat, (j : Int) < ze N60_ 81 65 → -999999 ≤ zg N60_ 99 j ∧ zg N60_ 99 j ≤ 999999) by exact hbk_) (show (∃ q0 t : Nat, zRwn b_ n_ (zru zpB b_ n_ 0) (fun j_ => zg N60_ 99 j_) ((ze N60_ 81 65).toNat - 1) q0 ∧ zNs b_ n_ q0 (zg N60_ 99 ((ze N60_ 81 65).toNat - 1)) t ∧ (t < n_ → zpB (b_ t) = true) ∧ zru zpB b_ n_ (ze N60_ 81 64).toNat = zru zpB b_ n_ t) by exact ⟨_, _, hrk_, hnk_, fun h_ => (by first | exact hl2_ | (exfalso; omega)), rfl⟩) (Nat.lt_succ_self _)
                    · skip
                      refine zw_aload_n (pc := 57) (n := 0) (x := 81) rfl (zdal_p dlD_M_readsMarks_128 (i := 7) rfl) ?_
                      refine zw_iload_n (pc := 58) (n := 1) (x := Int32.ofInt a0_) rfl (zdal_p dlD_M_readsMarks_128 (i := 8) rfl) ?_
                      refine zr_callV (hf_N60_.w hW) hf_N60_.x (pc := 59) [.int (Int32.ofInt a0_)] [] l_M_514 (c_M_isBlankS l N60_ (hf_N60_.w hW) a0_ ha0_a ha0_b b_ n_ c63_ (show a0_ = n_ by first | with_reducible assumption | assumption | omega) (show 0 ≤ ze N60_ 81 64 by first | with_reducible assumption | (exact zo_3115 ha41_4_hp0_N60_ i46_ r64_N60_.1) | assumption)) rfl rfl rfl (by decide) (Nat.le_of_ble_eq_true rfl) (zdal_p dlD_M_readsMarks_128 (i := 9) rfl) ?_
                      rintro _ N97_ ⟨v98_, rfl, ⟨hv98_a, hv98_b⟩, hsN97_, hp0_N97_⟩
                      obtain rfl := hsN97_.eq.symm
                      replace hp0_N97_ : ((v98_ = 1 ∧ ze N60_ 81 64 < n_ ∧ zpB (b_ (ze N60_ 81 64).toNat) = true) ∨ (v98_ = 0 ∧ (n_ ≤ ze N60_ 81 64 ∨ (ze N60_ 81 64 < n_ ∧ zpB (b_ (ze N60_ 81 64).toNat) = false)))) := hp0_N97_
                      rcases hp0_N97_ with ⟨rfl, ha59_0_hp0_N97_, ha59_1_hp0_N97_⟩ | ⟨rfl, ha59_0_hp0_N97_⟩
                      · skip
                        have hl1_ := ha59_0_hp0_N97_
                        have hl2_ := ha59_1_hp0_N97_
                        show zW l m_M_readsMarks (zn Mz + 0, zw Mz + 0) N60_ 62 [some (.ref 81), some (.int (Int32.ofInt a0_))] [.int (Int32.ofInt 1)] _
                        refine zr_if_ne (pc := 62) (tgt := 67) ⟨(by decide), (by decide)⟩ (by decide) (zdal_p dlD_M_readsMarks_128 (i := 10) rfl) (fun hc_62 => ?_) (fun hc_62 => ?_)
                        · skip
                          have lp_67 : ∀ (n : Nat) (N99_ : zMem) (hs100_ : zFr [64] [] N60_ N99_) (i101_ : ze N44_ 81 64 < ze N99_ 81 64) (i102_ : ze N99_ 81 64 ≤ n_) (i103_ : 1 ≤ ze N99_ 81 65) (i104_ : ze N99_ 81 65 ≤ ((gF T).length : Int)) (i105_ : (∀ j : Nat, (j : Int) < ze N99_ 81 65 → -999999 ≤ zg N99_ 99 j ∧ zg N99_ 99 j ≤ 999999)) (i106_ : (∃ q0 t : Nat, zRwn b_ n_ (zru zpB b_ n_ 0) (fun j_ => zg N99_ 99 j_) ((ze N99_ 81 65).toNat - 1) q0 ∧ zNs b_ n_ q0 (zg N99_ 99 ((ze N99_ 81 65).toNat - 1)) t ∧ (t < n_ → zpB (b_ t) = true) ∧ zru zpB b_ n_ (ze N99_ 81 64).toNat = zru zpB b_ n_ t)), (n_ - ze N99_ 81 64).toNat < n → zW l m_M_readsMarks (zn Mz + 0, zw Mz + 0) N99_ 67 [some (.ref 81), some (.int (Int32.ofInt a0_))] [] (zpI [64, 65] [99] Mz (fun v N => (((v = 1 ∧ zRown b_ n_ (gF T).length (fun j_ => zg N 99 j_) ∧ (∀ j : Nat, j < (gF T).length → -999999 ≤ zg N 99 j ∧ zg N 99 j ≤ 999999)) ∨ (v = 0 ∧ ¬ ∃ f_ : Nat → Int, zRown b_ n_ (gF T).length f_))))) := by
                            intro n
                            induction n with
                            | zero =>
                              intro N99_ hs100_ i101_ i102_ i103_ i104_ i105_ i106_ h0
                              exact absurd h0 (Nat.not_lt_zero _)
                            | succ n ih_67 =>
                              intro N99_ hs100_ i101_ i102_ i103_ i104_ i105_ i106_ hlt_67
                              have hf_N99_ : zFr [64, 65] [99] Mz N99_ := hf_N60_.tr hs100_ (by decide) (by decide)
                              have hb0_N99_ : zFr [64, 65] [99] N19_ N99_ := hb0_N60_.tr hs100_ (by decide) (by decide)
                              have e26_N99_ : ze N99_ 81 26 = ze N60_ 81 26 := hs100_.e (by decide)
                              have r64_N99_ := ze_r N99_ 81 64
                              have e65_N99_ : ze N99_ 81 65 = ze N60_ 81 65 := hs100_.e (by decide)
                              have c107_ : zGB T N99_ := zGB.fr hs100_ c62_ (by decide) (by decide)
                              have c108_ : zR82 b_ n_ N99_ := zR82.fr hs100_ c63_ (by decide) (by decide)
                              have c109_ : zTab T N99_ := zTab.fr hs100_ c64_ (by decide) (by decide)
                              have c110_ : zB 85 144 0 5 N99_ := zB.fr hs100_ c65_ (by decide) (by decide)
                              have c111_ : zJX T N99_ := zJX.fr hs100_ c66_ (by decide) (by decide)
                              have c112_ : zFirs T N99_ := zFirs.fr hs100_ c67_ (by decide) (by decide)
                              have c113_ : zSSm T N99_ := zSSm.fr hs100_ c68_ (by decide) (by decide)
                              have c114_ : zGD N99_ := zGD.fr hs100_ c69_ (by decide) (by decide)
                              have hbb2_ := (show (∀ j : Nat, (j : Int) < ze N99_ 81 65 → -999999 ≤ zg N99_ 99 j ∧ zg N99_ 99 j ≤ 999999) by first | with_reducible assumption | assumption)
                              obtain ⟨q0_, t_, i1_, i2_, i3_, i4_⟩ := (show (∃ q0 t : Nat, zRwn b_ n_ (zru zpB b_ n_ 0) (fun j_ => zg N99_ 99 j_) ((ze N99_ 81 65).toNat - 1) q0 ∧ zNs b_ n_ q0 (zg N99_ 99 ((ze N99_ 81 65).toNat - 1)) t ∧ (t < n_ → zpB (b_ t) = true) ∧ zru zpB b_ n_ (ze N99_ 81 64).toNat = zru zpB b_ n_ t) by first | with_reducible assumption | assumption)
                              refine zw_aload_n (pc := 67) (n := 0) (x := 81) rfl (zdal_p dlD_M_readsMarks_128 (i := 13) rfl) ?_
                              refine zw_iload_n (pc := 68) (n := 1) (x := Int32.ofInt a0_) rfl (zdal_p dlD_M_readsMarks_128 (i := 14) rfl) ?_
                              refine zr_callV (hf_N99_.w hW) hf_N99_.x (pc := 69) [.int (Int32.ofInt a0_)] [] l_M_514 (c_M_isBlankS l N99_ (hf_N99_.w hW) a0_ ha0_a ha0_b b_ n_ c108_ (show a0_ = n_ by first | with_reducible assumption | assumption | omega) (show 0 ≤ ze N99_ 81 64 by first | with_reducible assumption | (exact zo_3115 i101_ i46_ r64_N99_.1) | assumption)) rfl rfl rfl (by decide) (Nat.le_of_ble_eq_true rfl) (zdal_p dlD_M_readsMarks_128 (i := 15) rfl) ?_
                              rintro _ N115_ ⟨v116_, rfl, ⟨hv116_a, hv116_b⟩, hsN115_, hp0_N115_⟩
                              obtain rfl := hsN115_.eq.symm
                              replace hp0_N115_ : ((v116_ = 1 ∧ ze N99_ 81 64 < n_ ∧ zpB (b_ (ze N99_ 81 64).toNat) = true) ∨ (v116_ = 0 ∧ (n_ ≤ ze N99_ 81 64 ∨ (ze N99_ 81 64 < n_ ∧ zpB (b_ (ze N99_ 81 64).toNat) = false)))) := hp0_N115_
                              rcases hp0_N115_ with ⟨rfl, ha69_0_hp0_N115_, ha69_1_hp0_N115_⟩ | ⟨rfl, ha69_0_hp0_N115_⟩
                              · skip
                                have hm1_ := ha69_0_hp0_N115_
                                have hm2_ := ha69_1_hp0_N115_
                                show zW l m_M_readsMarks (zn Mz + 0, zw Mz + 0) N99_ 72 [some (.ref 81), some (.int (Int32.ofInt a0_))] [.int (Int32.ofInt 1)] _
                                refine zr_if_eq (pc := 72) (tgt := 31) ⟨(by decide), (by decide)⟩ (by decide) (zdal_p dlD_M_readsMarks_128 (i := 16) rfl) (fun hc_72 => ?_) (fun hc_72 => ?_)
                                · skip
                                  exact absurd hc_72 (by decide)
                                · skip
                                  refine zw_aload_n (pc := 75) (n := 0) (x := 81) rfl (zdal_p dlD_M_readsMarks_128 (i := 17) rfl) ?_
                                  refine zw_dup (pc := 76) rfl (zdal_p dlD_M_readsMarks_128 (i := 18) rfl) ?_
                                  refine zr_getI (hf_N99_.w hW) (pc := 77) f_M_504 rfl (zdal_p dlD_M_readsMarks_128 (i := 19) rfl) ?_
                                  refine zw_iconst (pc := 80) (v := Int32.ofInt 1) (by decide) (zdal_p dlD_M_readsMarks_128 (i := 20) rfl) ?_
                                  refine zr_iadd (pc := 81) (zdal_p dlD_M_readsMarks_128 (i := 21) rfl) ?_
                                  refine zr_putI (hf_N99_.w hW) (pc := 82) f_M_504 rfl rfl ⟨by (exact zo_679 r64_N99_.1), by (exact zo_3093 ha69_0_hp0_N115_ hn7_ r64_N99_.2)⟩ rfl rfl (zdal_p dlD_M_readsMarks_128 (i := 22) rfl) (fun N117_ hsN117_ hvN117_ => ?_)
                                  have hf_N117_ : zFr [64, 65] [99] Mz N117_ := hf_N99_.tr hsN117_ (by decide) (by decide)
                                  have hb0_N117_ : zFr [64, 65] [99] N19_ N117_ := hb0_N99_.tr hsN117_ (by decide) (by decide)
                                  have hb1_N117_ : zFr [64] [] N60_ N117_ := hs100_.tr hsN117_ (by decide) (by decide)
                                  have e26_N117_ : ze N117_ 81 26 = ze N99_ 81 26 := hsN117_.e (by decide)
                                  have r64_N117_ := ze_r N117_ 81 64
                                  have e65_N117_ : ze N117_ 81 65 = ze N99_ 81 65 := hsN117_.e (by decide)
                                  have c118_ : zGB T N117_ := zGB.fr hsN117_ c107_ (by decide) (by decide)
                                  have c119_ : zR82 b_ n_ N117_ := zR82.fr hsN117_ c108_ (by decide) (by decide)
                                  have c120_ : zTab T N117_ := zTab.fr hsN117_ c109_ (by decide) (by decide)
                                  have c121_ : zB 85 144 0 5 N117_ := zB.fr hsN117_ c110_ (by decide) (by decide)
                                  have c122_ : zJX T N117_ := zJX.fr hsN117_ c111_ (by decide) (by decide)
                                  have c123_ : zFirs T N117_ := zFirs.fr hsN117_ c112_ (by decide) (by decide)
                                  have c124_ : zSSm T N117_ := zSSm.fr hsN117_ c113_ (by decide) (by decide)
                                  have c125_ : zGD N117_ := zGD.fr hsN117_ c114_ (by decide) (by decide)
                                  have hzf_ : zru zpB b_ n_ (ze N117_ 81 64).toNat = zru zpB b_ n_ t_ := by rw [show (ze N117_ 81 64).toNat = (ze N99_ 81 64).toNat + 1 by omega, ← zru_t (by omega) hm2_]; exact i4_
                                  refine zw_goto (pc := 85) (tgt := 67) (by decide) (zdal_p dlD_M_readsMarks_128 (i := 23) rfl) ?_
                                  exact ih_67 N117_ hb1_N117_ (show ze N44_ 81 64 < ze N117_ 81 64 by first | with_reducible assumption | assumption | omega) (show ze N117_ 81 64 ≤ n_ by first | with_reducible assumption | (exact zo_3096 ha69_0_hp0_N115_ hvN117_ r64_N99_.2) | assumption) (show 1 ≤ ze N117_ 81 65 by first | with_reducible assumption | (exact zo_533 e65_N117_ i103_) | assumption) (show ze N117_ 81 65 ≤ ((gF T).length : Int) by first | with_reducible assumption | assumption | omega) (show (∀ j : Nat, (j : Int) < ze N117_ 81 65 → -999999 ≤ zg N117_ 99 j ∧ zg N117_ 99 j ≤ 999999) by exact fun j_ hj_ => by rw [(hsN117_).jg (by decide) (by decide) j_]; exact hbb2_ j_ (by omega)) (show (∃ q0 t : Nat, zRwn b_ n_ (zru zpB b_ n_ 0) (fun j_ => zg N117_ 99 j_) ((ze N117_ 81 65).toNat - 1) q0 ∧ zNs b_ n_ q0 (zg N117_ 99 ((ze N117_ 81 65).toNat - 1)) t ∧ (t < n_ → zpB (b_ t) = true) ∧ zru zpB b_ n_ (ze N117_ 81 64).toNat = zru zpB b_ n_ t) by exact ⟨q0_, t_, by rw [show (ze N117_ 81 65).toNat = (ze N99_ 81 65).toNat by (exact zo_3109 e65_N117_ i103_)]; exact zRwn_c (fun i_ _ => ((hsN117_).jg (by decide) (by decide) i_).symm) i1_, by rw [show (ze N117_ 81 65).toNat = (ze N99_ 81 65).toNat by (exact zo_3109 e65_N117_ i103_), (hsN117_).jg (by decide) (by decide)]; exact i2_, i3_, hzf_⟩) (by omega)
                              · skip
                                have hm0_ := ha69_0_hp0_N115_
                                show zW l m_M_readsMarks (zn Mz + 0, zw Mz + 0) N99_ 72 [some (.ref 81), some (.int (Int32.ofInt a0_))] [.int (Int32.ofInt 0)] _
                                refine zr_if_eq (pc := 72) (tgt := 31) ⟨(by decide), (by decide)⟩ (by decide) (zdal_p dlD_M_readsMarks_128 (i := 16) rfl) (fun hc_72 => ?_) (fun hc_72 => ?_)
                                · skip
                                  exact ih_31 N99_ hb0_N99_ (show 0 ≤ ze N99_ 81 64 by first | with_reducible assumption | (exact zo_3115 i101_ i46_ r64_N99_.1) | assumption) (show ze N99_ 81 64 ≤ n_ by first | with_reducible assumption | assumption | omega) (show 0 ≤ ze N99_ 81 65 by first | with_reducible assumption | (exact zo_564 i103_) | assumption) (show ze N99_ 81 65 ≤ ((gF T).length : Int) by first | with_reducible assumption | assumption | omega) (show zRwn b_ n_ (zru zpB b_ n_ 0) (fun j_ => zg N99_ 99 j_) (ze N99_ 81 65).toNat (ze N99_ 81 64).toNat by rw [show (ze N99_ 81 65).toNat = ((ze N99_ 81 65).toNat - 1) + 1 by omega]; exact zRwn_s i1_ (i2_.b i3_ (by rw [← i4_]; exact (zru_f (fun q_ => by rcases hm0_ with h_ | h_; have h2_ := q_.1; (exact zo_1086 h_ q_.1); have h2_ := q_.2; rw [h_.2] at h2_; cases h2_)).symm)) (fun _ _ => rfl) rfl) (show (∀ j : Nat, (j : Int) < ze N99_ 81 65 → -999999 ≤ zg N99_ 99 j ∧ zg N99_ 99 j ≤ 999999) by exact hbb2_) (by omega)
                                · skip
                                  exact absurd hc_72 (by decide)
                          exact lp_67 _ N60_ zFr.rf (show ze N44_ 81 64 < ze N60_ 81 64 by first | with_reducible assumption | assumption | omega) (show ze N60_ 81 64 ≤ n_ by first | with_reducible assumption | assumption | omega) (show 1 ≤ ze N60_ 81 65 by first | with_reducible assumption | assumption | omega) (show ze N60_ 81 65 ≤ ((gF T).length : Int) by first | with_reducible assumption | assumption | omega) (show (∀ j : Nat, (j : Int) < ze N60_ 81 65 → -999999 ≤ zg N60_ 99 j ∧ zg N60_ 99 j ≤ 999999) by exact hbk_) (show (∃ q0 t : Nat, zRwn b_ n_ (zru zpB b_ n_ 0) (fun j_ => zg N60_ 99 j_) ((ze N60_ 81 65).toNat - 1) q0 ∧ zNs b_ n_ q0 (zg N60_ 99 ((ze N60_ 81 65).toNat - 1)) t ∧ (t < n_ → zpB (b_ t) = true) ∧ zru zpB b_ n_ (ze N60_ 81 64).toNat = zru zpB b_ n_ t) by exact ⟨_, _, hrk_, hnk_, fun h_ => (by first | exact hl2_ | (exfalso; omega)), rfl⟩) (Nat.lt_succ_self _)
                        · skip
                          exact absurd hc_62 (by decide)
                      · skip
                        have hl0_ := ha59_0_hp0_N97_
                        show zW l m_M_readsMarks (zn Mz + 0, zw Mz + 0) N60_ 62 [some (.ref 81), some (.int (Int32.ofInt a0_))] [.int (Int32.ofInt 0)] _
                        refine zr_if_ne (pc := 62) (tgt := 67) ⟨(by decide), (by decide)⟩ (by decide) (zdal_p dlD_M_readsMarks_128 (i := 10) rfl) (fun hc_62 => ?_) (fun hc_62 => ?_)
                        · skip
                          exact absurd hc_62 (by decide)
                        · skip
                          refine zw_iconst (pc := 65) (v := Int32.ofInt 0) (by decide) (zdal_p dlD_M_readsMarks_128 (i := 11) rfl) ?_
                          exact zr_iret (pc := 66) (ty := .boolean) rfl (z_narB (by (decide))) ⟨by (exact hv34_a), by (exact hv34_b)⟩ hf_N60_ (show ((0 = 1 ∧ zRown b_ n_ (gF T).length (fun j_ => zg N60_ 99 j_) ∧ (∀ j : Nat, j < (gF T).length → -999999 ≤ zg N60_ 99 j ∧ zg N60_ 99 j ≤ 999999)) ∨ (0 = 0 ∧ ¬ ∃ f_ : Nat → Int, zRown b_ n_ (gF T).length f_)) from Or.inr (⟨(show 0 = 0 by first | rfl | exact hnn_ | exact zRown_n hrw_ (by omega) (zNs_nb hn3_ (by omega) (by rcases hl0_ with h_ | h_; exfalso; omega; exact h_.2)) | exact zRown_n hrw_ (by omega) (zNb_e (by omega))), (show ¬ ∃ f_ : Nat → Int, zRown b_ n_ (gF T).length f_ by first | rfl | exact hnn_ | exact zRown_n hrw_ (by omega) (zNs_nb hn3_ (by omega) (by rcases hl0_ with h_ | h_; exfalso; omega; exact h_.2)) | exact zRown_n hrw_ (by omega) (zNb_e (by omega)))⟩)) (zdal_p dlD_M_readsMarks_128 (i := 12) rfl)
                  · skip
                    exact absurd hc_44 (by decide)
                · skip
                  have hnn_ : ¬ ∃ f_ : Nat → Int, zRown b_ n_ (gF T).length f_ := by rcases ha41_0_hp0_N60_ with q_ | q_; (have h_ := hrw_; rw [show (ze N44_ 81 65).toNat = (gF T).length by omega] at h_; exact zRown_e h_ (by omega)); (by_cases g_ : ze N44_ 81 65 = ((gF T).length : Int); (have h_ := hrw_; rw [show (ze N44_ 81 65).toNat = (gF T).length by omega] at h_; exact zRown_e h_ (by omega)); exact zRown_n hrw_ (by omega) (zNs_no q_))
                  show zW l m_M_readsMarks (zn Mz + 0, zw Mz + 0) N60_ 44 [some (.ref 81), some (.int (Int32.ofInt a0_))] [.int (Int32.ofInt 0)] _
                  refine zr_if_ne (pc := 44) (tgt := 49) ⟨(by decide), (by decide)⟩ (by decide) (zdal_p dlD_M_readsMarks_128 (i := 0) rfl) (fun hc_44 => ?_) (fun hc_44 => ?_)
                  · skip
                    exact absurd hc_44 (by decide)
                  · skip
                    refine zw_iconst (pc := 47) (v := Int32.ofInt 0) (by decide) (zdal_p dlD_M_readsMarks_128 (i := 1) rfl) ?_
                    exact zr_iret (pc := 48) (ty := .boolean) rfl (z_narB (by (decide))) ⟨by (exact hv34_a), by (exact hv34_b)⟩ hf_N60_ (show ((0 = 1 ∧ zRown b_ n_ (gF T).length (fun j_ => zg N60_ 99 j_) ∧ (∀ j : Nat, j < (gF T).length → -999999 ≤ zg N60_ 99 j ∧ zg N60_ 99 j ≤ 999999)) ∨ (0 = 0 ∧ ¬ ∃ f_ : Nat → Int, zRown b_ n_ (gF T).length f_)) from Or.inr (⟨(show 0 = 0 by first | rfl | exact hnn_ | exact zRown_n hrw_ (by omega) (zNs_nb hn3_ (by omega) (by rcases hl0_ with h_ | h_; exfalso; omega; exact h_.2)) | exact zRown_n hrw_ (by omega) (zNb_e (by omega))), (show ¬ ∃ f_ : Nat → Int, zRown b_ n_ (gF T).length f_ by first | rfl | exact hnn_ | exact zRown_n hrw_ (by omega) (zNs_nb hn3_ (by omega) (by rcases hl0_ with h_ | h_; exfalso; omega; exact h_.2)) | exact zRown_n hrw_ (by omega) (zNb_e (by omega)))⟩)) (zdal_p dlD_M_readsMarks_128 (i := 2) rfl)
          exact lp_31 _ N19_ zFr.rf (show 0 ≤ ze N19_ 81 64 by first | with_reducible assumption | assumption | omega) (show ze N19_ 81 64 ≤ n_ by first | with_reducible assumption | assumption | omega) (show 0 ≤ ze N19_ 81 65 by first | with_reducible assumption | (exact zo_718 i23_) | assumption) (show ze N19_ 81 65 ≤ ((gF T).length : Int) by first | with_reducible assumption | (exact zo_1194 i23_) | assumption) (show zRwn b_ n_ (zru zpB b_ n_ 0) (fun j_ => zg N19_ 99 j_) (ze N19_ 81 65).toNat (ze N19_ 81 64).toNat by rw [show (ze N19_ 81 65).toNat = 0 by (exact zo_1061 i23_)]; show (ze N19_ 81 64).toNat = (zru zpB b_ n_ 0); rw [← hzb_]; exact (zru_f (fun q_ => by rcases hk0_ with h_ | h_; have h2_ := q_.1; (exact zo_1086 h_ q_.1); have h2_ := q_.2; rw [h_.2] at h2_; cases h2_)).symm) (show (∀ j : Nat, (j : Int) < ze N19_ 81 65 → -999999 ≤ zg N19_ 99 j ∧ zg N19_ 99 j ≤ 999999) by exact fun j_ hj_ => absurd hj_ (by (exact zo_2646 i23_))) (Nat.lt_succ_self _)
        · skip
          exact absurd hc_15 (by decide)
  exact lp_10 _ N10_ zFr.rf (show 0 ≤ ze N10_ 81 64 by first | with_reducible assumption | (exact zo_631 e64_N10_ hvN1_) | assumption) (show ze N10_ 81 64 ≤ n_ by first | with_reducible assumption | assumption | omega) (show ze N10_ 81 65 = 0 by first | with_reducible assumption | assumption | omega) (show zru zpB b_ n_ (ze N10_ 81 64).toNat = (zru zpB b_ n_ 0) by rw [show (ze N10_ 81 64).toNat = 0 by (exact zo_599 e64_N10_ hvN1_)]) (Nat.lt_succ_self _)
set_option maxHeartbeats 4000000 in
theorem c_M_marksS (l : Launch) (Mz : zMem) (hW : zMt Mz) (T : zGT) (hO : gOK T) (hX : gEx T) (hTt : T ∈ gTabs) (b_ : Nat → Int) (n_ : Nat) (s_ : zSg) (p0_ : zGB T Mz) (p1_ : zRp b_ n_ Mz) (p2_ : zSR (gF T).length s_ Mz) : zC l m_M_marks 0 0 [.ref 81] Mz (zpI [1, 55, 60, 64, 65] [98, 99, 109, 111] Mz (fun v N => ze N 81 1 = 0 ∧ (((v = -2 ∧ (¬ ∃ f_ : Nat → Int, zRown b_ n_ (gF T).length f_) ∧ zSR (gF T).length s_ N) ∨ ∃ f_ : Nat → Int, zRown b_ n_ (gF T).length f_ ∧ (∀ j : Nat, j < (gF T).length → -1000000 ≤ f_ j ∧ f_ j ≤ 1000000) ∧ zMkO T f_ v ∧ ((v = 0 ∧ zSR (gF T).length (zpush s_ (zsq (gF T).length (gmkI T) f_)) N) ∨ (v ≠ 0 ∧ zSR (gF T).length s_ N)))))) := by
  refine zC_of (L0 := [some (.ref 81), none, none, none, none]) md_M_marks (Nat.le_of_ble_eq_true rfl) rfl ?_ zQ0
  have hf : zFr [1, 55, 60, 64, 65] [98, 99, 109, 111] Mz Mz := zFr.rf
  have r_1 := ze_r Mz 81 1
  have r_26 := ze_r Mz 81 26
  have r_55 := ze_r Mz 81 55
  have r_60 := ze_r Mz 81 60
  have hG := hO.1
  have g24 := hG.2.1
  have g1 := hG.1
  have dv0 : zTab T Mz := p0_.1
  have dv1 : zB 85 144 0 5 Mz := p0_.2.1
  have dv2 : zJX T Mz := p0_.2.2.1
  have dv3 : zFirs T Mz := p0_.2.2.2.1
  have dv4 : zSSm T Mz := p0_.2.2.2.2.1
  have dv5 : zGD Mz := zGB.d hO p0_
  have dv6 : zRmk (gF T).length (gmkI T) Mz := p0_.rm
  have dv7 : zR82 b_ n_ Mz := p1_.r82
  have gb := dv5.1
  have gn := dv0.1
  have gfl := dv3.1
  have gf6 := gF_pos hO
  have gxl := hX.2.1
  have hTA_ := gT_zTA hTt
  obtain ⟨⟨hF1_, hF27_⟩, hAr_⟩ := id hTA_
  have hF64_ : (gF T).length ≤ 64 := by omega
  obtain ⟨⟨hs1_, hs2_⟩, hs3_, hs4_⟩ := id p2_
  have h82_ := p1_.r82
  have hrp1_ := p1_.1
  refine zw_aload_n (pc := 0) (n := 0) (x := 81) rfl (zdal_p dlD_M_marks_124 (i := 0) rfl) ?_
  refine zr_getI (hf.w hW) (pc := 1) f_M_124 rfl (zdal_p dlD_M_marks_124 (i := 1) rfl) ?_
  refine zw_istore_n (pc := 4) (i := 1) (L2 := [some (.ref 81), some (.int (Int32.ofInt (ze Mz 81 1))), none, none, none]) rfl (by decide) rfl (zdal_p dlD_M_marks_124 (i := 2) rfl) ?_
  refine zw_aload_n (pc := 5) (n := 0) (x := 81) rfl (zdal_p dlD_M_marks_124 (i := 3) rfl) ?_
  refine zw_iconst (pc := 6) (v := Int32.ofInt 0) (by decide) (zdal_p dlD_M_marks_124 (i := 4) rfl) ?_
  refine zr_putI (hf.w hW) (pc := 7) f_M_124 rfl rfl ⟨by (decide), by (decide)⟩ rfl rfl (zdal_p dlD_M_marks_124 (i := 5) rfl) (fun N1_ hsN1_ hvN1_ => ?_)
  have hf_N1_ : zFr [1, 55, 60, 64, 65] [98, 99, 109, 111] Mz N1_ := hf.tr hsN1_ (by decide) (by decide)
  have r1_N1_ := ze_r N1_ 81 1
  have e26_N1_ : ze N1_ 81 26 = ze Mz 81 26 := hsN1_.e (by decide)
  have e55_N1_ : ze N1_ 81 55 = ze Mz 81 55 := hsN1_.e (by decide)
  have e60_N1_ : ze N1_ 81 60 = ze Mz 81 60 := hsN1_.e (by decide)
  have c2_ : zGB T N1_ := zGB.fr hsN1_ p0_ (by decide) (by decide)
  have c3_ : zSR (gF T).length s_ N1_ := zSR.fr hsN1_ p2_ (by decide) (by decide)
  have c4_ : zTab T N1_ := zTab.fr hsN1_ dv0 (by decide) (by decide)
  have c5_ : zB 85 144 0 5 N1_ := zB.fr hsN1_ dv1 (by decide) (by decide)
  have c6_ : zJX T N1_ := zJX.fr hsN1_ dv2 (by decide) (by decide)
  have c7_ : zFirs T N1_ := zFirs.fr hsN1_ dv3 (by decide) (by decide)
  have c8_ : zSSm T N1_ := zSSm.fr hsN1_ dv4 (by decide) (by decide)
  have c9_ : zGD N1_ := zGD.fr hsN1_ dv5 (by decide) (by decide)
  have c10_ : zRmk (gF T).length (gmkI T) N1_ := zRmk.fr hsN1_ dv6 (by decide) (by decide)
  have c11_ : zR82 b_ n_ N1_ := zR82.fr hsN1_ dv7 (by decide) (by decide)
  refine zw_aload_n (pc := 10) (n := 0) (x := 81) rfl (zdal_p dlD_M_marks_124 (i := 6) rfl) ?_
  refine zw_iload_n (pc := 11) (n := 1) (x := Int32.ofInt (ze Mz 81 1)) rfl (zdal_p dlD_M_marks_124 (i := 7) rfl) ?_
  refine zr_callV (hf_N1_.w hW) hf_N1_.x (pc := 12) [.int (Int32.ofInt (ze Mz 81 1))] [] l_M_520 (c_M_readsMarksS l N1_ (hf_N1_.w hW) (ze Mz 81 1) (ze_r Mz 81 1).1 (ze_r Mz 81 1).2 T hO b_ n_ c2_ c11_ (show (ze Mz 81 1) = n_ by first | with_reducible assumption | assumption | omega)) rfl rfl rfl (by decide) (Nat.le_of_ble_eq_true rfl) (zdal_p dlD_M_marks_124 (i := 8) rfl) ?_
  rintro _ N12_ ⟨v13_, rfl, ⟨hv13_a, hv13_b⟩, hsN12_, hp0_N12_⟩
  replace hp0_N12_ : ((v13_ = 1 ∧ zRown b_ n_ (gF T).length (fun j_ => zg N12_ 99 j_) ∧ (∀ j : Nat, j < (gF T).length → -999999 ≤ zg N12_ 99 j ∧ zg N12_ 99 j ≤ 999999)) ∨ (v13_ = 0 ∧ ¬ ∃ f_ : Nat → Int, zRown b_ n_ (gF T).length f_)) := hp0_N12_
  have hf_N12_ : zFr [1, 55, 60, 64, 65] [98, 99, 109, 111] Mz N12_ := hf_N1_.tr hsN12_ (by decide) (by decide)
  have e1_N12_ : ze N12_ 81 1 = ze N1_ 81 1 := hsN12_.e (by decide)
  have e26_N12_ : ze N12_ 81 26 = ze N1_ 81 26 := hsN12_.e (by decide)
  have e55_N12_ : ze N12_ 81 55 = ze N1_ 81 55 := hsN12_.e (by decide)
  have e60_N12_ : ze N12_ 81 60 = ze N1_ 81 60 := hsN12_.e (by decide)
  have c14_ : zGB T N12_ := zGB.fr hsN12_ c2_ (by decide) (by decide)
  have c15_ : zSR (gF T).length s_ N12_ := zSR.fr hsN12_ c3_ (by decide) (by decide)
  have c16_ : zTab T N12_ := zTab.fr hsN12_ c4_ (by decide) (by decide)
  have c17_ : zB 85 144 0 5 N12_ := zB.fr hsN12_ c5_ (by decide) (by decide)
  have c18_ : zJX T N12_ := zJX.fr hsN12_ c6_ (by decide) (by decide)
  have c19_ : zFirs T N12_ := zFirs.fr hsN12_ c7_ (by decide) (by decide)
  have c20_ : zSSm T N12_ := zSSm.fr hsN12_ c8_ (by decide) (by decide)
  have c21_ : zGD N12_ := zGD.fr hsN12_ c9_ (by decide) (by decide)
  have c22_ : zRmk (gF T).length (gmkI T) N12_ := zRmk.fr hsN12_ c10_ (by decide) (by decide)
  have c23_ : zR82 b_ n_ N12_ := zR82.fr hsN12_ c11_ (by decide) (by decide)
  rcases hp0_N12_ with ⟨rfl, ha12_0_hp0_N12_, ha12_1_hp0_N12_⟩ | ⟨rfl, ha12_0_hp0_N12_⟩
  · skip
    obtain ⟨f_, hf99_⟩ : ∃ f : Nat → Int, ∀ j : Nat, zg N12_ 99 j = f j := ⟨_, fun _ => rfl⟩
    have hrow_ := ha12_0_hp0_N12_
    have hbd0_ := ha12_1_hp0_N12_
    rw [show (fun j_ => zg N12_ 99 j_) = f_ from funext hf99_] at hrow_
    have hbd_ : ∀ j_ : Nat, j_ < (gF T).length → -1000000 ≤ f_ j_ ∧ f_ j_ ≤ 1000000 := fun j_ hj_ => by have h_ := hbd0_ j_ hj_; rw [hf99_] at h_; omega
    have hab_ : ∀ j_ : Nat, j_ < (gF T).length → (f_ j_).natAbs ≤ 1000000 := fun j_ hj_ => by have h_ := hbd_ j_ hj_; omega
    show zW l m_M_marks (zn Mz + 0, zw Mz + 0) N12_ 15 [some (.ref 81), some (.int (Int32.ofInt (ze Mz 81 1))), none, none, none] [.int (Int32.ofInt 1)] _
    refine zr_if_ne (pc := 15) (tgt := 21) ⟨(by decide), (by decide)⟩ (by decide) (zdal_p dlD_M_marks_124 (i := 9) rfl) (fun hc_15 => ?_) (fun hc_15 => ?_)
    · skip
      refine zw_iconst (pc := 21) (v := Int32.ofInt 0) (by decide) (zdal_p dlD_M_marks_124 (i := 12) rfl) ?_
      refine zw_istore_n (pc := 22) (i := 2) (L2 := [some (.ref 81), some (.int (Int32.ofInt (ze Mz 81 1))), some (.int (Int32.ofInt 0)), none, none]) rfl (by decide) rfl (zdal_p dlD_M_marks_124 (i := 13) rfl) ?_
      have lp_23 : ∀ (n : Nat) (u24_ : Int) (hu24_a : -2147483648 ≤ u24_) (hu24_b : u24_ < 2147483648) (N25_ : zMem) (hs26_ : zFr [55] [109] N12_ N25_) (i27_ : 0 ≤ u24_) (i28_ : u24_ ≤ ((gF T).length : Int)) (i29_ : (∀ j : Nat, zg N25_ 99 j = f_ j)) (i30_ : (∀ i : Nat, (i : Int) < u24_ → zCgr T (gFn T i) f_)) (i31_ : ze N25_ 81 1 = 0), (((gF T).length : Int) - u24_).toNat < n → zW l m_M_marks (zn Mz + 0, zw Mz + 0) N25_ 23 [some (.ref 81), some (.int (Int32.ofInt (ze Mz 81 1))), some (.int (Int32.ofInt u24_)), none, none] [] (zpI [1, 55, 60, 64, 65] [98, 99, 109, 111] Mz (fun v N => ze N 81 1 = 0 ∧ (((v = -2 ∧ (¬ ∃ f_ : Nat → Int, zRown b_ n_ (gF T).length f_) ∧ zSR (gF T).length s_ N) ∨ ∃ f_ : Nat → Int, zRown b_ n_ (gF T).length f_ ∧ (∀ j : Nat, j < (gF T).length → -1000000 ≤ f_ j ∧ f_ j ≤ 1000000) ∧ zMkO T f_ v ∧ ((v = 0 ∧ zSR (gF T).length (zpush s_ (zsq (gF T).length (gmkI T) f_)) N) ∨ (v ≠ 0 ∧ zSR (gF T).length s_ N)))))) := by
        intro n
        induction n with
        | zero =>
          intro u24_ hu24_a hu24_b N25_ hs26_ i27_ i28_ i29_ i30_ i31_ h0
          exact absurd h0 (Nat.not_lt_zero _)
        | succ n ih_23 =>
          intro u24_ hu24_a hu24_b N25_ hs26_ i27_ i28_ i29_ i30_ i31_ hlt_23
          have hf_N25_ : zFr [1, 55, 60, 64, 65] [98, 99, 109, 111] Mz N25_ := hf_N12_.tr hs26_ (by decide) (by decide)
          have e1_N25_ : ze N25_ 81 1 = ze N12_ 81 1 := hs26_.e (by decide)
          have e26_N25_ : ze N25_ 81 26 = ze N12_ 81 26 := hs26_.e (by decide)
          have r55_N25_ := ze_r N25_ 81 55
          have e60_N25_ : ze N25_ 81 60 = ze N12_ 81 60 := hs26_.e (by decide)
          have c32_ : zGB T N25_ := zGB.fr hs26_ c14_ (by decide) (by decide)
          have c33_ : zSR (gF T).length s_ N25_ := zSR.fr hs26_ c15_ (by decide) (by decide)
          have c34_ : zTab T N25_ := zTab.fr hs26_ c16_ (by decide) (by decide)
          have c35_ : zB 85 144 0 5 N25_ := zB.fr hs26_ c17_ (by decide) (by decide)
          have c36_ : zJX T N25_ := zJX.fr hs26_ c18_ (by decide) (by decide)
          have c37_ : zFirs T N25_ := zFirs.fr hs26_ c19_ (by decide) (by decide)
          have c38_ : zSSm T N25_ := zSSm.fr hs26_ c20_ (by decide) (by decide)
          have c39_ : zGD N25_ := zGD.fr hs26_ c21_ (by decide) (by decide)
          have c40_ : zRmk (gF T).length (gmkI T) N25_ := zRmk.fr hs26_ c22_ (by decide) (by decide)
          have c41_ : zR82 b_ n_ N25_ := zR82.fr hs26_ c23_ (by decide) (by decide)
          have hfi_ := (show (∀ j : Nat, zg N25_ 99 j = f_ j) by first | with_reducible assumption | assumption)
          have hcj_ := (show (∀ i : Nat, (i : Int) < u24_ → zCgr T (gFn T i) f_) by first | with_reducible assumption | assumption)
          refine zw_iload_n (pc := 23) (n := 2) (x := Int32.ofInt u24_) rfl (zdal_p dlD_M_marks_124 (i := 14) rfl) ?_
          refine zw_aload_n (pc := 24) (n := 0) (x := 81) rfl (zdal_p dlD_M_marks_124 (i := 15) rfl) ?_
          refine zr_getI0 hf_N25_ hW (pc := 25) (by decide) f_M_235 rfl (zdal_p dlD_M_marks_124 (i := 16) rfl) ?_
          refine zr_icmp_ge (pc := 28) (tgt := 63) ⟨hu24_a, hu24_b⟩ ⟨(ze_r Mz 81 26).1, (ze_r Mz 81 26).2⟩ (by decide) (zdal_p dlD_M_marks_124 (i := 17) rfl) (fun hc_28 => ?_) (fun hc_28 => ?_)
          · skip
            refine zw_aload_n (pc := 63) (n := 0) (x := 81) rfl (zdal_p dlD_M_marks_125 (i := 14) rfl) ?_
            refine zr_callV (hf_N25_.w hW) hf_N25_.x (pc := 64) [] [] l_M_481 (c_M_actS l N25_ (hf_N25_.w hW) (gF T).length hF64_ s_ c33_) rfl rfl rfl (by decide) (Nat.le_of_ble_eq_true rfl) (zdal_p dlD_M_marks_125 (i := 15) rfl) ?_
            rintro _ N42_ ⟨rfl, hsN42_, hp0_N42_⟩
            replace hp0_N42_ : zSA (gF T).length s_ N42_ := hp0_N42_
            have hf_N42_ : zFr [1, 55, 60, 64, 65] [98, 99, 109, 111] Mz N42_ := hf_N25_.tr hsN42_ (by decide) (by decide)
            have e1_N42_ : ze N42_ 81 1 = ze N25_ 81 1 := hsN42_.e (by decide)
            have e26_N42_ : ze N42_ 81 26 = ze N25_ 81 26 := hsN42_.e (by decide)
            have e55_N42_ : ze N42_ 81 55 = ze N25_ 81 55 := hsN42_.e (by decide)
            have r60_N42_ := ze_r N42_ 81 60
            have c44_ : zGB T N42_ := zGB.fr hsN42_ c32_ (by decide) (by decide)
            have c45_ : zTab T N42_ := zTab.fr hsN42_ c34_ (by decide) (by decide)
            have c46_ : zB 85 144 0 5 N42_ := zB.fr hsN42_ c35_ (by decide) (by decide)
            have c47_ : zJX T N42_ := zJX.fr hsN42_ c36_ (by decide) (by decide)
            have c48_ : zFirs T N42_ := zFirs.fr hsN42_ c37_ (by decide) (by decide)
            have c49_ : zSSm T N42_ := zSSm.fr hsN42_ c38_ (by decide) (by decide)
            have c50_ : zGD N42_ := zGD.fr hsN42_ c39_ (by decide) (by decide)
            have c51_ : zRmk (gF T).length (gmkI T) N42_ := zRmk.fr hsN42_ c40_ (by decide) (by decide)
            have c52_ : zR82 b_ n_ N42_ := zR82.fr hsN42_ c41_ (by decide) (by decide)
            show zW l m_M_marks (zn Mz + 0, zw Mz + 0) N42_ 67 [some (.ref 81), some (.int (Int32.ofInt (ze Mz 81 1))), some (.int (Int32.ofInt u24_)), none, none] [] _
            have hfa_ : (∀ j : Nat, zg N42_ 99 j = f_ j) := fun j_ => ((hsN42_).jg (by decide) (by decide) j_).trans (hfi_ j_)
            refine zw_aload_n (pc := 67) (n := 0) (x := 81) rfl (zdal_p dlD_M_marks_125 (i := 16) rfl) ?_
            refine zw_aload_n (pc := 68) (n := 0) (x := 81) rfl (zdal_p dlD_M_marks_125 (i := 17) rfl) ?_
            refine zr_getF (r := 99) (hf_N42_.w hW) (pc := 69) f_M_69 rfl (zh_99 (hf_N42_.w hW)).1 (zdal_p dlD_M_marks_125 (i := 18) rfl) ?_
            refine zw_aload_n (pc := 72) (n := 0) (x := 81) rfl (zdal_p dlD_M_marks_125 (i := 19) rfl) ?_
            refine zr_getF (r := 98) (hf_N42_.w hW) (pc := 73) f_M_66 rfl (zh_98 (hf_N42_.w hW)).1 (zdal_p dlD_M_marks_125 (i := 20) rfl) ?_
            refine zw_iconst (pc := 76) (v := Int32.ofInt 0) (by decide) (zdal_p dlD_M_marks_125 (i := 21) rfl) ?_
            refine zr_callV (hf_N42_.w hW) hf_N42_.x (pc := 77) [.ref 99, .ref 98, .int (Int32.ofInt 0)] [] l_M_289 (c_M_numbers_99_98S l N42_ (hf_N42_.w hW) 0 (by decide) (by decide) (gF T).length (gmkI T) hTA_ c51_ (show 0 ≤ 0 by first | with_reducible assumption | (decide) | assumption) (show 0 ≤ 0 by first | with_reducible assumption | (decide) | assumption) (show (∀ j : Nat, j < (gF T).length → -1000000 ≤ zg N42_ 99 j ∧ zg N42_ 99 j ≤ 1000000) by exact fun j_ hj_ => by rw [hfa_]; exact hbd_ j_ hj_)) rfl rfl rfl (by decide) (Nat.le_of_ble_eq_true rfl) (zdal_p dlD_M_marks_125 (i := 22) rfl) ?_
            rintro _ N53_ ⟨rfl, hsN53_, hp0_N53_⟩
            replace hp0_N53_ : (∀ k : Nat, k < (gF T).length → zg N53_ 98 k = (zsq (gF T).length (gmkI T) (fun j_ => zg N42_ 99 j_)) k) := hp0_N53_
            have hf_N53_ : zFr [1, 55, 60, 64, 65] [98, 99, 109, 111] Mz N53_ := hf_N42_.tr hsN53_ (by decide) (by decide)
            have e1_N53_ : ze N53_ 81 1 = ze N42_ 81 1 := hsN53_.e (by decide)
            have e26_N53_ : ze N53_ 81 26 = ze N42_ 81 26 := hsN53_.e (by decide)
            have e55_N53_ : ze N53_ 81 55 = ze N42_ 81 55 := hsN53_.e (by decide)
            have e60_N53_ : ze N53_ 81 60 = ze N42_ 81 60 := hsN53_.e (by decide)
            have c55_ : zGB T N53_ := zGB.fr hsN53_ c44_ (by decide) (by decide)
            have c56_ : zTab T N53_ := zTab.fr hsN53_ c45_ (by decide) (by decide)
            have c57_ : zB 85 144 0 5 N53_ := zB.fr hsN53_ c46_ (by decide) (by decide)
            have c58_ : zJX T N53_ := zJX.fr hsN53_ c47_ (by decide) (by decide)
            have c59_ : zFirs T N53_ := zFirs.fr hsN53_ c48_ (by decide) (by decide)
            have c60_ : zSSm T N53_ := zSSm.fr hsN53_ c49_ (by decide) (by decide)
            have c61_ : zGD N53_ := zGD.fr hsN53_ c50_ (by decide) (by decide)
            have c62_ : zRmk (gF T).length (gmkI T) N53_ := zRmk.fr hsN53_ c51_ (by decide) (by decide)
            have c63_ : zR82 b_ n_ N53_ := zR82.fr hsN53_ c52_ (by decide) (by decide)
            have c64_ : zSA (gF T).length s_ N53_ := zSA.fr hsN53_ hp0_N42_ (by decide) (by decide)
            show zW l m_M_marks (zn Mz + 0, zw Mz + 0) N53_ 80 [some (.ref 81), some (.int (Int32.ofInt (ze Mz 81 1))), some (.int (Int32.ofInt u24_)), none, none] [] _
            have hnu_ := hp0_N53_
            have hsr_ := c64_.ps (fun k_ hk_ => (hnu_ k_ hk_).trans (zsq_cc (m' := f_) (fun j_ _ => hfa_ j_) k_ hk_))
            refine zw_iconst (pc := 80) (v := Int32.ofInt 0) (by decide) (zdal_p dlD_M_marks_125 (i := 23) rfl) ?_
            exact zr_iret (pc := 81) (ty := .int) rfl rfl ⟨by (decide), by (decide)⟩ hf_N53_ ⟨(show ze N53_ 81 1 = 0 by first | with_reducible assumption | (exact zo_596 e1_N42_ e1_N53_ i31_) | assumption), (show ((0 = -2 ∧ (¬ ∃ f_ : Nat → Int, zRown b_ n_ (gF T).length f_) ∧ zSR (gF T).length s_ N53_) ∨ ∃ f_ : Nat → Int, zRown b_ n_ (gF T).length f_ ∧ (∀ j : Nat, j < (gF T).length → -1000000 ≤ f_ j ∧ f_ j ≤ 1000000) ∧ zMkO T f_ 0 ∧ ((0 = 0 ∧ zSR (gF T).length (zpush s_ (zsq (gF T).length (gmkI T) f_)) N53_) ∨ (0 ≠ 0 ∧ zSR (gF T).length s_ N53_))) by exact Or.inr ⟨f_, hrow_, hbd_, Or.inl ⟨rfl, fun i_ hi_ => hcj_ i_ (by omega)⟩, Or.inl ⟨rfl, hsr_⟩⟩)⟩ (zdal_p dlD_M_marks_126 (i := 0) rfl)
          · skip
            refine zw_aload_n (pc := 31) (n := 0) (x := 81) rfl (zdal_p dlD_M_marks_124 (i := 18) rfl) ?_
            refine zw_aload_n (pc := 32) (n := 0) (x := 81) rfl (zdal_p dlD_M_marks_124 (i := 19) rfl) ?_
            refine zr_getF (r := 99) (hf_N25_.w hW) (pc := 33) f_M_69 rfl (zh_99 (hf_N25_.w hW)).1 (zdal_p dlD_M_marks_124 (i := 20) rfl) ?_
            refine zw_iload_n (pc := 36) (n := 2) (x := Int32.ofInt u24_) rfl (zdal_p dlD_M_marks_124 (i := 21) rfl) ?_
            refine zr_callV (hf_N25_.w hW) hf_N25_.x (pc := 37) [.ref 99, .int (Int32.ofInt u24_)] [] l_M_475 (c_M_congruenceOf_99S l N25_ (hf_N25_.w hW) u24_ hu24_a hu24_b T hO hX c32_ (show 0 ≤ u24_ by first | with_reducible assumption | assumption | omega) (show u24_ < ze N25_ 81 26 by first | with_reducible assumption | assumption | omega)) rfl rfl rfl (by decide) (Nat.le_of_ble_eq_true rfl) (zdal_p dlD_M_marks_124 (i := 22) rfl) ?_
            rintro _ N65_ ⟨v66_, rfl, ⟨hv66_a, hv66_b⟩, hsN65_, ⟨hp0_N65_, hp1_N65_, hp2_N65_, hp3_N65_⟩⟩
            have hf_N65_ : zFr [1, 55, 60, 64, 65] [98, 99, 109, 111] Mz N65_ := hf_N25_.tr hsN65_ (by decide) (by decide)
            have hb0_N65_ : zFr [55] [109] N12_ N65_ := hs26_.tr hsN65_ (by decide) (by decide)
            have e1_N65_ : ze N65_ 81 1 = ze N25_ 81 1 := hsN65_.e (by decide)
            have e26_N65_ : ze N65_ 81 26 = ze N25_ 81 26 := hsN65_.e (by decide)
            have r55_N65_ := ze_r N65_ 81 55
            have e60_N65_ : ze N65_ 81 60 = ze N25_ 81 60 := hsN65_.e (by decide)
            have c67_ : zGB T N65_ := zGB.fr hsN65_ c32_ (by decide) (by decide)
            have c68_ : zSR (gF T).length s_ N65_ := zSR.fr hsN65_ c33_ (by decide) (by decide)
            have c69_ : zTab T N65_ := zTab.fr hsN65_ c34_ (by decide) (by decide)
            have c70_ : zB 85 144 0 5 N65_ := zB.fr hsN65_ c35_ (by decide) (by decide)
            have c71_ : zJX T N65_ := zJX.fr hsN65_ c36_ (by decide) (by decide)
            have c72_ : zFirs T N65_ := zFirs.fr hsN65_ c37_ (by decide) (by decide)
            have c73_ : zSSm T N65_ := zSSm.fr hsN65_ c38_ (by decide) (by decide)
            have c74_ : zGD N65_ := zGD.fr hsN65_ c39_ (by decide) (by decide)
            have c75_ : zRmk (gF T).length (gmkI T) N65_ := zRmk.fr hsN65_ c40_ (by decide) (by decide)
            have c76_ : zR82 b_ n_ N65_ := zR82.fr hsN65_ c41_ (by decide) (by decide)
            show zW l m_M_marks (zn Mz + 0, zw Mz + 0) N65_ 40 [some (.ref 81), some (.int (Int32.ofInt (ze Mz 81 1))), some (.int (Int32.ofInt u24_)), none, none] [.long (Int64.ofInt v66_)] _
            have hco_ := hp0_N65_
            rw [show (fun j_ => zg N25_ 99 j_) = f_ from funext hfi_] at hco_
            have hsb_ := zmi_sb hTt (H := gFn T (u24_).toNat) (f := f_) (n := gN T) (by (exact g24)) hab_
            have hve_ := z64q ⟨by (exact hv66_a), by (exact hv66_b)⟩ ⟨by omega, by omega⟩ hco_
            have hgm_ := hp1_N65_
            have hfj_ : (∀ j : Nat, zg N65_ 99 j = f_ j) := fun j_ => ((hsN65_).jg (by decide) (by decide) j_).trans (hfi_ j_)
            refine zw_lstore_n (pc := 40) (i := 3) (L2 := [some (.ref 81), some (.int (Int32.ofInt (ze Mz 81 1))), some (.int (Int32.ofInt u24_)), some (.long (Int64.ofInt v66_)), none]) rfl (by decide) rfl (zdal_p dlD_M_marks_124 (i := 23) rfl) ?_
            refine zw_lload_n (pc := 41) (n := 3) (x := Int64.ofInt v66_) rfl (zdal_p dlD_M_marks_125 (i := 0) rfl) ?_
            refine zw_aload_n (pc := 42) (n := 0) (x := 81) rfl (zdal_p dlD_M_marks_125 (i := 1) rfl) ?_
            refine zr_getI (hf_N65_.w hW) (pc := 43) f_M_453 rfl (zdal_p dlD_M_marks_125 (i := 2) rfl) ?_
            refine zr_i2l (pc := 46) ⟨(ze_r N65_ 81 55).1, (ze_r N65_ 81 55).2⟩ (zdal_p dlD_M_marks_125 (i := 3) rfl) ?_
            refine zr_lrem (pc := 47) ⟨by (exact zo_2176 hp2_N65_), by (exact zo_1007 hp3_N65_)⟩ (by (exact zo_999 hp2_N65_)) (zdal_p dlD_M_marks_125 (i := 4) rfl) ?_
            have hr77_ := zlrem_r v66_ (ze N65_ 81 55)
            have hlr_ := zlrem_d (a := v66_) (b := ze N65_ 81 55) (by omega) (by omega) (by (exact hp2_N65_)) (by omega)
            have hcg_ : zCgr T (gFn T (u24_).toNat) f_ ↔ ze N65_ 81 55 ∣ v66_ := by rw [hve_, hgm_]; exact Iff.rfl
            have hcn_ : zlrem v66_ (ze N65_ 81 55) = 0 → ∀ i : Nat, (i : Int) < u24_ + 1 → zCgr T (gFn T i) f_ := fun z_ i_ hi_ => by by_cases g_ : (i_ : Int) < u24_; exact hcj_ i_ g_; (rw [show i_ = (u24_).toNat by omega]; exact hcg_.mpr (hlr_.mp z_))
            have hno2_ : zlrem v66_ (ze N65_ 81 55) ≠ 0 → zMkO T f_ (u24_ + 1) := fun z_ => Or.inr ⟨(u24_).toNat, by (exact zo_73 gfl hc_28 hu24_b i27_ i28_), by omega, fun q_ => z_ (hlr_.mpr (hcg_.mp q_)), fun i_ hi_ => hcj_ i_ (by omega)⟩
            refine zw_lconst (pc := 48) (v := Int64.ofInt 0) (by decide) (zdal_p dlD_M_marks_125 (i := 5) rfl) ?_
            refine zr_lcmp (pc := 49) ⟨(by (exact zo_79 hr77_.1)), (by (exact zo_80 hr77_.2))⟩ ⟨(by decide), (by decide)⟩ (zdal_p dlD_M_marks_125 (i := 6) rfl) ?_
            have hr78_ := zcmp_s (zlrem v66_ (ze N65_ 81 55)) 0
            refine zr_if_eq (pc := 50) (tgt := 57) ⟨(by (exact zo_71 hr78_)), (by (exact zo_72 hr78_))⟩ (by decide) (zdal_p dlD_M_marks_125 (i := 7) rfl) (fun hc_50 => ?_) (fun hc_50 => ?_)
            · skip
              refine zr_iinc (pc := 57) (i := 2) (a := u24_) (n := 1) (L2 := [some (.ref 81), some (.int (Int32.ofInt (ze Mz 81 1))), some (.int (Int32.ofInt (u24_ + 1))), some (.long (Int64.ofInt v66_)), none]) rfl (by decide) rfl (zdal_p dlD_M_marks_125 (i := 12) rfl) ?_
              refine zw_goto (pc := 60) (tgt := 23) (by decide) (zdal_p dlD_M_marks_125 (i := 13) rfl) ?_
              refine zW_le [some (.ref 81), some (.int (Int32.ofInt (ze Mz 81 1))), some (.int (Int32.ofInt (u24_ + 1))), none, none] (⟨rfl, rfl, rfl, trivial⟩) ?_
              exact ih_23 (u24_ + 1) (by (exact zo_74 i27_)) (by omega) N65_ hb0_N65_ (show 0 ≤ (u24_ + 1) by first | with_reducible assumption | (exact zo_76 i27_) | assumption) (show (u24_ + 1) ≤ ((gF T).length : Int) by first | with_reducible assumption | (exact zo_77 gfl hc_28 hu24_b i28_) | assumption) (show (∀ j : Nat, zg N65_ 99 j = f_ j) by exact hfj_) (show (∀ i : Nat, (i : Int) < (u24_ + 1) → zCgr T (gFn T i) f_) by exact hcn_ (by omega)) (show ze N65_ 81 1 = 0 by first | with_reducible assumption | (exact zo_610 e1_N65_ i31_) | assumption) (by (exact zo_78 gfl hc_28 hlt_23 hu24_b i28_))
            · skip
              refine zw_iload_n (pc := 53) (n := 2) (x := Int32.ofInt u24_) rfl (zdal_p dlD_M_marks_125 (i := 8) rfl) ?_
              refine zw_iconst (pc := 54) (v := Int32.ofInt 1) (by decide) (zdal_p dlD_M_marks_125 (i := 9) rfl) ?_
              refine zr_iadd (pc := 55) (zdal_p dlD_M_marks_125 (i := 10) rfl) ?_
              exact zr_iret (pc := 56) (ty := .int) rfl rfl ⟨by (exact zo_74 i27_), by omega⟩ hf_N65_ ⟨(show ze N65_ 81 1 = 0 by first | with_reducible assumption | (exact zo_610 e1_N65_ i31_) | assumption), (show (((u24_ + 1) = -2 ∧ (¬ ∃ f_ : Nat → Int, zRown b_ n_ (gF T).length f_) ∧ zSR (gF T).length s_ N65_) ∨ ∃ f_ : Nat → Int, zRown b_ n_ (gF T).length f_ ∧ (∀ j : Nat, j < (gF T).length → -1000000 ≤ f_ j ∧ f_ j ≤ 1000000) ∧ zMkO T f_ (u24_ + 1) ∧ (((u24_ + 1) = 0 ∧ zSR (gF T).length (zpush s_ (zsq (gF T).length (gmkI T) f_)) N65_) ∨ ((u24_ + 1) ≠ 0 ∧ zSR (gF T).length s_ N65_))) by exact Or.inr ⟨f_, hrow_, hbd_, hno2_ (by omega), Or.inr ⟨by omega, c68_⟩⟩)⟩ (zdal_p dlD_M_marks_125 (i := 11) rfl)
      exact lp_23 _ 0 (by decide) (by decide) N12_ zFr.rf (show 0 ≤ (0 : Int) by first | with_reducible assumption | (decide) | assumption) (show (0 : Int) ≤ ((gF T).length : Int) by first | with_reducible assumption | (exact zo_85) | assumption) (show (∀ j : Nat, zg N12_ 99 j = f_ j) by exact hf99_) (show (∀ i : Nat, (i : Int) < (0 : Int) → zCgr T (gFn T i) f_) by exact fun i_ hi_ => absurd hi_ (by (exact zo_131))) (show ze N12_ 81 1 = 0 by first | with_reducible assumption | (exact zo_610 e1_N12_ hvN1_) | assumption) (Nat.lt_succ_self _)
    · skip
      exact absurd hc_15 (by decide)
  · skip
    have hno_ := ha12_0_hp0_N12_
    show zW l m_M_marks (zn Mz + 0, zw Mz + 0) N12_ 15 [some (.ref 81), some (.int (Int32.ofInt (ze Mz 81 1))), none, none, none] [.int (Int32.ofInt 0)] _
    refine zr_if_ne (pc := 15) (tgt := 21) ⟨(by decide), (by decide)⟩ (by decide) (zdal_p dlD_M_marks_124 (i := 9) rfl) (fun hc_15 => ?_) (fun hc_15 => ?_)
    · skip
      exact absurd hc_15 (by decide)
    · skip
      refine zw_bipush (pc := 18) (v := Int32.ofInt (-2)) (by decide) (zdal_p dlD_M_marks_124 (i := 10) rfl) ?_
      exact zr_iret (pc := 20) (ty := .int) rfl rfl ⟨by (decide), by (decide)⟩ hf_N12_ ⟨(show ze N12_ 81 1 = 0 by first | with_reducible assumption | (exact zo_610 e1_N12_ hvN1_) | assumption), (show ((((-2)) = -2 ∧ (¬ ∃ f_ : Nat → Int, zRown b_ n_ (gF T).length f_) ∧ zSR (gF T).length s_ N12_) ∨ ∃ f_ : Nat → Int, zRown b_ n_ (gF T).length f_ ∧ (∀ j : Nat, j < (gF T).length → -1000000 ≤ f_ j ∧ f_ j ≤ 1000000) ∧ zMkO T f_ ((-2)) ∧ ((((-2)) = 0 ∧ zSR (gF T).length (zpush s_ (zsq (gF T).length (gmkI T) f_)) N12_) ∨ (((-2)) ≠ 0 ∧ zSR (gF T).length s_ N12_))) by exact Or.inl ⟨rfl, hno_, c15_⟩)⟩ (zdal_p dlD_M_marks_124 (i := 11) rfl)
set_option maxHeartbeats 40000000 in
theorem c_M_makesS (l : Launch) (Mz : zMem) (hW : zMt Mz) (T : zGT) (hO : gOK T) (hTt : T ∈ gTabs) (b_ : Nat → Int) (n_ : Nat) (nm_ : List (Int × (Nat → Int))) (s_ : zSg) (p0_ : zGB T Mz) (p1_ : zRp b_ n_ Mz) (p2_ : zRNm nm_ (gF T).length (gmkI T) b_ n_ Mz) (p3_ : zSR (gF T).length s_ Mz) : zC l m_M_makes 0 0 [.ref 81] Mz (zpI [1, 2, 3, 4, 5, 6, 7, 8, 9, 10, 11, 38, 39, 41, 42, 43, 60] [95, 96, 97, 98, 100, 111] Mz (fun v N => ze N 81 1 = 0 ∧ (((v = -1 ∧ (¬ ∃ w_ : Nat → Int, zMkR b_ n_ (gF T).length (gmkI T) nm_ w_) ∧ zSR (gF T).length s_ N) ∨ ∃ w_ : Nat → Int, zMkR b_ n_ (gF T).length (gmkI T) nm_ w_ ∧ zfit (gF T).length (gmkI T) w_ ∧ v = ((znzc w_ (gF T).length : Nat) : Int) ∧ zSR (gF T).length (zpush s_ w_) N)))) := by
  refine zC_of (L0 := [some (.ref 81), none]) md_M_makes (Nat.le_of_ble_eq_true rfl) rfl ?_ zQ0
  have hf : zFr [1, 2, 3, 4, 5, 6, 7, 8, 9, 10, 11, 38, 39, 41, 42, 43, 60] [95, 96, 97, 98, 100, 111] Mz Mz := zFr.rf
  have r_1 := ze_r Mz 81 1
  have r_3 := ze_r Mz 81 3
  have r_4 := ze_r Mz 81 4
  have r_5 := ze_r Mz 81 5
  have r_7 := ze_r Mz 81 7
  have r_14 := ze_r Mz 81 14
  have r_26 := ze_r Mz 81 26
  have r_38 := ze_r Mz 81 38
  have r_39 := ze_r Mz 81 39
  have r_41 := ze_r Mz 81 41
  have r_42 := ze_r Mz 81 42
  have r_43 := ze_r Mz 81 43
  have r_60 := ze_r Mz 81 60
  have hG := hO.1
  have g24 := hG.2.1
  have g1 := hG.1
  have dv0 : zTab T Mz := p0_.1
  have dv1 : zB 85 144 0 5 Mz := p0_.2.1
  have dv2 : zJX T Mz := p0_.2.2.1
  have dv3 : zFirs T Mz := p0_.2.2.2.1
  have dv4 : zSSm T Mz := p0_.2.2.2.2.1
  have dv5 : zGD Mz := zGB.d hO p0_
  have dv6 : zRmk (gF T).length (gmkI T) Mz := p0_.rm
  have gb := dv5.1
  have gn := dv0.1
  have hRm_ := p0_.rm
  have hs26_ := dv3.1
  obtain ⟨hF1_, hF27_⟩ := id (gT_zTA hTt).1
  obtain ⟨⟨hs1_, hs2_⟩, hs3_, hs4_⟩ := id p3_
  have hF64_ : (gF T).length ≤ 64 := by (exact zo_2689 hF27_)
  refine zw_aload_n (pc := 0) (n := 0) (x := 81) rfl (zdal_p dlD_M_makes_106 (i := 0) rfl) ?_
  refine zr_callV (hf.w hW) hf.x (pc := 1) [] [] l_M_367 (c_M_beginsF l Mz (hf.w hW) b_ n_ p1_) rfl rfl rfl (by decide) (Nat.le_of_ble_eq_true rfl) (zdal_p dlD_M_makes_106 (i := 1) rfl) ?_
  rintro _ N1_ ⟨rfl, hsN1_, ⟨hp0_N1_, hp1_N1_, hp2_N1_, hp3_N1_, hp4_N1_⟩⟩
  have hf_N1_ : zFr [1, 2, 3, 4, 5, 6, 7, 8, 9, 10, 11, 38, 39, 41, 42, 43, 60] [95, 96, 97, 98, 100, 111] Mz N1_ := hf.tr hsN1_ (by decide) (by decide)
  have r1_N1_ := ze_r N1_ 81 1
  have r3_N1_ := ze_r N1_ 81 3
  have r4_N1_ := ze_r N1_ 81 4
  have r5_N1_ := ze_r N1_ 81 5
  have r7_N1_ := ze_r N1_ 81 7
  have e14_N1_ : ze N1_ 81 14 = ze Mz 81 14 := hsN1_.e (by decide)
  have e26_N1_ : ze N1_ 81 26 = ze Mz 81 26 := hsN1_.e (by decide)
  have e38_N1_ : ze N1_ 81 38 = ze Mz 81 38 := hsN1_.e (by decide)
  have e39_N1_ : ze N1_ 81 39 = ze Mz 81 39 := hsN1_.e (by decide)
  have e41_N1_ : ze N1_ 81 41 = ze Mz 81 41 := hsN1_.e (by decide)
  have e42_N1_ : ze N1_ 81 42 = ze Mz 81 42 := hsN1_.e (by decide)
  have e43_N1_ : ze N1_ 81 43 = ze Mz 81 43 := hsN1_.e (by decide)
  have e60_N1_ : ze N1_ 81 60 = ze Mz 81 60 := hsN1_.e (by decide)
  have qzr95_N1_ : zr95 N1_ = zr95 Mz := zr95_f hsN1_ (by decide)
  have c3_ : zGB T N1_ := zGB.fr hsN1_ p0_ (by decide) (by decide)
  have c4_ : zRNm nm_ (gF T).length (gmkI T) b_ n_ N1_ := zRNm.fr hsN1_ p2_ (by decide) (by decide)
  have c5_ : zSR (gF T).length s_ N1_ := zSR.fr hsN1_ p3_ (by decide) (by decide)
  have c6_ : zTab T N1_ := zTab.fr hsN1_ dv0 (by decide) (by decide)
  have c7_ : zB 85 144 0 5 N1_ := zB.fr hsN1_ dv1 (by decide) (by decide)
  have c8_ : zJX T N1_ := zJX.fr hsN1_ dv2 (by decide) (by decide)
  have c9_ : zFirs T N1_ := zFirs.fr hsN1_ dv3 (by decide) (by decide)
  have c10_ : zSSm T N1_ := zSSm.fr hsN1_ dv4 (by decide) (by decide)
  have c11_ : zGD N1_ := zGD.fr hsN1_ dv5 (by decide) (by decide)
  have c12_ : zRmk (gF T).length (gmkI T) N1_ := zRmk.fr hsN1_ dv6 (by decide) (by decide)
  show zW l m_M_makes (zn Mz + 0, zw Mz + 0) N1_ 4 [some (.ref 81), none] [] _
  have hs0_ : (ze N1_ 81 4).toNat = (zru zpB b_ n_ 0) := by have h_ := hp2_N1_; (exact zo_2680 hp2_N1_ r4_N1_.1 r4_N1_.2)
  refine zw_aload_n (pc := 4) (n := 0) (x := 81) rfl (zdal_p dlD_M_makes_106 (i := 2) rfl) ?_
  refine zr_callV (hf_N1_.w hW) hf_N1_.x (pc := 5) [] [] l_M_358 (c_M_formulaF l N1_ (hf_N1_.w hW) (gF T).length (gmkI T) (gT_zTA hTt) b_ n_ nm_ c12_ hp0_N1_ hp1_N1_ c4_ (show 0 ≤ ze N1_ 81 7 by first | with_reducible assumption | (exact zo_718 hp3_N1_) | assumption)) rfl rfl rfl (by decide) (Nat.le_of_ble_eq_true rfl) (zdal_p dlD_M_makes_106 (i := 3) rfl) ?_
  rintro _ N13_ ⟨rfl, hsN13_, ⟨hp0_N13_, hp1_N13_⟩⟩
  have hf_N13_ : zFr [1, 2, 3, 4, 5, 6, 7, 8, 9, 10, 11, 38, 39, 41, 42, 43, 60] [95, 96, 97, 98, 100, 111] Mz N13_ := hf_N1_.tr hsN13_ (by decide) (by decide)
  have e1_N13_ : ze N13_ 81 1 = ze N1_ 81 1 := hsN13_.e (by decide)
  have r3_N13_ := ze_r N13_ 81 3
  have r4_N13_ := ze_r N13_ 81 4
  have r5_N13_ := ze_r N13_ 81 5
  have r7_N13_ := ze_r N13_ 81 7
  have e14_N13_ : ze N13_ 81 14 = ze N1_ 81 14 := hsN13_.e (by decide)
  have e26_N13_ : ze N13_ 81 26 = ze N1_ 81 26 := hsN13_.e (by decide)
  have r38_N13_ := ze_r N13_ 81 38
  have r39_N13_ := ze_r N13_ 81 39
  have r41_N13_ := ze_r N13_ 81 41
  have r42_N13_ := ze_r N13_ 81 42
  have r43_N13_ := ze_r N13_ 81 43
  have e60_N13_ : ze N13_ 81 60 = ze N1_ 81 60 := hsN13_.e (by decide)
  have c15_ : zGB T N13_ := zGB.fr hsN13_ c3_ (by decide) (by decide)
  have c16_ : zRNm nm_ (gF T).length (gmkI T) b_ n_ N13_ := zRNm.fr hsN13_ c4_ (by decide) (by decide)
  have c17_ : zSR (gF T).length s_ N13_ := zSR.fr hsN13_ c5_ (by decide) (by decide)
  have c18_ : zTab T N13_ := zTab.fr hsN13_ c6_ (by decide) (by decide)
  have c19_ : zB 85 144 0 5 N13_ := zB.fr hsN13_ c7_ (by decide) (by decide)
  have c20_ : zJX T N13_ := zJX.fr hsN13_ c8_ (by decide) (by decide)
  have c21_ : zFirs T N13_ := zFirs.fr hsN13_ c9_ (by decide) (by decide)
  have c22_ : zSSm T N13_ := zSSm.fr hsN13_ c10_ (by decide) (by decide)
  have c23_ : zGD N13_ := zGD.fr hsN13_ c11_ (by decide) (by decide)
  have c24_ : zRmk (gF T).length (gmkI T) N13_ := zRmk.fr hsN13_ c12_ (by decide) (by decide)
  have c25_ : zRb b_ n_ N13_ := zRb.fr hsN13_ hp0_N1_ (by decide) (by decide)
  rcases hp1_N13_ with ⟨ha5_0_hp1_N13_, ha5_1_hp1_N13_⟩ | ⟨ha5_0_hp1_N13_, ha5_1_hp1_N13_, ha5_2_hp1_N13_, ha5_3_hp1_N13_, ha5_4_hp1_N13_, ha5_5_hp1_N13_⟩
  · skip
    have hre_ := ha5_1_hp1_N13_ (by (exact hp3_N1_))
    rw [hs0_] at hre_
    have hno_ : (¬ ∃ w_ : Nat → Int, zMkR b_ n_ (gF T).length (gmkI T) nm_ w_) := by rintro ⟨w_, q_, un_, e_, -⟩; unfold zMkT at e_; rw [zfe_s hre_ zfs_F] at e_; cases e_
    show zW l m_M_makes (zn Mz + 0, zw Mz + 0) N13_ 8 [some (.ref 81), none] [] _
    refine zw_aload_n (pc := 8) (n := 0) (x := 81) rfl (zdal_p dlD_M_makes_106 (i := 4) rfl) ?_
    refine zr_callV (hf_N13_.w hW) hf_N13_.x (pc := 9) [] [] l_M_183 (c_M_isGood l N13_ (hf_N13_.w hW) ) rfl rfl rfl (by decide) (Nat.le_of_ble_eq_true rfl) (zdal_p dlD_M_makes_106 (i := 5) rfl) ?_
    rintro _ N26_ ⟨v27_, rfl, ⟨hv27_a, hv27_b⟩, hsN26_, hp0_N26_⟩
    obtain rfl := hsN26_.eq.symm
    replace hp0_N26_ : ((v27_ = 1 ∧ ze N13_ 81 7 = 0) ∨ (v27_ = 0 ∧ ze N13_ 81 7 ≠ 0)) := hp0_N26_
    rcases hp0_N26_ with ⟨rfl, ha9_0_hp0_N26_⟩ | ⟨rfl, ha9_0_hp0_N26_⟩
    · skip
      exfalso; (exact zo_609 ha5_0_hp1_N13_ ha9_0_hp0_N26_)
    · skip
      show zW l m_M_makes (zn Mz + 0, zw Mz + 0) N13_ 12 [some (.ref 81), none] [.int (Int32.ofInt 0)] _
      refine zr_if_eq (pc := 12) (tgt := 27) ⟨(by decide), (by decide)⟩ (by decide) (zdal_p dlD_M_makes_106 (i := 6) rfl) (fun hc_12 => ?_) (fun hc_12 => ?_)
      · skip
        refine zw_aload_n (pc := 27) (n := 0) (x := 81) rfl (zdal_p dlD_M_makes_106 (i := 13) rfl) ?_
        refine zr_callV (hf_N13_.w hW) hf_N13_.x (pc := 28) [] [] l_M_183 (c_M_isGood l N13_ (hf_N13_.w hW) ) rfl rfl rfl (by decide) (Nat.le_of_ble_eq_true rfl) (zdal_p dlD_M_makes_106 (i := 14) rfl) ?_
        rintro _ N28_ ⟨v29_, rfl, ⟨hv29_a, hv29_b⟩, hsN28_, hp0_N28_⟩
        obtain rfl := hsN28_.eq.symm
        replace hp0_N28_ : ((v29_ = 1 ∧ ze N13_ 81 7 = 0) ∨ (v29_ = 0 ∧ ze N13_ 81 7 ≠ 0)) := hp0_N28_
        rcases hp0_N28_ with ⟨rfl, ha28_0_hp0_N28_⟩ | ⟨rfl, ha28_0_hp0_N28_⟩
        · skip
          exfalso; (exact zo_281 ha28_0_hp0_N28_ ha5_0_hp1_N13_)
        · skip
          show zW l m_M_makes (zn Mz + 0, zw Mz + 0) N13_ 31 [some (.ref 81), none] [.int (Int32.ofInt 0)] _
          refine zr_if_eq (pc := 31) (tgt := 48) ⟨(by decide), (by decide)⟩ (by decide) (zdal_p dlD_M_makes_106 (i := 15) rfl) (fun hc_31 => ?_) (fun hc_31 => ?_)
          · skip
            refine zw_aload_n (pc := 48) (n := 0) (x := 81) rfl (zdal_p dlD_M_makes_106 (i := 23) rfl) ?_
            refine zr_callV (hf_N13_.w hW) hf_N13_.x (pc := 49) [] [] l_M_373 (c_M_tells l N13_ (hf_N13_.w hW) ) rfl rfl rfl (by decide) (Nat.le_of_ble_eq_true rfl) (zdal_p dlD_M_makes_107 (i := 0) rfl) ?_
            rintro _ N30_ ⟨rfl, hsN30_, -⟩
            have hf_N30_ : zFr [1, 2, 3, 4, 5, 6, 7, 8, 9, 10, 11, 38, 39, 41, 42, 43, 60] [95, 96, 97, 98, 100, 111] Mz N30_ := hf_N13_.tr hsN30_ (by decide) (by decide)
            have e1_N30_ : ze N30_ 81 1 = ze N13_ 81 1 := hsN30_.e (by decide)
            have e3_N30_ : ze N30_ 81 3 = ze N13_ 81 3 := hsN30_.e (by decide)
            have e4_N30_ : ze N30_ 81 4 = ze N13_ 81 4 := hsN30_.e (by decide)
            have e5_N30_ : ze N30_ 81 5 = ze N13_ 81 5 := hsN30_.e (by decide)
            have e7_N30_ : ze N30_ 81 7 = ze N13_ 81 7 := hsN30_.e (by decide)
            have e14_N30_ : ze N30_ 81 14 = ze N13_ 81 14 := hsN30_.e (by decide)
            have e26_N30_ : ze N30_ 81 26 = ze N13_ 81 26 := hsN30_.e (by decide)
            have e38_N30_ : ze N30_ 81 38 = ze N13_ 81 38 := hsN30_.e (by decide)
            have e39_N30_ : ze N30_ 81 39 = ze N13_ 81 39 := hsN30_.e (by decide)
            have e41_N30_ : ze N30_ 81 41 = ze N13_ 81 41 := hsN30_.e (by decide)
            have e42_N30_ : ze N30_ 81 42 = ze N13_ 81 42 := hsN30_.e (by decide)
            have e43_N30_ : ze N30_ 81 43 = ze N13_ 81 43 := hsN30_.e (by decide)
            have e60_N30_ : ze N30_ 81 60 = ze N13_ 81 60 := hsN30_.e (by decide)
            have qzr95_N30_ : zr95 N30_ = zr95 N13_ := zr95_f hsN30_ (by decide)
            have c32_ : zGB T N30_ := zGB.fr hsN30_ c15_ (by decide) (by decide)
            have c33_ : zRNm nm_ (gF T).length (gmkI T) b_ n_ N30_ := zRNm.fr hsN30_ c16_ (by decide) (by decide)
            have c34_ : zSR (gF T).length s_ N30_ := zSR.fr hsN30_ c17_ (by decide) (by decide)
            have c35_ : zTab T N30_ := zTab.fr hsN30_ c18_ (by decide) (by decide)
            have c36_ : zB 85 144 0 5 N30_ := zB.fr hsN30_ c19_ (by decide) (by decide)
            have c37_ : zJX T N30_ := zJX.fr hsN30_ c20_ (by decide) (by decide)
            have c38_ : zFirs T N30_ := zFirs.fr hsN30_ c21_ (by decide) (by decide)
            have c39_ : zSSm T N30_ := zSSm.fr hsN30_ c22_ (by decide) (by decide)
            have c40_ : zGD N30_ := zGD.fr hsN30_ c23_ (by decide) (by decide)
            have c41_ : zRmk (gF T).length (gmkI T) N30_ := zRmk.fr hsN30_ c24_ (by decide) (by decide)
            have c42_ : zRb b_ n_ N30_ := zRb.fr hsN30_ c25_ (by decide) (by decide)
            have c43_ : zRt b_ n_ N30_ := zRt.fr hsN30_ hp0_N13_ (by decide) (by decide)
            show zW l m_M_makes (zn Mz + 0, zw Mz + 0) N30_ 52 [some (.ref 81), none] [] _
            refine zw_aload_n (pc := 52) (n := 0) (x := 81) rfl (zdal_p dlD_M_makes_107 (i := 1) rfl) ?_
            refine zr_getI (hf_N30_.w hW) (pc := 53) f_M_172 rfl (zdal_p dlD_M_makes_107 (i := 2) rfl) ?_
            refine zr_if_le (pc := 56) (tgt := 61) ⟨(ze_r N30_ 81 7).1, (ze_r N30_ 81 7).2⟩ (by decide) (zdal_p dlD_M_makes_107 (i := 3) rfl) (fun hc_56 => ?_) (fun hc_56 => ?_)
            · skip
              exfalso; (exact zo_2681 e7_N30_ ha5_0_hp1_N13_ hc_56)
            · skip
              refine zw_iconst (pc := 59) (v := Int32.ofInt (-1)) (by decide) (zdal_p dlD_M_makes_107 (i := 4) rfl) ?_
              exact zr_iret (pc := 60) (ty := .int) rfl rfl ⟨by (decide), by (decide)⟩ hf_N30_ ⟨(show ze N30_ 81 1 = 0 by first | with_reducible assumption | (exact zo_596 e1_N13_ e1_N30_ hp4_N1_) | assumption), (show ((((-1)) = -1 ∧ (¬ ∃ w_ : Nat → Int, zMkR b_ n_ (gF T).length (gmkI T) nm_ w_) ∧ zSR (gF T).length s_ N30_) ∨ ∃ w_ : Nat → Int, zMkR b_ n_ (gF T).length (gmkI T) nm_ w_ ∧ zfit (gF T).length (gmkI T) w_ ∧ ((-1)) = ((znzc w_ (gF T).length : Nat) : Int) ∧ zSR (gF T).length (zpush s_ w_) N30_) by exact Or.inl ⟨rfl, hno_, c34_⟩)⟩ (zdal_p dlD_M_makes_107 (i := 5) rfl)
          · skip
            exact absurd hc_31 (by decide)
      · skip
        exact absurd hc_12 (by decide)
  · skip
    have hre_ := ha5_2_hp1_N13_
    rw [hs0_] at hre_
    have hri_ := ha5_3_hp1_N13_
    have hsn_ := ha5_4_hp1_N13_
    have hmt_ : zMkT b_ n_ (gF T).length (gmkI T) nm_ = zRst 3 (gF T).length N13_ := zfe_s hre_ (by unfold zRst; exact zfs_d)
    have hrt_ := hp0_N13_.2.2.1
    show zW l m_M_makes (zn Mz + 0, zw Mz + 0) N13_ 8 [some (.ref 81), none] [] _
    refine zw_aload_n (pc := 8) (n := 0) (x := 81) rfl (zdal_p dlD_M_makes_106 (i := 4) rfl) ?_
    refine zr_callV (hf_N13_.w hW) hf_N13_.x (pc := 9) [] [] l_M_183 (c_M_isGood l N13_ (hf_N13_.w hW) ) rfl rfl rfl (by decide) (Nat.le_of_ble_eq_true rfl) (zdal_p dlD_M_makes_106 (i := 5) rfl) ?_
    rintro _ N44_ ⟨v45_, rfl, ⟨hv45_a, hv45_b⟩, hsN44_, hp0_N44_⟩
    obtain rfl := hsN44_.eq.symm
    replace hp0_N44_ : ((v45_ = 1 ∧ ze N13_ 81 7 = 0) ∨ (v45_ = 0 ∧ ze N13_ 81 7 ≠ 0)) := hp0_N44_
    rcases hp0_N44_ with ⟨rfl, ha9_0_hp0_N44_⟩ | ⟨rfl, ha9_0_hp0_N44_⟩
    · skip
      show zW l m_M_makes (zn Mz + 0, zw Mz + 0) N13_ 12 [some (.ref 81), none] [.int (Int32.ofInt 1)] _
      refine zr_if_eq (pc := 12) (tgt := 27) ⟨(by decide), (by decide)⟩ (by decide) (zdal_p dlD_M_makes_106 (i := 6) rfl) (fun hc_12 => ?_) (fun hc_12 => ?_)
      · skip
        exact absurd hc_12 (by decide)
      · skip
        refine zw_aload_n (pc := 15) (n := 0) (x := 81) rfl (zdal_p dlD_M_makes_106 (i := 7) rfl) ?_
        refine zr_getI (hf_N13_.w hW) (pc := 16) f_M_155 rfl (zdal_p dlD_M_makes_106 (i := 8) rfl) ?_
        refine zr_if_eq (pc := 19) (tgt := 27) ⟨(ze_r N13_ 81 5).1, (ze_r N13_ 81 5).2⟩ (by decide) (zdal_p dlD_M_makes_106 (i := 9) rfl) (fun hc_19 => ?_) (fun hc_19 => ?_)
        · skip
          refine zw_aload_n (pc := 27) (n := 0) (x := 81) rfl (zdal_p dlD_M_makes_106 (i := 13) rfl) ?_
          refine zr_callV (hf_N13_.w hW) hf_N13_.x (pc := 28) [] [] l_M_183 (c_M_isGood l N13_ (hf_N13_.w hW) ) rfl rfl rfl (by decide) (Nat.le_of_ble_eq_true rfl) (zdal_p dlD_M_makes_106 (i := 14) rfl) ?_
          rintro _ N46_ ⟨v47_, rfl, ⟨hv47_a, hv47_b⟩, hsN46_, hp0_N46_⟩
          obtain rfl := hsN46_.eq.symm
          replace hp0_N46_ : ((v47_ = 1 ∧ ze N13_ 81 7 = 0) ∨ (v47_ = 0 ∧ ze N13_ 81 7 ≠ 0)) := hp0_N46_
          rcases hp0_N46_ with ⟨rfl, ha28_0_hp0_N46_⟩ | ⟨rfl, ha28_0_hp0_N46_⟩
          · skip
            show zW l m_M_makes (zn Mz + 0, zw Mz + 0) N13_ 31 [some (.ref 81), none] [.int (Int32.ofInt 1)] _
            refine zr_if_eq (pc := 31) (tgt := 48) ⟨(by decide), (by decide)⟩ (by decide) (zdal_p dlD_M_makes_106 (i := 15) rfl) (fun hc_31 => ?_) (fun hc_31 => ?_)
            · skip
              exact absurd hc_31 (by decide)
            · skip
              refine zw_aload_n (pc := 34) (n := 0) (x := 81) rfl (zdal_p dlD_M_makes_106 (i := 16) rfl) ?_
              refine zr_getI (hf_N13_.w hW) (pc := 35) f_M_275 rfl (zdal_p dlD_M_makes_106 (i := 17) rfl) ?_
              refine zr_if_eq (pc := 38) (tgt := 48) ⟨(ze_r N13_ 81 39).1, (ze_r N13_ 81 39).2⟩ (by decide) (zdal_p dlD_M_makes_106 (i := 18) rfl) (fun hc_38 => ?_) (fun hc_38 => ?_)
              · skip
                refine zw_aload_n (pc := 48) (n := 0) (x := 81) rfl (zdal_p dlD_M_makes_106 (i := 23) rfl) ?_
                refine zr_callV (hf_N13_.w hW) hf_N13_.x (pc := 49) [] [] l_M_373 (c_M_tells l N13_ (hf_N13_.w hW) ) rfl rfl rfl (by decide) (Nat.le_of_ble_eq_true rfl) (zdal_p dlD_M_makes_107 (i := 0) rfl) ?_
                rintro _ N48_ ⟨rfl, hsN48_, -⟩
                have hf_N48_ : zFr [1, 2, 3, 4, 5, 6, 7, 8, 9, 10, 11, 38, 39, 41, 42, 43, 60] [95, 96, 97, 98, 100, 111] Mz N48_ := hf_N13_.tr hsN48_ (by decide) (by decide)
                have e1_N48_ : ze N48_ 81 1 = ze N13_ 81 1 := hsN48_.e (by decide)
                have e3_N48_ : ze N48_ 81 3 = ze N13_ 81 3 := hsN48_.e (by decide)
                have e4_N48_ : ze N48_ 81 4 = ze N13_ 81 4 := hsN48_.e (by decide)
                have e5_N48_ : ze N48_ 81 5 = ze N13_ 81 5 := hsN48_.e (by decide)
                have e7_N48_ : ze N48_ 81 7 = ze N13_ 81 7 := hsN48_.e (by decide)
                have e14_N48_ : ze N48_ 81 14 = ze N13_ 81 14 := hsN48_.e (by decide)
                have e26_N48_ : ze N48_ 81 26 = ze N13_ 81 26 := hsN48_.e (by decide)
                have e38_N48_ : ze N48_ 81 38 = ze N13_ 81 38 := hsN48_.e (by decide)
                have e39_N48_ : ze N48_ 81 39 = ze N13_ 81 39 := hsN48_.e (by decide)
                have e41_N48_ : ze N48_ 81 41 = ze N13_ 81 41 := hsN48_.e (by decide)
                have e42_N48_ : ze N48_ 81 42 = ze N13_ 81 42 := hsN48_.e (by decide)
                have e43_N48_ : ze N48_ 81 43 = ze N13_ 81 43 := hsN48_.e (by decide)
                have e60_N48_ : ze N48_ 81 60 = ze N13_ 81 60 := hsN48_.e (by decide)
                have qzr95_N48_ : zr95 N48_ = zr95 N13_ := zr95_f hsN48_ (by decide)
                have c50_ : zGB T N48_ := zGB.fr hsN48_ c15_ (by decide) (by decide)
                have c51_ : zRNm nm_ (gF T).length (gmkI T) b_ n_ N48_ := zRNm.fr hsN48_ c16_ (by decide) (by decide)
                have c52_ : zSR (gF T).length s_ N48_ := zSR.fr hsN48_ c17_ (by decide) (by decide)
                have c53_ : zTab T N48_ := zTab.fr hsN48_ c18_ (by decide) (by decide)
                have c54_ : zB 85 144 0 5 N48_ := zB.fr hsN48_ c19_ (by decide) (by decide)
                have c55_ : zJX T N48_ := zJX.fr hsN48_ c20_ (by decide) (by decide)
                have c56_ : zFirs T N48_ := zFirs.fr hsN48_ c21_ (by decide) (by decide)
                have c57_ : zSSm T N48_ := zSSm.fr hsN48_ c22_ (by decide) (by decide)
                have c58_ : zGD N48_ := zGD.fr hsN48_ c23_ (by decide) (by decide)
                have c59_ : zRmk (gF T).length (gmkI T) N48_ := zRmk.fr hsN48_ c24_ (by decide) (by decide)
                have c60_ : zRb b_ n_ N48_ := zRb.fr hsN48_ c25_ (by decide) (by decide)
                have c61_ : zRt b_ n_ N48_ := zRt.fr hsN48_ hp0_N13_ (by decide) (by decide)
                show zW l m_M_makes (zn Mz + 0, zw Mz + 0) N48_ 52 [some (.ref 81), none] [] _
                refine zw_aload_n (pc := 52) (n := 0) (x := 81) rfl (zdal_p dlD_M_makes_107 (i := 1) rfl) ?_
                refine zr_getI (hf_N48_.w hW) (pc := 53) f_M_172 rfl (zdal_p dlD_M_makes_107 (i := 2) rfl) ?_
                refine zr_if_le (pc := 56) (tgt := 61) ⟨(ze_r N48_ 81 7).1, (ze_r N48_ 81 7).2⟩ (by decide) (zdal_p dlD_M_makes_107 (i := 3) rfl) (fun hc_56 => ?_) (fun hc_56 => ?_)
                · skip
                  obtain ⟨hz3_, hfit_⟩ := zRst_3 (N := N13_) hri_ hsn_ (by (exact hc_38))
                  obtain ⟨ww_, hww_⟩ : ∃ v : Nat → Int, v = zrw (gF T).length N13_ 95 0 := ⟨_, rfl⟩
                  rw [← hww_] at hz3_ hfit_
                  have hmk_ : zMkR b_ n_ (gF T).length (gmkI T) nm_ ww_ := ⟨_, _, hmt_.trans hz3_, by (exact zo_2281 hc_19 hrt_)⟩
                  refine zw_aload_n (pc := 61) (n := 0) (x := 81) rfl (zdal_p dlD_M_makes_107 (i := 6) rfl) ?_
                  refine zr_callV (hf_N48_.w hW) hf_N48_.x (pc := 62) [] [] l_M_481 (c_M_actS l N48_ (hf_N48_.w hW) (gF T).length hF64_ s_ c52_) rfl rfl rfl (by decide) (Nat.le_of_ble_eq_true rfl) (zdal_p dlD_M_makes_107 (i := 7) rfl) ?_
                  rintro _ N62_ ⟨rfl, hsN62_, hp0_N62_⟩
                  replace hp0_N62_ : zSA (gF T).length s_ N62_ := hp0_N62_
                  have hf_N62_ : zFr [1, 2, 3, 4, 5, 6, 7, 8, 9, 10, 11, 38, 39, 41, 42, 43, 60] [95, 96, 97, 98, 100, 111] Mz N62_ := hf_N48_.tr hsN62_ (by decide) (by decide)
                  have e1_N62_ : ze N62_ 81 1 = ze N48_ 81 1 := hsN62_.e (by decide)
                  have e3_N62_ : ze N62_ 81 3 = ze N48_ 81 3 := hsN62_.e (by decide)
                  have e4_N62_ : ze N62_ 81 4 = ze N48_ 81 4 := hsN62_.e (by decide)
                  have e5_N62_ : ze N62_ 81 5 = ze N48_ 81 5 := hsN62_.e (by decide)
                  have e7_N62_ : ze N62_ 81 7 = ze N48_ 81 7 := hsN62_.e (by decide)
                  have e14_N62_ : ze N62_ 81 14 = ze N48_ 81 14 := hsN62_.e (by decide)
                  have e26_N62_ : ze N62_ 81 26 = ze N48_ 81 26 := hsN62_.e (by decide)
                  have e38_N62_ : ze N62_ 81 38 = ze N48_ 81 38 := hsN62_.e (by decide)
                  have e39_N62_ : ze N62_ 81 39 = ze N48_ 81 39 := hsN62_.e (by decide)
                  have e41_N62_ : ze N62_ 81 41 = ze N48_ 81 41 := hsN62_.e (by decide)
                  have e42_N62_ : ze N62_ 81 42 = ze N48_ 81 42 := hsN62_.e (by decide)
                  have e43_N62_ : ze N62_ 81 43 = ze N48_ 81 43 := hsN62_.e (by decide)
                  have r60_N62_ := ze_r N62_ 81 60
                  have qzr95_N62_ : zr95 N62_ = zr95 N48_ := zr95_f hsN62_ (by decide)
                  have c64_ : zGB T N62_ := zGB.fr hsN62_ c50_ (by decide) (by decide)
                  have c65_ : zRNm nm_ (gF T).length (gmkI T) b_ n_ N62_ := zRNm.fr hsN62_ c51_ (by decide) (by decide)
                  have c66_ : zTab T N62_ := zTab.fr hsN62_ c53_ (by decide) (by decide)
                  have c67_ : zB 85 144 0 5 N62_ := zB.fr hsN62_ c54_ (by decide) (by decide)
                  have c68_ : zJX T N62_ := zJX.fr hsN62_ c55_ (by decide) (by decide)
                  have c69_ : zFirs T N62_ := zFirs.fr hsN62_ c56_ (by decide) (by decide)
                  have c70_ : zSSm T N62_ := zSSm.fr hsN62_ c57_ (by decide) (by decide)
                  have c71_ : zGD N62_ := zGD.fr hsN62_ c58_ (by decide) (by decide)
                  have c72_ : zRmk (gF T).length (gmkI T) N62_ := zRmk.fr hsN62_ c59_ (by decide) (by decide)
                  have c73_ : zRb b_ n_ N62_ := zRb.fr hsN62_ c60_ (by decide) (by decide)
                  have c74_ : zRt b_ n_ N62_ := zRt.fr hsN62_ c61_ (by decide) (by decide)
                  show zW l m_M_makes (zn Mz + 0, zw Mz + 0) N62_ 65 [some (.ref 81), none] [] _
                  refine zw_iconst (pc := 65) (v := Int32.ofInt 0) (by decide) (zdal_p dlD_M_makes_107 (i := 8) rfl) ?_
                  refine zw_istore_n (pc := 66) (i := 1) (L2 := [some (.ref 81), some (.int (Int32.ofInt 0))]) rfl (by decide) rfl (zdal_p dlD_M_makes_107 (i := 9) rfl) ?_
                  have lp_67 : ∀ (n : Nat) (u75_ : Int) (hu75_a : -2147483648 ≤ u75_) (hu75_b : u75_ < 2147483648) (N76_ : zMem) (hs77_ : zFr [] [98] N62_ N76_) (i78_ : 0 ≤ u75_) (i79_ : u75_ ≤ ((gF T).length : Int)) (i80_ : ∀ i : Nat, (i : Int) < u75_ → zg N76_ 98 i = ww_ i), (((gF T).length : Int) - u75_).toNat < n → zW l m_M_makes (zn Mz + 0, zw Mz + 0) N76_ 67 [some (.ref 81), some (.int (Int32.ofInt u75_))] [] (zpI [1, 2, 3, 4, 5, 6, 7, 8, 9, 10, 11, 38, 39, 41, 42, 43, 60] [95, 96, 97, 98, 100, 111] Mz (fun v N => ze N 81 1 = 0 ∧ (((v = -1 ∧ (¬ ∃ w_ : Nat → Int, zMkR b_ n_ (gF T).length (gmkI T) nm_ w_) ∧ zSR (gF T).length s_ N) ∨ ∃ w_ : Nat → Int, zMkR b_ n_ (gF T).length (gmkI T) nm_ w_ ∧ zfit (gF T).length (gmkI T) w_ ∧ v = ((znzc w_ (gF T).length : Nat) : Int) ∧ zSR (gF T).length (zpush s_ w_) N)))) := by
                    intro n
                    induction n with
                    | zero =>
                      intro u75_ hu75_a hu75_b N76_ hs77_ i78_ i79_ i80_ h0
                      exact absurd h0 (Nat.not_lt_zero _)
                    | succ n ih_67 =>
                      intro u75_ hu75_a hu75_b N76_ hs77_ i78_ i79_ i80_ hlt_67
                      have hf_N76_ : zFr [1, 2, 3, 4, 5, 6, 7, 8, 9, 10, 11, 38, 39, 41, 42, 43, 60] [95, 96, 97, 98, 100, 111] Mz N76_ := hf_N62_.tr hs77_ (by decide) (by decide)
                      have e1_N76_ : ze N76_ 81 1 = ze N62_ 81 1 := hs77_.e (by decide)
                      have e3_N76_ : ze N76_ 81 3 = ze N62_ 81 3 := hs77_.e (by decide)
                      have e4_N76_ : ze N76_ 81 4 = ze N62_ 81 4 := hs77_.e (by decide)
                      have e5_N76_ : ze N76_ 81 5 = ze N62_ 81 5 := hs77_.e (by decide)
                      have e7_N76_ : ze N76_ 81 7 = ze N62_ 81 7 := hs77_.e (by decide)
                      have e14_N76_ : ze N76_ 81 14 = ze N62_ 81 14 := hs77_.e (by decide)
                      have e26_N76_ : ze N76_ 81 26 = ze N62_ 81 26 := hs77_.e (by decide)
                      have e38_N76_ : ze N76_ 81 38 = ze N62_ 81 38 := hs77_.e (by decide)
                      have e39_N76_ : ze N76_ 81 39 = ze N62_ 81 39 := hs77_.e (by decide)
                      have e41_N76_ : ze N76_ 81 41 = ze N62_ 81 41 := hs77_.e (by decide)
                      have e42_N76_ : ze N76_ 81 42 = ze N62_ 81 42 := hs77_.e (by decide)
                      have e43_N76_ : ze N76_ 81 43 = ze N62_ 81 43 := hs77_.e (by decide)
                      have e60_N76_ : ze N76_ 81 60 = ze N62_ 81 60 := hs77_.e (by decide)
                      have qzr95_N76_ : zr95 N76_ = zr95 N62_ := zr95_f hs77_ (by decide)
                      have c81_ : zGB T N76_ := zGB.fr hs77_ c64_ (by decide) (by decide)
                      have c82_ : zRNm nm_ (gF T).length (gmkI T) b_ n_ N76_ := zRNm.fr hs77_ c65_ (by decide) (by decide)
                      have c83_ : zTab T N76_ := zTab.fr hs77_ c66_ (by decide) (by decide)
                      have c84_ : zB 85 144 0 5 N76_ := zB.fr hs77_ c67_ (by decide) (by decide)
                      have c85_ : zJX T N76_ := zJX.fr hs77_ c68_ (by decide) (by decide)
                      have c86_ : zFirs T N76_ := zFirs.fr hs77_ c69_ (by decide) (by decide)
                      have c87_ : zSSm T N76_ := zSSm.fr hs77_ c70_ (by decide) (by decide)
                      have c88_ : zGD N76_ := zGD.fr hs77_ c71_ (by decide) (by decide)
                      have c89_ : zRmk (gF T).length (gmkI T) N76_ := zRmk.fr hs77_ c72_ (by decide) (by decide)
                      have c90_ : zRb b_ n_ N76_ := zRb.fr hs77_ c73_ (by decide) (by decide)
                      have c91_ : zRt b_ n_ N76_ := zRt.fr hs77_ c74_ (by decide) (by decide)
                      have c92_ : zSA (gF T).length s_ N76_ := zSA.fr hs77_ hp0_N62_ (by decide) (by decide)
                      have hcw_ := (show ∀ i : Nat, (i : Int) < u75_ → zg N76_ 98 i = ww_ i by first | with_reducible assumption | assumption)
                      have h95_ : zr95 N76_ = zr95 N13_ := qzr95_N76_.trans (qzr95_N62_.trans qzr95_N48_)
                      refine zw_iload_n (pc := 67) (n := 1) (x := Int32.ofInt u75_) rfl (zdal_p dlD_M_makes_107 (i := 10) rfl) ?_
                      refine zw_aload_n (pc := 68) (n := 0) (x := 81) rfl (zdal_p dlD_M_makes_107 (i := 11) rfl) ?_
                      refine zr_getI0 hf_N76_ hW (pc := 69) (by decide) f_M_235 rfl (zdal_p dlD_M_makes_107 (i := 12) rfl) ?_
                      refine zr_icmp_ge (pc := 72) (tgt := 93) ⟨hu75_a, hu75_b⟩ ⟨(ze_r Mz 81 26).1, (ze_r Mz 81 26).2⟩ (by decide) (zdal_p dlD_M_makes_107 (i := 13) rfl) (fun hc_72 => ?_) (fun hc_72 => ?_)
                      · skip
                        refine zw_aload_n (pc := 93) (n := 0) (x := 81) rfl (zdal_p dlD_M_makes_108 (i := 0) rfl) ?_
                        refine zr_callV (hf_N76_.w hW) hf_N76_.x (pc := 94) [] [] l_M_484 (c_M_partsS l N76_ (hf_N76_.w hW) (gF T).length (gmkI T) (gT_zTA hTt) c89_) rfl rfl rfl (by decide) (Nat.le_of_ble_eq_true rfl) (zdal_p dlD_M_makes_108 (i := 1) rfl) ?_
                        rintro _ N93_ ⟨v94_, rfl, ⟨hv94_a, hv94_b⟩, hsN93_, hp0_N93_⟩
                        obtain rfl := hsN93_.eq.symm
                        replace hp0_N93_ : v94_ = ((znzc (zrw (gF T).length N76_ 98 0) (gF T).length : Nat) : Int) := hp0_N93_
                        show zW l m_M_makes (zn Mz + 0, zw Mz + 0) N76_ 97 [some (.ref 81), some (.int (Int32.ofInt u75_))] [.int (Int32.ofInt v94_)] _
                        have hv_ := hp0_N93_
                        have hcv_ : ∀ k_ : Nat, k_ < (gF T).length → zrw (gF T).length N76_ 98 0 k_ = ww_ k_ := fun k_ hk_ => by unfold zrw; rw [if_pos hk_, show (0 : Int).toNat + k_ = k_ by omega]; exact hcw_ k_ (by (exact zo_2697 hF27_ hc_72 hk_ hs26_ i78_))
                        have hw_ := hv_.trans (congrArg (fun n_ : Nat => (n_ : Int)) (znzc_c (gF T).length hcv_))
                        have hsr_ : zSR (gF T).length (zpush s_ ww_) N76_ := c92_.ps (fun k_ hk_ => hcw_ k_ (by (exact zo_2697 hF27_ hc_72 hk_ hs26_ i78_)))
                        exact zr_iret (pc := 97) (ty := .int) rfl rfl ⟨by (exact hv94_a), by (exact hv94_b)⟩ hf_N76_ ⟨(show ze N76_ 81 1 = 0 by first | with_reducible assumption | (exact zo_608 e1_N13_ e1_N48_ e1_N62_ e1_N76_ hp4_N1_) | assumption), (show ((v94_ = -1 ∧ (¬ ∃ w_ : Nat → Int, zMkR b_ n_ (gF T).length (gmkI T) nm_ w_) ∧ zSR (gF T).length s_ N76_) ∨ ∃ w_ : Nat → Int, zMkR b_ n_ (gF T).length (gmkI T) nm_ w_ ∧ zfit (gF T).length (gmkI T) w_ ∧ v94_ = ((znzc w_ (gF T).length : Nat) : Int) ∧ zSR (gF T).length (zpush s_ w_) N76_) by exact Or.inr ⟨ww_, hmk_, hfit_, hw_, hsr_⟩)⟩ (zdal_p dlD_M_makes_108 (i := 2) rfl)
                      · skip
                        refine zw_aload_n (pc := 75) (n := 0) (x := 81) rfl (zdal_p dlD_M_makes_107 (i := 14) rfl) ?_
                        refine zr_getF (r := 98) (hf_N76_.w hW) (pc := 76) f_M_66 rfl (zh_98 (hf_N76_.w hW)).1 (zdal_p dlD_M_makes_107 (i := 15) rfl) ?_
                        refine zw_iload_n (pc := 79) (n := 1) (x := Int32.ofInt u75_) rfl (zdal_p dlD_M_makes_107 (i := 16) rfl) ?_
                        refine zw_aload_n (pc := 80) (n := 0) (x := 81) rfl (zdal_p dlD_M_makes_107 (i := 17) rfl) ?_
                        refine zr_getF (r := 95) (hf_N76_.w hW) (pc := 81) f_M_56 rfl (zh_95 (hf_N76_.w hW)).1 (zdal_p dlD_M_makes_107 (i := 18) rfl) ?_
                        refine zw_iload_n (pc := 84) (n := 1) (x := Int32.ofInt u75_) rfl (zdal_p dlD_M_makes_107 (i := 19) rfl) ?_
                        refine zr_laldn (pc := 85) (zh_95 (hf_N76_.w hW)).2 (by decide) (by (exact i78_)) (by (exact zo_2698 hF27_ hu75_b i79_)) (zdal_p dlD_M_makes_107 (i := 20) rfl) (fun v95_ hv95_ hv95_a hv95_b => ?_)
                        have hx_ := zrw_at (F := (gF T).length) (M := N13_) (q := 95) (k := (u75_).toNat) (e := 0) (by (exact zo_2387 hc_72 hs26_ hu75_b i78_ i79_)) (by (decide)) (hv95_.trans (congrFun h95_ _)) (by (exact zo_2699))
                        rw [← hww_] at hx_
                        refine zr_last (pc := 86) (zh_98 (hf_N76_.w hW)).2 (by decide) (by decide) (by (exact i78_)) (by (exact zo_70 hF27_ hu75_b i79_)) (zdal_p dlD_M_makes_107 (i := 21) rfl) (fun N96_ hN96_ hsN96_ => ?_)
                        have hf_N96_ : zFr [1, 2, 3, 4, 5, 6, 7, 8, 9, 10, 11, 38, 39, 41, 42, 43, 60] [95, 96, 97, 98, 100, 111] Mz N96_ := hf_N76_.tr hsN96_ (by decide) (by decide)
                        have hb0_N96_ : zFr [] [98] N62_ N96_ := hs77_.tr hsN96_ (by decide) (by decide)
                        have e1_N96_ : ze N96_ 81 1 = ze N76_ 81 1 := hsN96_.e (by decide)
                        have e3_N96_ : ze N96_ 81 3 = ze N76_ 81 3 := hsN96_.e (by decide)
                        have e4_N96_ : ze N96_ 81 4 = ze N76_ 81 4 := hsN96_.e (by decide)
                        have e5_N96_ : ze N96_ 81 5 = ze N76_ 81 5 := hsN96_.e (by decide)
                        have e7_N96_ : ze N96_ 81 7 = ze N76_ 81 7 := hsN96_.e (by decide)
                        have e14_N96_ : ze N96_ 81 14 = ze N76_ 81 14 := hsN96_.e (by decide)
                        have e26_N96_ : ze N96_ 81 26 = ze N76_ 81 26 := hsN96_.e (by decide)
                        have e38_N96_ : ze N96_ 81 38 = ze N76_ 81 38 := hsN96_.e (by decide)
                        have e39_N96_ : ze N96_ 81 39 = ze N76_ 81 39 := hsN96_.e (by decide)
                        have e41_N96_ : ze N96_ 81 41 = ze N76_ 81 41 := hsN96_.e (by decide)
                        have e42_N96_ : ze N96_ 81 42 = ze N76_ 81 42 := hsN96_.e (by decide)
                        have e43_N96_ : ze N96_ 81 43 = ze N76_ 81 43 := hsN96_.e (by decide)
                        have e60_N96_ : ze N96_ 81 60 = ze N76_ 81 60 := hsN96_.e (by decide)
                        have qzr95_N96_ : zr95 N96_ = zr95 N76_ := zr95_f hsN96_ (by decide)
                        have c97_ : zGB T N96_ := zGB.fr hsN96_ c81_ (by decide) (by decide)
                        have c98_ : zRNm nm_ (gF T).length (gmkI T) b_ n_ N96_ := zRNm.fr hsN96_ c82_ (by decide) (by decide)
                        have c99_ : zTab T N96_ := zTab.fr hsN96_ c83_ (by decide) (by decide)
                        have c100_ : zB 85 144 0 5 N96_ := zB.fr hsN96_ c84_ (by decide) (by decide)
                        have c101_ : zJX T N96_ := zJX.fr hsN96_ c85_ (by decide) (by decide)
                        have c102_ : zFirs T N96_ := zFirs.fr hsN96_ c86_ (by decide) (by decide)
                        have c103_ : zSSm T N96_ := zSSm.fr hsN96_ c87_ (by decide) (by decide)
                        have c104_ : zGD N96_ := zGD.fr hsN96_ c88_ (by decide) (by decide)
                        have c105_ : zRmk (gF T).length (gmkI T) N96_ := zRmk.fr hsN96_ c89_ (by decide) (by decide)
                        have c106_ : zRb b_ n_ N96_ := zRb.fr hsN96_ c90_ (by decide) (by decide)
                        have c107_ : zRt b_ n_ N96_ := zRt.fr hsN96_ c91_ (by decide) (by decide)
                        have c108_ : zSA (gF T).length s_ N96_ := zSA.fr hsN96_ c92_ (by decide) (by decide)
                        have hcn_ : ∀ i : Nat, (i : Int) < u75_ + 1 → zg N96_ 98 i = ww_ i := fun i_ hi_ => by by_cases g_ : (i_ : Int) = u75_; (rw [show i_ = (u75_).toNat by (exact zo_128 g_ hF27_ hi_ hu75_b i78_ i79_), zs_getJ hN96_ ⟨by (exact hv95_a), by (exact hv95_b)⟩]; exact hx_); (rw [zs_othJ hN96_ (by (exact zo_148 i78_ g_))]; exact hcw_ i_ (by (exact zo_130 hi_ g_)))
                        refine zr_iinc (pc := 87) (i := 1) (a := u75_) (n := 1) (L2 := [some (.ref 81), some (.int (Int32.ofInt (u75_ + 1)))]) rfl (by decide) rfl (zdal_p dlD_M_makes_107 (i := 22) rfl) ?_
                        refine zw_goto (pc := 90) (tgt := 67) (by decide) (zdal_p dlD_M_makes_107 (i := 23) rfl) ?_
                        exact ih_67 (u75_ + 1) (by (exact zo_74 i78_)) (by (exact zo_75 hF27_ hu75_b i79_)) N96_ hb0_N96_ (show 0 ≤ (u75_ + 1) by first | with_reducible assumption | (exact zo_76 i78_) | assumption) (show (u75_ + 1) ≤ ((gF T).length : Int) by first | with_reducible assumption | (exact zo_1122 hc_72 hs26_ hu75_b i79_) | assumption) (show ∀ i : Nat, (i : Int) < (u75_ + 1) → zg N96_ 98 i = ww_ i by exact hcn_) (by (exact zo_1124 hc_72 hlt_67 hs26_ hu75_b i79_))
                  exact lp_67 _ 0 (by decide) (by decide) N62_ zFr.rf (show 0 ≤ (0 : Int) by first | with_reducible assumption | (decide) | assumption) (show (0 : Int) ≤ ((gF T).length : Int) by first | with_reducible assumption | (exact zo_85) | assumption) (show ∀ i : Nat, (i : Int) < (0 : Int) → zg N62_ 98 i = ww_ i by intro i_ hi_; omega) (Nat.lt_succ_self _)
                · skip
                  exfalso; (exact zo_2694 e7_N48_ ha5_0_hp1_N13_ hc_56)
              · skip
                have hno_ : (¬ ∃ w_ : Nat → Int, zMkR b_ n_ (gF T).length (gmkI T) nm_ w_) := by rintro ⟨w_, q_, un_, e_, z_⟩; rw [hmt_, zRst_g (by (exact hc_38))] at e_; have e5_ : true = false := congrArg (fun x_ : zFst => x_.2.2.2.2.2) e_; cases e5_
                refine zw_aload_n (pc := 41) (n := 0) (x := 81) rfl (zdal_p dlD_M_makes_106 (i := 19) rfl) ?_
                refine zw_bipush (pc := 42) (v := Int32.ofInt 6) (by decide) (zdal_p dlD_M_makes_106 (i := 20) rfl) ?_
                refine zw_iconst (pc := 44) (v := Int32.ofInt 0) (by decide) (zdal_p dlD_M_makes_106 (i := 21) rfl) ?_
                refine zr_callV (hf_N13_.w hW) hf_N13_.x (pc := 45) [.int (Int32.ofInt 6), .int (Int32.ofInt 0)] [] l_M_168 (c_M_wrongAtF l N13_ (hf_N13_.w hW) 6 (by decide) (by decide) 0 (by decide) (by decide) (show 1 ≤ 6 by first | with_reducible assumption | (decide) | assumption)) rfl rfl rfl (by decide) (Nat.le_of_ble_eq_true rfl) (zdal_p dlD_M_makes_106 (i := 22) rfl) ?_
                rintro _ N109_ ⟨rfl, hsN109_, hp0_N109_⟩
                replace hp0_N109_ : 1 ≤ ze N109_ 81 7 := hp0_N109_
                have hf_N109_ : zFr [1, 2, 3, 4, 5, 6, 7, 8, 9, 10, 11, 38, 39, 41, 42, 43, 60] [95, 96, 97, 98, 100, 111] Mz N109_ := hf_N13_.tr hsN109_ (by decide) (by decide)
                have e1_N109_ : ze N109_ 81 1 = ze N13_ 81 1 := hsN109_.e (by decide)
                have e3_N109_ : ze N109_ 81 3 = ze N13_ 81 3 := hsN109_.e (by decide)
                have e4_N109_ : ze N109_ 81 4 = ze N13_ 81 4 := hsN109_.e (by decide)
                have e5_N109_ : ze N109_ 81 5 = ze N13_ 81 5 := hsN109_.e (by decide)
                have r7_N109_ := ze_r N109_ 81 7
                have e14_N109_ : ze N109_ 81 14 = ze N13_ 81 14 := hsN109_.e (by decide)
                have e26_N109_ : ze N109_ 81 26 = ze N13_ 81 26 := hsN109_.e (by decide)
                have e38_N109_ : ze N109_ 81 38 = ze N13_ 81 38 := hsN109_.e (by decide)
                have e39_N109_ : ze N109_ 81 39 = ze N13_ 81 39 := hsN109_.e (by decide)
                have e41_N109_ : ze N109_ 81 41 = ze N13_ 81 41 := hsN109_.e (by decide)
                have e42_N109_ : ze N109_ 81 42 = ze N13_ 81 42 := hsN109_.e (by decide)
                have e43_N109_ : ze N109_ 81 43 = ze N13_ 81 43 := hsN109_.e (by decide)
                have e60_N109_ : ze N109_ 81 60 = ze N13_ 81 60 := hsN109_.e (by decide)
                have qzr95_N109_ : zr95 N109_ = zr95 N13_ := zr95_f hsN109_ (by decide)
                have c111_ : zGB T N109_ := zGB.fr hsN109_ c15_ (by decide) (by decide)
                have c112_ : zRNm nm_ (gF T).length (gmkI T) b_ n_ N109_ := zRNm.fr hsN109_ c16_ (by decide) (by decide)
                have c113_ : zSR (gF T).length s_ N109_ := zSR.fr hsN109_ c17_ (by decide) (by decide)
                have c114_ : zTab T N109_ := zTab.fr hsN109_ c18_ (by decide) (by decide)
                have c115_ : zB 85 144 0 5 N109_ := zB.fr hsN109_ c19_ (by decide) (by decide)
                have c116_ : zJX T N109_ := zJX.fr hsN109_ c20_ (by decide) (by decide)
                have c117_ : zFirs T N109_ := zFirs.fr hsN109_ c21_ (by decide) (by decide)
                have c118_ : zSSm T N109_ := zSSm.fr hsN109_ c22_ (by decide) (by decide)
                have c119_ : zGD N109_ := zGD.fr hsN109_ c23_ (by decide) (by decide)
                have c120_ : zRmk (gF T).length (gmkI T) N109_ := zRmk.fr hsN109_ c24_ (by decide) (by decide)
                have c121_ : zRb b_ n_ N109_ := zRb.fr hsN109_ c25_ (by decide) (by decide)
                have c122_ : zRt b_ n_ N109_ := zRt.fr hsN109_ hp0_N13_ (by decide) (by decide)
                show zW l m_M_makes (zn Mz + 0, zw Mz + 0) N109_ 48 [some (.ref 81), none] [] _
                refine zw_aload_n (pc := 48) (n := 0) (x := 81) rfl (zdal_p dlD_M_makes_106 (i := 23) rfl) ?_
                refine zr_callV (hf_N109_.w hW) hf_N109_.x (pc := 49) [] [] l_M_373 (c_M_tells l N109_ (hf_N109_.w hW) ) rfl rfl rfl (by decide) (Nat.le_of_ble_eq_true rfl) (zdal_p dlD_M_makes_107 (i := 0) rfl) ?_
                rintro _ N123_ ⟨rfl, hsN123_, -⟩
                have hf_N123_ : zFr [1, 2, 3, 4, 5, 6, 7, 8, 9, 10, 11, 38, 39, 41, 42, 43, 60] [95, 96, 97, 98, 100, 111] Mz N123_ := hf_N109_.tr hsN123_ (by decide) (by decide)
                have e1_N123_ : ze N123_ 81 1 = ze N109_ 81 1 := hsN123_.e (by decide)
                have e3_N123_ : ze N123_ 81 3 = ze N109_ 81 3 := hsN123_.e (by decide)
                have e4_N123_ : ze N123_ 81 4 = ze N109_ 81 4 := hsN123_.e (by decide)
                have e5_N123_ : ze N123_ 81 5 = ze N109_ 81 5 := hsN123_.e (by decide)
                have e7_N123_ : ze N123_ 81 7 = ze N109_ 81 7 := hsN123_.e (by decide)
                have e14_N123_ : ze N123_ 81 14 = ze N109_ 81 14 := hsN123_.e (by decide)
                have e26_N123_ : ze N123_ 81 26 = ze N109_ 81 26 := hsN123_.e (by decide)
                have e38_N123_ : ze N123_ 81 38 = ze N109_ 81 38 := hsN123_.e (by decide)
                have e39_N123_ : ze N123_ 81 39 = ze N109_ 81 39 := hsN123_.e (by decide)
                have e41_N123_ : ze N123_ 81 41 = ze N109_ 81 41 := hsN123_.e (by decide)
                have e42_N123_ : ze N123_ 81 42 = ze N109_ 81 42 := hsN123_.e (by decide)
                have e43_N123_ : ze N123_ 81 43 = ze N109_ 81 43 := hsN123_.e (by decide)
                have e60_N123_ : ze N123_ 81 60 = ze N109_ 81 60 := hsN123_.e (by decide)
                have qzr95_N123_ : zr95 N123_ = zr95 N109_ := zr95_f hsN123_ (by decide)
                have c125_ : zGB T N123_ := zGB.fr hsN123_ c111_ (by decide) (by decide)
                have c126_ : zRNm nm_ (gF T).length (gmkI T) b_ n_ N123_ := zRNm.fr hsN123_ c112_ (by decide) (by decide)
                have c127_ : zSR (gF T).length s_ N123_ := zSR.fr hsN123_ c113_ (by decide) (by decide)
                have c128_ : zTab T N123_ := zTab.fr hsN123_ c114_ (by decide) (by decide)
                have c129_ : zB 85 144 0 5 N123_ := zB.fr hsN123_ c115_ (by decide) (by decide)
                have c130_ : zJX T N123_ := zJX.fr hsN123_ c116_ (by decide) (by decide)
                have c131_ : zFirs T N123_ := zFirs.fr hsN123_ c117_ (by decide) (by decide)
                have c132_ : zSSm T N123_ := zSSm.fr hsN123_ c118_ (by decide) (by decide)
                have c133_ : zGD N123_ := zGD.fr hsN123_ c119_ (by decide) (by decide)
                have c134_ : zRmk (gF T).length (gmkI T) N123_ := zRmk.fr hsN123_ c120_ (by decide) (by decide)
                have c135_ : zRb b_ n_ N123_ := zRb.fr hsN123_ c121_ (by decide) (by decide)
                have c136_ : zRt b_ n_ N123_ := zRt.fr hsN123_ c122_ (by decide) (by decide)
                show zW l m_M_makes (zn Mz + 0, zw Mz + 0) N123_ 52 [some (.ref 81), none] [] _
                refine zw_aload_n (pc := 52) (n := 0) (x := 81) rfl (zdal_p dlD_M_makes_107 (i := 1) rfl) ?_
                refine zr_getI (hf_N123_.w hW) (pc := 53) f_M_172 rfl (zdal_p dlD_M_makes_107 (i := 2) rfl) ?_
                refine zr_if_le (pc := 56) (tgt := 61) ⟨(ze_r N123_ 81 7).1, (ze_r N123_ 81 7).2⟩ (by decide) (zdal_p dlD_M_makes_107 (i := 3) rfl) (fun hc_56 => ?_) (fun hc_56 => ?_)
                · skip
                  exfalso; (exact zo_2700 e7_N123_ hc_56 hp0_N109_)
                · skip
                  refine zw_iconst (pc := 59) (v := Int32.ofInt (-1)) (by decide) (zdal_p dlD_M_makes_107 (i := 4) rfl) ?_
                  exact zr_iret (pc := 60) (ty := .int) rfl rfl ⟨by (decide), by (decide)⟩ hf_N123_ ⟨(show ze N123_ 81 1 = 0 by first | with_reducible assumption | (exact zo_2607 e1_N109_ e1_N123_ e1_N13_ hp4_N1_) | assumption), (show ((((-1)) = -1 ∧ (¬ ∃ w_ : Nat → Int, zMkR b_ n_ (gF T).length (gmkI T) nm_ w_) ∧ zSR (gF T).length s_ N123_) ∨ ∃ w_ : Nat → Int, zMkR b_ n_ (gF T).length (gmkI T) nm_ w_ ∧ zfit (gF T).length (gmkI T) w_ ∧ ((-1)) = ((znzc w_ (gF T).length : Nat) : Int) ∧ zSR (gF T).length (zpush s_ w_) N123_) by exact Or.inl ⟨rfl, hno_, c127_⟩)⟩ (zdal_p dlD_M_makes_107 (i := 5) rfl)
          · skip
            exfalso; (exact zo_260 ha5_0_hp1_N13_ ha28_0_hp0_N46_)
        · skip
          have hno_ : (¬ ∃ w_ : Nat → Int, zMkR b_ n_ (gF T).length (gmkI T) nm_ w_) := by rintro ⟨w_, q_, un_, e_, z_⟩; rw [hmt_] at e_; have e4_ : (ze N13_ 81 4).toNat = q_ := congrArg (fun x_ : zFst => x_.2.1) e_; rw [← e4_] at z_; (exact zo_2704 hrt_ r5_N13_.1 r5_N13_.2 z_ hc_19)
          refine zw_aload_n (pc := 22) (n := 0) (x := 81) rfl (zdal_p dlD_M_makes_106 (i := 10) rfl) ?_
          refine zw_iconst (pc := 23) (v := Int32.ofInt 2) (by decide) (zdal_p dlD_M_makes_106 (i := 11) rfl) ?_
          refine zr_callV (hf_N13_.w hW) hf_N13_.x (pc := 24) [.int (Int32.ofInt 2)] [] l_M_190 (c_M_wrongF l N13_ (hf_N13_.w hW) 2 (by decide) (by decide) (show 1 ≤ 2 by first | with_reducible assumption | (decide) | assumption)) rfl rfl rfl (by decide) (Nat.le_of_ble_eq_true rfl) (zdal_p dlD_M_makes_106 (i := 12) rfl) ?_
          rintro _ N137_ ⟨rfl, hsN137_, hp0_N137_⟩
          replace hp0_N137_ : 1 ≤ ze N137_ 81 7 := hp0_N137_
          have hf_N137_ : zFr [1, 2, 3, 4, 5, 6, 7, 8, 9, 10, 11, 38, 39, 41, 42, 43, 60] [95, 96, 97, 98, 100, 111] Mz N137_ := hf_N13_.tr hsN137_ (by decide) (by decide)
          have e1_N137_ : ze N137_ 81 1 = ze N13_ 81 1 := hsN137_.e (by decide)
          have e3_N137_ : ze N137_ 81 3 = ze N13_ 81 3 := hsN137_.e (by decide)
          have e4_N137_ : ze N137_ 81 4 = ze N13_ 81 4 := hsN137_.e (by decide)
          have e5_N137_ : ze N137_ 81 5 = ze N13_ 81 5 := hsN137_.e (by decide)
          have r7_N137_ := ze_r N137_ 81 7
          have e14_N137_ : ze N137_ 81 14 = ze N13_ 81 14 := hsN137_.e (by decide)
          have e26_N137_ : ze N137_ 81 26 = ze N13_ 81 26 := hsN137_.e (by decide)
          have e38_N137_ : ze N137_ 81 38 = ze N13_ 81 38 := hsN137_.e (by decide)
          have e39_N137_ : ze N137_ 81 39 = ze N13_ 81 39 := hsN137_.e (by decide)
          have e41_N137_ : ze N137_ 81 41 = ze N13_ 81 41 := hsN137_.e (by decide)
          have e42_N137_ : ze N137_ 81 42 = ze N13_ 81 42 := hsN137_.e (by decide)
          have e43_N137_ : ze N137_ 81 43 = ze N13_ 81 43 := hsN137_.e (by decide)
          have e60_N137_ : ze N137_ 81 60 = ze N13_ 81 60 := hsN137_.e (by decide)
          have qzr95_N137_ : zr95 N137_ = zr95 N13_ := zr95_f hsN137_ (by decide)
          have c139_ : zGB T N137_ := zGB.fr hsN137_ c15_ (by decide) (by decide)
          have c140_ : zRNm nm_ (gF T).length (gmkI T) b_ n_ N137_ := zRNm.fr hsN137_ c16_ (by decide) (by decide)
          have c141_ : zSR (gF T).length s_ N137_ := zSR.fr hsN137_ c17_ (by decide) (by decide)
          have c142_ : zTab T N137_ := zTab.fr hsN137_ c18_ (by decide) (by decide)
          have c143_ : zB 85 144 0 5 N137_ := zB.fr hsN137_ c19_ (by decide) (by decide)
          have c144_ : zJX T N137_ := zJX.fr hsN137_ c20_ (by decide) (by decide)
          have c145_ : zFirs T N137_ := zFirs.fr hsN137_ c21_ (by decide) (by decide)
          have c146_ : zSSm T N137_ := zSSm.fr hsN137_ c22_ (by decide) (by decide)
          have c147_ : zGD N137_ := zGD.fr hsN137_ c23_ (by decide) (by decide)
          have c148_ : zRmk (gF T).length (gmkI T) N137_ := zRmk.fr hsN137_ c24_ (by decide) (by decide)
          have c149_ : zRb b_ n_ N137_ := zRb.fr hsN137_ c25_ (by decide) (by decide)
          have c150_ : zRt b_ n_ N137_ := zRt.fr hsN137_ hp0_N13_ (by decide) (by decide)
          show zW l m_M_makes (zn Mz + 0, zw Mz + 0) N137_ 27 [some (.ref 81), none] [] _
          refine zw_aload_n (pc := 27) (n := 0) (x := 81) rfl (zdal_p dlD_M_makes_106 (i := 13) rfl) ?_
          refine zr_callV (hf_N137_.w hW) hf_N137_.x (pc := 28) [] [] l_M_183 (c_M_isGood l N137_ (hf_N137_.w hW) ) rfl rfl rfl (by decide) (Nat.le_of_ble_eq_true rfl) (zdal_p dlD_M_makes_106 (i := 14) rfl) ?_
          rintro _ N151_ ⟨v152_, rfl, ⟨hv152_a, hv152_b⟩, hsN151_, hp0_N151_⟩
          obtain rfl := hsN151_.eq.symm
          replace hp0_N151_ : ((v152_ = 1 ∧ ze N137_ 81 7 = 0) ∨ (v152_ = 0 ∧ ze N137_ 81 7 ≠ 0)) := hp0_N151_
          rcases hp0_N151_ with ⟨rfl, ha28_0_hp0_N151_⟩ | ⟨rfl, ha28_0_hp0_N151_⟩
          · skip
            exfalso; (exact zo_281 ha28_0_hp0_N151_ hp0_N137_)
          · skip
            show zW l m_M_makes (zn Mz + 0, zw Mz + 0) N137_ 31 [some (.ref 81), none] [.int (Int32.ofInt 0)] _
            refine zr_if_eq (pc := 31) (tgt := 48) ⟨(by decide), (by decide)⟩ (by decide) (zdal_p dlD_M_makes_106 (i := 15) rfl) (fun hc_31 => ?_) (fun hc_31 => ?_)
            · skip
              refine zw_aload_n (pc := 48) (n := 0) (x := 81) rfl (zdal_p dlD_M_makes_106 (i := 23) rfl) ?_
              refine zr_callV (hf_N137_.w hW) hf_N137_.x (pc := 49) [] [] l_M_373 (c_M_tells l N137_ (hf_N137_.w hW) ) rfl rfl rfl (by decide) (Nat.le_of_ble_eq_true rfl) (zdal_p dlD_M_makes_107 (i := 0) rfl) ?_
              rintro _ N153_ ⟨rfl, hsN153_, -⟩
              have hf_N153_ : zFr [1, 2, 3, 4, 5, 6, 7, 8, 9, 10, 11, 38, 39, 41, 42, 43, 60] [95, 96, 97, 98, 100, 111] Mz N153_ := hf_N137_.tr hsN153_ (by decide) (by decide)
              have e1_N153_ : ze N153_ 81 1 = ze N137_ 81 1 := hsN153_.e (by decide)
              have e3_N153_ : ze N153_ 81 3 = ze N137_ 81 3 := hsN153_.e (by decide)
              have e4_N153_ : ze N153_ 81 4 = ze N137_ 81 4 := hsN153_.e (by decide)
              have e5_N153_ : ze N153_ 81 5 = ze N137_ 81 5 := hsN153_.e (by decide)
              have e7_N153_ : ze N153_ 81 7 = ze N137_ 81 7 := hsN153_.e (by decide)
              have e14_N153_ : ze N153_ 81 14 = ze N137_ 81 14 := hsN153_.e (by decide)
              have e26_N153_ : ze N153_ 81 26 = ze N137_ 81 26 := hsN153_.e (by decide)
              have e38_N153_ : ze N153_ 81 38 = ze N137_ 81 38 := hsN153_.e (by decide)
              have e39_N153_ : ze N153_ 81 39 = ze N137_ 81 39 := hsN153_.e (by decide)
              have e41_N153_ : ze N153_ 81 41 = ze N137_ 81 41 := hsN153_.e (by decide)
              have e42_N153_ : ze N153_ 81 42 = ze N137_ 81 42 := hsN153_.e (by decide)
              have e43_N153_ : ze N153_ 81 43 = ze N137_ 81 43 := hsN153_.e (by decide)
              have e60_N153_ : ze N153_ 81 60 = ze N137_ 81 60 := hsN153_.e (by decide)
              have qzr95_N153_ : zr95 N153_ = zr95 N137_ := zr95_f hsN153_ (by decide)
              have c155_ : zGB T N153_ := zGB.fr hsN153_ c139_ (by decide) (by decide)
              have c156_ : zRNm nm_ (gF T).length (gmkI T) b_ n_ N153_ := zRNm.fr hsN153_ c140_ (by decide) (by decide)
              have c157_ : zSR (gF T).length s_ N153_ := zSR.fr hsN153_ c141_ (by decide) (by decide)
              have c158_ : zTab T N153_ := zTab.fr hsN153_ c142_ (by decide) (by decide)
              have c159_ : zB 85 144 0 5 N153_ := zB.fr hsN153_ c143_ (by decide) (by decide)
              have c160_ : zJX T N153_ := zJX.fr hsN153_ c144_ (by decide) (by decide)
              have c161_ : zFirs T N153_ := zFirs.fr hsN153_ c145_ (by decide) (by decide)
              have c162_ : zSSm T N153_ := zSSm.fr hsN153_ c146_ (by decide) (by decide)
              have c163_ : zGD N153_ := zGD.fr hsN153_ c147_ (by decide) (by decide)
              have c164_ : zRmk (gF T).length (gmkI T) N153_ := zRmk.fr hsN153_ c148_ (by decide) (by decide)
              have c165_ : zRb b_ n_ N153_ := zRb.fr hsN153_ c149_ (by decide) (by decide)
              have c166_ : zRt b_ n_ N153_ := zRt.fr hsN153_ c150_ (by decide) (by decide)
              show zW l m_M_makes (zn Mz + 0, zw Mz + 0) N153_ 52 [some (.ref 81), none] [] _
              refine zw_aload_n (pc := 52) (n := 0) (x := 81) rfl (zdal_p dlD_M_makes_107 (i := 1) rfl) ?_
              refine zr_getI (hf_N153_.w hW) (pc := 53) f_M_172 rfl (zdal_p dlD_M_makes_107 (i := 2) rfl) ?_
              refine zr_if_le (pc := 56) (tgt := 61) ⟨(ze_r N153_ 81 7).1, (ze_r N153_ 81 7).2⟩ (by decide) (zdal_p dlD_M_makes_107 (i := 3) rfl) (fun hc_56 => ?_) (fun hc_56 => ?_)
              · skip
                exfalso; (exact zo_2700 e7_N153_ hc_56 hp0_N137_)
              · skip
                refine zw_iconst (pc := 59) (v := Int32.ofInt (-1)) (by decide) (zdal_p dlD_M_makes_107 (i := 4) rfl) ?_
                exact zr_iret (pc := 60) (ty := .int) rfl rfl ⟨by (decide), by (decide)⟩ hf_N153_ ⟨(show ze N153_ 81 1 = 0 by first | with_reducible assumption | (exact zo_2705 e1_N137_ e1_N13_ e1_N153_ hp4_N1_) | assumption), (show ((((-1)) = -1 ∧ (¬ ∃ w_ : Nat → Int, zMkR b_ n_ (gF T).length (gmkI T) nm_ w_) ∧ zSR (gF T).length s_ N153_) ∨ ∃ w_ : Nat → Int, zMkR b_ n_ (gF T).length (gmkI T) nm_ w_ ∧ zfit (gF T).length (gmkI T) w_ ∧ ((-1)) = ((znzc w_ (gF T).length : Nat) : Int) ∧ zSR (gF T).length (zpush s_ w_) N153_) by exact Or.inl ⟨rfl, hno_, c157_⟩)⟩ (zdal_p dlD_M_makes_107 (i := 5) rfl)
            · skip
              exact absurd hc_31 (by decide)
    · skip
      exfalso; (exact zo_260 ha5_0_hp1_N13_ ha9_0_hp0_N44_)
