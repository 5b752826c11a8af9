set_option maxHeartbeats 4000000 in
theorem c_M_takeT (l : Launch) (Mz : zMem) (hW : zMt Mz) (a0_ : Int) (ha0_a : -2147483648 ≤ a0_) (ha0_b : a0_ < 2147483648) (a1_ : Int) (ha1_a : -2147483648 ≤ a1_) (ha1_b : a1_ < 2147483648) (T : zGT) (hO : gOK T) (hTt : T ∈ gTabs) (P_ : Nat) (mv_ : List Nat) (s_ : zSg) (p0_ : zGB T Mz) (p1_ : zCdR (P_ : Int) mv_ T Mz) (p2_ : ze Mz 81 16 = (P_ : Int)) (p3_ : 1 ≤ P_) (p4_ : P_ ≤ 6) (p5_ : zSR (gF T).length s_ Mz) (p6_ : (∀ j : Nat, j < (gF T).length → zPt (zrch (gN T) (fun i_ => zrc Mz 85 i_ (P_ : Int)) (gFn T j)) P_)) : zC l m_M_take 0 0 [.ref 81, .int (Int32.ofInt a0_), .int (Int32.ofInt a1_)] Mz (zpI [60, 63] [96, 98, 111, 112, 113] Mz (fun v N => ((((a0_ = 0 ∨ ((a0_ = 1 ∨ a0_ = 2) ∧ 0 ≤ a1_ ∧ a1_ ≤ 6)) ∧ ∃ c_ : Nat → Nat, gTb mv_ c_ T ∧ zSR (gF T).length (zpush s_ (zsq (gF T).length (gmkI T) (fun j_ => tkv (zrr P_ T c_ (gFn T j_)) a0_ a1_))) N ∧ v = tkv (zrr P_ T c_ (gFn T 0)) a0_ a1_) ∨ (¬ (a0_ = 0 ∨ ((a0_ = 1 ∨ a0_ = 2) ∧ 0 ≤ a1_ ∧ a1_ ≤ 6)) ∧ zSR (gF T).length s_ N ∧ v = (-1 : Int)))))) := by
  refine zC_of (L0 := [some (.ref 81), some (.int (Int32.ofInt a0_)), some (.int (Int32.ofInt a1_)), none]) md_M_take (Nat.le_of_ble_eq_true rfl) rfl ?_ zQ0
  have hf : zFr [60, 63] [96, 98, 111, 112, 113] Mz Mz := zFr.rf
  have r_16 := ze_r Mz 81 16
  have r_26 := ze_r Mz 81 26
  have r_63 := ze_r Mz 81 63
  have hG := hO.1
  have g24 := hG.2.1
  have g1 := hG.1
  have dv0 : zTab T Mz := p0_.1
  have dv1 : zB 85 144 0 5 Mz := p0_.2.1
  have dv2 : zJX T Mz := p0_.2.2.1
  have dv3 : zFirs T Mz := p0_.2.2.2.1
  have dv4 : zSSm T Mz := p0_.2.2.2.2.1
  have dv5 : zGD Mz := zGB.d hO p0_
  have dv6 : zRmk (gF T).length (gmkI T) Mz := p0_.rm
  have gb := dv5.1
  have gn := dv0.1
  have hsz_ := dv0.1
  have hfl_ := dv3.1
  have hTA_ := gT_zTA hTt
  obtain ⟨⟨hF1_, hF27_⟩, hAr_⟩ := id hTA_
  have hF64_ : (gF T).length ≤ 64 := by omega
  obtain ⟨⟨hs1_, hs2_⟩, hs3_, hs4_⟩ := id p5_
  refine zw_iload_n (pc := 0) (n := 1) (x := Int32.ofInt a0_) rfl (zdal_p dlD_M_take_112 (i := 0) rfl) ?_
  refine zr_i2l (pc := 1) ⟨ha0_a, ha0_b⟩ (zdal_p dlD_M_take_112 (i := 1) rfl) ?_
  refine zw_lconst (pc := 2) (v := Int64.ofInt 0) (by decide) (zdal_p dlD_M_take_112 (i := 2) rfl) ?_
  refine zr_ldc2 (pc := 3) (n := 2) (by decide) k_M_493 (zdal_p dlD_M_take_112 (i := 3) rfl) ?_
  refine zr_callS hf.x (pc := 6) [.long (Int64.ofInt a0_), .long (Int64.ofInt 0), .long (Int64.ofInt 2)] [] l_M_131 (c_M_isIn l Mz (hf.w hW) a0_ (by omega) (by omega) 0 (by decide) (by decide) 2 (by decide) (by decide)) rfl rfl (by decide) (Nat.le_of_ble_eq_true rfl) (zdal_p dlD_M_take_112 (i := 4) rfl) ?_
  rintro _ N1_ ⟨v2_, rfl, ⟨hv2_a, hv2_b⟩, hsN1_, hp0_N1_⟩
  obtain rfl := hsN1_.eq.symm
  replace hp0_N1_ : ((v2_ = 1 ∧ 0 ≤ a0_ ∧ a0_ ≤ 2) ∨ (v2_ = 0 ∧ (a0_ < 0 ∨ 2 < a0_))) := hp0_N1_
  rcases hp0_N1_ with ⟨rfl, ha6_0_hp0_N1_, ha6_1_hp0_N1_⟩ | ⟨rfl, ha6_0_hp0_N1_⟩
  · skip
    show zW l m_M_take (zn Mz + 0, zw Mz + 0) Mz 9 [some (.ref 81), some (.int (Int32.ofInt a0_)), some (.int (Int32.ofInt a1_)), none] [.int (Int32.ofInt 1)] _
    refine zr_if_eq (pc := 9) (tgt := 28) ⟨(by decide), (by decide)⟩ (by decide) (zdal_p dlD_M_take_112 (i := 5) rfl) (fun hc_9 => ?_) (fun hc_9 => ?_)
    · skip
      exact absurd hc_9 (by decide)
    · skip
      refine zw_iload_n (pc := 12) (n := 1) (x := Int32.ofInt a0_) rfl (zdal_p dlD_M_take_112 (i := 6) rfl) ?_
      have j_30 : ∀ (i3_ : (a0_ = 0 ∨ ((a0_ = 1 ∨ a0_ = 2) ∧ 0 ≤ a1_ ∧ a1_ ≤ 6))), zW l m_M_take (zn Mz + 0, zw Mz + 0) Mz 30 [some (.ref 81), some (.int (Int32.ofInt a0_)), some (.int (Int32.ofInt a1_)), none] [] (zpI [60, 63] [96, 98, 111, 112, 113] Mz (fun v N => ((((a0_ = 0 ∨ ((a0_ = 1 ∨ a0_ = 2) ∧ 0 ≤ a1_ ∧ a1_ ≤ 6)) ∧ ∃ c_ : Nat → Nat, gTb mv_ c_ T ∧ zSR (gF T).length (zpush s_ (zsq (gF T).length (gmkI T) (fun j_ => tkv (zrr P_ T c_ (gFn T j_)) a0_ a1_))) N ∧ v = tkv (zrr P_ T c_ (gFn T 0)) a0_ a1_) ∨ (¬ (a0_ = 0 ∨ ((a0_ = 1 ∨ a0_ = 2) ∧ 0 ≤ a1_ ∧ a1_ ≤ 6)) ∧ zSR (gF T).length s_ N ∧ v = (-1 : Int)))))) := by
        intro i3_
        have htc_ := (show (a0_ = 0 ∨ ((a0_ = 1 ∨ a0_ = 2) ∧ 0 ≤ a1_ ∧ a1_ ≤ 6)) by first | with_reducible assumption | assumption)
        refine zw_iconst (pc := 30) (v := Int32.ofInt 0) (by decide) (zdal_p dlD_M_take_112 (i := 16) rfl) ?_
        refine zw_istore_n (pc := 31) (i := 3) (L2 := [some (.ref 81), some (.int (Int32.ofInt a0_)), some (.int (Int32.ofInt a1_)), some (.int (Int32.ofInt 0))]) rfl (by decide) rfl (zdal_p dlD_M_take_112 (i := 17) rfl) ?_
        have lp_32 : ∀ (n : Nat) (u4_ : Int) (hu4_a : -2147483648 ≤ u4_) (hu4_b : u4_ < 2147483648) (N5_ : zMem) (hs6_ : zFr [63] [96, 112, 113] Mz N5_) (i7_ : 0 ≤ u4_) (i8_ : u4_ ≤ ((gF T).length : Int)) (i9_ : (∀ j : Nat, (j : Int) < u4_ → zg N5_ 96 j = tkv (zrr P_ T (fun i_ => zrc Mz 85 i_ (P_ : Int)) (gFn T j)) a0_ a1_)), (((gF T).length : Int) - u4_).toNat < n → zW l m_M_take (zn Mz + 0, zw Mz + 0) N5_ 32 [some (.ref 81), some (.int (Int32.ofInt a0_)), some (.int (Int32.ofInt a1_)), some (.int (Int32.ofInt u4_))] [] (zpI [60, 63] [96, 98, 111, 112, 113] Mz (fun v N => ((((a0_ = 0 ∨ ((a0_ = 1 ∨ a0_ = 2) ∧ 0 ≤ a1_ ∧ a1_ ≤ 6)) ∧ ∃ c_ : Nat → Nat, gTb mv_ c_ T ∧ zSR (gF T).length (zpush s_ (zsq (gF T).length (gmkI T) (fun j_ => tkv (zrr P_ T c_ (gFn T j_)) a0_ a1_))) N ∧ v = tkv (zrr P_ T c_ (gFn T 0)) a0_ a1_) ∨ (¬ (a0_ = 0 ∨ ((a0_ = 1 ∨ a0_ = 2) ∧ 0 ≤ a1_ ∧ a1_ ≤ 6)) ∧ zSR (gF T).length s_ N ∧ v = (-1 : Int)))))) := by
          intro n
          induction n with
          | zero =>
            intro u4_ hu4_a hu4_b N5_ hs6_ i7_ i8_ i9_ h0
            exact absurd h0 (Nat.not_lt_zero _)
          | succ n ih_32 =>
            intro u4_ hu4_a hu4_b N5_ hs6_ i7_ i8_ i9_ hlt_32
            have hf_N5_ : zFr [60, 63] [96, 98, 111, 112, 113] Mz N5_ := hf.tr hs6_ (by decide) (by decide)
            have e16_N5_ : ze N5_ 81 16 = ze Mz 81 16 := hs6_.e (by decide)
            have e26_N5_ : ze N5_ 81 26 = ze Mz 81 26 := hs6_.e (by decide)
            have r63_N5_ := ze_r N5_ 81 63
            have c10_ : zGB T N5_ := zGB.fr hs6_ p0_ (by decide) (by decide)
            have c11_ : zCdR (P_ : Int) mv_ T N5_ := zCdR.fr hs6_ p1_ (by decide) (by decide)
            have c12_ : zSR (gF T).length s_ N5_ := zSR.fr hs6_ p5_ (by decide) (by decide)
            have c13_ : zTab T N5_ := zTab.fr hs6_ dv0 (by decide) (by decide)
            have c14_ : zB 85 144 0 5 N5_ := zB.fr hs6_ dv1 (by decide) (by decide)
            have c15_ : zJX T N5_ := zJX.fr hs6_ dv2 (by decide) (by decide)
            have c16_ : zFirs T N5_ := zFirs.fr hs6_ dv3 (by decide) (by decide)
            have c17_ : zSSm T N5_ := zSSm.fr hs6_ dv4 (by decide) (by decide)
            have c18_ : zGD N5_ := zGD.fr hs6_ dv5 (by decide) (by decide)
            have c19_ : zRmk (gF T).length (gmkI T) N5_ := zRmk.fr hs6_ dv6 (by decide) (by decide)
            have htk_ := (show (∀ j : Nat, (j : Int) < u4_ → zg N5_ 96 j = tkv (zrr P_ T (fun i_ => zrc Mz 85 i_ (P_ : Int)) (gFn T j)) a0_ a1_) by first | with_reducible assumption | assumption)
            refine zw_iload_n (pc := 32) (n := 3) (x := Int32.ofInt u4_) rfl (zdal_p dlD_M_take_112 (i := 18) rfl) ?_
            refine zw_aload_n (pc := 33) (n := 0) (x := 81) rfl (zdal_p dlD_M_take_112 (i := 19) rfl) ?_
            refine zr_getI0 hf_N5_ hW (pc := 34) (by decide) f_M_235 rfl (zdal_p dlD_M_take_112 (i := 20) rfl) ?_
            refine zr_icmp_ge (pc := 37) (tgt := 68) ⟨hu4_a, hu4_b⟩ ⟨(ze_r Mz 81 26).1, (ze_r Mz 81 26).2⟩ (by decide) (zdal_p dlD_M_take_112 (i := 21) rfl) (fun hc_37 => ?_) (fun hc_37 => ?_)
            · skip
              refine zw_aload_n (pc := 68) (n := 0) (x := 81) rfl (zdal_p dlD_M_take_113 (i := 14) rfl) ?_
              refine zr_callV (hf_N5_.w hW) hf_N5_.x (pc := 69) [] [] l_M_481 (c_M_actS l N5_ (hf_N5_.w hW) (gF T).length hF64_ s_ c12_) rfl rfl rfl (by decide) (Nat.le_of_ble_eq_true rfl) (zdal_p dlD_M_take_113 (i := 15) rfl) ?_
              rintro _ N20_ ⟨rfl, hsN20_, hp0_N20_⟩
              replace hp0_N20_ : zSA (gF T).length s_ N20_ := hp0_N20_
              have hf_N20_ : zFr [60, 63] [96, 98, 111, 112, 113] Mz N20_ := hf_N5_.tr hsN20_ (by decide) (by decide)
              have e16_N20_ : ze N20_ 81 16 = ze N5_ 81 16 := hsN20_.e (by decide)
              have e26_N20_ : ze N20_ 81 26 = ze N5_ 81 26 := hsN20_.e (by decide)
              have e63_N20_ : ze N20_ 81 63 = ze N5_ 81 63 := hsN20_.e (by decide)
              have c22_ : zGB T N20_ := zGB.fr hsN20_ c10_ (by decide) (by decide)
              have c23_ : zCdR (P_ : Int) mv_ T N20_ := zCdR.fr hsN20_ c11_ (by decide) (by decide)
              have c24_ : zTab T N20_ := zTab.fr hsN20_ c13_ (by decide) (by decide)
              have c25_ : zB 85 144 0 5 N20_ := zB.fr hsN20_ c14_ (by decide) (by decide)
              have c26_ : zJX T N20_ := zJX.fr hsN20_ c15_ (by decide) (by decide)
              have c27_ : zFirs T N20_ := zFirs.fr hsN20_ c16_ (by decide) (by decide)
              have c28_ : zSSm T N20_ := zSSm.fr hsN20_ c17_ (by decide) (by decide)
              have c29_ : zGD N20_ := zGD.fr hsN20_ c18_ (by decide) (by decide)
              have c30_ : zRmk (gF T).length (gmkI T) N20_ := zRmk.fr hsN20_ c19_ (by decide) (by decide)
              show zW l m_M_take (zn Mz + 0, zw Mz + 0) N20_ 72 [some (.ref 81), some (.int (Int32.ofInt a0_)), some (.int (Int32.ofInt a1_)), some (.int (Int32.ofInt u4_))] [] _
              have hte_ : ∀ j_ : Nat, j_ < (gF T).length → zg N20_ 96 j_ = tkv (zrr P_ T (fun i_ => zrc Mz 85 i_ (P_ : Int)) (gFn T j_)) a0_ a1_ := fun j_ hj_ => ((hsN20_).jg (by decide) (by decide) j_).trans (htk_ j_ (by omega))
              refine zw_aload_n (pc := 72) (n := 0) (x := 81) rfl (zdal_p dlD_M_take_113 (i := 16) rfl) ?_
              refine zw_aload_n (pc := 73) (n := 0) (x := 81) rfl (zdal_p dlD_M_take_113 (i := 17) rfl) ?_
              refine zr_getF (r := 96) (hf_N20_.w hW) (pc := 74) f_M_60 rfl (zh_96 (hf_N20_.w hW)).1 (zdal_p dlD_M_take_113 (i := 18) rfl) ?_
              refine zw_aload_n (pc := 77) (n := 0) (x := 81) rfl (zdal_p dlD_M_take_113 (i := 19) rfl) ?_
              refine zr_getF (r := 98) (hf_N20_.w hW) (pc := 78) f_M_66 rfl (zh_98 (hf_N20_.w hW)).1 (zdal_p dlD_M_take_113 (i := 20) rfl) ?_
              refine zw_iconst (pc := 81) (v := Int32.ofInt 0) (by decide) (zdal_p dlD_M_take_113 (i := 21) rfl) ?_
              refine zr_callV (hf_N20_.w hW) hf_N20_.x (pc := 82) [.ref 96, .ref 98, .int (Int32.ofInt 0)] [] l_M_289 (c_M_numbers_96_98S l N20_ (hf_N20_.w hW) 0 (by decide) (by decide) (gF T).length (gmkI T) hTA_ c30_ (show 0 ≤ 0 by first | with_reducible assumption | assumption | omega) (show 0 ≤ 0 by first | with_reducible assumption | assumption | omega) (show (∀ j : Nat, j < (gF T).length → -1000000 ≤ zg N20_ 96 j ∧ zg N20_ 96 j ≤ 1000000) by exact fun j_ hj_ => by rw [hte_ j_ hj_]; have h_ := tkv_b (by omega) (p6_ j_ hj_) htc_; omega)) rfl rfl rfl (by decide) (Nat.le_of_ble_eq_true rfl) (zdal_p dlD_M_take_113 (i := 22) rfl) ?_
              rintro _ N31_ ⟨rfl, hsN31_, hp0_N31_⟩
              replace hp0_N31_ : (∀ k : Nat, k < (gF T).length → zg N31_ 98 k = (zsq (gF T).length (gmkI T) (fun j_ => zg N20_ 96 j_)) k) := hp0_N31_
              have hf_N31_ : zFr [60, 63] [96, 98, 111, 112, 113] Mz N31_ := hf_N20_.tr hsN31_ (by decide) (by decide)
              have e16_N31_ : ze N31_ 81 16 = ze N20_ 81 16 := hsN31_.e (by decide)
              have e26_N31_ : ze N31_ 81 26 = ze N20_ 81 26 := hsN31_.e (by decide)
              have e63_N31_ : ze N31_ 81 63 = ze N20_ 81 63 := hsN31_.e (by decide)
              have c33_ : zGB T N31_ := zGB.fr hsN31_ c22_ (by decide) (by decide)
              have c34_ : zCdR (P_ : Int) mv_ T N31_ := zCdR.fr hsN31_ c23_ (by decide) (by decide)
              have c35_ : zTab T N31_ := zTab.fr hsN31_ c24_ (by decide) (by decide)
              have c36_ : zB 85 144 0 5 N31_ := zB.fr hsN31_ c25_ (by decide) (by decide)
              have c37_ : zJX T N31_ := zJX.fr hsN31_ c26_ (by decide) (by decide)
              have c38_ : zFirs T N31_ := zFirs.fr hsN31_ c27_ (by decide) (by decide)
              have c39_ : zSSm T N31_ := zSSm.fr hsN31_ c28_ (by decide) (by decide)
              have c40_ : zGD N31_ := zGD.fr hsN31_ c29_ (by decide) (by decide)
              have c41_ : zRmk (gF T).length (gmkI T) N31_ := zRmk.fr hsN31_ c30_ (by decide) (by decide)
              have c42_ : zSA (gF T).length s_ N31_ := zSA.fr hsN31_ hp0_N20_ (by decide) (by decide)
              show zW l m_M_take (zn Mz + 0, zw Mz + 0) N31_ 85 [some (.ref 81), some (.int (Int32.ofInt a0_)), some (.int (Int32.ofInt a1_)), some (.int (Int32.ofInt u4_))] [] _
              have hnu_ := hp0_N31_
              have hsr_ := c42_.ps (fun k_ hk_ => (hnu_ k_ hk_).trans (zsq_cc (m' := fun j_ => tkv (zrr P_ T (fun i_ => zrc Mz 85 i_ (P_ : Int)) (gFn T j_)) a0_ a1_) hte_ k_ hk_))
              refine zw_aload_n (pc := 85) (n := 0) (x := 81) rfl (zdal_p dlD_M_take_113 (i := 23) rfl) ?_
              refine zr_getF (r := 96) (hf_N31_.w hW) (pc := 86) f_M_60 rfl (zh_96 (hf_N31_.w hW)).1 (zdal_p dlD_M_take_114 (i := 0) rfl) ?_
              refine zw_iconst (pc := 89) (v := Int32.ofInt 0) (by decide) (zdal_p dlD_M_take_114 (i := 1) rfl) ?_
              refine zr_laldn (pc := 90) (zh_96 (hf_N31_.w hW)).2 (by decide) (by omega) (by omega) (zdal_p dlD_M_take_114 (i := 2) rfl) (fun v43_ hv43_ hv43_a hv43_b => ?_)
              have hv0_ : v43_ = tkv (zrr P_ T (fun i_ => zrc Mz 85 i_ (P_ : Int)) (gFn T 0)) a0_ a1_ := hv43_.trans (((hsN31_).jg (by decide) (by decide) 0).trans (hte_ 0 (by omega)))
              have hb0_ := tkv_b (by omega) (p6_ 0 (by omega)) htc_
              refine zr_l2i (pc := 91) (zdal_p dlD_M_take_114 (i := 3) rfl) ?_
              refine zk_nmW (fun v44_ hv44_ hv44_w => ?_)
              obtain ⟨hv44_a, hv44_b⟩ := hv44_
              have hr0_ : v44_ = tkv (zrr P_ T (fun i_ => zrc Mz 85 i_ (P_ : Int)) (gFn T 0)) a0_ a1_ := (z32i ⟨by omega, by omega⟩ ⟨by omega, by omega⟩).mp (hv44_w.2.trans (congrArg Int32.ofInt hv0_))
              exact zr_iret (pc := 92) (ty := .int) rfl rfl ⟨by omega, by omega⟩ hf_N31_ (show (((a0_ = 0 ∨ ((a0_ = 1 ∨ a0_ = 2) ∧ 0 ≤ a1_ ∧ a1_ ≤ 6)) ∧ ∃ c_ : Nat → Nat, gTb mv_ c_ T ∧ zSR (gF T).length (zpush s_ (zsq (gF T).length (gmkI T) (fun j_ => tkv (zrr P_ T c_ (gFn T j_)) a0_ a1_))) N31_ ∧ v44_ = tkv (zrr P_ T c_ (gFn T 0)) a0_ a1_) ∨ (¬ (a0_ = 0 ∨ ((a0_ = 1 ∨ a0_ = 2) ∧ 0 ≤ a1_ ∧ a1_ ≤ 6)) ∧ zSR (gF T).length s_ N31_ ∧ v44_ = (-1 : Int))) by exact Or.inl ⟨htc_, _, p1_, hsr_, hr0_⟩) (zdal_p dlD_M_take_114 (i := 4) rfl)
            · skip
              refine zw_aload_n (pc := 40) (n := 0) (x := 81) rfl (zdal_p dlD_M_take_112 (i := 22) rfl) ?_
              refine zw_aload_n (pc := 41) (n := 0) (x := 81) rfl (zdal_p dlD_M_take_112 (i := 23) rfl) ?_
              refine zr_getF (r := 91) (hf_N5_.w hW) (pc := 42) f_M_44 rfl (zh_91 (hf_N5_.w hW)).1 (zdal_p dlD_M_take_113 (i := 0) rfl) ?_
              refine zw_iload_n (pc := 45) (n := 3) (x := Int32.ofInt u4_) rfl (zdal_p dlD_M_take_113 (i := 1) rfl) ?_
              refine zr_ialdn (pc := 46) (zh_91 (hf_N5_.w hW)).2 (by decide) (by omega) (by omega) (zdal_p dlD_M_take_113 (i := 2) rfl) (fun v45_ hv45_ hv45_a hv45_b => ?_)
              rw [hf_N5_.ie (by decide) (by decide)] at hv45_
              have hfv_ := hv45_
              have hfw_ : v45_ = ((gFn T (u4_).toNat : Nat) : Int) := hfv_.trans (dv3.2 _ (by omega))
              have hft_ : (v45_).toNat = gFn T (u4_).toNat := by omega
              have hfb_ := gS_b hO (hO.2.2.1.2.1 _ (gFn_m (T := T) (i := (u4_).toNat) (by omega))).1
              have hCx_ : (fun i_ => zrc N5_ 85 i_ (P_ : Int)) = (fun i_ => zrc Mz 85 i_ (P_ : Int)) := funext fun i_ => zrc_f (fun k_ => hf_N5_.ie (by decide) (by decide) k_) i_ _
              refine zr_callV (hf_N5_.w hW) hf_N5_.x (pc := 47) [.int (Int32.ofInt v45_)] [] l_M_497 (c_M_laysPartsS l N5_ (hf_N5_.w hW) v45_ hv45_a hv45_b T hO P_ mv_ c10_ c11_ (show ze N5_ 81 16 = (P_ : Int) by first | with_reducible assumption | assumption | omega) (show 1 ≤ P_ by first | with_reducible assumption | assumption | omega) (show P_ ≤ 6 by first | with_reducible assumption | assumption | omega) (show 0 ≤ v45_ by first | with_reducible assumption | assumption | omega) (show v45_ < 16777216 by first | with_reducible assumption | assumption | omega) (show zPt (zrch (gN T) (fun i_ => zrc N5_ 85 i_ (P_ : Int)) (v45_).toNat) P_ by rw [hft_, hCx_]; exact p6_ _ (by omega))) rfl rfl rfl (by decide) (Nat.le_of_ble_eq_true rfl) (zdal_p dlD_M_take_113 (i := 3) rfl) ?_
              rintro _ N46_ ⟨rfl, hsN46_, ⟨hp0_N46_, hp1_N46_, hp2_N46_⟩⟩
              have hf_N46_ : zFr [60, 63] [96, 98, 111, 112, 113] Mz N46_ := hf_N5_.tr hsN46_ (by decide) (by decide)
              have hb0_N46_ : zFr [63] [96, 112, 113] Mz N46_ := hs6_.tr hsN46_ (by decide) (by decide)
              have e16_N46_ : ze N46_ 81 16 = ze N5_ 81 16 := hsN46_.e (by decide)
              have e26_N46_ : ze N46_ 81 26 = ze N5_ 81 26 := hsN46_.e (by decide)
              have r63_N46_ := ze_r N46_ 81 63
              have c48_ : zGB T N46_ := zGB.fr hsN46_ c10_ (by decide) (by decide)
              have c49_ : zCdR (P_ : Int) mv_ T N46_ := zCdR.fr hsN46_ c11_ (by decide) (by decide)
              have c50_ : zSR (gF T).length s_ N46_ := zSR.fr hsN46_ c12_ (by decide) (by decide)
              have c51_ : zTab T N46_ := zTab.fr hsN46_ c13_ (by decide) (by decide)
              have c52_ : zB 85 144 0 5 N46_ := zB.fr hsN46_ c14_ (by decide) (by decide)
              have c53_ : zJX T N46_ := zJX.fr hsN46_ c15_ (by decide) (by decide)
              have c54_ : zFirs T N46_ := zFirs.fr hsN46_ c16_ (by decide) (by decide)
              have c55_ : zSSm T N46_ := zSSm.fr hsN46_ c17_ (by decide) (by decide)
              have c56_ : zGD N46_ := zGD.fr hsN46_ c18_ (by decide) (by decide)
              have c57_ : zRmk (gF T).length (gmkI T) N46_ := zRmk.fr hsN46_ c19_ (by decide) (by decide)
              show zW l m_M_take (zn Mz + 0, zw Mz + 0) N46_ 50 [some (.ref 81), some (.int (Int32.ofInt a0_)), some (.int (Int32.ofInt a1_)), some (.int (Int32.ofInt u4_))] [] _
              have hz_ := hp0_N46_
              rw [hft_, hCx_] at hz_
              refine zw_aload_n (pc := 50) (n := 0) (x := 81) rfl (zdal_p dlD_M_take_113 (i := 4) rfl) ?_
              refine zr_getF (r := 96) (hf_N46_.w hW) (pc := 51) f_M_60 rfl (zh_96 (hf_N46_.w hW)).1 (zdal_p dlD_M_take_113 (i := 5) rfl) ?_
              refine zw_iload_n (pc := 54) (n := 3) (x := Int32.ofInt u4_) rfl (zdal_p dlD_M_take_113 (i := 6) rfl) ?_
              refine zw_aload_n (pc := 55) (n := 0) (x := 81) rfl (zdal_p dlD_M_take_113 (i := 7) rfl) ?_
              refine zw_iload_n (pc := 56) (n := 1) (x := Int32.ofInt a0_) rfl (zdal_p dlD_M_take_113 (i := 8) rfl) ?_
              refine zw_iload_n (pc := 57) (n := 2) (x := Int32.ofInt a1_) rfl (zdal_p dlD_M_take_113 (i := 9) rfl) ?_
              refine zr_callV (hf_N46_.w hW) hf_N46_.x (pc := 58) [.int (Int32.ofInt a0_), .int (Int32.ofInt a1_)] [.int (Int32.ofInt u4_), .ref 96] l_M_500 (c_M_fixedByS l N46_ (hf_N46_.w hW) a0_ ha0_a ha0_b a1_ ha1_a ha1_b (tkz (zrr P_ T (fun i_ => zrc Mz 85 i_ (P_ : Int)) (gFn T (u4_).toNat))) hz_ (show (a0_ = 0 ∨ ((a0_ = 1 ∨ a0_ = 2) ∧ 0 ≤ a1_ ∧ a1_ ≤ 6)) by first | with_reducible assumption | assumption | omega)) rfl rfl rfl (by decide) (Nat.le_of_ble_eq_true rfl) (zdal_p dlD_M_take_113 (i := 10) rfl) ?_
              rintro _ N58_ ⟨v59_, rfl, ⟨hv59_a, hv59_b⟩, hsN58_, hp0_N58_⟩
              replace hp0_N58_ : ((a0_ = 0 → v59_ = ((tkone (tkz (zrr P_ T (fun i_ => zrc Mz 85 i_ (P_ : Int)) (gFn T (u4_).toNat))) : Nat) : Int)) ∧ (a0_ = 1 → v59_ = ((tkn (tkz (zrr P_ T (fun i_ => zrc Mz 85 i_ (P_ : Int)) (gFn T (u4_).toNat))) (tkz (zrr P_ T (fun i_ => zrc Mz 85 i_ (P_ : Int)) (gFn T (u4_).toNat))).length (a1_).toNat : Nat) : Int)) ∧ (a0_ = 2 → v59_ = a1_ ^ (tkz (zrr P_ T (fun i_ => zrc Mz 85 i_ (P_ : Int)) (gFn T (u4_).toNat))).length)) := hp0_N58_
              have hf_N58_ : zFr [60, 63] [96, 98, 111, 112, 113] Mz N58_ := hf_N46_.tr hsN58_ (by decide) (by decide)
              have hb0_N58_ : zFr [63] [96, 112, 113] Mz N58_ := hb0_N46_.tr hsN58_ (by decide) (by decide)
              have e16_N58_ : ze N58_ 81 16 = ze N46_ 81 16 := hsN58_.e (by decide)
              have e26_N58_ : ze N58_ 81 26 = ze N46_ 81 26 := hsN58_.e (by decide)
              have e63_N58_ : ze N58_ 81 63 = ze N46_ 81 63 := hsN58_.e (by decide)
              have c60_ : zGB T N58_ := zGB.fr hsN58_ c48_ (by decide) (by decide)
              have c61_ : zCdR (P_ : Int) mv_ T N58_ := zCdR.fr hsN58_ c49_ (by decide) (by decide)
              have c62_ : zSR (gF T).length s_ N58_ := zSR.fr hsN58_ c50_ (by decide) (by decide)
              have c63_ : zTab T N58_ := zTab.fr hsN58_ c51_ (by decide) (by decide)
              have c64_ : zB 85 144 0 5 N58_ := zB.fr hsN58_ c52_ (by decide) (by decide)
              have c65_ : zJX T N58_ := zJX.fr hsN58_ c53_ (by decide) (by decide)
              have c66_ : zFirs T N58_ := zFirs.fr hsN58_ c54_ (by decide) (by decide)
              have c67_ : zSSm T N58_ := zSSm.fr hsN58_ c55_ (by decide) (by decide)
              have c68_ : zGD N58_ := zGD.fr hsN58_ c56_ (by decide) (by decide)
              have c69_ : zRmk (gF T).length (gmkI T) N58_ := zRmk.fr hsN58_ c57_ (by decide) (by decide)
              have c70_ : zTkZ (tkz (zrr P_ T (fun i_ => zrc Mz 85 i_ (P_ : Int)) (gFn T (u4_).toNat))) N58_ := zTkZ.fr hsN58_ hz_ (by decide) (by decide)
              show zW l m_M_take (zn Mz + 0, zw Mz + 0) N58_ 61 [some (.ref 81), some (.int (Int32.ofInt a0_)), some (.int (Int32.ofInt a1_)), some (.int (Int32.ofInt u4_))] [.long (Int64.ofInt v59_), .int (Int32.ofInt u4_), .ref 96] _
              have hv_ := tkv_r (by omega) (p6_ (u4_).toNat (by omega)) htc_ (hp0_N58_).1 (hp0_N58_).2.1 (hp0_N58_).2.2
              have hvb_ := tkv_b (by omega) (p6_ (u4_).toNat (by omega)) htc_
              rw [← hv_] at hvb_
              have h96_ : ∀ j_ : Nat, zg N58_ 96 j_ = zg N5_ 96 j_ := fun j_ => ((hsN58_).jg (by decide) (by decide) j_).trans ((hsN46_).jg (by decide) (by decide) j_)
              refine zr_last (pc := 61) (zh_96 (hf_N58_.w hW)).2 (by decide) (by decide) (by omega) (by omega) (zdal_p dlD_M_take_113 (i := 11) rfl) (fun N71_ hN71_ hsN71_ => ?_)
              have hf_N71_ : zFr [60, 63] [96, 98, 111, 112, 113] Mz N71_ := hf_N58_.tr hsN71_ (by decide) (by decide)
              have hb0_N71_ : zFr [63] [96, 112, 113] Mz N71_ := hb0_N58_.tr hsN71_ (by decide) (by decide)
              have e16_N71_ : ze N71_ 81 16 = ze N58_ 81 16 := hsN71_.e (by decide)
              have e26_N71_ : ze N71_ 81 26 = ze N58_ 81 26 := hsN71_.e (by decide)
              have e63_N71_ : ze N71_ 81 63 = ze N58_ 81 63 := hsN71_.e (by decide)
              have c72_ : zGB T N71_ := zGB.fr hsN71_ c60_ (by decide) (by decide)
              have c73_ : zCdR (P_ : Int) mv_ T N71_ := zCdR.fr hsN71_ c61_ (by decide) (by decide)
              have c74_ : zSR (gF T).length s_ N71_ := zSR.fr hsN71_ c62_ (by decide) (by decide)
              have c75_ : zTab T N71_ := zTab.fr hsN71_ c63_ (by decide) (by decide)
              have c76_ : zB 85 144 0 5 N71_ := zB.fr hsN71_ c64_ (by decide) (by decide)
              have c77_ : zJX T N71_ := zJX.fr hsN71_ c65_ (by decide) (by decide)
              have c78_ : zFirs T N71_ := zFirs.fr hsN71_ c66_ (by decide) (by decide)
              have c79_ : zSSm T N71_ := zSSm.fr hsN71_ c67_ (by decide) (by decide)
              have c80_ : zGD N71_ := zGD.fr hsN71_ c68_ (by decide) (by decide)
              have c81_ : zRmk (gF T).length (gmkI T) N71_ := zRmk.fr hsN71_ c69_ (by decide) (by decide)
              have c82_ : zTkZ (tkz (zrr P_ T (fun i_ => zrc Mz 85 i_ (P_ : Int)) (gFn T (u4_).toNat))) N71_ := zTkZ.fr hsN71_ c70_ (by decide) (by decide)
              have htn_ : (∀ j : Nat, (j : Int) < u4_ + 1 → zg N71_ 96 j = tkv (zrr P_ T (fun i_ => zrc Mz 85 i_ (P_ : Int)) (gFn T j)) a0_ a1_) := fun j_ hj_ => by by_cases g_ : (j_ : Int) = u4_; (rw [show j_ = (u4_).toNat by omega, zs_getJ hN71_ ⟨by omega, by omega⟩]; exact hv_); (rw [zs_othJ hN71_ (by omega)]; exact (h96_ j_).trans (htk_ j_ (by omega)))
              refine zr_iinc (pc := 62) (i := 3) (a := u4_) (n := 1) (L2 := [some (.ref 81), some (.int (Int32.ofInt a0_)), some (.int (Int32.ofInt a1_)), some (.int (Int32.ofInt (u4_ + 1)))]) rfl (by decide) rfl (zdal_p dlD_M_take_113 (i := 12) rfl) ?_
              refine zw_goto (pc := 65) (tgt := 32) (by decide) (zdal_p dlD_M_take_113 (i := 13) rfl) ?_
              exact ih_32 (u4_ + 1) (by omega) (by omega) N71_ hb0_N71_ (show 0 ≤ (u4_ + 1) by first | with_reducible assumption | assumption | omega) (show (u4_ + 1) ≤ ((gF T).length : Int) by first | with_reducible assumption | assumption | omega) (show (∀ j : Nat, (j : Int) < (u4_ + 1) → zg N71_ 96 j = tkv (zrr P_ T (fun i_ => zrc Mz 85 i_ (P_ : Int)) (gFn T j)) a0_ a1_) by exact htn_) (by omega)
        exact lp_32 _ 0 (by decide) (by decide) Mz zFr.rf (show 0 ≤ (0 : Int) by first | with_reducible assumption | assumption | omega) (show (0 : Int) ≤ ((gF T).length : Int) by first | with_reducible assumption | assumption | omega) (show (∀ j : Nat, (j : Int) < (0 : Int) → zg Mz 96 j = tkv (zrr P_ T (fun i_ => zrc Mz 85 i_ (P_ : Int)) (gFn T j)) a0_ a1_) by exact fun j_ hj_ => absurd hj_ (by omega)) (Nat.lt_succ_self _)
      refine zr_if_le (pc := 13) (tgt := 30) ⟨ha0_a, ha0_b⟩ (by decide) (zdal_p dlD_M_take_112 (i := 7) rfl) (fun hc_13 => ?_) (fun hc_13 => ?_)
      · skip
        exact j_30 (show (a0_ = 0 ∨ ((a0_ = 1 ∨ a0_ = 2) ∧ 0 ≤ a1_ ∧ a1_ ≤ 6)) by first | with_reducible assumption | assumption | omega)
      · skip
        refine zw_iload_n (pc := 16) (n := 2) (x := Int32.ofInt a1_) rfl (zdal_p dlD_M_take_112 (i := 8) rfl) ?_
        refine zr_i2l (pc := 17) ⟨ha1_a, ha1_b⟩ (zdal_p dlD_M_take_112 (i := 9) rfl) ?_
        refine zw_lconst (pc := 18) (v := Int64.ofInt 0) (by decide) (zdal_p dlD_M_take_112 (i := 10) rfl) ?_
        refine zr_ldc2 (pc := 19) (n := 6) (by decide) k_M_495 (zdal_p dlD_M_take_112 (i := 11) rfl) ?_
        refine zr_callS hf.x (pc := 22) [.long (Int64.ofInt a1_), .long (Int64.ofInt 0), .long (Int64.ofInt 6)] [] l_M_131 (c_M_isIn l Mz (hf.w hW) a1_ (by omega) (by omega) 0 (by decide) (by decide) 6 (by decide) (by decide)) rfl rfl (by decide) (Nat.le_of_ble_eq_true rfl) (zdal_p dlD_M_take_112 (i := 12) rfl) ?_
        rintro _ N83_ ⟨v84_, rfl, ⟨hv84_a, hv84_b⟩, hsN83_, hp0_N83_⟩
        obtain rfl := hsN83_.eq.symm
        replace hp0_N83_ : ((v84_ = 1 ∧ 0 ≤ a1_ ∧ a1_ ≤ 6) ∨ (v84_ = 0 ∧ (a1_ < 0 ∨ 6 < a1_))) := hp0_N83_
        rcases hp0_N83_ with ⟨rfl, ha22_0_hp0_N83_, ha22_1_hp0_N83_⟩ | ⟨rfl, ha22_0_hp0_N83_⟩
        · skip
          show zW l m_M_take (zn Mz + 0, zw Mz + 0) Mz 25 [some (.ref 81), some (.int (Int32.ofInt a0_)), some (.int (Int32.ofInt a1_)), none] [.int (Int32.ofInt 1)] _
          refine zr_if_ne (pc := 25) (tgt := 30) ⟨(by decide), (by decide)⟩ (by decide) (zdal_p dlD_M_take_112 (i := 13) rfl) (fun hc_25 => ?_) (fun hc_25 => ?_)
          · skip
            exact j_30 (show (a0_ = 0 ∨ ((a0_ = 1 ∨ a0_ = 2) ∧ 0 ≤ a1_ ∧ a1_ ≤ 6)) by first | with_reducible assumption | assumption | omega)
          · skip
            exact absurd hc_25 (by decide)
        · skip
          show zW l m_M_take (zn Mz + 0, zw Mz + 0) Mz 25 [some (.ref 81), some (.int (Int32.ofInt a0_)), some (.int (Int32.ofInt a1_)), none] [.int (Int32.ofInt 0)] _
          refine zr_if_ne (pc := 25) (tgt := 30) ⟨(by decide), (by decide)⟩ (by decide) (zdal_p dlD_M_take_112 (i := 13) rfl) (fun hc_25 => ?_) (fun hc_25 => ?_)
          · skip
            exact absurd hc_25 (by decide)
          · skip
            refine zw_iconst (pc := 28) (v := Int32.ofInt (-1)) (by decide) (zdal_p dlD_M_take_112 (i := 14) rfl) ?_
            exact zr_iret (pc := 29) (ty := .int) rfl rfl ⟨by omega, by omega⟩ hf (show (((a0_ = 0 ∨ ((a0_ = 1 ∨ a0_ = 2) ∧ 0 ≤ a1_ ∧ a1_ ≤ 6)) ∧ ∃ c_ : Nat → Nat, gTb mv_ c_ T ∧ zSR (gF T).length (zpush s_ (zsq (gF T).length (gmkI T) (fun j_ => tkv (zrr P_ T c_ (gFn T j_)) a0_ a1_))) Mz ∧ ((-1)) = tkv (zrr P_ T c_ (gFn T 0)) a0_ a1_) ∨ (¬ (a0_ = 0 ∨ ((a0_ = 1 ∨ a0_ = 2) ∧ 0 ≤ a1_ ∧ a1_ ≤ 6)) ∧ zSR (gF T).length s_ Mz ∧ ((-1)) = (-1 : Int))) by exact Or.inr ⟨by omega, p5_, rfl⟩) (zdal_p dlD_M_take_112 (i := 15) rfl)
  · skip
    show zW l m_M_take (zn Mz + 0, zw Mz + 0) Mz 9 [some (.ref 81), some (.int (Int32.ofInt a0_)), some (.int (Int32.ofInt a1_)), none] [.int (Int32.ofInt 0)] _
    refine zr_if_eq (pc := 9) (tgt := 28) ⟨(by decide), (by decide)⟩ (by decide) (zdal_p dlD_M_take_112 (i := 5) rfl) (fun hc_9 => ?_) (fun hc_9 => ?_)
    · skip
      refine zw_iconst (pc := 28) (v := Int32.ofInt (-1)) (by decide) (zdal_p dlD_M_take_112 (i := 14) rfl) ?_
      exact zr_iret (pc := 29) (ty := .int) rfl rfl ⟨by omega, by omega⟩ hf (show (((a0_ = 0 ∨ ((a0_ = 1 ∨ a0_ = 2) ∧ 0 ≤ a1_ ∧ a1_ ≤ 6)) ∧ ∃ c_ : Nat → Nat, gTb mv_ c_ T ∧ zSR (gF T).length (zpush s_ (zsq (gF T).length (gmkI T) (fun j_ => tkv (zrr P_ T c_ (gFn T j_)) a0_ a1_))) Mz ∧ ((-1)) = tkv (zrr P_ T c_ (gFn T 0)) a0_ a1_) ∨ (¬ (a0_ = 0 ∨ ((a0_ = 1 ∨ a0_ = 2) ∧ 0 ≤ a1_ ∧ a1_ ≤ 6)) ∧ zSR (gF T).length s_ Mz ∧ ((-1)) = (-1 : Int))) by exact Or.inr ⟨by omega, p5_, rfl⟩) (zdal_p dlD_M_take_112 (i := 15) rfl)
    · skip
      exact absurd hc_9 (by decide)
