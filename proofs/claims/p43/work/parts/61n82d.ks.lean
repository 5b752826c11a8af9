set_option maxHeartbeats 4000000 in
theorem u_T_takeT (l : Launch) (d_ : Nat) (Mz : zMem) (hW : zKW d_ Mz) (hnow : zf Mz 0 2 = some (d_ + 0)) (a0_ : Int) (ha0_a : -2147483648 ≤ a0_) (ha0_b : a0_ < 2147483648) (a1_ : Int) (ha1_a : -2147483648 ≤ a1_) (ha1_b : a1_ < 2147483648) (T_ : zGT) (hT_ : T_ ∈ gTabs) (P_ : Nat) (mv_ : List Nat) (hpm_ : ∀ g ∈ mv_, gpm g) (s_ : zSg) (nm_ : List (Int × (Nat → Int))) (p0_ : zMvK mv_ P_ d_ Mz) (p1_ : zGc mv_ P_ T_ d_ Mz) (p2_ : zFir T_ d_ Mz) (p3_ : zKm (gF T_).length (gmkI T_) d_ Mz) (p4_ : zSK (gF T_).length s_ d_ Mz) (p5_ : zNm nm_ (gF T_).length (gmkI T_) d_ Mz) : zC l m_T_take 0 0 [.ref 0, .int (Int32.ofInt a0_), .int (Int32.ofInt a1_)] Mz (zqcI d_ [] [] [(0, 7), (0, 8)] [25, 27] Mz (fun v N => ((((a0_ = 0 ∨ ((a0_ = 1 ∨ a0_ = 2) ∧ 0 ≤ a1_ ∧ a1_ ≤ 6)) ∧ ∃ c_ : Nat → Nat, gTb mv_ c_ T_ ∧ zSK (gF T_).length (zpush s_ (zsq (gF T_).length (gmkI T_) (fun j_ => tkv (zrr P_ T_ c_ (gFn T_ j_)) a0_ a1_))) d_ N ∧ v = tkv (zrr P_ T_ c_ (gFn T_ 0)) a0_ a1_) ∨ (¬ (a0_ = 0 ∨ ((a0_ = 1 ∨ a0_ = 2) ∧ 0 ≤ a1_ ∧ a1_ ≤ 6)) ∧ zSK (gF T_).length s_ d_ N ∧ v = (-1 : Int)))) ∧ zNm nm_ (gF T_).length (gmkI T_) d_ N)) := by
  refine zC_of (L0 := [some (.ref 0), some (.int (Int32.ofInt a0_)), some (.int (Int32.ofInt a1_)), none, none]) md_T_take (Nat.le_of_ble_eq_true rfl) rfl ?_ zQ0
  have hf : zFc d_ [] [] [(0, 7), (0, 8)] [25, 27] Mz Mz := zFc.rf
  have r_D12_7 := ze_r Mz (d_ + 12) 7
  have hO_ := gTabs_ok T_ hT_
  have hG_ := hO_.1
  have hn24_ := hG_.2.1
  have hn1_ := hG_.1
  obtain ⟨⟨hP0_, hP1_, hP6_⟩, -⟩ := id p0_
  have hfl_ := p2_.1
  have hTA_ := gT_zTA hT_
  obtain ⟨⟨hF1_, hF27_⟩, hAr_⟩ := id hTA_
  obtain ⟨hFc_, hKt_⟩ := id p3_
  obtain ⟨⟨hs1_, hs2_⟩, ⟨hs3_, hs4_⟩, hs5_, hs6_⟩ := id p4_
  have hpt_ : ∀ j_ : Nat, j_ < (gF T_).length → zPt (zrch (gN T_) (zCo P_ d_ Mz) (gFn T_ j_)) P_ := fun j_ hj_ => zPt_g p1_.1 hpm_ hP6_ (fun m_ hm_ q_ hq_ => p1_.lt hP6_ hm_ hq_) (hO_.2.2.1.2.1 _ (gFn_m (T := T_) hj_)).1
  refine zw_iload_n (pc := 0) (n := 2) (x := Int32.ofInt a1_) rfl (zdal_p dlB_T_take_127 (i := 0) rfl) ?_
  have j_15 : ∀ (u1_ : Int) (hu1_a : -2147483648 ≤ u1_) (hu1_b : u1_ < 2147483648) (hu1_z : u1_ = 0 ∨ u1_ = 1) (i2_ : (((u1_ : Int) = 1 ∧ 0 ≤ a1_ ∧ a1_ ≤ 6) ∨ ((u1_ : Int) = 0 ∧ ¬ (0 ≤ a1_ ∧ a1_ ≤ 6)))), zW l m_T_take (zn Mz + 0, zw Mz + 0) Mz 15 [some (.ref 0), some (.int (Int32.ofInt a0_)), some (.int (Int32.ofInt a1_)), none, none] [.int (Int32.ofInt u1_)] (zqcI d_ [] [] [(0, 7), (0, 8)] [25, 27] Mz (fun v N => ((((a0_ = 0 ∨ ((a0_ = 1 ∨ a0_ = 2) ∧ 0 ≤ a1_ ∧ a1_ ≤ 6)) ∧ ∃ c_ : Nat → Nat, gTb mv_ c_ T_ ∧ zSK (gF T_).length (zpush s_ (zsq (gF T_).length (gmkI T_) (fun j_ => tkv (zrr P_ T_ c_ (gFn T_ j_)) a0_ a1_))) d_ N ∧ v = tkv (zrr P_ T_ c_ (gFn T_ 0)) a0_ a1_) ∨ (¬ (a0_ = 0 ∨ ((a0_ = 1 ∨ a0_ = 2) ∧ 0 ≤ a1_ ∧ a1_ ≤ 6)) ∧ zSK (gF T_).length s_ d_ N ∧ v = (-1 : Int)))) ∧ zNm nm_ (gF T_).length (gmkI T_) d_ N)) := by
    intro u1_ hu1_a hu1_b hu1_z i2_
    refine zw_istore_n (pc := 15) (i := 3) (L2 := [some (.ref 0), some (.int (Int32.ofInt a0_)), some (.int (Int32.ofInt a1_)), some (.int (Int32.ofInt u1_)), none]) rfl (by decide) rfl (zdal_p dlB_T_take_127 (i := 8) rfl) ?_
    refine zw_iload_n (pc := 16) (n := 1) (x := Int32.ofInt a0_) rfl (zdal_p dlB_T_take_127 (i := 9) rfl) ?_
    have j_36 : ∀ (i3_ : (a0_ = 0 ∨ ((a0_ = 1 ∨ a0_ = 2) ∧ 0 ≤ a1_ ∧ a1_ ≤ 6))), zW l m_T_take (zn Mz + 0, zw Mz + 0) Mz 36 [some (.ref 0), some (.int (Int32.ofInt a0_)), some (.int (Int32.ofInt a1_)), some (.int (Int32.ofInt u1_)), none] [] (zqcI d_ [] [] [(0, 7), (0, 8)] [25, 27] Mz (fun v N => ((((a0_ = 0 ∨ ((a0_ = 1 ∨ a0_ = 2) ∧ 0 ≤ a1_ ∧ a1_ ≤ 6)) ∧ ∃ c_ : Nat → Nat, gTb mv_ c_ T_ ∧ zSK (gF T_).length (zpush s_ (zsq (gF T_).length (gmkI T_) (fun j_ => tkv (zrr P_ T_ c_ (gFn T_ j_)) a0_ a1_))) d_ N ∧ v = tkv (zrr P_ T_ c_ (gFn T_ 0)) a0_ a1_) ∨ (¬ (a0_ = 0 ∨ ((a0_ = 1 ∨ a0_ = 2) ∧ 0 ≤ a1_ ∧ a1_ ≤ 6)) ∧ zSK (gF T_).length s_ d_ N ∧ v = (-1 : Int)))) ∧ zNm nm_ (gF T_).length (gmkI T_) d_ N)) := by
      intro i3_
      have htc_ := (show (a0_ = 0 ∨ ((a0_ = 1 ∨ a0_ = 2) ∧ 0 ≤ a1_ ∧ a1_ ≤ 6)) by first | with_reducible assumption | assumption)
      refine zw_iconst (pc := 36) (v := Int32.ofInt 0) (by decide) (zdal_p dlB_T_take_127 (i := 21) rfl) ?_
      refine zw_istore (pc := 37) (i := 4) (L2 := [some (.ref 0), some (.int (Int32.ofInt a0_)), some (.int (Int32.ofInt a1_)), some (.int (Int32.ofInt u1_)), some (.int (Int32.ofInt 0))]) (by decide) rfl (zdal_p dlB_T_take_127 (i := 22) rfl) ?_
      have lp_39 : ∀ (n : Nat) (u4_ : Int) (hu4_a : -2147483648 ≤ u4_) (hu4_b : u4_ < 2147483648) (N5_ : zMem) (hs6_ : zFc d_ [] [] [] [27] Mz N5_) (i7_ : 0 ≤ u4_) (i8_ : u4_ ≤ ((gF T_).length : Int)) (i9_ : (∀ j : Nat, (j : Int) < u4_ → zg N5_ (d_ + 27) j = tkv (zrr P_ T_ (zCo P_ d_ Mz) (gFn T_ j)) a0_ a1_)), (((gF T_).length : Int) - u4_).toNat < n → zW l m_T_take (zn Mz + 0, zw Mz + 0) N5_ 39 [some (.ref 0), some (.int (Int32.ofInt a0_)), some (.int (Int32.ofInt a1_)), some (.int (Int32.ofInt u1_)), some (.int (Int32.ofInt u4_))] [] (zqcI d_ [] [] [(0, 7), (0, 8)] [25, 27] Mz (fun v N => ((((a0_ = 0 ∨ ((a0_ = 1 ∨ a0_ = 2) ∧ 0 ≤ a1_ ∧ a1_ ≤ 6)) ∧ ∃ c_ : Nat → Nat, gTb mv_ c_ T_ ∧ zSK (gF T_).length (zpush s_ (zsq (gF T_).length (gmkI T_) (fun j_ => tkv (zrr P_ T_ c_ (gFn T_ j_)) a0_ a1_))) d_ N ∧ v = tkv (zrr P_ T_ c_ (gFn T_ 0)) a0_ a1_) ∨ (¬ (a0_ = 0 ∨ ((a0_ = 1 ∨ a0_ = 2) ∧ 0 ≤ a1_ ∧ a1_ ≤ 6)) ∧ zSK (gF T_).length s_ d_ N ∧ v = (-1 : Int)))) ∧ zNm nm_ (gF T_).length (gmkI T_) d_ N)) := by
        intro n
        induction n with
        | zero =>
          intro u4_ hu4_a hu4_b N5_ hs6_ i7_ i8_ i9_ h0
          exact absurd h0 (Nat.not_lt_zero _)
        | succ n ih_39 =>
          intro u4_ hu4_a hu4_b N5_ hs6_ i7_ i8_ i9_ hlt_39
          have hf_N5_ : zFc d_ [] [] [(0, 7), (0, 8)] [25, 27] Mz N5_ := hf.tr hs6_ (by decide) (by decide) (by decide) (by decide)
          have eD12_7_N5_ : ze N5_ (d_ + 12) 7 = ze Mz (d_ + 12) 7 := hs6_.e (by decide)
          have c10_ : zMvK mv_ P_ d_ N5_ := zMvK.fr (hf.w hW) hs6_ p0_ (by decide)
          have c11_ : zGc mv_ P_ T_ d_ N5_ := zGc.fr (hf.w hW) hs6_ p1_ (by decide)
          have c12_ : zFir T_ d_ N5_ := zFir.fr (hf.w hW) hs6_ p2_ (by decide)
          have c13_ : zKm (gF T_).length (gmkI T_) d_ N5_ := zKm.fr (hf.w hW) hs6_ p3_ (by decide)
          have c14_ : zSK (gF T_).length s_ d_ N5_ := zSKc.fr (hf.w hW) hs6_ p4_ (by decide)
          have c15_ : zNm nm_ (gF T_).length (gmkI T_) d_ N5_ := zNm.fr (hf.w hW) hs6_ p5_ (by decide)
          have htk_ := (show (∀ j : Nat, (j : Int) < u4_ → zg N5_ (d_ + 27) j = tkv (zrr P_ T_ (zCo P_ d_ Mz) (gFn T_ j)) a0_ a1_) by first | with_reducible assumption | assumption)
          have hco_ := zCo_f (P := P_) hf_N5_ (by decide)
          refine zw_iload (pc := 39) (i := 4) (x := Int32.ofInt u4_) rfl (zdal_p dlB_T_take_127 (i := 23) rfl) ?_
          refine zw_aload_n (pc := 41) (n := 0) (x := 0) rfl (zdal_p dlB_T_take_128 (i := 0) rfl) ?_
          refine zw_getF (pc := 42) f_T_28 rfl ((hf_N5_.w hW).ka (o := 0) (by decide)) (hf_N5_.now hnow) (zdal_p dlB_T_take_128 (i := 1) rfl) ?_
          refine zw_getF (pc := 45) f_T_85 rfl ((hf_N5_.w hW).kr (o := 0) (by decide)) ((hf_N5_.w hW).lr (o := 0) (s := 1) (r := 12) (by decide)) (zdal_p dlB_T_take_128 (i := 2) rfl) ?_
          refine zk_getI (pc := 48) f_T_94 rfl ((hf_N5_.w hW).kr (o := 12) (by decide)) (zdal_p dlB_T_take_128 (i := 3) rfl) ?_
          rw [hf_N5_.e (by decide)]
          refine zr_icmp_ge (pc := 51) (tgt := 103) ⟨hu4_a, hu4_b⟩ ⟨(ze_r Mz (d_ + 12) 7).1, (ze_r Mz (d_ + 12) 7).2⟩ (by decide) (zdal_p dlB_T_take_128 (i := 4) rfl) (fun hc_51 => ?_) (fun hc_51 => ?_)
          · skip
            have hska_ := c14_
            have hnma_ := c15_
            refine zw_aload_n (pc := 103) (n := 0) (x := 0) rfl (zdal_p dlB_T_take_129 (i := 2) rfl) ?_
            refine zw_getF (pc := 104) f_T_28 rfl ((hf_N5_.w hW).ka (o := 0) (by decide)) (hf_N5_.now hnow) (zdal_p dlB_T_take_129 (i := 3) rfl) ?_
            refine zw_getF (pc := 107) f_T_169 rfl ((hf_N5_.w hW).kr (o := 0) (by decide)) ((hf_N5_.w hW).lr (o := 0) (s := 2) (r := 23) (by decide)) (zdal_p dlB_T_take_129 (i := 4) rfl) ?_
            refine zw_bipush (pc := 110) (v := Int32.ofInt 39) (by decide) (zdal_p dlB_T_take_129 (i := 5) rfl) ?_
            refine zk_callV hf_N5_.x (pc := 112) [.int (Int32.ofInt 39)] [] l_T_296 (u_Sums_solveS l d_ N5_ (hf_N5_.w hW) 39 (by decide) (by decide) (gF T_).length (gmkI T_) hTA_ c13_ (show 0 ≤ 39 by first | with_reducible assumption | assumption | omega) (show 39 ≤ 39 by first | with_reducible assumption | assumption | omega) (show (∀ j : Nat, j < (gF T_).length → -1000000 ≤ zg N5_ (d_ + 27) j ∧ zg N5_ (d_ + 27) j ≤ 1000000) by exact fun j_ hj_ => by rw [htk_ j_ (by omega)]; have h_ := tkv_b hP6_ (hpt_ j_ hj_) htc_; omega)) rfl rfl ((hf_N5_.w hW).kr (o := 23) (by decide)) (by decide) (by decide) (Nat.le_of_ble_eq_true rfl) (zdal_p dlB_T_take_129 (i := 6) rfl) ?_
            rintro _ N16_ ⟨rfl, hsN16_, hp0_N16_⟩
            replace hp0_N16_ : zSh (gF T_).length d_ N5_ N16_ 39 (zsq (gF T_).length (gmkI T_) (fun j_ => zg N5_ (d_ + 27) j_)) := hp0_N16_
            have hf_N16_ : zFc d_ [] [] [(0, 7), (0, 8)] [25, 27] Mz N16_ := hf_N5_.tr hsN16_ (by decide) (by decide) (by decide) (by decide)
            have eD12_7_N16_ : ze N16_ (d_ + 12) 7 = ze N5_ (d_ + 12) 7 := hsN16_.e (by decide)
            have c18_ : zMvK mv_ P_ d_ N16_ := zMvK.fr (hf_N5_.w hW) hsN16_ c10_ (by decide)
            have c19_ : zGc mv_ P_ T_ d_ N16_ := zGc.fr (hf_N5_.w hW) hsN16_ c11_ (by decide)
            have c20_ : zFir T_ d_ N16_ := zFir.fr (hf_N5_.w hW) hsN16_ c12_ (by decide)
            have c21_ : zKm (gF T_).length (gmkI T_) d_ N16_ := zKm.fr (hf_N5_.w hW) hsN16_ c13_ (by decide)
            show zW l m_T_take (zn Mz + 0, zw Mz + 0) N16_ 115 [some (.ref 0), some (.int (Int32.ofInt a0_)), some (.int (Int32.ofInt a1_)), some (.int (Int32.ofInt u1_)), some (.int (Int32.ofInt u4_))] [] _
            have hsh_ := hp0_N16_
            have hlw_ : zLow d_ N5_ N16_ := zLow.sh hsh_ (by omega)
            have hsk1_ := zSK.fr hsN16_ hlw_ hF27_ hska_ (by decide)
            have hnm1_ := hnma_.l hsN16_ hlw_ hF27_ (by decide)
            have hn39_ := zSh_n (F := (gF T_).length) (by omega) hsh_
            have hpc_ : ∀ k_ : Nat, k_ < (gF T_).length → zvc (gF T_).length d_ N16_ 39 k_ = (zsq (gF T_).length (gmkI T_) (fun j_ => tkv (zrr P_ T_ (zCo P_ d_ Mz) (gFn T_ j_)) a0_ a1_)) k_ := fun k_ hk_ => by rw [hn39_]; show (if k_ < (gF T_).length then _ else _) = _; rw [if_pos hk_]; exact zsq_cc (fun j_ hj_ => htk_ j_ (by omega)) k_ hk_
            refine zw_aload_n (pc := 115) (n := 0) (x := 0) rfl (zdal_p dlB_T_take_129 (i := 7) rfl) ?_
            refine zw_getF (pc := 116) f_T_28 rfl ((hf_N16_.w hW).ka (o := 0) (by decide)) (hf_N16_.now hnow) (zdal_p dlB_T_take_129 (i := 8) rfl) ?_
            refine zw_bipush (pc := 119) (v := Int32.ofInt 39) (by decide) (zdal_p dlB_T_take_129 (i := 9) rfl) ?_
            refine zk_callV hf_N16_.x (pc := 121) [.int (Int32.ofInt 39)] [] l_T_284 (u_Troupe_becomeS l d_ N16_ (hf_N16_.w hW) 39 (by decide) (by decide) (gF T_).length (gmkI T_) hTA_ s_ c21_ hsk1_ (show ((1 ≤ 39 ∧ 39 ≤ 8) ∨ (21 ≤ 39 ∧ 39 ≤ 39)) by first | with_reducible assumption | assumption | omega)) rfl rfl ((hf_N16_.w hW).kr (o := 0) (by decide)) (by decide) (by decide) (Nat.le_of_ble_eq_true rfl) (zdal_p dlB_T_take_129 (i := 10) rfl) ?_
            rintro _ N22_ ⟨rfl, hsN22_, ⟨hp0_N22_, hp1_N22_⟩⟩
            have hf_N22_ : zFc d_ [] [] [(0, 7), (0, 8)] [25, 27] Mz N22_ := hf_N16_.tr hsN22_ (by decide) (by decide) (by decide) (by decide)
            have eD12_7_N22_ : ze N22_ (d_ + 12) 7 = ze N16_ (d_ + 12) 7 := hsN22_.e (by decide)
            have c24_ : zMvK mv_ P_ d_ N22_ := zMvK.fr (hf_N16_.w hW) hsN22_ c18_ (by decide)
            have c25_ : zGc mv_ P_ T_ d_ N22_ := zGc.fr (hf_N16_.w hW) hsN22_ c19_ (by decide)
            have c26_ : zFir T_ d_ N22_ := zFir.fr (hf_N16_.w hW) hsN22_ c20_ (by decide)
            have c27_ : zKm (gF T_).length (gmkI T_) d_ N22_ := zKm.fr (hf_N16_.w hW) hsN22_ c21_ (by decide)
            show zW l m_T_take (zn Mz + 0, zw Mz + 0) N22_ 124 [some (.ref 0), some (.int (Int32.ofInt a0_)), some (.int (Int32.ofInt a1_)), some (.int (Int32.ofInt u1_)), some (.int (Int32.ofInt u4_))] [] _
            have hsk2_ := (hp0_N22_).pc hpc_
            have hnm2_ := zNm.md hsN22_ hp1_N22_ hF27_ hnm1_ (by decide)
            refine zw_aload_n (pc := 124) (n := 0) (x := 0) rfl (zdal_p dlB_T_take_129 (i := 11) rfl) ?_
            refine zw_getF (pc := 125) f_T_28 rfl ((hf_N22_.w hW).ka (o := 0) (by decide)) (hf_N22_.now hnow) (zdal_p dlB_T_take_129 (i := 12) rfl) ?_
            refine zw_getF (pc := 128) f_T_169 rfl ((hf_N22_.w hW).kr (o := 0) (by decide)) ((hf_N22_.w hW).lr (o := 0) (s := 2) (r := 23) (by decide)) (zdal_p dlB_T_take_129 (i := 13) rfl) ?_
            refine zw_iconst (pc := 131) (v := Int32.ofInt 0) (by decide) (zdal_p dlB_T_take_129 (i := 14) rfl) ?_
            refine zw_iconst (pc := 132) (v := Int32.ofInt 0) (by decide) (zdal_p dlB_T_take_129 (i := 15) rfl) ?_
            refine zk_callV hf_N22_.x (pc := 133) [.int (Int32.ofInt 0), .int (Int32.ofInt 0)] [] l_T_250 (u_Sums_markOf l d_ N22_ (hf_N22_.w hW) 0 (by decide) (by decide) 0 (by decide) (by decide) (gF T_).length (gmkI T_) hTA_ c27_ (show 0 ≤ 0 by first | with_reducible assumption | assumption | omega) (show 0 ≤ 39 by first | with_reducible assumption | assumption | omega) (show 0 ≤ 0 by first | with_reducible assumption | assumption | omega) (show (0 : Int) < (gF T_).length by first | with_reducible assumption | assumption | omega)) rfl rfl ((hf_N22_.w hW).kr (o := 23) (by decide)) (by decide) (by decide) (Nat.le_of_ble_eq_true rfl) (zdal_p dlB_T_take_129 (i := 16) rfl) ?_
            rintro _ N28_ ⟨v29_, rfl, ⟨hv29_a, hv29_b⟩, hsN28_, hp0_N28_⟩
            obtain rfl := hsN28_.eq.symm
            replace hp0_N28_ : Int64.ofInt v29_ = Int64.ofInt (zmq (gF T_).length (gmkI T_) (zvc (gF T_).length d_ N22_ 0) (0 : Int).toNat) := hp0_N28_
            show zW l m_T_take (zn Mz + 0, zw Mz + 0) N22_ 136 [some (.ref 0), some (.int (Int32.ofInt a0_)), some (.int (Int32.ofInt a1_)), some (.int (Int32.ofInt u1_)), some (.int (Int32.ofInt u4_))] [.long (Int64.ofInt v29_)] _
            have hq_ := hp0_N28_
            have he_ : zmq (gF T_).length (gmkI T_) (zvc (gF T_).length d_ N22_ 0) (0 : Int).toNat = tkv (zrr P_ T_ (zCo P_ d_ Mz) (gFn T_ 0)) a0_ a1_ := (zmq_c (fun k_ hk_ => hsk2_.v k_ hk_) _).trans (gx_take_0 p1_.1 hpm_ hP6_ (fun m_ hm_ q_ hq_ => p1_.lt hP6_ hm_ hq_) htc_ hTA_ (j := 0) (by omega))
            have hb0_ := tkv_b hP6_ (hpt_ 0 (by omega)) htc_
            have hv0_ : v29_ = tkv (zrr P_ T_ (zCo P_ d_ Mz) (gFn T_ 0)) a0_ a1_ := z64q ⟨by omega, by omega⟩ ⟨by omega, by omega⟩ (hq_.trans (congrArg Int64.ofInt he_))
            refine zr_l2i (pc := 136) (zdal_p dlB_T_take_129 (i := 17) rfl) ?_
            refine zk_nmW (fun v30_ hv30_ hv30_w => ?_)
            obtain ⟨hv30_a, hv30_b⟩ := hv30_
            have hr0_ : v30_ = tkv (zrr P_ T_ (zCo P_ d_ Mz) (gFn T_ 0)) a0_ a1_ := (z32i ⟨by omega, by omega⟩ ⟨by omega, by omega⟩).mp (hv30_w.2.trans (congrArg Int32.ofInt hv0_))
            exact zk_iret (pc := 137) (ty := .int) rfl rfl ⟨by omega, by omega⟩ hf_N22_ ⟨(show (((a0_ = 0 ∨ ((a0_ = 1 ∨ a0_ = 2) ∧ 0 ≤ a1_ ∧ a1_ ≤ 6)) ∧ ∃ c_ : Nat → Nat, gTb mv_ c_ T_ ∧ zSK (gF T_).length (zpush s_ (zsq (gF T_).length (gmkI T_) (fun j_ => tkv (zrr P_ T_ c_ (gFn T_ j_)) a0_ a1_))) d_ N22_ ∧ v30_ = tkv (zrr P_ T_ c_ (gFn T_ 0)) a0_ a1_) ∨ (¬ (a0_ = 0 ∨ ((a0_ = 1 ∨ a0_ = 2) ∧ 0 ≤ a1_ ∧ a1_ ≤ 6)) ∧ zSK (gF T_).length s_ d_ N22_ ∧ v30_ = (-1 : Int))) by exact Or.inl ⟨htc_, _, p1_.1, hsk2_, hr0_⟩), hnm2_⟩ (zdal_p dlB_T_take_129 (i := 18) rfl)
          · skip
            refine zw_aload_n (pc := 54) (n := 0) (x := 0) rfl (zdal_p dlB_T_take_128 (i := 5) rfl) ?_
            refine zw_getF (pc := 55) f_T_28 rfl ((hf_N5_.w hW).ka (o := 0) (by decide)) (hf_N5_.now hnow) (zdal_p dlB_T_take_128 (i := 6) rfl) ?_
            refine zw_getF (pc := 58) f_T_169 rfl ((hf_N5_.w hW).kr (o := 0) (by decide)) ((hf_N5_.w hW).lr (o := 0) (s := 2) (r := 23) (by decide)) (zdal_p dlB_T_take_128 (i := 7) rfl) ?_
            refine zw_getF (pc := 61) f_T_262 rfl ((hf_N5_.w hW).kr (o := 23) (by decide)) ((hf_N5_.w hW).lr (o := 23) (s := 2) (r := 26) (by decide)) (zdal_p dlB_T_take_128 (i := 8) rfl) ?_
            refine zw_iload (pc := 64) (i := 4) (x := Int32.ofInt u4_) rfl (zdal_p dlB_T_take_128 (i := 9) rfl) ?_
            refine zw_aload_n (pc := 66) (n := 0) (x := 0) rfl (zdal_p dlB_T_take_128 (i := 10) rfl) ?_
            refine zw_getF (pc := 67) f_T_28 rfl ((hf_N5_.w hW).ka (o := 0) (by decide)) (hf_N5_.now hnow) (zdal_p dlB_T_take_128 (i := 11) rfl) ?_
            refine zw_getF (pc := 70) f_T_61 rfl ((hf_N5_.w hW).kr (o := 0) (by decide)) ((hf_N5_.w hW).lr (o := 0) (s := 0) (r := 1) (by decide)) (zdal_p dlB_T_take_128 (i := 12) rfl) ?_
            refine zw_iload_n (pc := 73) (n := 1) (x := Int32.ofInt a0_) rfl (zdal_p dlB_T_take_128 (i := 13) rfl) ?_
            refine zw_iload_n (pc := 74) (n := 2) (x := Int32.ofInt a1_) rfl (zdal_p dlB_T_take_128 (i := 14) rfl) ?_
            refine zw_aload_n (pc := 75) (n := 0) (x := 0) rfl (zdal_p dlB_T_take_128 (i := 15) rfl) ?_
            refine zw_getF (pc := 76) f_T_28 rfl ((hf_N5_.w hW).ka (o := 0) (by decide)) (hf_N5_.now hnow) (zdal_p dlB_T_take_128 (i := 16) rfl) ?_
            refine zw_getF (pc := 79) f_T_85 rfl ((hf_N5_.w hW).kr (o := 0) (by decide)) ((hf_N5_.w hW).lr (o := 0) (s := 1) (r := 12) (by decide)) (zdal_p dlB_T_take_128 (i := 17) rfl) ?_
            refine zw_getF (pc := 82) f_T_146 rfl ((hf_N5_.w hW).kr (o := 12) (by decide)) ((hf_N5_.w hW).lr (o := 12) (s := 4) (r := 19) (by decide)) (zdal_p dlB_T_take_128 (i := 18) rfl) ?_
            refine zw_iload (pc := 85) (i := 4) (x := Int32.ofInt u4_) rfl (zdal_p dlB_T_take_128 (i := 19) rfl) ?_
            refine zk_at hf_N5_.x (pc := 87) l_T_118 ((hf_N5_.w hW).kr (o := 19) (by decide)) ((hf_N5_.w hW).lr (o := 19) (s := 0) (r := 20) (by decide)) ((hf_N5_.w hW).rr (o := 20) (t := 1) (n := 27) (by decide)) (by decide) (by omega) (by omega) (by decide) (Nat.le_of_ble_eq_true rfl) (zdal_p dlB_T_take_128 (i := 20) rfl) (fun v31_ hv31_ hv31_a hv31_b => ?_)
            rw [hf_N5_.r (by decide)] at hv31_
            have hfv_ := hv31_
            have hfw_ : v31_ = ((gFn T_ (u4_).toNat : Nat) : Int) := hfv_.trans (p2_.2 _ (by omega))
            have hft_ : (v31_).toNat = gFn T_ (u4_).toNat := by omega
            have hfb_ := gS_b hO_ (hO_.2.2.1.2.1 _ (gFn_m (T := T_) (i := (u4_).toNat) (by omega))).1
            refine zk_callV hf_N5_.x (pc := 90) [.int (Int32.ofInt a0_), .int (Int32.ofInt a1_), .int (Int32.ofInt v31_)] [.int (Int32.ofInt u4_), .ref (d_ + 26)] l_T_287 (u_Group_countKeptS l d_ N5_ (hf_N5_.w hW) a0_ ha0_a ha0_b a1_ ha1_a ha1_b v31_ hv31_a hv31_b T_ hT_ P_ mv_ c10_ c11_ (show 0 ≤ v31_ by first | with_reducible assumption | assumption | omega) (show v31_ < 16777216 by first | with_reducible assumption | assumption | omega) (show zPt (zrch (gN T_) (zCo P_ d_ N5_) (v31_).toNat) P_ by rw [hft_, hco_]; exact hpt_ _ (by omega)) (show (a0_ = 0 ∨ ((a0_ = 1 ∨ a0_ = 2) ∧ 0 ≤ a1_ ∧ a1_ ≤ 6)) by first | with_reducible assumption | assumption | omega)) rfl rfl ((hf_N5_.w hW).kr (o := 1) (by decide)) (by decide) (by decide) (Nat.le_of_ble_eq_true rfl) (zdal_p dlB_T_take_128 (i := 21) rfl) ?_
            rintro _ N32_ ⟨v33_, rfl, ⟨hv33_a, hv33_b⟩, hsN32_, hp0_N32_⟩
            obtain rfl := hsN32_.eq.symm
            replace hp0_N32_ : v33_ = tkv (zrr P_ T_ (zCo P_ d_ N5_) (v31_).toNat) a0_ a1_ := hp0_N32_
            show zW l m_T_take (zn Mz + 0, zw Mz + 0) N5_ 93 [some (.ref 0), some (.int (Int32.ofInt a0_)), some (.int (Int32.ofInt a1_)), some (.int (Int32.ofInt u1_)), some (.int (Int32.ofInt u4_))] [.int (Int32.ofInt v33_), .int (Int32.ofInt u4_), .ref (d_ + 26)] _
            have hx_ := hp0_N32_
            rw [hft_, hco_] at hx_
            have hxb_ := tkv_b hP6_ (hpt_ (u4_).toNat (by omega)) htc_
            rw [← hx_] at hxb_
            refine zr_i2l (pc := 93) ⟨hv33_a, hv33_b⟩ (zdal_p dlB_T_take_128 (i := 22) rfl) ?_
            refine zk_stJ hf_N5_.x (pc := 94) (o := 27) (by decide) l_T_290 ((hf_N5_.w hW).kr (o := 26) (by decide)) ((hf_N5_.w hW).lr (o := 26) (s := 0) (r := 27) (by decide)) ((hf_N5_.w hW).rr (o := 27) (t := 2) (n := 27) (by decide)) (by decide) (by omega) (by omega) (by decide) (Nat.le_of_ble_eq_true rfl) (zdal_p dlB_T_take_128 (i := 23) rfl) (fun N34_ hN34_ hsN34_ => ?_)
            have hf_N34_ : zFc d_ [] [] [(0, 7), (0, 8)] [25, 27] Mz N34_ := hf_N5_.tr hsN34_ (by decide) (by decide) (by decide) (by decide)
            have hb0_N34_ : zFc d_ [] [] [] [27] Mz N34_ := hs6_.tr hsN34_ (by decide) (by decide) (by decide) (by decide)
            have eD12_7_N34_ : ze N34_ (d_ + 12) 7 = ze N5_ (d_ + 12) 7 := hsN34_.e (by decide)
            have c35_ : zMvK mv_ P_ d_ N34_ := zMvK.fr (hf_N5_.w hW) hsN34_ c10_ (by decide)
            have c36_ : zGc mv_ P_ T_ d_ N34_ := zGc.fr (hf_N5_.w hW) hsN34_ c11_ (by decide)
            have c37_ : zFir T_ d_ N34_ := zFir.fr (hf_N5_.w hW) hsN34_ c12_ (by decide)
            have c38_ : zKm (gF T_).length (gmkI T_) d_ N34_ := zKm.fr (hf_N5_.w hW) hsN34_ c13_ (by decide)
            have c39_ : zSK (gF T_).length s_ d_ N34_ := zSKc.fr (hf_N5_.w hW) hsN34_ c14_ (by decide)
            have c40_ : zNm nm_ (gF T_).length (gmkI T_) d_ N34_ := zNm.fr (hf_N5_.w hW) hsN34_ c15_ (by decide)
            have htn_ : (∀ j : Nat, (j : Int) < u4_ + 1 → zg N34_ (d_ + 27) j = tkv (zrr P_ T_ (zCo P_ d_ Mz) (gFn T_ j)) a0_ a1_) := fun j_ hj_ => by by_cases g_ : (j_ : Int) = u4_; (rw [show j_ = (u4_).toNat by omega, zs_getJ hN34_ ⟨by omega, by omega⟩]; exact hx_); (rw [zs_othJ hN34_ (by omega)]; exact htk_ j_ (by omega))
            refine zr_iinc (pc := 97) (i := 4) (a := u4_) (n := 1) (L2 := [some (.ref 0), some (.int (Int32.ofInt a0_)), some (.int (Int32.ofInt a1_)), some (.int (Int32.ofInt u1_)), some (.int (Int32.ofInt (u4_ + 1)))]) rfl (by decide) rfl (zdal_p dlB_T_take_129 (i := 0) rfl) ?_
            refine zw_goto (pc := 100) (tgt := 39) (by decide) (zdal_p dlB_T_take_129 (i := 1) rfl) ?_
            exact ih_39 (u4_ + 1) (by omega) (by omega) N34_ hb0_N34_ (show 0 ≤ (u4_ + 1) by first | with_reducible assumption | assumption | omega) (show (u4_ + 1) ≤ ((gF T_).length : Int) by first | with_reducible assumption | assumption | omega) (show (∀ j : Nat, (j : Int) < (u4_ + 1) → zg N34_ (d_ + 27) j = tkv (zrr P_ T_ (zCo P_ d_ Mz) (gFn T_ j)) a0_ a1_) by exact htn_) (by omega)
      exact lp_39 _ 0 (by decide) (by decide) Mz zFc.rf (show 0 ≤ (0 : Int) by first | with_reducible assumption | assumption | omega) (show (0 : Int) ≤ ((gF T_).length : Int) by first | with_reducible assumption | assumption | omega) (show (∀ j : Nat, (j : Int) < (0 : Int) → zg Mz (d_ + 27) j = tkv (zrr P_ T_ (zCo P_ d_ Mz) (gFn T_ j)) a0_ a1_) by exact fun j_ hj_ => absurd hj_ (by omega)) (Nat.lt_succ_self _)
    refine zr_if_eq (pc := 17) (tgt := 36) ⟨ha0_a, ha0_b⟩ (by decide) (zdal_p dlB_T_take_127 (i := 10) rfl) (fun hc_17 => ?_) (fun hc_17 => ?_)
    · skip
      exact j_36 (show (a0_ = 0 ∨ ((a0_ = 1 ∨ a0_ = 2) ∧ 0 ≤ a1_ ∧ a1_ ≤ 6)) by first | with_reducible assumption | assumption | omega)
    · skip
      refine zw_iload_n (pc := 20) (n := 3) (x := Int32.ofInt u1_) rfl (zdal_p dlB_T_take_127 (i := 11) rfl) ?_
      refine zr_if_eq (pc := 21) (tgt := 34) ⟨hu1_a, hu1_b⟩ (by decide) (zdal_p dlB_T_take_127 (i := 12) rfl) (fun hc_21 => ?_) (fun hc_21 => ?_)
      · skip
        refine zw_iconst (pc := 34) (v := Int32.ofInt (-1)) (by decide) (zdal_p dlB_T_take_127 (i := 19) rfl) ?_
        exact zk_iret (pc := 35) (ty := .int) rfl rfl ⟨by omega, by omega⟩ hf ⟨(show (((a0_ = 0 ∨ ((a0_ = 1 ∨ a0_ = 2) ∧ 0 ≤ a1_ ∧ a1_ ≤ 6)) ∧ ∃ c_ : Nat → Nat, gTb mv_ c_ T_ ∧ zSK (gF T_).length (zpush s_ (zsq (gF T_).length (gmkI T_) (fun j_ => tkv (zrr P_ T_ c_ (gFn T_ j_)) a0_ a1_))) d_ Mz ∧ ((-1)) = tkv (zrr P_ T_ c_ (gFn T_ 0)) a0_ a1_) ∨ (¬ (a0_ = 0 ∨ ((a0_ = 1 ∨ a0_ = 2) ∧ 0 ≤ a1_ ∧ a1_ ≤ 6)) ∧ zSK (gF T_).length s_ d_ Mz ∧ ((-1)) = (-1 : Int))) by exact Or.inr ⟨by omega, p4_, rfl⟩), p5_⟩ (zdal_p dlB_T_take_127 (i := 20) rfl)
      · skip
        refine zw_iload_n (pc := 24) (n := 1) (x := Int32.ofInt a0_) rfl (zdal_p dlB_T_take_127 (i := 13) rfl) ?_
        refine zw_iconst (pc := 25) (v := Int32.ofInt 1) (by decide) (zdal_p dlB_T_take_127 (i := 14) rfl) ?_
        refine zr_icmp_eq (pc := 26) (tgt := 36) ⟨ha0_a, ha0_b⟩ ⟨(by decide), (by decide)⟩ (by decide) (zdal_p dlB_T_take_127 (i := 15) rfl) (fun hc_26 => ?_) (fun hc_26 => ?_)
        · skip
          exact j_36 (show (a0_ = 0 ∨ ((a0_ = 1 ∨ a0_ = 2) ∧ 0 ≤ a1_ ∧ a1_ ≤ 6)) by first | with_reducible assumption | assumption | omega)
        · skip
          refine zw_iload_n (pc := 29) (n := 1) (x := Int32.ofInt a0_) rfl (zdal_p dlB_T_take_127 (i := 16) rfl) ?_
          refine zw_iconst (pc := 30) (v := Int32.ofInt 2) (by decide) (zdal_p dlB_T_take_127 (i := 17) rfl) ?_
          refine zr_icmp_eq (pc := 31) (tgt := 36) ⟨ha0_a, ha0_b⟩ ⟨(by decide), (by decide)⟩ (by decide) (zdal_p dlB_T_take_127 (i := 18) rfl) (fun hc_31 => ?_) (fun hc_31 => ?_)
          · skip
            exact j_36 (show (a0_ = 0 ∨ ((a0_ = 1 ∨ a0_ = 2) ∧ 0 ≤ a1_ ∧ a1_ ≤ 6)) by first | with_reducible assumption | assumption | omega)
          · skip
            refine zw_iconst (pc := 34) (v := Int32.ofInt (-1)) (by decide) (zdal_p dlB_T_take_127 (i := 19) rfl) ?_
            exact zk_iret (pc := 35) (ty := .int) rfl rfl ⟨by omega, by omega⟩ hf ⟨(show (((a0_ = 0 ∨ ((a0_ = 1 ∨ a0_ = 2) ∧ 0 ≤ a1_ ∧ a1_ ≤ 6)) ∧ ∃ c_ : Nat → Nat, gTb mv_ c_ T_ ∧ zSK (gF T_).length (zpush s_ (zsq (gF T_).length (gmkI T_) (fun j_ => tkv (zrr P_ T_ c_ (gFn T_ j_)) a0_ a1_))) d_ Mz ∧ ((-1)) = tkv (zrr P_ T_ c_ (gFn T_ 0)) a0_ a1_) ∨ (¬ (a0_ = 0 ∨ ((a0_ = 1 ∨ a0_ = 2) ∧ 0 ≤ a1_ ∧ a1_ ≤ 6)) ∧ zSK (gF T_).length s_ d_ Mz ∧ ((-1)) = (-1 : Int))) by exact Or.inr ⟨by omega, p4_, rfl⟩), p5_⟩ (zdal_p dlB_T_take_127 (i := 20) rfl)
  refine zr_if_lt (pc := 1) (tgt := 14) ⟨ha1_a, ha1_b⟩ (by decide) (zdal_p dlB_T_take_127 (i := 1) rfl) (fun hc_1 => ?_) (fun hc_1 => ?_)
  · skip
    refine zw_iconst (pc := 14) (v := Int32.ofInt 0) (by decide) (zdal_p dlB_T_take_127 (i := 7) rfl) ?_
    exact j_15 0 (by decide) (by decide) (by omega) (show (((0 : Int) = 1 ∧ 0 ≤ a1_ ∧ a1_ ≤ 6) ∨ ((0 : Int) = 0 ∧ ¬ (0 ≤ a1_ ∧ a1_ ≤ 6))) by first | with_reducible assumption | assumption | omega)
  · skip
    refine zw_iload_n (pc := 4) (n := 2) (x := Int32.ofInt a1_) rfl (zdal_p dlB_T_take_127 (i := 2) rfl) ?_
    refine zw_bipush (pc := 5) (v := Int32.ofInt 6) (by decide) (zdal_p dlB_T_take_127 (i := 3) rfl) ?_
    refine zr_icmp_gt (pc := 7) (tgt := 14) ⟨ha1_a, ha1_b⟩ ⟨(by decide), (by decide)⟩ (by decide) (zdal_p dlB_T_take_127 (i := 4) rfl) (fun hc_7 => ?_) (fun hc_7 => ?_)
    · skip
      refine zw_iconst (pc := 14) (v := Int32.ofInt 0) (by decide) (zdal_p dlB_T_take_127 (i := 7) rfl) ?_
      exact j_15 0 (by decide) (by decide) (by omega) (show (((0 : Int) = 1 ∧ 0 ≤ a1_ ∧ a1_ ≤ 6) ∨ ((0 : Int) = 0 ∧ ¬ (0 ≤ a1_ ∧ a1_ ≤ 6))) by first | with_reducible assumption | assumption | omega)
    · skip
      refine zw_iconst (pc := 10) (v := Int32.ofInt 1) (by decide) (zdal_p dlB_T_take_127 (i := 5) rfl) ?_
      refine zw_goto (pc := 11) (tgt := 15) (by decide) (zdal_p dlB_T_take_127 (i := 6) rfl) ?_
      exact j_15 1 (by decide) (by decide) (by omega) (show (((1 : Int) = 1 ∧ 0 ≤ a1_ ∧ a1_ ≤ 6) ∨ ((1 : Int) = 0 ∧ ¬ (0 ≤ a1_ ∧ a1_ ≤ 6))) by first | with_reducible assumption | assumption | omega)
