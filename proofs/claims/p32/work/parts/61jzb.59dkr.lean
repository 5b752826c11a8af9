set_option maxHeartbeats 4000000 in
theorem u_T_localG (l : Launch) (d_ : Nat) (Mz : zMem) (hW : zKW d_ Mz) (hnow : zf Mz 0 2 = some (d_ + 0)) (a0_ : Int) (ha0_a : -2147483648 ≤ a0_) (ha0_b : a0_ < 2147483648) (a1_ : Int) (ha1_a : -2147483648 ≤ a1_) (ha1_b : a1_ < 2147483648) (a2_ : Int) (ha2_a : -2147483648 ≤ a2_) (ha2_b : a2_ < 2147483648) (a3_ : Int) (ha3_a : -2147483648 ≤ a3_) (ha3_b : a3_ < 2147483648) (T_ : zGT) (hT_ : T_ ∈ gTabs) (hGr_ : gGr T_) (p0_ : zTt T_ d_ Mz) (p1_ : zFir T_ d_ Mz) (p2_ : zSbK T_ d_ Mz) (p3_ : zKm (gF T_).length (gmkI T_) d_ Mz) : zC l m_T_local 0 0 [.ref 0, .int (Int32.ofInt a0_), .int (Int32.ofInt a1_), .int (Int32.ofInt a2_), .int (Int32.ofInt a3_)] Mz (zqcI d_ [] [] [] [25, 27] Mz (fun v N => ((((a0_ = 2 ∨ a0_ = 3 ∨ a0_ = 5) ∧ 0 ≤ a1_ ∧ a1_ < ((gF T_).length : Int) ∧ 0 ≤ a2_ ∧ a2_ < ((gF T_).length : Int) ∧ (a3_ = 0 ∨ a3_ = 1) ∧ zfPe T_ (zBlk T_ (a1_).toNat (a0_).toNat) (a2_).toNat a3_ v) ∨ (¬ ((a0_ = 2 ∨ a0_ = 3 ∨ a0_ = 5) ∧ 0 ≤ a1_ ∧ a1_ < ((gF T_).length : Int) ∧ 0 ≤ a2_ ∧ a2_ < ((gF T_).length : Int) ∧ (a3_ = 0 ∨ a3_ = 1)) ∧ v = (-1000000 : Int)))))) := by
  refine zC_of (L0 := [some (.ref 0), some (.int (Int32.ofInt a0_)), some (.int (Int32.ofInt a1_)), some (.int (Int32.ofInt a2_)), some (.int (Int32.ofInt a3_))]) md_T_local (Nat.le_of_ble_eq_true rfl) rfl ?_ zQ0
  have hf : zFc d_ [] [] [] [25, 27] Mz Mz := zFc.rf
  have r_D1_7 := ze_r Mz (d_ + 1) 7
  have r_D12_7 := ze_r Mz (d_ + 12) 7
  have hO_ := gTabs_ok T_ hT_
  have hG_ := hO_.1
  have hn24_ := hG_.2.1
  have hn1_ := hG_.1
  have hsz_ := p0_.1
  have hfl_ := p1_.1
  have hTA_ := gT_zTA hT_
  obtain ⟨⟨hF1_, hF27_⟩, hAr_⟩ := id hTA_
  obtain ⟨-, -, -, -, -, D_, hD_⟩ := gTabs_ex T_ hT_
  refine zw_iload_n (pc := 0) (n := 1) (x := Int32.ofInt a0_) rfl (zdal_p dlB_T_local_77 (i := 0) rfl) ?_
  refine zr_callS hf.x (pc := 1) [.int (Int32.ofInt a0_)] [] l_T_183 (u_T_isPrimeG l d_ Mz (hf.w hW) a0_ ha0_a ha0_b) rfl rfl (by decide) (Nat.le_of_ble_eq_true rfl) (zdal_p dlB_T_local_77 (i := 1) rfl) ?_
  rintro _ N1_ ⟨v2_, rfl, ⟨hv2_a, hv2_b⟩, hsN1_, hp0_N1_⟩
  obtain rfl := hsN1_.eq.symm
  replace hp0_N1_ : ((v2_ = 1 ∧ (a0_ = 2 ∨ a0_ = 3 ∨ a0_ = 5)) ∨ (v2_ = 0 ∧ ¬ (a0_ = 2 ∨ a0_ = 3 ∨ a0_ = 5))) := hp0_N1_
  rcases hp0_N1_ with ⟨rfl, ha1_0_hp0_N1_⟩ | ⟨rfl, ha1_0_hp0_N1_⟩
  · skip
    show zW l m_T_local (zn Mz + 0, zw Mz + 0) Mz 4 [some (.ref 0), some (.int (Int32.ofInt a0_)), some (.int (Int32.ofInt a1_)), some (.int (Int32.ofInt a2_)), some (.int (Int32.ofInt a3_))] [.int (Int32.ofInt 1)] _
    refine zr_if_eq (pc := 4) (tgt := 35) ⟨(by decide), (by decide)⟩ (by decide) (zdal_p dlB_T_local_77 (i := 2) rfl) (fun hc_4 => ?_) (fun hc_4 => ?_)
    · skip
      exact absurd hc_4 (by decide)
    · skip
      refine zw_aload_n (pc := 7) (n := 0) (x := 0) rfl (zdal_p dlB_T_local_77 (i := 3) rfl) ?_
      refine zw_getF (pc := 8) f_T_28 rfl ((hf.w hW).ka (o := 0) (by decide)) (hf.now hnow) (zdal_p dlB_T_local_77 (i := 4) rfl) ?_
      refine zw_getF (pc := 11) f_T_85 rfl ((hf.w hW).kr (o := 0) (by decide)) ((hf.w hW).lr (o := 0) (s := 1) (r := 12) (by decide)) (zdal_p dlB_T_local_77 (i := 5) rfl) ?_
      refine zw_iload_n (pc := 14) (n := 2) (x := Int32.ofInt a1_) rfl (zdal_p dlB_T_local_77 (i := 6) rfl) ?_
      refine zk_callV hf.x (pc := 15) [.int (Int32.ofInt a1_)] [] l_T_143 (u_Sorts_hasSortG l d_ Mz (hf.w hW) a1_ ha1_a ha1_b) rfl rfl ((hf.w hW).kr (o := 12) (by decide)) (by decide) (by decide) (Nat.le_of_ble_eq_true rfl) (zdal_p dlB_T_local_77 (i := 7) rfl) ?_
      rintro _ N3_ ⟨v4_, rfl, ⟨hv4_a, hv4_b⟩, hsN3_, hp0_N3_⟩
      obtain rfl := hsN3_.eq.symm
      replace hp0_N3_ : ((v4_ = 1 ∧ 0 ≤ a1_ ∧ a1_ < ze Mz (d_ + 12) 7) ∨ (v4_ = 0 ∧ (a1_ < 0 ∨ ze Mz (d_ + 12) 7 ≤ a1_))) := hp0_N3_
      rcases hp0_N3_ with ⟨rfl, ha15_0_hp0_N3_, ha15_1_hp0_N3_⟩ | ⟨rfl, ha15_0_hp0_N3_⟩
      · skip
        show zW l m_T_local (zn Mz + 0, zw Mz + 0) Mz 18 [some (.ref 0), some (.int (Int32.ofInt a0_)), some (.int (Int32.ofInt a1_)), some (.int (Int32.ofInt a2_)), some (.int (Int32.ofInt a3_))] [.int (Int32.ofInt 1)] _
        refine zr_if_eq (pc := 18) (tgt := 35) ⟨(by decide), (by decide)⟩ (by decide) (zdal_p dlB_T_local_77 (i := 8) rfl) (fun hc_18 => ?_) (fun hc_18 => ?_)
        · skip
          exact absurd hc_18 (by decide)
        · skip
          refine zw_aload_n (pc := 21) (n := 0) (x := 0) rfl (zdal_p dlB_T_local_77 (i := 9) rfl) ?_
          refine zw_getF (pc := 22) f_T_28 rfl ((hf.w hW).ka (o := 0) (by decide)) (hf.now hnow) (zdal_p dlB_T_local_77 (i := 10) rfl) ?_
          refine zw_getF (pc := 25) f_T_85 rfl ((hf.w hW).kr (o := 0) (by decide)) ((hf.w hW).lr (o := 0) (s := 1) (r := 12) (by decide)) (zdal_p dlB_T_local_77 (i := 11) rfl) ?_
          refine zw_iload_n (pc := 28) (n := 3) (x := Int32.ofInt a2_) rfl (zdal_p dlB_T_local_77 (i := 12) rfl) ?_
          refine zk_callV hf.x (pc := 29) [.int (Int32.ofInt a2_)] [] l_T_143 (u_Sorts_hasSortG l d_ Mz (hf.w hW) a2_ ha2_a ha2_b) rfl rfl ((hf.w hW).kr (o := 12) (by decide)) (by decide) (by decide) (Nat.le_of_ble_eq_true rfl) (zdal_p dlB_T_local_77 (i := 13) rfl) ?_
          rintro _ N5_ ⟨v6_, rfl, ⟨hv6_a, hv6_b⟩, hsN5_, hp0_N5_⟩
          obtain rfl := hsN5_.eq.symm
          replace hp0_N5_ : ((v6_ = 1 ∧ 0 ≤ a2_ ∧ a2_ < ze Mz (d_ + 12) 7) ∨ (v6_ = 0 ∧ (a2_ < 0 ∨ ze Mz (d_ + 12) 7 ≤ a2_))) := hp0_N5_
          rcases hp0_N5_ with ⟨rfl, ha29_0_hp0_N5_, ha29_1_hp0_N5_⟩ | ⟨rfl, ha29_0_hp0_N5_⟩
          · skip
            show zW l m_T_local (zn Mz + 0, zw Mz + 0) Mz 32 [some (.ref 0), some (.int (Int32.ofInt a0_)), some (.int (Int32.ofInt a1_)), some (.int (Int32.ofInt a2_)), some (.int (Int32.ofInt a3_))] [.int (Int32.ofInt 1)] _
            refine zr_if_ne (pc := 32) (tgt := 38) ⟨(by decide), (by decide)⟩ (by decide) (zdal_p dlB_T_local_77 (i := 14) rfl) (fun hc_32 => ?_) (fun hc_32 => ?_)
            · skip
              refine zw_aload_n (pc := 38) (n := 0) (x := 0) rfl (zdal_p dlB_T_local_77 (i := 17) rfl) ?_
              refine zw_aload_n (pc := 39) (n := 0) (x := 0) rfl (zdal_p dlB_T_local_77 (i := 18) rfl) ?_
              refine zw_getF (pc := 40) f_T_28 rfl ((hf.w hW).ka (o := 0) (by decide)) (hf.now hnow) (zdal_p dlB_T_local_77 (i := 19) rfl) ?_
              refine zw_getF (pc := 43) f_T_85 rfl ((hf.w hW).kr (o := 0) (by decide)) ((hf.w hW).lr (o := 0) (s := 1) (r := 12) (by decide)) (zdal_p dlB_T_local_77 (i := 20) rfl) ?_
              refine zw_iload_n (pc := 46) (n := 2) (x := Int32.ofInt a1_) rfl (zdal_p dlB_T_local_77 (i := 21) rfl) ?_
              refine zw_iload_n (pc := 47) (n := 1) (x := Int32.ofInt a0_) rfl (zdal_p dlB_T_local_77 (i := 22) rfl) ?_
              refine zk_callV hf.x (pc := 48) [.int (Int32.ofInt a1_), .int (Int32.ofInt a0_)] [.ref 0] l_T_189 (u_Sorts_blockOfG l d_ Mz (hf.w hW) a1_ ha1_a ha1_b a0_ ha0_a ha0_b T_ hT_ hGr_ p0_ p1_ p2_ (show 0 ≤ a1_ by first | with_reducible assumption | assumption | omega) (show a1_ < ((gF T_).length : Int) by first | with_reducible assumption | assumption | omega) (show (a0_ = 2 ∨ a0_ = 3 ∨ a0_ = 5) by first | with_reducible assumption | assumption | omega)) rfl rfl ((hf.w hW).kr (o := 12) (by decide)) (by decide) (by decide) (Nat.le_of_ble_eq_true rfl) (zdal_p dlB_T_local_77 (i := 23) rfl) ?_
              rintro _ N7_ ⟨v8_, rfl, ⟨hv8_a, hv8_b⟩, hsN7_, hp0_N7_⟩
              obtain rfl := hsN7_.eq.symm
              replace hp0_N7_ : v8_ = ((zbq (zBlk T_ (a1_).toNat (a0_).toNat) (gF T_).length : Nat) : Int) := hp0_N7_
              show zW l m_T_local (zn Mz + 0, zw Mz + 0) Mz 51 [some (.ref 0), some (.int (Int32.ofInt a0_)), some (.int (Int32.ofInt a1_)), some (.int (Int32.ofInt a2_)), some (.int (Int32.ofInt a3_))] [.int (Int32.ofInt v8_), .ref 0] _
              have hbl_ := hp0_N7_
              obtain ⟨u_, hu_, hub_, -⟩ := zPeU_B hT_ hGr_ hD_ (fun k_ => (v8_).toNat.testBit k_ = true)
              have hbt_ : ∀ k_, k_ < (gF T_).length → (((v8_).toNat.testBit k_ = true) ↔ (zBlk T_ (a1_).toNat (a0_).toNat) k_) := fun k_ hk_ => by rw [hbl_, Int.toNat_natCast, zbq_t]; exact ⟨fun q_ => q_.2, fun q_ => ⟨hk_, q_⟩⟩
              refine zw_iload_n (pc := 51) (n := 3) (x := Int32.ofInt a2_) rfl (zdal_p dlB_T_local_78 (i := 0) rfl) ?_
              refine zw_iload (pc := 52) (i := 4) (x := Int32.ofInt a3_) rfl (zdal_p dlB_T_local_78 (i := 1) rfl) ?_
              refine zk_callV hf.x (pc := 54) [.int (Int32.ofInt v8_), .int (Int32.ofInt a2_), .int (Int32.ofInt a3_)] [] l_T_223 (u_T_peakPartG l d_ Mz (hf.w hW) hnow v8_ hv8_a hv8_b a2_ ha2_a ha2_b a3_ ha3_a ha3_b (gF T_).length (gmkI T_) hTA_ (gN T_) hn1_ hn24_ u_ p3_ (show ze Mz (d_ + 1) 7 = (gN T_) by omega) (show 0 ≤ v8_ by omega) (show 0 ≤ a2_ by first | with_reducible assumption | assumption | omega) (show a2_ < (gF T_).length by first | with_reducible assumption | assumption | omega) (show (zPeU (gF T_).length (gmkI T_) (fun k_ => (v8_).toNat.testBit k_ = true) (gN T_) u_ ∧ (∀ k_ : Nat, k_ < (gF T_).length → -1000000 ≤ u_ k_ ∧ u_ k_ ≤ 1000000)) by exact ⟨hu_, hub_⟩)) rfl rfl ((hf.w hW).ka (o := 0) (by decide)) (by decide) (by decide) (Nat.le_of_ble_eq_true rfl) (zdal_p dlB_T_local_78 (i := 2) rfl) ?_
              rintro _ N9_ ⟨v10_, rfl, ⟨hv10_a, hv10_b⟩, hsN9_, hp0_N9_⟩
              replace hp0_N9_ : ((((a3_ = 0 ∨ a3_ = 1) ∧ zPeV (u_ (a2_).toNat) (gN T_) a3_ v10_)) ∨ (¬ (a3_ = 0 ∨ a3_ = 1) ∧ v10_ = (-1000000 : Int))) := hp0_N9_
              have hf_N9_ : zFc d_ [] [] [] [25, 27] Mz N9_ := hf.tr hsN9_ (by decide) (by decide) (by decide) (by decide)
              have eD1_7_N9_ : ze N9_ (d_ + 1) 7 = ze Mz (d_ + 1) 7 := hsN9_.e (by decide)
              have eD12_7_N9_ : ze N9_ (d_ + 12) 7 = ze Mz (d_ + 12) 7 := hsN9_.e (by decide)
              have c11_ : zTt T_ d_ N9_ := zTt.fr (hf.w hW) hsN9_ p0_ (by decide)
              have c12_ : zFir T_ d_ N9_ := zFir.fr (hf.w hW) hsN9_ p1_ (by decide)
              have c13_ : zSbK T_ d_ N9_ := zSbK.fr (hf.w hW) hsN9_ p2_ (by decide)
              have c14_ : zKm (gF T_).length (gmkI T_) d_ N9_ := zKm.fr (hf.w hW) hsN9_ p3_ (by decide)
              show zW l m_T_local (zn Mz + 0, zw Mz + 0) N9_ 57 [some (.ref 0), some (.int (Int32.ofInt a0_)), some (.int (Int32.ofInt a1_)), some (.int (Int32.ofInt a2_)), some (.int (Int32.ofInt a3_))] [.int (Int32.ofInt v10_)] _
              have hpp_ := hp0_N9_
              exact zk_iret (pc := 57) (ty := .int) rfl rfl ⟨by omega, by omega⟩ hf_N9_ (show (((a0_ = 2 ∨ a0_ = 3 ∨ a0_ = 5) ∧ 0 ≤ a1_ ∧ a1_ < ((gF T_).length : Int) ∧ 0 ≤ a2_ ∧ a2_ < ((gF T_).length : Int) ∧ (a3_ = 0 ∨ a3_ = 1) ∧ zfPe T_ (zBlk T_ (a1_).toNat (a0_).toNat) (a2_).toNat a3_ v10_) ∨ (¬ ((a0_ = 2 ∨ a0_ = 3 ∨ a0_ = 5) ∧ 0 ≤ a1_ ∧ a1_ < ((gF T_).length : Int) ∧ 0 ≤ a2_ ∧ a2_ < ((gF T_).length : Int) ∧ (a3_ = 0 ∨ a3_ = 1)) ∧ v10_ = (-1000000 : Int))) by first | exact Or.inr ⟨by omega, rfl⟩ | (rcases hpp_ with ⟨q1_, q2_⟩ | ⟨q1_, q2_⟩; exact Or.inl ⟨by omega, by omega, by omega, by omega, by omega, by omega, zPe_c hbt_ ⟨u_, hu_, q2_⟩⟩; exact Or.inr ⟨by omega, q2_⟩)) (zdal_p dlB_T_local_78 (i := 3) rfl)
            · skip
              exact absurd hc_32 (by decide)
          · skip
            show zW l m_T_local (zn Mz + 0, zw Mz + 0) Mz 32 [some (.ref 0), some (.int (Int32.ofInt a0_)), some (.int (Int32.ofInt a1_)), some (.int (Int32.ofInt a2_)), some (.int (Int32.ofInt a3_))] [.int (Int32.ofInt 0)] _
            refine zr_if_ne (pc := 32) (tgt := 38) ⟨(by decide), (by decide)⟩ (by decide) (zdal_p dlB_T_local_77 (i := 14) rfl) (fun hc_32 => ?_) (fun hc_32 => ?_)
            · skip
              exact absurd hc_32 (by decide)
            · skip
              refine zw_ldc (pc := 35) (v := Int32.ofInt (-1000000)) (by rw [show Int32.ofInt (-1000000) = ((-1000000) : Int32) by decide]; exact k_T_204) (zdal_p dlB_T_local_77 (i := 15) rfl) ?_
              exact zk_iret (pc := 37) (ty := .int) rfl rfl ⟨by omega, by omega⟩ hf (show (((a0_ = 2 ∨ a0_ = 3 ∨ a0_ = 5) ∧ 0 ≤ a1_ ∧ a1_ < ((gF T_).length : Int) ∧ 0 ≤ a2_ ∧ a2_ < ((gF T_).length : Int) ∧ (a3_ = 0 ∨ a3_ = 1) ∧ zfPe T_ (zBlk T_ (a1_).toNat (a0_).toNat) (a2_).toNat a3_ ((-1000000))) ∨ (¬ ((a0_ = 2 ∨ a0_ = 3 ∨ a0_ = 5) ∧ 0 ≤ a1_ ∧ a1_ < ((gF T_).length : Int) ∧ 0 ≤ a2_ ∧ a2_ < ((gF T_).length : Int) ∧ (a3_ = 0 ∨ a3_ = 1)) ∧ ((-1000000)) = (-1000000 : Int))) by first | exact Or.inr ⟨by omega, rfl⟩ | (rcases hpp_ with ⟨q1_, q2_⟩ | ⟨q1_, q2_⟩; exact Or.inl ⟨by omega, by omega, by omega, by omega, by omega, by omega, zPe_c hbt_ ⟨u_, hu_, q2_⟩⟩; exact Or.inr ⟨by omega, q2_⟩)) (zdal_p dlB_T_local_77 (i := 16) rfl)
      · skip
        show zW l m_T_local (zn Mz + 0, zw Mz + 0) Mz 18 [some (.ref 0), some (.int (Int32.ofInt a0_)), some (.int (Int32.ofInt a1_)), some (.int (Int32.ofInt a2_)), some (.int (Int32.ofInt a3_))] [.int (Int32.ofInt 0)] _
        refine zr_if_eq (pc := 18) (tgt := 35) ⟨(by decide), (by decide)⟩ (by decide) (zdal_p dlB_T_local_77 (i := 8) rfl) (fun hc_18 => ?_) (fun hc_18 => ?_)
        · skip
          refine zw_ldc (pc := 35) (v := Int32.ofInt (-1000000)) (by rw [show Int32.ofInt (-1000000) = ((-1000000) : Int32) by decide]; exact k_T_204) (zdal_p dlB_T_local_77 (i := 15) rfl) ?_
          exact zk_iret (pc := 37) (ty := .int) rfl rfl ⟨by omega, by omega⟩ hf (show (((a0_ = 2 ∨ a0_ = 3 ∨ a0_ = 5) ∧ 0 ≤ a1_ ∧ a1_ < ((gF T_).length : Int) ∧ 0 ≤ a2_ ∧ a2_ < ((gF T_).length : Int) ∧ (a3_ = 0 ∨ a3_ = 1) ∧ zfPe T_ (zBlk T_ (a1_).toNat (a0_).toNat) (a2_).toNat a3_ ((-1000000))) ∨ (¬ ((a0_ = 2 ∨ a0_ = 3 ∨ a0_ = 5) ∧ 0 ≤ a1_ ∧ a1_ < ((gF T_).length : Int) ∧ 0 ≤ a2_ ∧ a2_ < ((gF T_).length : Int) ∧ (a3_ = 0 ∨ a3_ = 1)) ∧ ((-1000000)) = (-1000000 : Int))) by first | exact Or.inr ⟨by omega, rfl⟩ | (rcases hpp_ with ⟨q1_, q2_⟩ | ⟨q1_, q2_⟩; exact Or.inl ⟨by omega, by omega, by omega, by omega, by omega, by omega, zPe_c hbt_ ⟨u_, hu_, q2_⟩⟩; exact Or.inr ⟨by omega, q2_⟩)) (zdal_p dlB_T_local_77 (i := 16) rfl)
        · skip
          exact absurd hc_18 (by decide)
  · skip
    show zW l m_T_local (zn Mz + 0, zw Mz + 0) Mz 4 [some (.ref 0), some (.int (Int32.ofInt a0_)), some (.int (Int32.ofInt a1_)), some (.int (Int32.ofInt a2_)), some (.int (Int32.ofInt a3_))] [.int (Int32.ofInt 0)] _
    refine zr_if_eq (pc := 4) (tgt := 35) ⟨(by decide), (by decide)⟩ (by decide) (zdal_p dlB_T_local_77 (i := 2) rfl) (fun hc_4 => ?_) (fun hc_4 => ?_)
    · skip
      refine zw_ldc (pc := 35) (v := Int32.ofInt (-1000000)) (by rw [show Int32.ofInt (-1000000) = ((-1000000) : Int32) by decide]; exact k_T_204) (zdal_p dlB_T_local_77 (i := 15) rfl) ?_
      exact zk_iret (pc := 37) (ty := .int) rfl rfl ⟨by omega, by omega⟩ hf (show (((a0_ = 2 ∨ a0_ = 3 ∨ a0_ = 5) ∧ 0 ≤ a1_ ∧ a1_ < ((gF T_).length : Int) ∧ 0 ≤ a2_ ∧ a2_ < ((gF T_).length : Int) ∧ (a3_ = 0 ∨ a3_ = 1) ∧ zfPe T_ (zBlk T_ (a1_).toNat (a0_).toNat) (a2_).toNat a3_ ((-1000000))) ∨ (¬ ((a0_ = 2 ∨ a0_ = 3 ∨ a0_ = 5) ∧ 0 ≤ a1_ ∧ a1_ < ((gF T_).length : Int) ∧ 0 ≤ a2_ ∧ a2_ < ((gF T_).length : Int) ∧ (a3_ = 0 ∨ a3_ = 1)) ∧ ((-1000000)) = (-1000000 : Int))) by first | exact Or.inr ⟨by omega, rfl⟩ | (rcases hpp_ with ⟨q1_, q2_⟩ | ⟨q1_, q2_⟩; exact Or.inl ⟨by omega, by omega, by omega, by omega, by omega, by omega, zPe_c hbt_ ⟨u_, hu_, q2_⟩⟩; exact Or.inr ⟨by omega, q2_⟩)) (zdal_p dlB_T_local_77 (i := 16) rfl)
    · skip
      exact absurd hc_4 (by decide)
