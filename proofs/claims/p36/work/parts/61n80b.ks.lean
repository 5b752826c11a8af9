set_option maxHeartbeats 4000000 in
theorem u_Troupe_becomeS (l : Launch) (d_ : Nat) (Mz : zMem) (hW : zKW d_ Mz) (a0_ : Int) (ha0_a : -2147483648 ≤ a0_) (ha0_b : a0_ < 2147483648) (F_ : Nat) (K_ : Nat → Nat → Int) (hA_ : zTA F_ K_) (s_ : zSg) (p0_ : zKm F_ K_ d_ Mz) (p1_ : zSK F_ s_ d_ Mz) (p2_ : ((1 ≤ a0_ ∧ a0_ ≤ 8) ∨ (21 ≤ a0_ ∧ a0_ ≤ 39))) : zC l m_Troupe_become 0 0 [.ref (d_ + 0), .int (Int32.ofInt a0_)] Mz (zqcV d_ [] [] [(0, 7), (0, 8)] [25] Mz (fun N => zSK F_ (zpush s_ (zvc F_ d_ Mz a0_)) d_ N ∧ (∀ t : Nat, 27 ≤ t → t < 243 → zg N (d_ + 25) t = zg Mz (d_ + 25) t))) := by
  refine zC_of (L0 := [some (.ref (d_ + 0)), some (.int (Int32.ofInt a0_))]) md_Troupe_become (Nat.le_of_ble_eq_true rfl) rfl ?_ zQ0
  have hf : zFc d_ [] [] [(0, 7), (0, 8)] [25] Mz Mz := zFc.rf
  have r_D0_7 := ze_r Mz (d_ + 0) 7
  have r_D0_8 := ze_r Mz (d_ + 0) 8
  obtain ⟨⟨hF1_, hF27_⟩, hAr_⟩ := id hA_
  obtain ⟨hFc_, hKt_⟩ := id p0_
  obtain ⟨⟨hs1_, hs2_⟩, ⟨hs3_, hs4_⟩, hs5_, hs6_⟩ := id p1_
  refine zw_aload_n (pc := 0) (n := 0) (x := (d_ + 0)) rfl d_Troupe_become_0 ?_
  refine zw_getF (pc := 1) f_Troupe_32 rfl ((hf.w hW).kr (o := 0) (by decide)) ((hf.w hW).lr (o := 0) (s := 2) (r := 23) (by decide)) d_Troupe_become_1 ?_
  refine zw_iconst (pc := 4) (v := Int32.ofInt 0) (by decide) d_Troupe_become_4 ?_
  refine zw_bipush (pc := 5) (v := Int32.ofInt 9) (by decide) d_Troupe_become_5 ?_
  refine zw_aload_n (pc := 7) (n := 0) (x := (d_ + 0)) rfl d_Troupe_become_7 ?_
  refine zk_getI (pc := 8) f_Troupe_71 rfl ((hf.w hW).kr (o := 0) (by decide)) d_Troupe_become_8 ?_
  refine zr_iadd (pc := 11) d_Troupe_become_11 ?_
  refine zk_callV hf.x (pc := 12) [.int (Int32.ofInt 0), .int (Int32.ofInt (9 + (ze Mz (d_ + 0) 8)))] [] l_Troupe_93 (u_Sums_copy l d_ Mz (hf.w hW) 0 (by decide) (by decide) (9 + (ze Mz (d_ + 0) 8)) (by omega) (by omega) F_ K_ hA_ p0_ (show 0 ≤ 0 by first | assumption | omega) (show 0 ≤ 39 by first | assumption | omega) (show 0 ≤ (9 + (ze Mz (d_ + 0) 8)) by first | assumption | omega) (show (9 + (ze Mz (d_ + 0) 8)) ≤ 39 by first | assumption | omega)) rfl rfl ((hf.w hW).kr (o := 23) (by decide)) (by decide) (by decide) (Nat.le_of_ble_eq_true rfl) d_Troupe_become_12 ?_
  rintro _ N1_ ⟨rfl, hsN1_, hp0_N1_⟩
  replace hp0_N1_ : zSh F_ d_ Mz N1_ (9 + (ze Mz (d_ + 0) 8)) (zvc F_ d_ Mz 0) := hp0_N1_
  have hf_N1_ : zFc d_ [] [] [(0, 7), (0, 8)] [25] Mz N1_ := hf.tr hsN1_ (by decide) (by decide) (by decide) (by decide)
  have eD0_7_N1_ : ze N1_ (d_ + 0) 7 = ze Mz (d_ + 0) 7 := hsN1_.e (by decide)
  have eD0_8_N1_ : ze N1_ (d_ + 0) 8 = ze Mz (d_ + 0) 8 := hsN1_.e (by decide)
  have c3_ : zKm F_ K_ d_ N1_ := zKm.fr (hf.w hW) hsN1_ p0_ (by decide)
  show zW l m_Troupe_become (zn Mz + 0, zw Mz + 0) N1_ 15 [some (.ref (d_ + 0)), some (.int (Int32.ofInt a0_))] [] (zqcV d_ [] [] [(0, 7), (0, 8)] [25] Mz (fun N => zSK F_ (zpush s_ (zvc F_ d_ Mz a0_)) d_ N ∧ (∀ t : Nat, 27 ≤ t → t < 243 → zg N (d_ + 25) t = zg Mz (d_ + 25) t)))
  have h1_ := hp0_N1_
  refine zw_aload_n (pc := 15) (n := 0) (x := (d_ + 0)) rfl d_Troupe_become_15 ?_
  refine zw_aload_n (pc := 16) (n := 0) (x := (d_ + 0)) rfl d_Troupe_become_16 ?_
  refine zk_getI (pc := 17) f_Troupe_71 rfl ((hf_N1_.w hW).kr (o := 0) (by decide)) d_Troupe_become_17 ?_
  refine zw_iconst (pc := 20) (v := Int32.ofInt 1) (by decide) d_Troupe_become_20 ?_
  refine zr_iadd (pc := 21) d_Troupe_become_21 ?_
  refine zw_bipush (pc := 22) (v := Int32.ofInt 12) (by decide) d_Troupe_become_22 ?_
  refine zr_irem (pc := 24) ⟨by omega, by omega⟩ (by omega) d_Troupe_become_24 ?_
  have hr4_ := zrem_r ((ze N1_ (d_ + 0) 8) + 1) 12
  have hq_ := zrem12 (a := ze N1_ (d_ + 0) 8 + 1) (by omega) (by omega)
  refine zk_putR (pc := 25) (o := 0) (by decide) f_Troupe_71 rfl rfl ((hf_N1_.w hW).kr (o := 0) (by decide)) ⟨by omega, by omega⟩ rfl rfl d_Troupe_become_25 (fun N5_ hsN5_ hvN5_ => ?_)
  have hf_N5_ : zFc d_ [] [] [(0, 7), (0, 8)] [25] Mz N5_ := hf_N1_.tr hsN5_ (by decide) (by decide) (by decide) (by decide)
  have eD0_7_N5_ : ze N5_ (d_ + 0) 7 = ze N1_ (d_ + 0) 7 := hsN5_.e (by decide)
  have rD0_8_N5_ := ze_r N5_ (d_ + 0) 8
  have c6_ : zKm F_ K_ d_ N5_ := zKm.fr (hf_N1_.w hW) hsN5_ c3_ (by decide)
  refine zw_aload_n (pc := 28) (n := 0) (x := (d_ + 0)) rfl d_Troupe_become_28 ?_
  refine zw_aload_n (pc := 29) (n := 0) (x := (d_ + 0)) rfl d_Troupe_become_29 ?_
  refine zk_getI (pc := 30) f_Troupe_68 rfl ((hf_N5_.w hW).kr (o := 0) (by decide)) d_Troupe_become_30 ?_
  refine zw_iconst (pc := 33) (v := Int32.ofInt 1) (by decide) d_Troupe_become_33 ?_
  refine zr_iadd (pc := 34) d_Troupe_become_34 ?_
  refine zw_bipush (pc := 35) (v := Int32.ofInt 12) (by decide) d_Troupe_become_35 ?_
  refine zk_mmin (pc := 37) x_Troupe_96 (by decide) (Nat.le_of_ble_eq_true rfl) d_Troupe_become_37 ⟨(by omega), (by omega)⟩ ⟨(by decide), (by decide)⟩ (fun v7_ hv7_ => ?_)
  have hv7_a : -2147483648 ≤ v7_ := by omega
  have hv7_b : v7_ < 2147483648 := by omega
  refine zk_putR (pc := 40) (o := 0) (by decide) f_Troupe_68 rfl rfl ((hf_N5_.w hW).kr (o := 0) (by decide)) ⟨by omega, by omega⟩ rfl rfl d_Troupe_become_40 (fun N8_ hsN8_ hvN8_ => ?_)
  have hf_N8_ : zFc d_ [] [] [(0, 7), (0, 8)] [25] Mz N8_ := hf_N5_.tr hsN8_ (by decide) (by decide) (by decide) (by decide)
  have rD0_7_N8_ := ze_r N8_ (d_ + 0) 7
  have eD0_8_N8_ : ze N8_ (d_ + 0) 8 = ze N5_ (d_ + 0) 8 := hsN8_.e (by decide)
  have c9_ : zKm F_ K_ d_ N8_ := zKm.fr (hf_N5_.w hW) hsN8_ c6_ (by decide)
  refine zw_aload_n (pc := 43) (n := 0) (x := (d_ + 0)) rfl d_Troupe_become_43 ?_
  refine zw_getF (pc := 44) f_Troupe_32 rfl ((hf_N8_.w hW).kr (o := 0) (by decide)) ((hf_N8_.w hW).lr (o := 0) (s := 2) (r := 23) (by decide)) d_Troupe_become_44 ?_
  refine zw_iload_n (pc := 47) (n := 1) (x := Int32.ofInt a0_) rfl d_Troupe_become_47 ?_
  refine zw_iconst (pc := 48) (v := Int32.ofInt 0) (by decide) d_Troupe_become_48 ?_
  refine zk_callV hf_N8_.x (pc := 49) [.int (Int32.ofInt a0_), .int (Int32.ofInt 0)] [] l_Troupe_93 (u_Sums_copy l d_ N8_ (hf_N8_.w hW) a0_ ha0_a ha0_b 0 (by decide) (by decide) F_ K_ hA_ c9_ (show 0 ≤ a0_ by first | assumption | omega) (show a0_ ≤ 39 by first | assumption | omega) (show 0 ≤ 0 by first | assumption | omega) (show 0 ≤ 39 by first | assumption | omega)) rfl rfl ((hf_N8_.w hW).kr (o := 23) (by decide)) (by decide) (by decide) (Nat.le_of_ble_eq_true rfl) d_Troupe_become_49 ?_
  rintro _ N10_ ⟨rfl, hsN10_, hp0_N10_⟩
  replace hp0_N10_ : zSh F_ d_ N8_ N10_ 0 (zvc F_ d_ N8_ a0_) := hp0_N10_
  have hf_N10_ : zFc d_ [] [] [(0, 7), (0, 8)] [25] Mz N10_ := hf_N8_.tr hsN10_ (by decide) (by decide) (by decide) (by decide)
  have eD0_7_N10_ : ze N10_ (d_ + 0) 7 = ze N8_ (d_ + 0) 7 := hsN10_.e (by decide)
  have eD0_8_N10_ : ze N10_ (d_ + 0) 8 = ze N8_ (d_ + 0) 8 := hsN10_.e (by decide)
  have c12_ : zKm F_ K_ d_ N10_ := zKm.fr (hf_N8_.w hW) hsN10_ c9_ (by decide)
  show zW l m_Troupe_become (zn Mz + 0, zw Mz + 0) N10_ 52 [some (.ref (d_ + 0)), some (.int (Int32.ofInt a0_))] [] (zqcV d_ [] [] [(0, 7), (0, 8)] [25] Mz (fun N => zSK F_ (zpush s_ (zvc F_ d_ Mz a0_)) d_ N ∧ (∀ t : Nat, 27 ≤ t → t < 243 → zg N (d_ + 25) t = zg Mz (d_ + 25) t)))
  have h4_ := hp0_N10_
  have e3_ : ∀ t : Nat, zg N8_ (d_ + 25) t = zg N1_ (d_ + 25) t := fun t => (hsN8_.rg (by decide) t).trans (hsN5_.rg (by decide) t)
  exact zk_vret (pc := 52) rfl hf_N10_ ⟨(show zSK F_ (zpush s_ (zvc F_ d_ Mz a0_)) d_ N10_ by exact zSK.push hF27_ p1_ h1_ e3_ h4_ p2_ (by omega) (by omega)), (show (∀ t : Nat, 27 ≤ t → t < 243 → zg N10_ (d_ + 25) t = zg Mz (d_ + 25) t) by exact fun t_ h1t_ h2t_ => by rw [h4_ t_, if_neg (by omega), e3_ t_, h1_ t_, if_neg (by omega)])⟩ d_Troupe_become_52
set_option maxHeartbeats 4000000 in
theorem u_Troupe_takeBackS (l : Launch) (d_ : Nat) (Mz : zMem) (hW : zKW d_ Mz) (F_ : Nat) (K_ : Nat → Nat → Int) (hA_ : zTA F_ K_) (s_ : zSg) (p0_ : zKm F_ K_ d_ Mz) (p1_ : zSK F_ s_ d_ Mz) (p2_ : 1 ≤ s_.2.1) : zC l m_Troupe_takeBack 0 0 [.ref (d_ + 0)] Mz (zqcI d_ [] [] [(0, 7), (0, 8)] [25] Mz (fun v N => zSK F_ (zpop s_) d_ N ∧ (∀ t : Nat, 27 ≤ t → t < 243 → zg N (d_ + 25) t = zg Mz (d_ + 25) t) ∧ v = ((s_.2.1 - 1 : Nat) : Int))) := by
  refine zC_of (L0 := [some (.ref (d_ + 0))]) md_Troupe_takeBack (Nat.le_of_ble_eq_true rfl) rfl ?_ zQ0
  have hf : zFc d_ [] [] [(0, 7), (0, 8)] [25] Mz Mz := zFc.rf
  have r_D0_7 := ze_r Mz (d_ + 0) 7
  have r_D0_8 := ze_r Mz (d_ + 0) 8
  obtain ⟨⟨hF1_, hF27_⟩, hAr_⟩ := id hA_
  obtain ⟨hFc_, hKt_⟩ := id p0_
  obtain ⟨⟨hs1_, hs2_⟩, ⟨hs3_, hs4_⟩, hs5_, hs6_⟩ := id p1_
  refine zw_aload_n (pc := 0) (n := 0) (x := (d_ + 0)) rfl d_Troupe_takeBack_0 ?_
  refine zw_aload_n (pc := 1) (n := 0) (x := (d_ + 0)) rfl d_Troupe_takeBack_1 ?_
  refine zk_getI (pc := 2) f_Troupe_71 rfl ((hf.w hW).kr (o := 0) (by decide)) d_Troupe_takeBack_2 ?_
  refine zw_bipush (pc := 5) (v := Int32.ofInt 12) (by decide) d_Troupe_takeBack_5 ?_
  refine zr_iadd (pc := 7) d_Troupe_takeBack_7 ?_
  refine zw_iconst (pc := 8) (v := Int32.ofInt 1) (by decide) d_Troupe_takeBack_8 ?_
  refine zr_isub (pc := 9) d_Troupe_takeBack_9 ?_
  refine zw_bipush (pc := 10) (v := Int32.ofInt 12) (by decide) d_Troupe_takeBack_10 ?_
  refine zr_irem (pc := 12) ⟨by omega, by omega⟩ (by omega) d_Troupe_takeBack_12 ?_
  have hr1_ := zrem_r (((ze Mz (d_ + 0) 8) + 12) - 1) 12
  have hq_ := zrem12 (a := ze Mz (d_ + 0) 8 + 12 - 1) (by omega) (by omega)
  refine zk_putR (pc := 13) (o := 0) (by decide) f_Troupe_71 rfl rfl ((hf.w hW).kr (o := 0) (by decide)) ⟨by omega, by omega⟩ rfl rfl d_Troupe_takeBack_13 (fun N2_ hsN2_ hvN2_ => ?_)
  have hf_N2_ : zFc d_ [] [] [(0, 7), (0, 8)] [25] Mz N2_ := hf.tr hsN2_ (by decide) (by decide) (by decide) (by decide)
  have eD0_7_N2_ : ze N2_ (d_ + 0) 7 = ze Mz (d_ + 0) 7 := hsN2_.e (by decide)
  have rD0_8_N2_ := ze_r N2_ (d_ + 0) 8
  have c3_ : zKm F_ K_ d_ N2_ := zKm.fr (hf.w hW) hsN2_ p0_ (by decide)
  refine zw_aload_n (pc := 16) (n := 0) (x := (d_ + 0)) rfl d_Troupe_takeBack_16 ?_
  refine zw_dup (pc := 17) rfl d_Troupe_takeBack_17 ?_
  refine zk_getI (pc := 18) f_Troupe_68 rfl ((hf_N2_.w hW).kr (o := 0) (by decide)) d_Troupe_takeBack_18 ?_
  refine zw_iconst (pc := 21) (v := Int32.ofInt 1) (by decide) d_Troupe_takeBack_21 ?_
  refine zr_isub (pc := 22) d_Troupe_takeBack_22 ?_
  refine zk_putR (pc := 23) (o := 0) (by decide) f_Troupe_68 rfl rfl ((hf_N2_.w hW).kr (o := 0) (by decide)) ⟨by omega, by omega⟩ rfl rfl d_Troupe_takeBack_23 (fun N4_ hsN4_ hvN4_ => ?_)
  have hf_N4_ : zFc d_ [] [] [(0, 7), (0, 8)] [25] Mz N4_ := hf_N2_.tr hsN4_ (by decide) (by decide) (by decide) (by decide)
  have rD0_7_N4_ := ze_r N4_ (d_ + 0) 7
  have eD0_8_N4_ : ze N4_ (d_ + 0) 8 = ze N2_ (d_ + 0) 8 := hsN4_.e (by decide)
  have c5_ : zKm F_ K_ d_ N4_ := zKm.fr (hf_N2_.w hW) hsN4_ c3_ (by decide)
  refine zw_aload_n (pc := 26) (n := 0) (x := (d_ + 0)) rfl d_Troupe_takeBack_26 ?_
  refine zw_getF (pc := 27) f_Troupe_32 rfl ((hf_N4_.w hW).kr (o := 0) (by decide)) ((hf_N4_.w hW).lr (o := 0) (s := 2) (r := 23) (by decide)) d_Troupe_takeBack_27 ?_
  refine zw_bipush (pc := 30) (v := Int32.ofInt 9) (by decide) d_Troupe_takeBack_30 ?_
  refine zw_aload_n (pc := 32) (n := 0) (x := (d_ + 0)) rfl d_Troupe_takeBack_32 ?_
  refine zk_getI (pc := 33) f_Troupe_71 rfl ((hf_N4_.w hW).kr (o := 0) (by decide)) d_Troupe_takeBack_33 ?_
  refine zr_iadd (pc := 36) d_Troupe_takeBack_36 ?_
  refine zw_iconst (pc := 37) (v := Int32.ofInt 0) (by decide) d_Troupe_takeBack_37 ?_
  refine zk_callV hf_N4_.x (pc := 38) [.int (Int32.ofInt (9 + (ze N4_ (d_ + 0) 8))), .int (Int32.ofInt 0)] [] l_Troupe_93 (u_Sums_copy l d_ N4_ (hf_N4_.w hW) (9 + (ze N4_ (d_ + 0) 8)) (by omega) (by omega) 0 (by decide) (by decide) F_ K_ hA_ c5_ (show 0 ≤ (9 + (ze N4_ (d_ + 0) 8)) by first | assumption | omega) (show (9 + (ze N4_ (d_ + 0) 8)) ≤ 39 by first | assumption | omega) (show 0 ≤ 0 by first | assumption | omega) (show 0 ≤ 39 by first | assumption | omega)) rfl rfl ((hf_N4_.w hW).kr (o := 23) (by decide)) (by decide) (by decide) (Nat.le_of_ble_eq_true rfl) d_Troupe_takeBack_38 ?_
  rintro _ N6_ ⟨rfl, hsN6_, hp0_N6_⟩
  replace hp0_N6_ : zSh F_ d_ N4_ N6_ 0 (zvc F_ d_ N4_ (9 + (ze N4_ (d_ + 0) 8))) := hp0_N6_
  have hf_N6_ : zFc d_ [] [] [(0, 7), (0, 8)] [25] Mz N6_ := hf_N4_.tr hsN6_ (by decide) (by decide) (by decide) (by decide)
  have eD0_7_N6_ : ze N6_ (d_ + 0) 7 = ze N4_ (d_ + 0) 7 := hsN6_.e (by decide)
  have eD0_8_N6_ : ze N6_ (d_ + 0) 8 = ze N4_ (d_ + 0) 8 := hsN6_.e (by decide)
  have c8_ : zKm F_ K_ d_ N6_ := zKm.fr (hf_N4_.w hW) hsN6_ c5_ (by decide)
  show zW l m_Troupe_takeBack (zn Mz + 0, zw Mz + 0) N6_ 41 [some (.ref (d_ + 0))] [] (zqcI d_ [] [] [(0, 7), (0, 8)] [25] Mz (fun v N => zSK F_ (zpop s_) d_ N ∧ (∀ t : Nat, 27 ≤ t → t < 243 → zg N (d_ + 25) t = zg Mz (d_ + 25) t) ∧ v = ((s_.2.1 - 1 : Nat) : Int)))
  have h4_ := hp0_N6_
  have e3_ : ∀ t : Nat, zg N4_ (d_ + 25) t = zg Mz (d_ + 25) t := fun t => (hsN4_.rg (by decide) t).trans (hsN2_.rg (by decide) t)
  refine zw_aload_n (pc := 41) (n := 0) (x := (d_ + 0)) rfl d_Troupe_takeBack_41 ?_
  refine zk_getI (pc := 42) f_Troupe_68 rfl ((hf_N6_.w hW).kr (o := 0) (by decide)) d_Troupe_takeBack_42 ?_
  exact zk_iret (pc := 45) (ty := .int) rfl rfl ⟨by omega, by omega⟩ hf_N6_ ⟨(show zSK F_ (zpop s_) d_ N6_ by exact zSK.pop hF27_ p1_ p2_ e3_ h4_ (by omega) (by omega) (by omega)), (show (∀ t : Nat, 27 ≤ t → t < 243 → zg N6_ (d_ + 25) t = zg Mz (d_ + 25) t) by exact fun t_ h1t_ h2t_ => by rw [h4_ t_, if_neg (by omega), e3_ t_]), (show (ze N6_ (d_ + 0) 7) = ((s_.2.1 - 1 : Nat) : Int) by first | assumption | omega)⟩ d_Troupe_takeBack_45
set_option maxHeartbeats 4000000 in
theorem u_Sums_partsOfS (l : Launch) (d_ : Nat) (Mz : zMem) (hW : zKW d_ Mz) (a0_ : Int) (ha0_a : -2147483648 ≤ a0_) (ha0_b : a0_ < 2147483648) (F_ : Nat) (K_ : Nat → Nat → Int) (hA_ : zTA F_ K_) (p0_ : zKm F_ K_ d_ Mz) (p1_ : 0 ≤ a0_) (p2_ : a0_ ≤ 39) : zC l m_Sums_partsOf 0 0 [.ref (d_ + 23), .int (Int32.ofInt a0_)] Mz (zqcI d_ [] [] [] [] Mz (fun v N => v = ((znzc (zvc F_ d_ Mz a0_) F_ : Nat) : Int))) := by
  refine zC_of (L0 := [some (.ref (d_ + 23)), some (.int (Int32.ofInt a0_)), none, none]) md_Sums_partsOf (Nat.le_of_ble_eq_true rfl) rfl ?_ zQ0
  have hf : zFc d_ [] [] [] [] Mz Mz := zFc.rf
  have r_D12_7 := ze_r Mz (d_ + 12) 7
  obtain ⟨⟨hF1_, hF27_⟩, hAr_⟩ := id hA_
  obtain ⟨hFc_, hKt_⟩ := id p0_
  refine zw_iconst (pc := 0) (v := Int32.ofInt 0) (by decide) d_Sums_partsOf_0 ?_
  refine zw_istore_n (pc := 1) (i := 2) (L2 := [some (.ref (d_ + 23)), some (.int (Int32.ofInt a0_)), some (.int (Int32.ofInt 0)), none]) rfl (by decide) rfl d_Sums_partsOf_1 ?_
  refine zw_iconst (pc := 2) (v := Int32.ofInt 0) (by decide) d_Sums_partsOf_2 ?_
  refine zw_istore_n (pc := 3) (i := 3) (L2 := [some (.ref (d_ + 23)), some (.int (Int32.ofInt a0_)), some (.int (Int32.ofInt 0)), some (.int (Int32.ofInt 0))]) rfl (by decide) rfl d_Sums_partsOf_3 ?_
  have lp_4 : ∀ (n : Nat) (u1_ : Int) (hu1_a : -2147483648 ≤ u1_) (hu1_b : u1_ < 2147483648) (u2_ : Int) (hu2_a : -2147483648 ≤ u2_) (hu2_b : u2_ < 2147483648) (i3_ : 0 ≤ u2_) (i4_ : u2_ ≤ F_) (i5_ : u1_ = ((znzc (zvc F_ d_ Mz a0_) (u2_).toNat : Nat) : Int)) (i6_ : 0 ≤ u1_ ∧ u1_ ≤ u2_), (F_ - u2_).toNat < n → zW l m_Sums_partsOf (zn Mz + 0, zw Mz + 0) Mz 4 [some (.ref (d_ + 23)), some (.int (Int32.ofInt a0_)), some (.int (Int32.ofInt u1_)), some (.int (Int32.ofInt u2_))] [] (zqcI d_ [] [] [] [] Mz (fun v N => v = ((znzc (zvc F_ d_ Mz a0_) F_ : Nat) : Int))) := by
    intro n
    induction n with
    | zero =>
      intro u1_ hu1_a hu1_b u2_ hu2_a hu2_b i3_ i4_ i5_ i6_ h0
      exact absurd h0 (Nat.not_lt_zero _)
    | succ n ih_4 =>
      intro u1_ hu1_a hu1_b u2_ hu2_a hu2_b i3_ i4_ i5_ i6_ hlt_4
      have hnz_ := (show u1_ = ((znzc (zvc F_ d_ Mz a0_) (u2_).toNat : Nat) : Int) by assumption)
      refine zw_iload_n (pc := 4) (n := 3) (x := Int32.ofInt u2_) rfl d_Sums_partsOf_4 ?_
      refine zw_aload_n (pc := 5) (n := 0) (x := (d_ + 23)) rfl d_Sums_partsOf_5 ?_
      refine zw_getF (pc := 6) f_Sums_23 rfl ((hf.w hW).kr (o := 23) (by decide)) ((hf.w hW).lr (o := 23) (s := 0) (r := 12) (by decide)) d_Sums_partsOf_6 ?_
      refine zk_getI (pc := 9) f_Sums_35 rfl ((hf.w hW).kr (o := 12) (by decide)) d_Sums_partsOf_9 ?_
      refine zr_icmp_ge (pc := 12) (tgt := 35) ⟨hu2_a, hu2_b⟩ ⟨(ze_r Mz (d_ + 12) 7).1, (ze_r Mz (d_ + 12) 7).2⟩ (by decide) d_Sums_partsOf_12 (fun hc_12 => ?_) (fun hc_12 => ?_)
      · skip
        refine zw_iload_n (pc := 35) (n := 2) (x := Int32.ofInt u1_) rfl d_Sums_partsOf_35 ?_
        exact zk_iret (pc := 36) (ty := .int) rfl rfl ⟨by omega, by omega⟩ hf (show u1_ = ((znzc (zvc F_ d_ Mz a0_) F_ : Nat) : Int) by have h_ := hnz_; rw [show (u2_).toNat = F_ by omega] at h_; exact h_) d_Sums_partsOf_36
      · skip
        refine zw_aload_n (pc := 15) (n := 0) (x := (d_ + 23)) rfl d_Sums_partsOf_15 ?_
        refine zw_iload_n (pc := 16) (n := 1) (x := Int32.ofInt a0_) rfl d_Sums_partsOf_16 ?_
        refine zw_iload_n (pc := 17) (n := 3) (x := Int32.ofInt u2_) rfl d_Sums_partsOf_17 ?_
        refine zk_callV hf.x (pc := 18) [.int (Int32.ofInt a0_), .int (Int32.ofInt u2_)] [] l_Sums_67 (u_Sums_numberAt l d_ Mz (hf.w hW) a0_ ha0_a ha0_b u2_ hu2_a hu2_b (show 0 ≤ a0_ by first | assumption | omega) (show a0_ ≤ 39 by first | assumption | omega) (show 0 ≤ u2_ by first | assumption | omega) (show u2_ ≤ 26 by first | assumption | omega)) rfl rfl ((hf.w hW).kr (o := 23) (by decide)) (by decide) (by decide) (Nat.le_of_ble_eq_true rfl) d_Sums_partsOf_18 ?_
        rintro _ N7_ ⟨v8_, rfl, ⟨hv8_a, hv8_b⟩, hsN7_, hp0_N7_⟩
        obtain rfl := hsN7_.eq.symm
        replace hp0_N7_ : v8_ = zg Mz (d_ + 25) (a0_ * 27 + u2_).toNat := hp0_N7_
        show zW l m_Sums_partsOf (zn Mz + 0, zw Mz + 0) Mz 21 [some (.ref (d_ + 23)), some (.int (Int32.ofInt a0_)), some (.int (Int32.ofInt u1_)), some (.int (Int32.ofInt u2_))] [.long (Int64.ofInt v8_)] (zqcI d_ [] [] [] [] Mz (fun v N => v = ((znzc (zvc F_ d_ Mz a0_) F_ : Nat) : Int)))
        have hx_ := zvc_at (F := F_) (k := (u2_).toNat) (s := a0_) (by omega) (by omega) hp0_N7_ (by omega)
        refine zw_lconst (pc := 21) (v := Int64.ofInt 0) (by decide) d_Sums_partsOf_21 ?_
        refine zr_lcmp (pc := 22) ⟨hv8_a, hv8_b⟩ ⟨(by decide), (by decide)⟩ d_Sums_partsOf_22 ?_
        have hr9_ := zcmp_s v8_ 0
        refine zr_if_eq (pc := 23) (tgt := 29) ⟨(by omega), (by omega)⟩ (by decide) d_Sums_partsOf_23 (fun hc_23 => ?_) (fun hc_23 => ?_)
        · skip
          refine zr_iinc (pc := 29) (i := 3) (a := u2_) (n := 1) (L2 := [some (.ref (d_ + 23)), some (.int (Int32.ofInt a0_)), some (.int (Int32.ofInt u1_)), some (.int (Int32.ofInt (u2_ + 1)))]) rfl (by decide) rfl d_Sums_partsOf_29 ?_
          refine zw_goto (pc := 32) (tgt := 4) (by decide) d_Sums_partsOf_32 ?_
          exact ih_4 u1_ hu1_a hu1_b (u2_ + 1) (by omega) (by omega) (show 0 ≤ (u2_ + 1) by first | assumption | omega) (show (u2_ + 1) ≤ F_ by first | assumption | omega) (show u1_ = ((znzc (zvc F_ d_ Mz a0_) ((u2_ + 1)).toNat : Nat) : Int) by exact znzc_s hnz_ (by omega) _ _ hx_ (by first | exact Or.inl ⟨by omega, rfl⟩ | exact Or.inr ⟨by omega, rfl⟩)) (show 0 ≤ u1_ ∧ u1_ ≤ (u2_ + 1) by first | assumption | omega) (by omega)
        · skip
          refine zr_iinc (pc := 26) (i := 2) (a := u1_) (n := 1) (L2 := [some (.ref (d_ + 23)), some (.int (Int32.ofInt a0_)), some (.int (Int32.ofInt (u1_ + 1))), some (.int (Int32.ofInt u2_))]) rfl (by decide) rfl d_Sums_partsOf_26 ?_
          refine zr_iinc (pc := 29) (i := 3) (a := u2_) (n := 1) (L2 := [some (.ref (d_ + 23)), some (.int (Int32.ofInt a0_)), some (.int (Int32.ofInt (u1_ + 1))), some (.int (Int32.ofInt (u2_ + 1)))]) rfl (by decide) rfl d_Sums_partsOf_29 ?_
          refine zw_goto (pc := 32) (tgt := 4) (by decide) d_Sums_partsOf_32 ?_
          exact ih_4 (u1_ + 1) (by omega) (by omega) (u2_ + 1) (by omega) (by omega) (show 0 ≤ (u2_ + 1) by first | assumption | omega) (show (u2_ + 1) ≤ F_ by first | assumption | omega) (show (u1_ + 1) = ((znzc (zvc F_ d_ Mz a0_) ((u2_ + 1)).toNat : Nat) : Int) by exact znzc_s hnz_ (by omega) _ _ hx_ (by first | exact Or.inl ⟨by omega, rfl⟩ | exact Or.inr ⟨by omega, rfl⟩)) (show 0 ≤ (u1_ + 1) ∧ (u1_ + 1) ≤ (u2_ + 1) by first | assumption | omega) (by omega)
  exact lp_4 _ 0 (by decide) (by decide) 0 (by decide) (by decide) (show 0 ≤ (0 : Int) by first | assumption | omega) (show (0 : Int) ≤ F_ by first | assumption | omega) (show (0 : Int) = ((znzc (zvc F_ d_ Mz a0_) ((0 : Int)).toNat : Nat) : Int) by rfl) (show 0 ≤ (0 : Int) ∧ (0 : Int) ≤ (0 : Int) by first | assumption | omega) (Nat.lt_succ_self _)
set_option maxHeartbeats 4000000 in
theorem u_Sums_putGrownS (l : Launch) (d_ : Nat) (Mz : zMem) (hW : zKW d_ Mz) (a0_ : Int) (ha0_a : -2147483648 ≤ a0_) (ha0_b : a0_ < 2147483648) (a1_ : Int) (ha1_a : -2147483648 ≤ a1_) (ha1_b : a1_ < 2147483648) (a2_ : Int) (ha2_a : -2147483648 ≤ a2_) (ha2_b : a2_ < 2147483648) (F_ : Nat) (K_ : Nat → Nat → Int) (hA_ : zTA F_ K_) (p0_ : zKm F_ K_ d_ Mz) (p1_ : zlm F_ (zvc F_ d_ Mz 0)) (p2_ : -9 ≤ a0_) (p3_ : a0_ ≤ 9) (p4_ : -999 ≤ a1_) (p5_ : a1_ ≤ 999) : zC l m_Sums_putGrown 0 0 [.ref (d_ + 23), .int (Int32.ofInt a0_), .int (Int32.ofInt a1_), .int (Int32.ofInt a2_)] Mz (zqcV d_ [] [] [] [25] Mz (fun N => zSh F_ d_ Mz N 39 (zgrw (zvc F_ d_ Mz 0) a0_ a1_ a2_))) := by
  refine zC_of (L0 := [some (.ref (d_ + 23)), some (.int (Int32.ofInt a0_)), some (.int (Int32.ofInt a1_)), some (.int (Int32.ofInt a2_)), none]) md_Sums_putGrown (Nat.le_of_ble_eq_true rfl) rfl ?_ zQ0
  have hf : zFc d_ [] [] [] [25] Mz Mz := zFc.rf
  have r_D12_7 := ze_r Mz (d_ + 12) 7
  obtain ⟨⟨hF1_, hF27_⟩, hAr_⟩ := id hA_
  obtain ⟨hFc_, hKt_⟩ := id p0_
  refine zw_iconst (pc := 0) (v := Int32.ofInt 0) (by decide) d_Sums_putGrown_0 ?_
  refine zw_istore (pc := 1) (i := 4) (L2 := [some (.ref (d_ + 23)), some (.int (Int32.ofInt a0_)), some (.int (Int32.ofInt a1_)), some (.int (Int32.ofInt a2_)), some (.int (Int32.ofInt 0))]) (by decide) rfl d_Sums_putGrown_1 ?_
  have lp_3 : ∀ (n : Nat) (u1_ : Int) (hu1_a : -2147483648 ≤ u1_) (hu1_b : u1_ < 2147483648) (N2_ : zMem) (hs3_ : zFc d_ [] [] [] [25] Mz N2_) (i4_ : 0 ≤ u1_) (i5_ : u1_ ≤ F_) (i6_ : zSh u1_ d_ Mz N2_ 39 (zgrw (zvc F_ d_ Mz 0) a0_ a1_ a2_)), (F_ - u1_).toNat < n → zW l m_Sums_putGrown (zn Mz + 0, zw Mz + 0) N2_ 3 [some (.ref (d_ + 23)), some (.int (Int32.ofInt a0_)), some (.int (Int32.ofInt a1_)), some (.int (Int32.ofInt a2_)), some (.int (Int32.ofInt u1_))] [] (zqcV d_ [] [] [] [25] Mz (fun N => zSh F_ d_ Mz N 39 (zgrw (zvc F_ d_ Mz 0) a0_ a1_ a2_))) := by
    intro n
    induction n with
    | zero =>
      intro u1_ hu1_a hu1_b N2_ hs3_ i4_ i5_ i6_ h0
      exact absurd h0 (Nat.not_lt_zero _)
    | succ n ih_3 =>
      intro u1_ hu1_a hu1_b N2_ hs3_ i4_ i5_ i6_ hlt_3
      have hf_N2_ : zFc d_ [] [] [] [25] Mz N2_ := hf.tr hs3_ (by decide) (by decide) (by decide) (by decide)
      have eD12_7_N2_ : ze N2_ (d_ + 12) 7 = ze Mz (d_ + 12) 7 := hs3_.e (by decide)
      have c7_ : zKm F_ K_ d_ N2_ := zKm.fr (hf.w hW) hs3_ p0_ (by decide)
      have hgi_ := (show zSh u1_ d_ Mz N2_ 39 (zgrw (zvc F_ d_ Mz 0) a0_ a1_ a2_) by assumption)
      refine zw_iload (pc := 3) (i := 4) (x := Int32.ofInt u1_) rfl d_Sums_putGrown_3 ?_
      refine zw_aload_n (pc := 5) (n := 0) (x := (d_ + 23)) rfl d_Sums_putGrown_5 ?_
      refine zw_getF (pc := 6) f_Sums_23 rfl ((hf_N2_.w hW).kr (o := 23) (by decide)) ((hf_N2_.w hW).lr (o := 23) (s := 0) (r := 12) (by decide)) d_Sums_putGrown_6 ?_
      refine zk_getI (pc := 9) f_Sums_35 rfl ((hf_N2_.w hW).kr (o := 12) (by decide)) d_Sums_putGrown_9 ?_
      rw [hf_N2_.e (by decide)]
      refine zr_icmp_ge (pc := 12) (tgt := 52) ⟨hu1_a, hu1_b⟩ ⟨(ze_r Mz (d_ + 12) 7).1, (ze_r Mz (d_ + 12) 7).2⟩ (by decide) d_Sums_putGrown_12 (fun hc_12 => ?_) (fun hc_12 => ?_)
      · skip
        exact zk_vret (pc := 52) rfl hf_N2_ (show zSh F_ d_ Mz N2_ 39 (zgrw (zvc F_ d_ Mz 0) a0_ a1_ a2_) by rw [show (F_ : Int) = u1_ by omega]; exact hgi_) d_Sums_putGrown_52
      · skip
        refine zw_aload_n (pc := 15) (n := 0) (x := (d_ + 23)) rfl d_Sums_putGrown_15 ?_
        refine zw_bipush (pc := 16) (v := Int32.ofInt 39) (by decide) d_Sums_putGrown_16 ?_
        refine zw_iload (pc := 18) (i := 4) (x := Int32.ofInt u1_) rfl d_Sums_putGrown_18 ?_
        refine zw_iload_n (pc := 20) (n := 1) (x := Int32.ofInt a0_) rfl d_Sums_putGrown_20 ?_
        refine zr_i2l (pc := 21) ⟨ha0_a, ha0_b⟩ d_Sums_putGrown_21 ?_
        refine zw_aload_n (pc := 22) (n := 0) (x := (d_ + 23)) rfl d_Sums_putGrown_22 ?_
        refine zw_iconst (pc := 23) (v := Int32.ofInt 0) (by decide) d_Sums_putGrown_23 ?_
        refine zw_iload (pc := 24) (i := 4) (x := Int32.ofInt u1_) rfl d_Sums_putGrown_24 ?_
        refine zk_callV hf_N2_.x (pc := 26) [.int (Int32.ofInt 0), .int (Int32.ofInt u1_)] [.long (Int64.ofInt a0_), .int (Int32.ofInt u1_), .int (Int32.ofInt 39), .ref (d_ + 23)] l_Sums_67 (u_Sums_numberAt l d_ N2_ (hf_N2_.w hW) 0 (by decide) (by decide) u1_ hu1_a hu1_b (show 0 ≤ 0 by first | assumption | omega) (show 0 ≤ 39 by first | assumption | omega) (show 0 ≤ u1_ by first | assumption | omega) (show u1_ ≤ 26 by first | assumption | omega)) rfl rfl ((hf_N2_.w hW).kr (o := 23) (by decide)) (by decide) (by decide) (Nat.le_of_ble_eq_true rfl) d_Sums_putGrown_26 ?_
        rintro _ N8_ ⟨v9_, rfl, ⟨hv9_a, hv9_b⟩, hsN8_, hp0_N8_⟩
        obtain rfl := hsN8_.eq.symm
        replace hp0_N8_ : v9_ = zg N2_ (d_ + 25) (0 * 27 + u1_).toNat := hp0_N8_
        show zW l m_Sums_putGrown (zn Mz + 0, zw Mz + 0) N2_ 29 [some (.ref (d_ + 23)), some (.int (Int32.ofInt a0_)), some (.int (Int32.ofInt a1_)), some (.int (Int32.ofInt a2_)), some (.int (Int32.ofInt u1_))] [.long (Int64.ofInt v9_), .long (Int64.ofInt a0_), .int (Int32.ofInt u1_), .int (Int32.ofInt 39), .ref (d_ + 23)] (zqcV d_ [] [] [] [25] Mz (fun N => zSh F_ d_ Mz N 39 (zgrw (zvc F_ d_ Mz 0) a0_ a1_ a2_)))
        have hx_ := zvc_at (F := F_) (k := (u1_).toNat) (s := 0) (by omega) (by omega) (zSh_a hgi_ hp0_N8_ (by omega)) (by omega)
        have hb_ := p1_ (u1_).toNat (by omega)
        unfold zLim at hb_
        rw [← hx_] at hb_
        have hm_ := zmul9 p2_ p3_ hb_.1 hb_.2
        refine zr_lmul (pc := 29) d_Sums_putGrown_29 ?_
        refine zw_iload (pc := 30) (i := 4) (x := Int32.ofInt u1_) rfl d_Sums_putGrown_30 ?_
        refine zw_iload_n (pc := 32) (n := 3) (x := Int32.ofInt a2_) rfl d_Sums_putGrown_32 ?_
        refine zr_icmp_ne (pc := 33) (tgt := 40) ⟨hu1_a, hu1_b⟩ ⟨ha2_a, ha2_b⟩ (by decide) d_Sums_putGrown_33 (fun hc_33 => ?_) (fun hc_33 => ?_)
        · skip
          refine zw_iconst (pc := 40) (v := Int32.ofInt 0) (by decide) d_Sums_putGrown_40 ?_
          refine zr_i2l (pc := 41) ⟨(by decide), (by decide)⟩ d_Sums_putGrown_41 ?_
          refine zr_ladd (pc := 42) d_Sums_putGrown_42 ?_
          refine zk_callV hf_N2_.x (pc := 43) [.int (Int32.ofInt 39), .int (Int32.ofInt u1_), .long (Int64.ofInt ((a0_ * v9_) + 0))] [] l_Sums_70 (u_Sums_putNumber l d_ N2_ (hf_N2_.w hW) 39 (by decide) (by decide) u1_ hu1_a hu1_b ((a0_ * v9_) + 0) (by omega) (by omega) (show 0 ≤ 39 by first | assumption | omega) (show 39 ≤ 39 by first | assumption | omega) (show 0 ≤ u1_ by first | assumption | omega) (show u1_ ≤ 26 by first | assumption | omega)) rfl rfl ((hf_N2_.w hW).kr (o := 23) (by decide)) (by decide) (by decide) (Nat.le_of_ble_eq_true rfl) d_Sums_putGrown_43 ?_
          rintro _ N10_ ⟨rfl, hsN10_, hp0_N10_⟩
          replace hp0_N10_ : zS1 d_ N2_ N10_ (39 * 27 + u1_) ((a0_ * v9_) + 0) := hp0_N10_
          have hf_N10_ : zFc d_ [] [] [] [25] Mz N10_ := hf_N2_.tr hsN10_ (by decide) (by decide) (by decide) (by decide)
          have hb0_N10_ : zFc d_ [] [] [] [25] Mz N10_ := hs3_.tr hsN10_ (by decide) (by decide) (by decide) (by decide)
          have eD12_7_N10_ : ze N10_ (d_ + 12) 7 = ze N2_ (d_ + 12) 7 := hsN10_.e (by decide)
          have c12_ : zKm F_ K_ d_ N10_ := zKm.fr (hf_N2_.w hW) hsN10_ c7_ (by decide)
          show zW l m_Sums_putGrown (zn Mz + 0, zw Mz + 0) N10_ 46 [some (.ref (d_ + 23)), some (.int (Int32.ofInt a0_)), some (.int (Int32.ofInt a1_)), some (.int (Int32.ofInt a2_)), some (.int (Int32.ofInt u1_))] [] (zqcV d_ [] [] [] [25] Mz (fun N => zSh F_ d_ Mz N 39 (zgrw (zvc F_ d_ Mz 0) a0_ a1_ a2_)))
          have hs1_ := zSh_s hgi_ hp0_N10_ rfl (by omega) (by show _ = _ * _ + (if _ then _ else _); rw [← hx_]; first | rw [if_pos (by omega)] | rw [if_neg (by omega)])
          refine zr_iinc (pc := 46) (i := 4) (a := u1_) (n := 1) (L2 := [some (.ref (d_ + 23)), some (.int (Int32.ofInt a0_)), some (.int (Int32.ofInt a1_)), some (.int (Int32.ofInt a2_)), some (.int (Int32.ofInt (u1_ + 1)))]) rfl (by decide) rfl d_Sums_putGrown_46 ?_
          refine zw_goto (pc := 49) (tgt := 3) (by decide) d_Sums_putGrown_49 ?_
          exact ih_3 (u1_ + 1) (by omega) (by omega) N10_ hb0_N10_ (show 0 ≤ (u1_ + 1) by first | assumption | omega) (show (u1_ + 1) ≤ F_ by first | assumption | omega) (show zSh (u1_ + 1) d_ Mz N10_ 39 (zgrw (zvc F_ d_ Mz 0) a0_ a1_ a2_) by exact hs1_) (by omega)
        · skip
          refine zw_iload_n (pc := 36) (n := 2) (x := Int32.ofInt a1_) rfl d_Sums_putGrown_36 ?_
          refine zw_goto (pc := 37) (tgt := 41) (by decide) d_Sums_putGrown_37 ?_
          refine zr_i2l (pc := 41) ⟨ha1_a, ha1_b⟩ d_Sums_putGrown_41 ?_
          refine zr_ladd (pc := 42) d_Sums_putGrown_42 ?_
          refine zk_callV hf_N2_.x (pc := 43) [.int (Int32.ofInt 39), .int (Int32.ofInt u1_), .long (Int64.ofInt ((a0_ * v9_) + a1_))] [] l_Sums_70 (u_Sums_putNumber l d_ N2_ (hf_N2_.w hW) 39 (by decide) (by decide) u1_ hu1_a hu1_b ((a0_ * v9_) + a1_) (by omega) (by omega) (show 0 ≤ 39 by first | assumption | omega) (show 39 ≤ 39 by first | assumption | omega) (show 0 ≤ u1_ by first | assumption | omega) (show u1_ ≤ 26 by first | assumption | omega)) rfl rfl ((hf_N2_.w hW).kr (o := 23) (by decide)) (by decide) (by decide) (Nat.le_of_ble_eq_true rfl) d_Sums_putGrown_43 ?_
          rintro _ N13_ ⟨rfl, hsN13_, hp0_N13_⟩
          replace hp0_N13_ : zS1 d_ N2_ N13_ (39 * 27 + u1_) ((a0_ * v9_) + a1_) := hp0_N13_
          have hf_N13_ : zFc d_ [] [] [] [25] Mz N13_ := hf_N2_.tr hsN13_ (by decide) (by decide) (by decide) (by decide)
          have hb0_N13_ : zFc d_ [] [] [] [25] Mz N13_ := hs3_.tr hsN13_ (by decide) (by decide) (by decide) (by decide)
          have eD12_7_N13_ : ze N13_ (d_ + 12) 7 = ze N2_ (d_ + 12) 7 := hsN13_.e (by decide)
          have c15_ : zKm F_ K_ d_ N13_ := zKm.fr (hf_N2_.w hW) hsN13_ c7_ (by decide)
          show zW l m_Sums_putGrown (zn Mz + 0, zw Mz + 0) N13_ 46 [some (.ref (d_ + 23)), some (.int (Int32.ofInt a0_)), some (.int (Int32.ofInt a1_)), some (.int (Int32.ofInt a2_)), some (.int (Int32.ofInt u1_))] [] (zqcV d_ [] [] [] [25] Mz (fun N => zSh F_ d_ Mz N 39 (zgrw (zvc F_ d_ Mz 0) a0_ a1_ a2_)))
          have hs1_ := zSh_s hgi_ hp0_N13_ rfl (by omega) (by show _ = _ * _ + (if _ then _ else _); rw [← hx_]; first | rw [if_pos (by omega)] | rw [if_neg (by omega)])
          refine zr_iinc (pc := 46) (i := 4) (a := u1_) (n := 1) (L2 := [some (.ref (d_ + 23)), some (.int (Int32.ofInt a0_)), some (.int (Int32.ofInt a1_)), some (.int (Int32.ofInt a2_)), some (.int (Int32.ofInt (u1_ + 1)))]) rfl (by decide) rfl d_Sums_putGrown_46 ?_
          refine zw_goto (pc := 49) (tgt := 3) (by decide) d_Sums_putGrown_49 ?_
          exact ih_3 (u1_ + 1) (by omega) (by omega) N13_ hb0_N13_ (show 0 ≤ (u1_ + 1) by first | assumption | omega) (show (u1_ + 1) ≤ F_ by first | assumption | omega) (show zSh (u1_ + 1) d_ Mz N13_ 39 (zgrw (zvc F_ d_ Mz 0) a0_ a1_ a2_) by exact hs1_) (by omega)
  exact lp_3 _ 0 (by decide) (by decide) Mz zFc.rf (show 0 ≤ (0 : Int) by first | assumption | omega) (show (0 : Int) ≤ F_ by first | assumption | omega) (show zSh (0 : Int) d_ Mz Mz 39 (zgrw (zvc F_ d_ Mz 0) a0_ a1_ a2_) by exact zSh_0) (Nat.lt_succ_self _)
set_option maxHeartbeats 4000000 in
theorem u_Troupe_hasNameS (l : Launch) (d_ : Nat) (Mz : zMem) (hW : zKW d_ Mz) (a0_ : Int) (ha0_a : -2147483648 ≤ a0_) (ha0_b : a0_ < 2147483648) : zC l m_Troupe_hasName 0 0 [.ref (d_ + 0), .int (Int32.ofInt a0_)] Mz (zqcI d_ [] [] [] [] Mz (fun v N => (((v = 1 ∧ 0 ≤ a0_ ∧ a0_ < ze Mz (d_ + 0) 6) ∨ (v = 0 ∧ (a0_ < 0 ∨ ze Mz (d_ + 0) 6 ≤ a0_)))))) := by
  refine zC_of (L0 := [some (.ref (d_ + 0)), some (.int (Int32.ofInt a0_))]) md_Troupe_hasName (Nat.le_of_ble_eq_true rfl) rfl ?_ zQ0
  have hf : zFc d_ [] [] [] [] Mz Mz := zFc.rf
  have r_D0_6 := ze_r Mz (d_ + 0) 6
  refine zw_iload_n (pc := 0) (n := 1) (x := Int32.ofInt a0_) rfl d_Troupe_hasName_0 ?_
  refine zr_if_lt (pc := 1) (tgt := 16) ⟨ha0_a, ha0_b⟩ (by decide) d_Troupe_hasName_1 (fun hc_1 => ?_) (fun hc_1 => ?_)
  · skip
    refine zw_iconst (pc := 16) (v := Int32.ofInt 0) (by decide) d_Troupe_hasName_16 ?_
    exact zk_iret (pc := 17) (ty := .boolean) rfl (z_narB (by omega)) ⟨by omega, by omega⟩ hf (show ((0 = 1 ∧ 0 ≤ a0_ ∧ a0_ < ze Mz (d_ + 0) 6) ∨ (0 = 0 ∧ (a0_ < 0 ∨ ze Mz (d_ + 0) 6 ≤ a0_))) from Or.inr (⟨(show 0 = 0 by first | assumption | omega), (show (a0_ < 0 ∨ ze Mz (d_ + 0) 6 ≤ a0_) by first | assumption | omega)⟩)) d_Troupe_hasName_17
  · skip
    refine zw_iload_n (pc := 4) (n := 1) (x := Int32.ofInt a0_) rfl d_Troupe_hasName_4 ?_
    refine zw_aload_n (pc := 5) (n := 0) (x := (d_ + 0)) rfl d_Troupe_hasName_5 ?_
    refine zk_getI (pc := 6) f_Troupe_64 rfl ((hf.w hW).kr (o := 0) (by decide)) d_Troupe_hasName_6 ?_
    refine zr_icmp_ge (pc := 9) (tgt := 16) ⟨ha0_a, ha0_b⟩ ⟨(ze_r Mz (d_ + 0) 6).1, (ze_r Mz (d_ + 0) 6).2⟩ (by decide) d_Troupe_hasName_9 (fun hc_9 => ?_) (fun hc_9 => ?_)
    · skip
      refine zw_iconst (pc := 16) (v := Int32.ofInt 0) (by decide) d_Troupe_hasName_16 ?_
      exact zk_iret (pc := 17) (ty := .boolean) rfl (z_narB (by omega)) ⟨by omega, by omega⟩ hf (show ((0 = 1 ∧ 0 ≤ a0_ ∧ a0_ < ze Mz (d_ + 0) 6) ∨ (0 = 0 ∧ (a0_ < 0 ∨ ze Mz (d_ + 0) 6 ≤ a0_))) from Or.inr (⟨(show 0 = 0 by first | assumption | omega), (show (a0_ < 0 ∨ ze Mz (d_ + 0) 6 ≤ a0_) by first | assumption | omega)⟩)) d_Troupe_hasName_17
    · skip
      refine zw_iconst (pc := 12) (v := Int32.ofInt 1) (by decide) d_Troupe_hasName_12 ?_
      refine zw_goto (pc := 13) (tgt := 17) (by decide) d_Troupe_hasName_13 ?_
      exact zk_iret (pc := 17) (ty := .boolean) rfl (z_narB (by omega)) ⟨by omega, by omega⟩ hf (show ((1 = 1 ∧ 0 ≤ a0_ ∧ a0_ < ze Mz (d_ + 0) 6) ∨ (1 = 0 ∧ (a0_ < 0 ∨ ze Mz (d_ + 0) 6 ≤ a0_))) from Or.inl (⟨(show 1 = 1 by first | assumption | omega), (show 0 ≤ a0_ by first | assumption | omega), (show a0_ < ze Mz (d_ + 0) 6 by first | assumption | omega)⟩)) d_Troupe_hasName_17
set_option maxHeartbeats 4000000 in
theorem u_T_usesS (l : Launch) (d_ : Nat) (Mz : zMem) (hW : zKW d_ Mz) (hnow : zf Mz 0 2 = some (d_ + 0)) (a0_ : Int) (ha0_a : -2147483648 ≤ a0_) (ha0_b : a0_ < 2147483648) (F_ : Nat) (K_ : Nat → Nat → Int) (hA_ : zTA F_ K_) (s_ : zSg) (nm_ : List (Int × (Nat → Int))) (p0_ : zKm F_ K_ d_ Mz) (p1_ : zSK F_ s_ d_ Mz) (p2_ : zNm nm_ F_ K_ d_ Mz) : zC l m_T_uses 0 0 [.ref 0, .int (Int32.ofInt a0_)] Mz (zqcI d_ [] [] [(0, 7), (0, 8)] [25] Mz (fun v N => ((((0 ≤ a0_ ∧ a0_ < (nm_.length : Int)) ∧ zSK F_ (zpush s_ (zvun nm_ (a0_).toNat)) d_ N ∧ v = ((znzc (zvun nm_ (a0_).toNat) F_ : Nat) : Int)) ∨ (¬ (0 ≤ a0_ ∧ a0_ < (nm_.length : Int)) ∧ zSK F_ s_ d_ N ∧ v = (-1 : Int)))) ∧ zNm nm_ F_ K_ d_ N)) := by
  refine zC_of (L0 := [some (.ref 0), some (.int (Int32.ofInt a0_))]) md_T_uses (Nat.le_of_ble_eq_true rfl) rfl ?_ zQ0
  have hf : zFc d_ [] [] [(0, 7), (0, 8)] [25] Mz Mz := zFc.rf
  have r_D0_6 := ze_r Mz (d_ + 0) 6
  obtain ⟨⟨hF1_, hF27_⟩, hAr_⟩ := id hA_
  obtain ⟨hFc_, hKt_⟩ := id p0_
  obtain ⟨⟨hs1_, hs2_⟩, ⟨hs3_, hs4_⟩, hs5_, hs6_⟩ := id p1_
  have hnl_ := p2_.n
  obtain ⟨⟨hn0_, hn8_⟩, -⟩ := id p2_
  refine zw_aload_n (pc := 0) (n := 0) (x := 0) rfl d_T_uses_0 ?_
  refine zw_getF (pc := 1) f_T_28 rfl ((hf.w hW).ka (o := 0) (by decide)) (hf.now hnow) d_T_uses_1 ?_
  refine zw_iload_n (pc := 4) (n := 1) (x := Int32.ofInt a0_) rfl d_T_uses_4 ?_
  refine zk_callV hf.x (pc := 5) [.int (Int32.ofInt a0_)] [] l_T_245 (u_Troupe_hasNameS l d_ Mz (hf.w hW) a0_ ha0_a ha0_b) rfl rfl ((hf.w hW).kr (o := 0) (by decide)) (by decide) (by decide) (Nat.le_of_ble_eq_true rfl) d_T_uses_5 ?_
  rintro _ N1_ ⟨v2_, rfl, ⟨hv2_a, hv2_b⟩, hsN1_, hp0_N1_⟩
  obtain rfl := hsN1_.eq.symm
  replace hp0_N1_ : ((v2_ = 1 ∧ 0 ≤ a0_ ∧ a0_ < ze Mz (d_ + 0) 6) ∨ (v2_ = 0 ∧ (a0_ < 0 ∨ ze Mz (d_ + 0) 6 ≤ a0_))) := hp0_N1_
  rcases hp0_N1_ with ⟨rfl, ha5_0_hp0_N1_, ha5_1_hp0_N1_⟩ | ⟨rfl, ha5_0_hp0_N1_⟩
  · skip
    show zW l m_T_uses (zn Mz + 0, zw Mz + 0) Mz 8 [some (.ref 0), some (.int (Int32.ofInt a0_))] [.int (Int32.ofInt 1)] (zqcI d_ [] [] [(0, 7), (0, 8)] [25] Mz (fun v N => ((((0 ≤ a0_ ∧ a0_ < (nm_.length : Int)) ∧ zSK F_ (zpush s_ (zvun nm_ (a0_).toNat)) d_ N ∧ v = ((znzc (zvun nm_ (a0_).toNat) F_ : Nat) : Int)) ∨ (¬ (0 ≤ a0_ ∧ a0_ < (nm_.length : Int)) ∧ zSK F_ s_ d_ N ∧ v = (-1 : Int)))) ∧ zNm nm_ F_ K_ d_ N))
    refine zr_if_ne (pc := 8) (tgt := 13) ⟨(by decide), (by decide)⟩ (by decide) d_T_uses_8 (fun hc_8 => ?_) (fun hc_8 => ?_)
    · skip
      refine zw_aload_n (pc := 13) (n := 0) (x := 0) rfl d_T_uses_13 ?_
      refine zw_getF (pc := 14) f_T_28 rfl ((hf.w hW).ka (o := 0) (by decide)) (hf.now hnow) d_T_uses_14 ?_
      refine zw_iconst (pc := 17) (v := Int32.ofInt 1) (by decide) d_T_uses_17 ?_
      refine zw_iload_n (pc := 18) (n := 1) (x := Int32.ofInt a0_) rfl d_T_uses_18 ?_
      refine zr_iadd (pc := 19) d_T_uses_19 ?_
      refine zk_callV hf.x (pc := 20) [.int (Int32.ofInt (1 + a0_))] [] l_T_284 (u_Troupe_becomeS l d_ Mz (hf.w hW) (1 + a0_) (by omega) (by omega) F_ K_ hA_ s_ p0_ p1_ (show ((1 ≤ (1 + a0_) ∧ (1 + a0_) ≤ 8) ∨ (21 ≤ (1 + a0_) ∧ (1 + a0_) ≤ 39)) by first | assumption | omega)) rfl rfl ((hf.w hW).kr (o := 0) (by decide)) (by decide) (by decide) (Nat.le_of_ble_eq_true rfl) d_T_uses_20 ?_
      rintro _ N3_ ⟨rfl, hsN3_, ⟨hp0_N3_, hp1_N3_⟩⟩
      have hf_N3_ : zFc d_ [] [] [(0, 7), (0, 8)] [25] Mz N3_ := hf.tr hsN3_ (by decide) (by decide) (by decide) (by decide)
      have eD0_6_N3_ : ze N3_ (d_ + 0) 6 = ze Mz (d_ + 0) 6 := hsN3_.e (by decide)
      have c5_ : zKm F_ K_ d_ N3_ := zKm.fr (hf.w hW) hsN3_ p0_ (by decide)
      show zW l m_T_uses (zn Mz + 0, zw Mz + 0) N3_ 23 [some (.ref 0), some (.int (Int32.ofInt a0_))] [] (zqcI d_ [] [] [(0, 7), (0, 8)] [25] Mz (fun v N => ((((0 ≤ a0_ ∧ a0_ < (nm_.length : Int)) ∧ zSK F_ (zpush s_ (zvun nm_ (a0_).toNat)) d_ N ∧ v = ((znzc (zvun nm_ (a0_).toNat) F_ : Nat) : Int)) ∨ (¬ (0 ≤ a0_ ∧ a0_ < (nm_.length : Int)) ∧ zSK F_ s_ d_ N ∧ v = (-1 : Int)))) ∧ zNm nm_ F_ K_ d_ N))
      have hsk_ := hp0_N3_
      have hat_ := (p2_.at (k := (a0_).toNat) (by omega)).1
      rw [show (1 : Int) + (((a0_).toNat : Nat) : Int) = 1 + a0_ by omega] at hat_
      rw [hat_] at hsk_
      have hnm_ := zNm.md hsN3_ hp1_N3_ hF27_ p2_ (by decide)
      have hcv_ := hsk_.v
      refine zw_aload_n (pc := 23) (n := 0) (x := 0) rfl d_T_uses_23 ?_
      refine zw_getF (pc := 24) f_T_28 rfl ((hf_N3_.w hW).ka (o := 0) (by decide)) (hf_N3_.now hnow) d_T_uses_24 ?_
      refine zw_getF (pc := 27) f_T_169 rfl ((hf_N3_.w hW).kr (o := 0) (by decide)) ((hf_N3_.w hW).lr (o := 0) (s := 2) (r := 23) (by decide)) d_T_uses_27 ?_
      refine zw_iconst (pc := 30) (v := Int32.ofInt 0) (by decide) d_T_uses_30 ?_
      refine zk_callV hf_N3_.x (pc := 31) [.int (Int32.ofInt 0)] [] l_T_253 (u_Sums_partsOfS l d_ N3_ (hf_N3_.w hW) 0 (by decide) (by decide) F_ K_ hA_ c5_ (show 0 ≤ 0 by first | assumption | omega) (show 0 ≤ 39 by first | assumption | omega)) rfl rfl ((hf_N3_.w hW).kr (o := 23) (by decide)) (by decide) (by decide) (Nat.le_of_ble_eq_true rfl) d_T_uses_31 ?_
      rintro _ N6_ ⟨v7_, rfl, ⟨hv7_a, hv7_b⟩, hsN6_, hp0_N6_⟩
      obtain rfl := hsN6_.eq.symm
      replace hp0_N6_ : v7_ = ((znzc (zvc F_ d_ N3_ 0) F_ : Nat) : Int) := hp0_N6_
      show zW l m_T_uses (zn Mz + 0, zw Mz + 0) N3_ 34 [some (.ref 0), some (.int (Int32.ofInt a0_))] [.int (Int32.ofInt v7_)] (zqcI d_ [] [] [(0, 7), (0, 8)] [25] Mz (fun v N => ((((0 ≤ a0_ ∧ a0_ < (nm_.length : Int)) ∧ zSK F_ (zpush s_ (zvun nm_ (a0_).toNat)) d_ N ∧ v = ((znzc (zvun nm_ (a0_).toNat) F_ : Nat) : Int)) ∨ (¬ (0 ≤ a0_ ∧ a0_ < (nm_.length : Int)) ∧ zSK F_ s_ d_ N ∧ v = (-1 : Int)))) ∧ zNm nm_ F_ K_ d_ N))
      have hv_ := hp0_N6_
      have hw_ := hv_.trans (congrArg (fun n_ : Nat => (n_ : Int)) (znzc_c F_ hcv_))
      exact zk_iret (pc := 34) (ty := .int) rfl rfl ⟨by omega, by omega⟩ hf_N3_ ⟨(show (((0 ≤ a0_ ∧ a0_ < (nm_.length : Int)) ∧ zSK F_ (zpush s_ (zvun nm_ (a0_).toNat)) d_ N3_ ∧ v7_ = ((znzc (zvun nm_ (a0_).toNat) F_ : Nat) : Int)) ∨ (¬ (0 ≤ a0_ ∧ a0_ < (nm_.length : Int)) ∧ zSK F_ s_ d_ N3_ ∧ v7_ = (-1 : Int))) by exact Or.inl ⟨by omega, hsk_, hw_⟩), hnm_⟩ d_T_uses_34
    · skip
      exact absurd hc_8 (by decide)
  · skip
    show zW l m_T_uses (zn Mz + 0, zw Mz + 0) Mz 8 [some (.ref 0), some (.int (Int32.ofInt a0_))] [.int (Int32.ofInt 0)] (zqcI d_ [] [] [(0, 7), (0, 8)] [25] Mz (fun v N => ((((0 ≤ a0_ ∧ a0_ < (nm_.length : Int)) ∧ zSK F_ (zpush s_ (zvun nm_ (a0_).toNat)) d_ N ∧ v = ((znzc (zvun nm_ (a0_).toNat) F_ : Nat) : Int)) ∨ (¬ (0 ≤ a0_ ∧ a0_ < (nm_.length : Int)) ∧ zSK F_ s_ d_ N ∧ v = (-1 : Int)))) ∧ zNm nm_ F_ K_ d_ N))
    refine zr_if_ne (pc := 8) (tgt := 13) ⟨(by decide), (by decide)⟩ (by decide) d_T_uses_8 (fun hc_8 => ?_) (fun hc_8 => ?_)
    · skip
      exact absurd hc_8 (by decide)
    · skip
      refine zw_iconst (pc := 11) (v := Int32.ofInt (-1)) (by decide) d_T_uses_11 ?_
      exact zk_iret (pc := 12) (ty := .int) rfl rfl ⟨by omega, by omega⟩ hf ⟨(show (((0 ≤ a0_ ∧ a0_ < (nm_.length : Int)) ∧ zSK F_ (zpush s_ (zvun nm_ (a0_).toNat)) d_ Mz ∧ ((-1)) = ((znzc (zvun nm_ (a0_).toNat) F_ : Nat) : Int)) ∨ (¬ (0 ≤ a0_ ∧ a0_ < (nm_.length : Int)) ∧ zSK F_ s_ d_ Mz ∧ ((-1)) = (-1 : Int))) by exact Or.inr ⟨by omega, p1_, rfl⟩), p2_⟩ d_T_uses_12
set_option maxHeartbeats 4000000 in
theorem u_T_growsS (l : Launch) (d_ : Nat) (Mz : zMem) (hW : zKW d_ Mz) (hnow : zf Mz 0 2 = some (d_ + 0)) (a0_ : Int) (ha0_a : -2147483648 ≤ a0_) (ha0_b : a0_ < 2147483648) (a1_ : Int) (ha1_a : -2147483648 ≤ a1_) (ha1_b : a1_ < 2147483648) (a2_ : Int) (ha2_a : -2147483648 ≤ a2_) (ha2_b : a2_ < 2147483648) (F_ : Nat) (K_ : Nat → Nat → Int) (hA_ : zTA F_ K_) (s_ : zSg) (nm_ : List (Int × (Nat → Int))) (p0_ : zKm F_ K_ d_ Mz) (p1_ : zSK F_ s_ d_ Mz) (p2_ : zNm nm_ F_ K_ d_ Mz) (p3_ : zSB F_ s_) : zC l m_T_grows 0 0 [.ref 0, .int (Int32.ofInt a0_), .int (Int32.ofInt a1_), .int (Int32.ofInt a2_)] Mz (zqcJ d_ [] [] [(0, 7), (0, 8)] [25] Mz (fun v N => ((((((-9 ≤ a0_ ∧ a0_ ≤ 9) ∧ (-999 ≤ a1_ ∧ a1_ ≤ 999) ∧ 0 ≤ a2_ ∧ a2_ < (F_ : Int)) ∧ zfit F_ K_ (zgrw s_.1 a0_ a1_ a2_)) ∧ zSK F_ (zpush s_ (zgrw s_.1 a0_ a1_ a2_)) d_ N ∧ v = (zgrw s_.1 a0_ a1_ a2_) (a2_).toNat) ∨ (¬ (((-9 ≤ a0_ ∧ a0_ ≤ 9) ∧ (-999 ≤ a1_ ∧ a1_ ≤ 999) ∧ 0 ≤ a2_ ∧ a2_ < (F_ : Int)) ∧ zfit F_ K_ (zgrw s_.1 a0_ a1_ a2_)) ∧ zSK F_ s_ d_ N ∧ v = (-9223372036854775808 : Int)))) ∧ zNm nm_ F_ K_ d_ N)) := by
  refine zC_of (L0 := [some (.ref 0), some (.int (Int32.ofInt a0_)), some (.int (Int32.ofInt a1_)), some (.int (Int32.ofInt a2_))]) md_T_grows (Nat.le_of_ble_eq_true rfl) rfl ?_ zQ0
  have hf : zFc d_ [] [] [(0, 7), (0, 8)] [25] Mz Mz := zFc.rf
  have r_D12_7 := ze_r Mz (d_ + 12) 7
  obtain ⟨⟨hF1_, hF27_⟩, hAr_⟩ := id hA_
  obtain ⟨hFc_, hKt_⟩ := id p0_
  obtain ⟨⟨hs1_, hs2_⟩, ⟨hs3_, hs4_⟩, hs5_, hs6_⟩ := id p1_
  have hzv_ := p1_.v
  have hlm_ := zlm_c p3_.1 hzv_
  refine zw_iload_n (pc := 0) (n := 1) (x := Int32.ofInt a0_) rfl d_T_grows_0 ?_
  refine zw_bipush (pc := 1) (v := Int32.ofInt (-9)) (by decide) d_T_grows_1 ?_
  refine zr_icmp_lt (pc := 3) (tgt := 40) ⟨ha0_a, ha0_b⟩ ⟨(by decide), (by decide)⟩ (by decide) d_T_grows_3 (fun hc_3 => ?_) (fun hc_3 => ?_)
  · skip
    refine zr_ldc2 (pc := 40) (n := (-9223372036854775808)) (by decide) k_T_248 d_T_grows_40 ?_
    exact zk_lret (pc := 43) rfl ⟨by omega, by omega⟩ hf ⟨(show (((((-9 ≤ a0_ ∧ a0_ ≤ 9) ∧ (-999 ≤ a1_ ∧ a1_ ≤ 999) ∧ 0 ≤ a2_ ∧ a2_ < (F_ : Int)) ∧ zfit F_ K_ (zgrw s_.1 a0_ a1_ a2_)) ∧ zSK F_ (zpush s_ (zgrw s_.1 a0_ a1_ a2_)) d_ Mz ∧ ((-9223372036854775808)) = (zgrw s_.1 a0_ a1_ a2_) (a2_).toNat) ∨ (¬ (((-9 ≤ a0_ ∧ a0_ ≤ 9) ∧ (-999 ≤ a1_ ∧ a1_ ≤ 999) ∧ 0 ≤ a2_ ∧ a2_ < (F_ : Int)) ∧ zfit F_ K_ (zgrw s_.1 a0_ a1_ a2_)) ∧ zSK F_ s_ d_ Mz ∧ ((-9223372036854775808)) = (-9223372036854775808 : Int))) by exact Or.inr ⟨fun q_ => by have h_ := q_.1; omega, p1_, rfl⟩), p2_⟩ d_T_grows_43
  · skip
    refine zw_iload_n (pc := 6) (n := 1) (x := Int32.ofInt a0_) rfl d_T_grows_6 ?_
    refine zw_bipush (pc := 7) (v := Int32.ofInt 9) (by decide) d_T_grows_7 ?_
    refine zr_icmp_gt (pc := 9) (tgt := 40) ⟨ha0_a, ha0_b⟩ ⟨(by decide), (by decide)⟩ (by decide) d_T_grows_9 (fun hc_9 => ?_) (fun hc_9 => ?_)
    · skip
      refine zr_ldc2 (pc := 40) (n := (-9223372036854775808)) (by decide) k_T_248 d_T_grows_40 ?_
      exact zk_lret (pc := 43) rfl ⟨by omega, by omega⟩ hf ⟨(show (((((-9 ≤ a0_ ∧ a0_ ≤ 9) ∧ (-999 ≤ a1_ ∧ a1_ ≤ 999) ∧ 0 ≤ a2_ ∧ a2_ < (F_ : Int)) ∧ zfit F_ K_ (zgrw s_.1 a0_ a1_ a2_)) ∧ zSK F_ (zpush s_ (zgrw s_.1 a0_ a1_ a2_)) d_ Mz ∧ ((-9223372036854775808)) = (zgrw s_.1 a0_ a1_ a2_) (a2_).toNat) ∨ (¬ (((-9 ≤ a0_ ∧ a0_ ≤ 9) ∧ (-999 ≤ a1_ ∧ a1_ ≤ 999) ∧ 0 ≤ a2_ ∧ a2_ < (F_ : Int)) ∧ zfit F_ K_ (zgrw s_.1 a0_ a1_ a2_)) ∧ zSK F_ s_ d_ Mz ∧ ((-9223372036854775808)) = (-9223372036854775808 : Int))) by exact Or.inr ⟨fun q_ => by have h_ := q_.1; omega, p1_, rfl⟩), p2_⟩ d_T_grows_43
    · skip
      refine zw_iload_n (pc := 12) (n := 2) (x := Int32.ofInt a1_) rfl d_T_grows_12 ?_
      refine zw_sipush (pc := 13) (v := Int32.ofInt (-999)) (by decide) d_T_grows_13 ?_
      refine zr_icmp_lt (pc := 16) (tgt := 40) ⟨ha1_a, ha1_b⟩ ⟨(by decide), (by decide)⟩ (by decide) d_T_grows_16 (fun hc_16 => ?_) (fun hc_16 => ?_)
      · skip
        refine zr_ldc2 (pc := 40) (n := (-9223372036854775808)) (by decide) k_T_248 d_T_grows_40 ?_
        exact zk_lret (pc := 43) rfl ⟨by omega, by omega⟩ hf ⟨(show (((((-9 ≤ a0_ ∧ a0_ ≤ 9) ∧ (-999 ≤ a1_ ∧ a1_ ≤ 999) ∧ 0 ≤ a2_ ∧ a2_ < (F_ : Int)) ∧ zfit F_ K_ (zgrw s_.1 a0_ a1_ a2_)) ∧ zSK F_ (zpush s_ (zgrw s_.1 a0_ a1_ a2_)) d_ Mz ∧ ((-9223372036854775808)) = (zgrw s_.1 a0_ a1_ a2_) (a2_).toNat) ∨ (¬ (((-9 ≤ a0_ ∧ a0_ ≤ 9) ∧ (-999 ≤ a1_ ∧ a1_ ≤ 999) ∧ 0 ≤ a2_ ∧ a2_ < (F_ : Int)) ∧ zfit F_ K_ (zgrw s_.1 a0_ a1_ a2_)) ∧ zSK F_ s_ d_ Mz ∧ ((-9223372036854775808)) = (-9223372036854775808 : Int))) by exact Or.inr ⟨fun q_ => by have h_ := q_.1; omega, p1_, rfl⟩), p2_⟩ d_T_grows_43
      · skip
        refine zw_iload_n (pc := 19) (n := 2) (x := Int32.ofInt a1_) rfl d_T_grows_19 ?_
        refine zw_sipush (pc := 20) (v := Int32.ofInt 999) (by decide) d_T_grows_20 ?_
        refine zr_icmp_gt (pc := 23) (tgt := 40) ⟨ha1_a, ha1_b⟩ ⟨(by decide), (by decide)⟩ (by decide) d_T_grows_23 (fun hc_23 => ?_) (fun hc_23 => ?_)
        · skip
          refine zr_ldc2 (pc := 40) (n := (-9223372036854775808)) (by decide) k_T_248 d_T_grows_40 ?_
          exact zk_lret (pc := 43) rfl ⟨by omega, by omega⟩ hf ⟨(show (((((-9 ≤ a0_ ∧ a0_ ≤ 9) ∧ (-999 ≤ a1_ ∧ a1_ ≤ 999) ∧ 0 ≤ a2_ ∧ a2_ < (F_ : Int)) ∧ zfit F_ K_ (zgrw s_.1 a0_ a1_ a2_)) ∧ zSK F_ (zpush s_ (zgrw s_.1 a0_ a1_ a2_)) d_ Mz ∧ ((-9223372036854775808)) = (zgrw s_.1 a0_ a1_ a2_) (a2_).toNat) ∨ (¬ (((-9 ≤ a0_ ∧ a0_ ≤ 9) ∧ (-999 ≤ a1_ ∧ a1_ ≤ 999) ∧ 0 ≤ a2_ ∧ a2_ < (F_ : Int)) ∧ zfit F_ K_ (zgrw s_.1 a0_ a1_ a2_)) ∧ zSK F_ s_ d_ Mz ∧ ((-9223372036854775808)) = (-9223372036854775808 : Int))) by exact Or.inr ⟨fun q_ => by have h_ := q_.1; omega, p1_, rfl⟩), p2_⟩ d_T_grows_43
        · skip
          refine zw_aload_n (pc := 26) (n := 0) (x := 0) rfl d_T_grows_26 ?_
          refine zw_getF (pc := 27) f_T_28 rfl ((hf.w hW).ka (o := 0) (by decide)) (hf.now hnow) d_T_grows_27 ?_
          refine zw_getF (pc := 30) f_T_85 rfl ((hf.w hW).kr (o := 0) (by decide)) ((hf.w hW).lr (o := 0) (s := 1) (r := 12) (by decide)) d_T_grows_30 ?_
          refine zw_iload_n (pc := 33) (n := 3) (x := Int32.ofInt a2_) rfl d_T_grows_33 ?_
          refine zk_callV hf.x (pc := 34) [.int (Int32.ofInt a2_)] [] l_T_143 (u_Sorts_hasSortG l d_ Mz (hf.w hW) a2_ ha2_a ha2_b) rfl rfl ((hf.w hW).kr (o := 12) (by decide)) (by decide) (by decide) (Nat.le_of_ble_eq_true rfl) d_T_grows_34 ?_
          rintro _ N1_ ⟨v2_, rfl, ⟨hv2_a, hv2_b⟩, hsN1_, hp0_N1_⟩
          obtain rfl := hsN1_.eq.symm
          replace hp0_N1_ : ((v2_ = 1 ∧ 0 ≤ a2_ ∧ a2_ < ze Mz (d_ + 12) 7) ∨ (v2_ = 0 ∧ (a2_ < 0 ∨ ze Mz (d_ + 12) 7 ≤ a2_))) := hp0_N1_
          rcases hp0_N1_ with ⟨rfl, ha34_0_hp0_N1_, ha34_1_hp0_N1_⟩ | ⟨rfl, ha34_0_hp0_N1_⟩
          · skip
            show zW l m_T_grows (zn Mz + 0, zw Mz + 0) Mz 37 [some (.ref 0), some (.int (Int32.ofInt a0_)), some (.int (Int32.ofInt a1_)), some (.int (Int32.ofInt a2_))] [.int (Int32.ofInt 1)] (zqcJ d_ [] [] [(0, 7), (0, 8)] [25] Mz (fun v N => ((((((-9 ≤ a0_ ∧ a0_ ≤ 9) ∧ (-999 ≤ a1_ ∧ a1_ ≤ 999) ∧ 0 ≤ a2_ ∧ a2_ < (F_ : Int)) ∧ zfit F_ K_ (zgrw s_.1 a0_ a1_ a2_)) ∧ zSK F_ (zpush s_ (zgrw s_.1 a0_ a1_ a2_)) d_ N ∧ v = (zgrw s_.1 a0_ a1_ a2_) (a2_).toNat) ∨ (¬ (((-9 ≤ a0_ ∧ a0_ ≤ 9) ∧ (-999 ≤ a1_ ∧ a1_ ≤ 999) ∧ 0 ≤ a2_ ∧ a2_ < (F_ : Int)) ∧ zfit F_ K_ (zgrw s_.1 a0_ a1_ a2_)) ∧ zSK F_ s_ d_ N ∧ v = (-9223372036854775808 : Int)))) ∧ zNm nm_ F_ K_ d_ N))
            refine zr_if_ne (pc := 37) (tgt := 44) ⟨(by decide), (by decide)⟩ (by decide) d_T_grows_37 (fun hc_37 => ?_) (fun hc_37 => ?_)
            · skip
              refine zw_aload_n (pc := 44) (n := 0) (x := 0) rfl d_T_grows_44 ?_
              refine zw_getF (pc := 45) f_T_28 rfl ((hf.w hW).ka (o := 0) (by decide)) (hf.now hnow) d_T_grows_45 ?_
              refine zw_getF (pc := 48) f_T_169 rfl ((hf.w hW).kr (o := 0) (by decide)) ((hf.w hW).lr (o := 0) (s := 2) (r := 23) (by decide)) d_T_grows_48 ?_
              refine zw_iload_n (pc := 51) (n := 1) (x := Int32.ofInt a0_) rfl d_T_grows_51 ?_
              refine zw_iload_n (pc := 52) (n := 2) (x := Int32.ofInt a1_) rfl d_T_grows_52 ?_
              refine zw_iload_n (pc := 53) (n := 3) (x := Int32.ofInt a2_) rfl d_T_grows_53 ?_
              refine zk_callV hf.x (pc := 54) [.int (Int32.ofInt a0_), .int (Int32.ofInt a1_), .int (Int32.ofInt a2_)] [] l_T_307 (u_Sums_putGrownS l d_ Mz (hf.w hW) a0_ ha0_a ha0_b a1_ ha1_a ha1_b a2_ ha2_a ha2_b F_ K_ hA_ p0_ (show zlm F_ (zvc F_ d_ Mz 0) by first | assumption | omega) (show -9 ≤ a0_ by first | assumption | omega) (show a0_ ≤ 9 by first | assumption | omega) (show -999 ≤ a1_ by first | assumption | omega) (show a1_ ≤ 999 by first | assumption | omega)) rfl rfl ((hf.w hW).kr (o := 23) (by decide)) (by decide) (by decide) (Nat.le_of_ble_eq_true rfl) d_T_grows_54 ?_
              rintro _ N3_ ⟨rfl, hsN3_, hp0_N3_⟩
              replace hp0_N3_ : zSh F_ d_ Mz N3_ 39 (zgrw (zvc F_ d_ Mz 0) a0_ a1_ a2_) := hp0_N3_
              have hf_N3_ : zFc d_ [] [] [(0, 7), (0, 8)] [25] Mz N3_ := hf.tr hsN3_ (by decide) (by decide) (by decide) (by decide)
              have eD12_7_N3_ : ze N3_ (d_ + 12) 7 = ze Mz (d_ + 12) 7 := hsN3_.e (by decide)
              have c5_ : zKm F_ K_ d_ N3_ := zKm.fr (hf.w hW) hsN3_ p0_ (by decide)
              show zW l m_T_grows (zn Mz + 0, zw Mz + 0) N3_ 57 [some (.ref 0), some (.int (Int32.ofInt a0_)), some (.int (Int32.ofInt a1_)), some (.int (Int32.ofInt a2_))] [] (zqcJ d_ [] [] [(0, 7), (0, 8)] [25] Mz (fun v N => ((((((-9 ≤ a0_ ∧ a0_ ≤ 9) ∧ (-999 ≤ a1_ ∧ a1_ ≤ 999) ∧ 0 ≤ a2_ ∧ a2_ < (F_ : Int)) ∧ zfit F_ K_ (zgrw s_.1 a0_ a1_ a2_)) ∧ zSK F_ (zpush s_ (zgrw s_.1 a0_ a1_ a2_)) d_ N ∧ v = (zgrw s_.1 a0_ a1_ a2_) (a2_).toNat) ∨ (¬ (((-9 ≤ a0_ ∧ a0_ ≤ 9) ∧ (-999 ≤ a1_ ∧ a1_ ≤ 999) ∧ 0 ≤ a2_ ∧ a2_ < (F_ : Int)) ∧ zfit F_ K_ (zgrw s_.1 a0_ a1_ a2_)) ∧ zSK F_ s_ d_ N ∧ v = (-9223372036854775808 : Int)))) ∧ zNm nm_ F_ K_ d_ N))
              have hsh_ := hp0_N3_
              have hlw_ : zLow d_ Mz N3_ := zLow.sh hsh_ (by omega)
              have hsk1_ := zSK.fr hsN3_ hlw_ hF27_ p1_ (by decide)
              have hnm1_ := p2_.l hsN3_ hlw_ hF27_ (by decide)
              have hn39_ := zSh_n (F := F_) (by omega) hsh_
              have hgc_ : ∀ k_, k_ < F_ → zvc F_ d_ N3_ 39 k_ = (zgrw s_.1 a0_ a1_ a2_) k_ := fun k_ hk_ => by rw [hn39_]; show (if k_ < F_ then _ else _) = _; rw [if_pos hk_]; exact zgrw_c hzv_ k_ hk_
              have hgb_ := zgrw_b (n := a0_) (m := a1_) (i := a2_) p3_.1 (by omega) (by omega) (by omega) (by omega)
              have hgv_ : ∀ k_, k_ < F_ → -10000000000000 ≤ zvc F_ d_ N3_ 39 k_ ∧ zvc F_ d_ N3_ 39 k_ ≤ 10000000000000 := fun k_ hk_ => by rw [hgc_ k_ hk_]; exact hgb_ k_ hk_
              have hbd_ : zbd F_ K_ (zvc F_ d_ N3_ 39) := fun k_ hk_ => by have h1_ := hgv_ k_ hk_; have h2_ := zmq_b (j := k_) hF27_ (fun i_ hi_ => hAr_.1 i_ k_ hi_ hk_) hgv_; omega
              refine zw_aload_n (pc := 57) (n := 0) (x := 0) rfl d_T_grows_57 ?_
              refine zw_getF (pc := 58) f_T_28 rfl ((hf_N3_.w hW).ka (o := 0) (by decide)) (hf_N3_.now hnow) d_T_grows_58 ?_
              refine zw_getF (pc := 61) f_T_169 rfl ((hf_N3_.w hW).kr (o := 0) (by decide)) ((hf_N3_.w hW).lr (o := 0) (s := 2) (r := 23) (by decide)) d_T_grows_61 ?_
              refine zw_bipush (pc := 64) (v := Int32.ofInt 39) (by decide) d_T_grows_64 ?_
              refine zk_callV hf_N3_.x (pc := 66) [.int (Int32.ofInt 39)] [] l_T_311 (u_Sums_isInBounds l d_ N3_ (hf_N3_.w hW) 39 (by decide) (by decide) F_ K_ hA_ c5_ (show 0 ≤ 39 by first | assumption | omega) (show 39 ≤ 39 by first | assumption | omega) (show zbd F_ K_ (zvc F_ d_ N3_ 39) by exact hbd_)) rfl rfl ((hf_N3_.w hW).kr (o := 23) (by decide)) (by decide) (by decide) (Nat.le_of_ble_eq_true rfl) d_T_grows_66 ?_
              rintro _ N6_ ⟨v7_, rfl, ⟨hv7_a, hv7_b⟩, hsN6_, hp0_N6_⟩
              obtain rfl := hsN6_.eq.symm
              replace hp0_N6_ : ((v7_ = 1 ∧ zfit F_ K_ (zvc F_ d_ N3_ 39)) ∨ (v7_ = 0 ∧ ¬ zfit F_ K_ (zvc F_ d_ N3_ 39))) := hp0_N6_
              rcases hp0_N6_ with ⟨rfl, ha66_0_hp0_N6_⟩ | ⟨rfl, ha66_0_hp0_N6_⟩
              · skip
                have hft_ := zfit_c ha66_0_hp0_N6_ hgc_
                show zW l m_T_grows (zn Mz + 0, zw Mz + 0) N3_ 69 [some (.ref 0), some (.int (Int32.ofInt a0_)), some (.int (Int32.ofInt a1_)), some (.int (Int32.ofInt a2_))] [.int (Int32.ofInt 1)] (zqcJ d_ [] [] [(0, 7), (0, 8)] [25] Mz (fun v N => ((((((-9 ≤ a0_ ∧ a0_ ≤ 9) ∧ (-999 ≤ a1_ ∧ a1_ ≤ 999) ∧ 0 ≤ a2_ ∧ a2_ < (F_ : Int)) ∧ zfit F_ K_ (zgrw s_.1 a0_ a1_ a2_)) ∧ zSK F_ (zpush s_ (zgrw s_.1 a0_ a1_ a2_)) d_ N ∧ v = (zgrw s_.1 a0_ a1_ a2_) (a2_).toNat) ∨ (¬ (((-9 ≤ a0_ ∧ a0_ ≤ 9) ∧ (-999 ≤ a1_ ∧ a1_ ≤ 999) ∧ 0 ≤ a2_ ∧ a2_ < (F_ : Int)) ∧ zfit F_ K_ (zgrw s_.1 a0_ a1_ a2_)) ∧ zSK F_ s_ d_ N ∧ v = (-9223372036854775808 : Int)))) ∧ zNm nm_ F_ K_ d_ N))
                refine zr_if_ne (pc := 69) (tgt := 76) ⟨(by decide), (by decide)⟩ (by decide) d_T_grows_69 (fun hc_69 => ?_) (fun hc_69 => ?_)
                · skip
                  refine zw_aload_n (pc := 76) (n := 0) (x := 0) rfl d_T_grows_76 ?_
                  refine zw_getF (pc := 77) f_T_28 rfl ((hf_N3_.w hW).ka (o := 0) (by decide)) (hf_N3_.now hnow) d_T_grows_77 ?_
                  refine zw_bipush (pc := 80) (v := Int32.ofInt 39) (by decide) d_T_grows_80 ?_
                  refine zk_callV hf_N3_.x (pc := 82) [.int (Int32.ofInt 39)] [] l_T_284 (u_Troupe_becomeS l d_ N3_ (hf_N3_.w hW) 39 (by decide) (by decide) F_ K_ hA_ s_ c5_ hsk1_ (show ((1 ≤ 39 ∧ 39 ≤ 8) ∨ (21 ≤ 39 ∧ 39 ≤ 39)) by first | assumption | omega)) rfl rfl ((hf_N3_.w hW).kr (o := 0) (by decide)) (by decide) (by decide) (Nat.le_of_ble_eq_true rfl) d_T_grows_82 ?_
                  rintro _ N8_ ⟨rfl, hsN8_, ⟨hp0_N8_, hp1_N8_⟩⟩
                  have hf_N8_ : zFc d_ [] [] [(0, 7), (0, 8)] [25] Mz N8_ := hf_N3_.tr hsN8_ (by decide) (by decide) (by decide) (by decide)
                  have eD12_7_N8_ : ze N8_ (d_ + 12) 7 = ze N3_ (d_ + 12) 7 := hsN8_.e (by decide)
                  have c10_ : zKm F_ K_ d_ N8_ := zKm.fr (hf_N3_.w hW) hsN8_ c5_ (by decide)
                  show zW l m_T_grows (zn Mz + 0, zw Mz + 0) N8_ 85 [some (.ref 0), some (.int (Int32.ofInt a0_)), some (.int (Int32.ofInt a1_)), some (.int (Int32.ofInt a2_))] [] (zqcJ d_ [] [] [(0, 7), (0, 8)] [25] Mz (fun v N => ((((((-9 ≤ a0_ ∧ a0_ ≤ 9) ∧ (-999 ≤ a1_ ∧ a1_ ≤ 999) ∧ 0 ≤ a2_ ∧ a2_ < (F_ : Int)) ∧ zfit F_ K_ (zgrw s_.1 a0_ a1_ a2_)) ∧ zSK F_ (zpush s_ (zgrw s_.1 a0_ a1_ a2_)) d_ N ∧ v = (zgrw s_.1 a0_ a1_ a2_) (a2_).toNat) ∨ (¬ (((-9 ≤ a0_ ∧ a0_ ≤ 9) ∧ (-999 ≤ a1_ ∧ a1_ ≤ 999) ∧ 0 ≤ a2_ ∧ a2_ < (F_ : Int)) ∧ zfit F_ K_ (zgrw s_.1 a0_ a1_ a2_)) ∧ zSK F_ s_ d_ N ∧ v = (-9223372036854775808 : Int)))) ∧ zNm nm_ F_ K_ d_ N))
                  have hsk2_ := hp0_N8_.pc hgc_
                  have hnm2_ := zNm.md hsN8_ hp1_N8_ hF27_ hnm1_ (by decide)
                  refine zw_aload_n (pc := 85) (n := 0) (x := 0) rfl d_T_grows_85 ?_
                  refine zw_getF (pc := 86) f_T_28 rfl ((hf_N8_.w hW).ka (o := 0) (by decide)) (hf_N8_.now hnow) d_T_grows_86 ?_
                  refine zw_getF (pc := 89) f_T_169 rfl ((hf_N8_.w hW).kr (o := 0) (by decide)) ((hf_N8_.w hW).lr (o := 0) (s := 2) (r := 23) (by decide)) d_T_grows_89 ?_
                  refine zw_iconst (pc := 92) (v := Int32.ofInt 0) (by decide) d_T_grows_92 ?_
                  refine zw_iload_n (pc := 93) (n := 3) (x := Int32.ofInt a2_) rfl d_T_grows_93 ?_
                  refine zk_callV hf_N8_.x (pc := 94) [.int (Int32.ofInt 0), .int (Int32.ofInt a2_)] [] l_T_179 (u_Sums_numberAt l d_ N8_ (hf_N8_.w hW) 0 (by decide) (by decide) a2_ ha2_a ha2_b (show 0 ≤ 0 by first | assumption | omega) (show 0 ≤ 39 by first | assumption | omega) (show 0 ≤ a2_ by first | assumption | omega) (show a2_ ≤ 26 by first | assumption | omega)) rfl rfl ((hf_N8_.w hW).kr (o := 23) (by decide)) (by decide) (by decide) (Nat.le_of_ble_eq_true rfl) d_T_grows_94 ?_
                  rintro _ N11_ ⟨v12_, rfl, ⟨hv12_a, hv12_b⟩, hsN11_, hp0_N11_⟩
                  obtain rfl := hsN11_.eq.symm
                  replace hp0_N11_ : v12_ = zg N8_ (d_ + 25) (0 * 27 + a2_).toNat := hp0_N11_
                  show zW l m_T_grows (zn Mz + 0, zw Mz + 0) N8_ 97 [some (.ref 0), some (.int (Int32.ofInt a0_)), some (.int (Int32.ofInt a1_)), some (.int (Int32.ofInt a2_))] [.long (Int64.ofInt v12_)] (zqcJ d_ [] [] [(0, 7), (0, 8)] [25] Mz (fun v N => ((((((-9 ≤ a0_ ∧ a0_ ≤ 9) ∧ (-999 ≤ a1_ ∧ a1_ ≤ 999) ∧ 0 ≤ a2_ ∧ a2_ < (F_ : Int)) ∧ zfit F_ K_ (zgrw s_.1 a0_ a1_ a2_)) ∧ zSK F_ (zpush s_ (zgrw s_.1 a0_ a1_ a2_)) d_ N ∧ v = (zgrw s_.1 a0_ a1_ a2_) (a2_).toNat) ∨ (¬ (((-9 ≤ a0_ ∧ a0_ ≤ 9) ∧ (-999 ≤ a1_ ∧ a1_ ≤ 999) ∧ 0 ≤ a2_ ∧ a2_ < (F_ : Int)) ∧ zfit F_ K_ (zgrw s_.1 a0_ a1_ a2_)) ∧ zSK F_ s_ d_ N ∧ v = (-9223372036854775808 : Int)))) ∧ zNm nm_ F_ K_ d_ N))
                  have hv_ := hp0_N11_
                  rw [show ((0 : Int) * 27 + a2_).toNat = (a2_).toNat by omega] at hv_
                  have hw_ := hv_.trans (hsk2_.2.2.1 _ (by omega))
                  exact zk_lret (pc := 97) rfl ⟨by omega, by omega⟩ hf_N8_ ⟨(show (((((-9 ≤ a0_ ∧ a0_ ≤ 9) ∧ (-999 ≤ a1_ ∧ a1_ ≤ 999) ∧ 0 ≤ a2_ ∧ a2_ < (F_ : Int)) ∧ zfit F_ K_ (zgrw s_.1 a0_ a1_ a2_)) ∧ zSK F_ (zpush s_ (zgrw s_.1 a0_ a1_ a2_)) d_ N8_ ∧ v12_ = (zgrw s_.1 a0_ a1_ a2_) (a2_).toNat) ∨ (¬ (((-9 ≤ a0_ ∧ a0_ ≤ 9) ∧ (-999 ≤ a1_ ∧ a1_ ≤ 999) ∧ 0 ≤ a2_ ∧ a2_ < (F_ : Int)) ∧ zfit F_ K_ (zgrw s_.1 a0_ a1_ a2_)) ∧ zSK F_ s_ d_ N8_ ∧ v12_ = (-9223372036854775808 : Int))) by exact Or.inl ⟨⟨by omega, hft_⟩, hsk2_, hw_⟩), hnm2_⟩ d_T_grows_97
                · skip
                  exact absurd hc_69 (by decide)
              · skip
                have hnf_ : ¬ zfit F_ K_ (zgrw s_.1 a0_ a1_ a2_) := fun q_ => ha66_0_hp0_N6_ (zfit_c q_ (fun i_ hi_ => (hgc_ i_ hi_).symm))
                show zW l m_T_grows (zn Mz + 0, zw Mz + 0) N3_ 69 [some (.ref 0), some (.int (Int32.ofInt a0_)), some (.int (Int32.ofInt a1_)), some (.int (Int32.ofInt a2_))] [.int (Int32.ofInt 0)] (zqcJ d_ [] [] [(0, 7), (0, 8)] [25] Mz (fun v N => ((((((-9 ≤ a0_ ∧ a0_ ≤ 9) ∧ (-999 ≤ a1_ ∧ a1_ ≤ 999) ∧ 0 ≤ a2_ ∧ a2_ < (F_ : Int)) ∧ zfit F_ K_ (zgrw s_.1 a0_ a1_ a2_)) ∧ zSK F_ (zpush s_ (zgrw s_.1 a0_ a1_ a2_)) d_ N ∧ v = (zgrw s_.1 a0_ a1_ a2_) (a2_).toNat) ∨ (¬ (((-9 ≤ a0_ ∧ a0_ ≤ 9) ∧ (-999 ≤ a1_ ∧ a1_ ≤ 999) ∧ 0 ≤ a2_ ∧ a2_ < (F_ : Int)) ∧ zfit F_ K_ (zgrw s_.1 a0_ a1_ a2_)) ∧ zSK F_ s_ d_ N ∧ v = (-9223372036854775808 : Int)))) ∧ zNm nm_ F_ K_ d_ N))
                refine zr_if_ne (pc := 69) (tgt := 76) ⟨(by decide), (by decide)⟩ (by decide) d_T_grows_69 (fun hc_69 => ?_) (fun hc_69 => ?_)
                · skip
                  exact absurd hc_69 (by decide)
                · skip
                  refine zr_ldc2 (pc := 72) (n := (-9223372036854775808)) (by decide) k_T_248 d_T_grows_72 ?_
                  exact zk_lret (pc := 75) rfl ⟨by omega, by omega⟩ hf_N3_ ⟨(show (((((-9 ≤ a0_ ∧ a0_ ≤ 9) ∧ (-999 ≤ a1_ ∧ a1_ ≤ 999) ∧ 0 ≤ a2_ ∧ a2_ < (F_ : Int)) ∧ zfit F_ K_ (zgrw s_.1 a0_ a1_ a2_)) ∧ zSK F_ (zpush s_ (zgrw s_.1 a0_ a1_ a2_)) d_ N3_ ∧ ((-9223372036854775808)) = (zgrw s_.1 a0_ a1_ a2_) (a2_).toNat) ∨ (¬ (((-9 ≤ a0_ ∧ a0_ ≤ 9) ∧ (-999 ≤ a1_ ∧ a1_ ≤ 999) ∧ 0 ≤ a2_ ∧ a2_ < (F_ : Int)) ∧ zfit F_ K_ (zgrw s_.1 a0_ a1_ a2_)) ∧ zSK F_ s_ d_ N3_ ∧ ((-9223372036854775808)) = (-9223372036854775808 : Int))) by exact Or.inr ⟨fun q_ => hnf_ q_.2, hsk1_, rfl⟩), hnm1_⟩ d_T_grows_75
            · skip
              exact absurd hc_37 (by decide)
          · skip
            show zW l m_T_grows (zn Mz + 0, zw Mz + 0) Mz 37 [some (.ref 0), some (.int (Int32.ofInt a0_)), some (.int (Int32.ofInt a1_)), some (.int (Int32.ofInt a2_))] [.int (Int32.ofInt 0)] (zqcJ d_ [] [] [(0, 7), (0, 8)] [25] Mz (fun v N => ((((((-9 ≤ a0_ ∧ a0_ ≤ 9) ∧ (-999 ≤ a1_ ∧ a1_ ≤ 999) ∧ 0 ≤ a2_ ∧ a2_ < (F_ : Int)) ∧ zfit F_ K_ (zgrw s_.1 a0_ a1_ a2_)) ∧ zSK F_ (zpush s_ (zgrw s_.1 a0_ a1_ a2_)) d_ N ∧ v = (zgrw s_.1 a0_ a1_ a2_) (a2_).toNat) ∨ (¬ (((-9 ≤ a0_ ∧ a0_ ≤ 9) ∧ (-999 ≤ a1_ ∧ a1_ ≤ 999) ∧ 0 ≤ a2_ ∧ a2_ < (F_ : Int)) ∧ zfit F_ K_ (zgrw s_.1 a0_ a1_ a2_)) ∧ zSK F_ s_ d_ N ∧ v = (-9223372036854775808 : Int)))) ∧ zNm nm_ F_ K_ d_ N))
            refine zr_if_ne (pc := 37) (tgt := 44) ⟨(by decide), (by decide)⟩ (by decide) d_T_grows_37 (fun hc_37 => ?_) (fun hc_37 => ?_)
            · skip
              exact absurd hc_37 (by decide)
            · skip
              refine zr_ldc2 (pc := 40) (n := (-9223372036854775808)) (by decide) k_T_248 d_T_grows_40 ?_
              exact zk_lret (pc := 43) rfl ⟨by omega, by omega⟩ hf ⟨(show (((((-9 ≤ a0_ ∧ a0_ ≤ 9) ∧ (-999 ≤ a1_ ∧ a1_ ≤ 999) ∧ 0 ≤ a2_ ∧ a2_ < (F_ : Int)) ∧ zfit F_ K_ (zgrw s_.1 a0_ a1_ a2_)) ∧ zSK F_ (zpush s_ (zgrw s_.1 a0_ a1_ a2_)) d_ Mz ∧ ((-9223372036854775808)) = (zgrw s_.1 a0_ a1_ a2_) (a2_).toNat) ∨ (¬ (((-9 ≤ a0_ ∧ a0_ ≤ 9) ∧ (-999 ≤ a1_ ∧ a1_ ≤ 999) ∧ 0 ≤ a2_ ∧ a2_ < (F_ : Int)) ∧ zfit F_ K_ (zgrw s_.1 a0_ a1_ a2_)) ∧ zSK F_ s_ d_ Mz ∧ ((-9223372036854775808)) = (-9223372036854775808 : Int))) by exact Or.inr ⟨fun q_ => by have h_ := q_.1; omega, p1_, rfl⟩), p2_⟩ d_T_grows_43
set_option maxHeartbeats 4000000 in
theorem u_T_undoS (l : Launch) (d_ : Nat) (Mz : zMem) (hW : zKW d_ Mz) (hnow : zf Mz 0 2 = some (d_ + 0)) (F_ : Nat) (K_ : Nat → Nat → Int) (hA_ : zTA F_ K_) (s_ : zSg) (nm_ : List (Int × (Nat → Int))) (p0_ : zKm F_ K_ d_ Mz) (p1_ : zSK F_ s_ d_ Mz) (p2_ : zNm nm_ F_ K_ d_ Mz) : zC l m_T_undo 0 0 [.ref 0] Mz (zqcI d_ [] [] [(0, 7), (0, 8)] [25] Mz (fun v N => (((1 ≤ s_.2.1 ∧ zSK F_ (zpop s_) d_ N ∧ v = ((s_.2.1 - 1 : Nat) : Int)) ∨ (s_.2.1 = 0 ∧ zSK F_ s_ d_ N ∧ v = (-1 : Int)))) ∧ zNm nm_ F_ K_ d_ N)) := by
  refine zC_of (L0 := [some (.ref 0)]) md_T_undo (Nat.le_of_ble_eq_true rfl) rfl ?_ zQ0
  have hf : zFc d_ [] [] [(0, 7), (0, 8)] [25] Mz Mz := zFc.rf
  have r_D0_7 := ze_r Mz (d_ + 0) 7
  obtain ⟨⟨hF1_, hF27_⟩, hAr_⟩ := id hA_
  obtain ⟨hFc_, hKt_⟩ := id p0_
  obtain ⟨⟨hs1_, hs2_⟩, ⟨hs3_, hs4_⟩, hs5_, hs6_⟩ := id p1_
  refine zw_aload_n (pc := 0) (n := 0) (x := 0) rfl d_T_undo_0 ?_
  refine zw_getF (pc := 1) f_T_28 rfl ((hf.w hW).ka (o := 0) (by decide)) (hf.now hnow) d_T_undo_1 ?_
  refine zk_getI (pc := 4) f_T_105 rfl ((hf.w hW).kr (o := 0) (by decide)) d_T_undo_4 ?_
  refine zr_if_le (pc := 7) (tgt := 20) ⟨(ze_r Mz (d_ + 0) 7).1, (ze_r Mz (d_ + 0) 7).2⟩ (by decide) d_T_undo_7 (fun hc_7 => ?_) (fun hc_7 => ?_)
  · skip
    refine zw_iconst (pc := 20) (v := Int32.ofInt (-1)) (by decide) d_T_undo_20 ?_
    exact zk_iret (pc := 21) (ty := .int) rfl rfl ⟨by omega, by omega⟩ hf ⟨(show ((1 ≤ s_.2.1 ∧ zSK F_ (zpop s_) d_ Mz ∧ ((-1)) = ((s_.2.1 - 1 : Nat) : Int)) ∨ (s_.2.1 = 0 ∧ zSK F_ s_ d_ Mz ∧ ((-1)) = (-1 : Int))) by first | exact Or.inr ⟨by omega, p1_, rfl⟩ | exact Or.inl ⟨by omega, hsk_, hv_⟩), p2_⟩ d_T_undo_21
  · skip
    refine zw_aload_n (pc := 10) (n := 0) (x := 0) rfl d_T_undo_10 ?_
    refine zw_getF (pc := 11) f_T_28 rfl ((hf.w hW).ka (o := 0) (by decide)) (hf.now hnow) d_T_undo_11 ?_
    refine zk_callV hf.x (pc := 14) [] [] l_T_314 (u_Troupe_takeBackS l d_ Mz (hf.w hW) F_ K_ hA_ s_ p0_ p1_ (show 1 ≤ s_.2.1 by first | assumption | omega)) rfl rfl ((hf.w hW).kr (o := 0) (by decide)) (by decide) (by decide) (Nat.le_of_ble_eq_true rfl) d_T_undo_14 ?_
    rintro _ N1_ ⟨v2_, rfl, ⟨hv2_a, hv2_b⟩, hsN1_, ⟨hp0_N1_, hp1_N1_, hp2_N1_⟩⟩
    have hf_N1_ : zFc d_ [] [] [(0, 7), (0, 8)] [25] Mz N1_ := hf.tr hsN1_ (by decide) (by decide) (by decide) (by decide)
    have rD0_7_N1_ := ze_r N1_ (d_ + 0) 7
    have c3_ : zKm F_ K_ d_ N1_ := zKm.fr (hf.w hW) hsN1_ p0_ (by decide)
    show zW l m_T_undo (zn Mz + 0, zw Mz + 0) N1_ 17 [some (.ref 0)] [.int (Int32.ofInt v2_)] (zqcI d_ [] [] [(0, 7), (0, 8)] [25] Mz (fun v N => (((1 ≤ s_.2.1 ∧ zSK F_ (zpop s_) d_ N ∧ v = ((s_.2.1 - 1 : Nat) : Int)) ∨ (s_.2.1 = 0 ∧ zSK F_ s_ d_ N ∧ v = (-1 : Int)))) ∧ zNm nm_ F_ K_ d_ N))
    have hsk_ := hp0_N1_
    have hv_ := hp2_N1_
    have hnm_ := zNm.md hsN1_ hp1_N1_ hF27_ p2_ (by decide)
    refine zw_goto (pc := 17) (tgt := 21) (by decide) d_T_undo_17 ?_
    exact zk_iret (pc := 21) (ty := .int) rfl rfl ⟨by omega, by omega⟩ hf_N1_ ⟨(show ((1 ≤ s_.2.1 ∧ zSK F_ (zpop s_) d_ N1_ ∧ v2_ = ((s_.2.1 - 1 : Nat) : Int)) ∨ (s_.2.1 = 0 ∧ zSK F_ s_ d_ N1_ ∧ v2_ = (-1 : Int))) by first | exact Or.inr ⟨by omega, p1_, rfl⟩ | exact Or.inl ⟨by omega, hsk_, hv_⟩), hnm_⟩ d_T_undo_21
