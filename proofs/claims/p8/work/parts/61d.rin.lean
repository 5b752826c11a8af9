def zMvq (mv : List Nat) (M : zMem) : Prop := zMvF M = mv
def zMvt (mv : List Nat) (M : zMem) : Prop := zMvs M = mv
theorem zMvq.fr {S C : List Nat} {M N : zMem} {mv : List Nat} (hf : zFr S C M N) (h : zMvq mv M) (hs : 16 ∉ S ∧ 17 ∉ S) (hc : 84 ∉ C) : zMvq mv N := (zMvF_f hf hs hc).trans h
theorem zMvt.fr {S C : List Nat} {M N : zMem} {mv : List Nat} (hf : zFr S C M N) (h : zMvt mv M) (hs : 12 ∉ S ∧ 13 ∉ S) (hc : 83 ∉ C) : zMvt mv N := (zMvs_f hf hs hc).trans h
theorem zMvF_i {M0 N : zMem} {i : Int} (hi : 24 ≤ i) (hq : zCp 83 84 M0 N i) (hk : ∀ j, ze N 83 j = ze M0 83 j) (h16 : ze N 81 16 = ze N 81 12) (h17 : ze N 81 17 = ze N 81 13) (p0 : 1 ≤ ze N 81 12) (p1 : ze N 81 12 ≤ 6) (p3 : ze N 81 13 ≤ 4) : zMvF N = zMvs N := by
  have h : ∀ j : Nat, (j : Int) < i → ze N 84 j = ze N 83 j := fun j hj => by rw [hq j hj, hk]
  unfold zMvF zMvs
  rw [h16, h17]
  apply List.map_congr_left
  intro k hk
  rw [List.mem_range] at hk
  exact zrc_c p1 (fun p hp => h _ (by omega))
theorem zMvF_b {M0 N : zMem} {i : Int} (hi : 24 ≤ i) (hq : zCp 84 83 M0 N i) (hk : ∀ j, ze N 84 j = ze M0 84 j) (hI : zIF N) (h16 : ze N 81 12 = ze N 81 16) (h17 : ze N 81 13 = ze N 81 17) : zMvs N = zMvF N := by
  have h : ∀ j : Nat, (j : Int) < i → ze N 83 j = ze N 84 j := fun j hj => by rw [hq j hj, hk]
  obtain ⟨h1, h2, h3, h4⟩ := hI
  unfold zMvF zMvs
  rw [h16, h17]
  apply List.map_congr_left
  intro k hk
  rw [List.mem_range] at hk
  exact zrc_c h1.1.2 (fun p hp => h _ (by omega))
def zRS (P : Nat) (mv : List Nat) (T : zGT) (M : zMem) : Prop := T ∈ gTabs ∧ zTm mv T ∧ zGB T M ∧ ze M 81 16 = (P : Int) ∧ zMvq mv M
theorem zRS.fr {S C : List Nat} {M N : zMem} {P : Nat} {mv : List Nat} {T : zGT} (hf : zFr S C M N) (h : zRS P mv T M) (hs : 16 ∉ S ∧ 17 ∉ S ∧ 20 ∉ S ∧ 25 ∉ S ∧ 26 ∉ S) (hc : 84 ∉ C ∧ 85 ∉ C ∧ 87 ∉ C ∧ 88 ∉ C ∧ 89 ∉ C ∧ 90 ∉ C ∧ 91 ∉ C ∧ 93 ∉ C ∧ 94 ∉ C) : zRS P mv T N := by
  obtain ⟨a1, a2, a3, a4, a5⟩ := h
  exact ⟨a1, a2, zGB.fr hf a3 hs.2.2 hc.2, by rw [hf.e hs.1]; exact a4, zMvq.fr hf a5 ⟨hs.1, hs.2.1⟩ hc.1⟩
set_option maxHeartbeats 40000000 in
theorem c_M_inForceG (l : Launch) (Mz : zMem) (hW : zMt Mz) (mv_ : List Nat) (p0_ : 1 ≤ ze Mz 81 12) (p1_ : ze Mz 81 12 ≤ 6) (p2_ : 0 ≤ ze Mz 81 13) (p3_ : ze Mz 81 13 ≤ 4) (p4_ : zPm Mz) (p5_ : zFin Mz) (p6_ : zB 83 24 0 5 Mz) (p7_ : 0 ≤ ze Mz 81 14) (p8_ : ze Mz 81 14 ≤ 8) (p9_ : zMvt mv_ Mz) : zC l m_M_inForce 0 0 [.ref 81] Mz (zpV [16, 17, 18, 58, 60] [84, 98, 103, 104] Mz (fun N => zIF N ∧ ze N 81 60 = 0 ∧ 0 ≤ ze N 81 18 ∧ ze N 81 18 ≤ 8 ∧ zMvq mv_ N ∧ ze N 81 16 = ze Mz 81 12)) := by
  refine zC_of (L0 := [some (.ref 81), none]) md_M_inForce (Nat.le_of_ble_eq_true rfl) rfl ?_ zQ0
  have hf : zFr [16, 17, 18, 58, 60] [84, 98, 103, 104] Mz Mz := zFr.rf
  have r_12 := ze_r Mz 81 12
  have r_13 := ze_r Mz 81 13
  have r_14 := ze_r Mz 81 14
  have r_16 := ze_r Mz 81 16
  have r_17 := ze_r Mz 81 17
  have r_18 := ze_r Mz 81 18
  have r_58 := ze_r Mz 81 58
  have r_60 := ze_r Mz 81 60
  refine zw_aload_n (pc := 0) (n := 0) (x := 81) rfl d_M_inForce_0 ?_
  refine zw_aload_n (pc := 1) (n := 0) (x := 81) rfl d_M_inForce_1 ?_
  refine zr_getI0 hf hW (pc := 2) (by decide) f_M_115 rfl d_M_inForce_2 ?_
  refine zr_putI (hf.w hW) (pc := 5) f_M_382 rfl rfl ⟨by omega, by omega⟩ rfl rfl d_M_inForce_5 (fun N1_ hsN1_ hvN1_ => ?_)
  have hf_N1_ : zFr [16, 17, 18, 58, 60] [84, 98, 103, 104] Mz N1_ := hf.tr hsN1_ (by decide) (by decide)
  have e12_N1_ : ze N1_ 81 12 = ze Mz 81 12 := hsN1_.e (by decide)
  have e13_N1_ : ze N1_ 81 13 = ze Mz 81 13 := hsN1_.e (by decide)
  have e14_N1_ : ze N1_ 81 14 = ze Mz 81 14 := hsN1_.e (by decide)
  have r16_N1_ := ze_r N1_ 81 16
  have e17_N1_ : ze N1_ 81 17 = ze Mz 81 17 := hsN1_.e (by decide)
  have e18_N1_ : ze N1_ 81 18 = ze Mz 81 18 := hsN1_.e (by decide)
  have e58_N1_ : ze N1_ 81 58 = ze Mz 81 58 := hsN1_.e (by decide)
  have e60_N1_ : ze N1_ 81 60 = ze Mz 81 60 := hsN1_.e (by decide)
  have c2_ : zPm N1_ := zPm.fr hsN1_ p4_ (by decide) (by decide)
  have c3_ : zFin N1_ := zFin.fr hsN1_ p5_ (by decide) (by decide)
  have c4_ : zB 83 24 0 5 N1_ := zB.fr hsN1_ p6_ (by decide) (by decide)
  have c5_ : zMvt mv_ N1_ := zMvt.fr hsN1_ p9_ (by decide) (by decide)
  refine zw_aload_n (pc := 8) (n := 0) (x := 81) rfl d_M_inForce_8 ?_
  refine zw_aload_n (pc := 9) (n := 0) (x := 81) rfl d_M_inForce_9 ?_
  refine zr_getI0 hf_N1_ hW (pc := 10) (by decide) f_M_199 rfl d_M_inForce_10 ?_
  refine zr_putI (hf_N1_.w hW) (pc := 13) f_M_385 rfl rfl ⟨by omega, by omega⟩ rfl rfl d_M_inForce_13 (fun N6_ hsN6_ hvN6_ => ?_)
  have hf_N6_ : zFr [16, 17, 18, 58, 60] [84, 98, 103, 104] Mz N6_ := hf_N1_.tr hsN6_ (by decide) (by decide)
  have e12_N6_ : ze N6_ 81 12 = ze N1_ 81 12 := hsN6_.e (by decide)
  have e13_N6_ : ze N6_ 81 13 = ze N1_ 81 13 := hsN6_.e (by decide)
  have e14_N6_ : ze N6_ 81 14 = ze N1_ 81 14 := hsN6_.e (by decide)
  have e16_N6_ : ze N6_ 81 16 = ze N1_ 81 16 := hsN6_.e (by decide)
  have r17_N6_ := ze_r N6_ 81 17
  have e18_N6_ : ze N6_ 81 18 = ze N1_ 81 18 := hsN6_.e (by decide)
  have e58_N6_ : ze N6_ 81 58 = ze N1_ 81 58 := hsN6_.e (by decide)
  have e60_N6_ : ze N6_ 81 60 = ze N1_ 81 60 := hsN6_.e (by decide)
  have c7_ : zPm N6_ := zPm.fr hsN6_ c2_ (by decide) (by decide)
  have c8_ : zFin N6_ := zFin.fr hsN6_ c3_ (by decide) (by decide)
  have c9_ : zB 83 24 0 5 N6_ := zB.fr hsN6_ c4_ (by decide) (by decide)
  have c10_ : zMvt mv_ N6_ := zMvt.fr hsN6_ c5_ (by decide) (by decide)
  refine zw_aload_n (pc := 16) (n := 0) (x := 81) rfl d_M_inForce_16 ?_
  refine zw_aload_n (pc := 17) (n := 0) (x := 81) rfl d_M_inForce_17 ?_
  refine zr_getI0 hf_N6_ hW (pc := 18) (by decide) f_M_299 rfl d_M_inForce_18 ?_
  refine zr_putI (hf_N6_.w hW) (pc := 21) f_M_388 rfl rfl ⟨by omega, by omega⟩ rfl rfl d_M_inForce_21 (fun N11_ hsN11_ hvN11_ => ?_)
  have hf_N11_ : zFr [16, 17, 18, 58, 60] [84, 98, 103, 104] Mz N11_ := hf_N6_.tr hsN11_ (by decide) (by decide)
  have e12_N11_ : ze N11_ 81 12 = ze N6_ 81 12 := hsN11_.e (by decide)
  have e13_N11_ : ze N11_ 81 13 = ze N6_ 81 13 := hsN11_.e (by decide)
  have e14_N11_ : ze N11_ 81 14 = ze N6_ 81 14 := hsN11_.e (by decide)
  have e16_N11_ : ze N11_ 81 16 = ze N6_ 81 16 := hsN11_.e (by decide)
  have e17_N11_ : ze N11_ 81 17 = ze N6_ 81 17 := hsN11_.e (by decide)
  have r18_N11_ := ze_r N11_ 81 18
  have e58_N11_ : ze N11_ 81 58 = ze N6_ 81 58 := hsN11_.e (by decide)
  have e60_N11_ : ze N11_ 81 60 = ze N6_ 81 60 := hsN11_.e (by decide)
  have c12_ : zPm N11_ := zPm.fr hsN11_ c7_ (by decide) (by decide)
  have c13_ : zFin N11_ := zFin.fr hsN11_ c8_ (by decide) (by decide)
  have c14_ : zB 83 24 0 5 N11_ := zB.fr hsN11_ c9_ (by decide) (by decide)
  have c15_ : zMvt mv_ N11_ := zMvt.fr hsN11_ c10_ (by decide) (by decide)
  refine zw_iconst (pc := 24) (v := Int32.ofInt 0) (by decide) d_M_inForce_24 ?_
  refine zw_istore_n (pc := 25) (i := 1) (L2 := [some (.ref 81), some (.int (Int32.ofInt 0))]) rfl (by decide) rfl d_M_inForce_25 ?_
  have lp_26 : ∀ (n : Nat) (u16_ : Int) (hu16_a : -2147483648 ≤ u16_) (hu16_b : u16_ < 2147483648) (N17_ : zMem) (hs18_ : zFr [] [84] N11_ N17_) (i19_ : 0 ≤ u16_) (i20_ : zCp 83 84 Mz N17_ u16_), (24 - u16_).toNat < n → zW l m_M_inForce (zn Mz + 0, zw Mz + 0) N17_ 26 [some (.ref 81), some (.int (Int32.ofInt u16_))] [] (zpV [16, 17, 18, 58, 60] [84, 98, 103, 104] Mz (fun N => zIF N ∧ ze N 81 60 = 0 ∧ 0 ≤ ze N 81 18 ∧ ze N 81 18 ≤ 8 ∧ zMvq mv_ N ∧ ze N 81 16 = ze Mz 81 12)) := by
    intro n
    induction n with
    | zero =>
      intro u16_ hu16_a hu16_b N17_ hs18_ i19_ i20_ h0
      exact absurd h0 (Nat.not_lt_zero _)
    | succ n ih_26 =>
      intro u16_ hu16_a hu16_b N17_ hs18_ i19_ i20_ hlt_26
      have hf_N17_ : zFr [16, 17, 18, 58, 60] [84, 98, 103, 104] Mz N17_ := hf_N11_.tr hs18_ (by decide) (by decide)
      have e12_N17_ : ze N17_ 81 12 = ze N11_ 81 12 := hs18_.e (by decide)
      have e13_N17_ : ze N17_ 81 13 = ze N11_ 81 13 := hs18_.e (by decide)
      have e14_N17_ : ze N17_ 81 14 = ze N11_ 81 14 := hs18_.e (by decide)
      have e16_N17_ : ze N17_ 81 16 = ze N11_ 81 16 := hs18_.e (by decide)
      have e17_N17_ : ze N17_ 81 17 = ze N11_ 81 17 := hs18_.e (by decide)
      have e18_N17_ : ze N17_ 81 18 = ze N11_ 81 18 := hs18_.e (by decide)
      have e58_N17_ : ze N17_ 81 58 = ze N11_ 81 58 := hs18_.e (by decide)
      have e60_N17_ : ze N17_ 81 60 = ze N11_ 81 60 := hs18_.e (by decide)
      have c21_ : zPm N17_ := zPm.fr hs18_ c12_ (by decide) (by decide)
      have c22_ : zFin N17_ := zFin.fr hs18_ c13_ (by decide) (by decide)
      have c23_ : zB 83 24 0 5 N17_ := zB.fr hs18_ c14_ (by decide) (by decide)
      have c24_ : zMvt mv_ N17_ := zMvt.fr hs18_ c15_ (by decide) (by decide)
      refine zw_iload_n (pc := 26) (n := 1) (x := Int32.ofInt u16_) rfl d_M_inForce_26 ?_
      refine zw_bipush (pc := 27) (v := Int32.ofInt 24) (by decide) d_M_inForce_27 ?_
      refine zr_icmp_ge (pc := 29) (tgt := 50) ⟨hu16_a, hu16_b⟩ ⟨(by decide), (by decide)⟩ (by decide) d_M_inForce_29 (fun hc_29 => ?_) (fun hc_29 => ?_)
      · skip
        have hI_ : zIF N17_ := zIF_i (by omega) (show zCp 83 84 Mz N17_ u16_ by assumption) (fun j => hf_N17_.ie (by decide) (by decide) j) (by omega) (by omega) (by omega) (by omega) (by omega) (by omega) c21_ c22_ c23_
        have hMq_ : zMvq mv_ N17_ := (zMvF_i (by omega) (show zCp 83 84 Mz N17_ u16_ by assumption) (fun j => hf_N17_.ie (by decide) (by decide) j) (by omega) (by omega) (by omega) (by omega) (by omega)).trans c24_
        refine zw_iconst (pc := 50) (v := Int32.ofInt 0) (by decide) d_M_inForce_50 ?_
        refine zw_istore_n (pc := 51) (i := 1) (L2 := [some (.ref 81), some (.int (Int32.ofInt 0))]) rfl (by decide) rfl d_M_inForce_51 ?_
        have lp_52 : ∀ (n : Nat) (u25_ : Int) (hu25_a : -2147483648 ≤ u25_) (hu25_b : u25_ < 2147483648) (N26_ : zMem) (hs27_ : zFr [] [103] N17_ N26_) (i28_ : 0 ≤ u25_), (8 - u25_).toNat < n → zW l m_M_inForce (zn Mz + 0, zw Mz + 0) N26_ 52 [some (.ref 81), some (.int (Int32.ofInt u25_))] [] (zpV [16, 17, 18, 58, 60] [84, 98, 103, 104] Mz (fun N => zIF N ∧ ze N 81 60 = 0 ∧ 0 ≤ ze N 81 18 ∧ ze N 81 18 ≤ 8 ∧ zMvq mv_ N ∧ ze N 81 16 = ze Mz 81 12)) := by
          intro n
          induction n with
          | zero =>
            intro u25_ hu25_a hu25_b N26_ hs27_ i28_ h0
            exact absurd h0 (Nat.not_lt_zero _)
          | succ n ih_52 =>
            intro u25_ hu25_a hu25_b N26_ hs27_ i28_ hlt_52
            have hf_N26_ : zFr [16, 17, 18, 58, 60] [84, 98, 103, 104] Mz N26_ := hf_N17_.tr hs27_ (by decide) (by decide)
            have e12_N26_ : ze N26_ 81 12 = ze N17_ 81 12 := hs27_.e (by decide)
            have e13_N26_ : ze N26_ 81 13 = ze N17_ 81 13 := hs27_.e (by decide)
            have e14_N26_ : ze N26_ 81 14 = ze N17_ 81 14 := hs27_.e (by decide)
            have e16_N26_ : ze N26_ 81 16 = ze N17_ 81 16 := hs27_.e (by decide)
            have e17_N26_ : ze N26_ 81 17 = ze N17_ 81 17 := hs27_.e (by decide)
            have e18_N26_ : ze N26_ 81 18 = ze N17_ 81 18 := hs27_.e (by decide)
            have e58_N26_ : ze N26_ 81 58 = ze N17_ 81 58 := hs27_.e (by decide)
            have e60_N26_ : ze N26_ 81 60 = ze N17_ 81 60 := hs27_.e (by decide)
            have c29_ : zPm N26_ := zPm.fr hs27_ c21_ (by decide) (by decide)
            have c30_ : zFin N26_ := zFin.fr hs27_ c22_ (by decide) (by decide)
            have c31_ : zB 83 24 0 5 N26_ := zB.fr hs27_ c23_ (by decide) (by decide)
            have c32_ : zMvt mv_ N26_ := zMvt.fr hs27_ c24_ (by decide) (by decide)
            have c33_ : zIF N26_ := zIF.fr hs27_ hI_ (by decide) (by decide)
            have c34_ : zMvq mv_ N26_ := zMvq.fr hs27_ hMq_ (by decide) (by decide)
            refine zw_iload_n (pc := 52) (n := 1) (x := Int32.ofInt u25_) rfl d_M_inForce_52 ?_
            refine zw_bipush (pc := 53) (v := Int32.ofInt 8) (by decide) d_M_inForce_53 ?_
            refine zr_icmp_ge (pc := 55) (tgt := 76) ⟨hu25_a, hu25_b⟩ ⟨(by decide), (by decide)⟩ (by decide) d_M_inForce_55 (fun hc_55 => ?_) (fun hc_55 => ?_)
            · skip
              refine zw_iconst (pc := 76) (v := Int32.ofInt 0) (by decide) d_M_inForce_76 ?_
              refine zw_istore_n (pc := 77) (i := 1) (L2 := [some (.ref 81), some (.int (Int32.ofInt 0))]) rfl (by decide) rfl d_M_inForce_77 ?_
              have lp_78 : ∀ (n : Nat) (u35_ : Int) (hu35_a : -2147483648 ≤ u35_) (hu35_b : u35_ < 2147483648) (N36_ : zMem) (hs37_ : zFr [] [104] N26_ N36_) (i38_ : 0 ≤ u35_), (512 - u35_).toNat < n → zW l m_M_inForce (zn Mz + 0, zw Mz + 0) N36_ 78 [some (.ref 81), some (.int (Int32.ofInt u35_))] [] (zpV [16, 17, 18, 58, 60] [84, 98, 103, 104] Mz (fun N => zIF N ∧ ze N 81 60 = 0 ∧ 0 ≤ ze N 81 18 ∧ ze N 81 18 ≤ 8 ∧ zMvq mv_ N ∧ ze N 81 16 = ze Mz 81 12)) := by
                intro n
                induction n with
                | zero =>
                  intro u35_ hu35_a hu35_b N36_ hs37_ i38_ h0
                  exact absurd h0 (Nat.not_lt_zero _)
                | succ n ih_78 =>
                  intro u35_ hu35_a hu35_b N36_ hs37_ i38_ hlt_78
                  have hf_N36_ : zFr [16, 17, 18, 58, 60] [84, 98, 103, 104] Mz N36_ := hf_N26_.tr hs37_ (by decide) (by decide)
                  have e12_N36_ : ze N36_ 81 12 = ze N26_ 81 12 := hs37_.e (by decide)
                  have e13_N36_ : ze N36_ 81 13 = ze N26_ 81 13 := hs37_.e (by decide)
                  have e14_N36_ : ze N36_ 81 14 = ze N26_ 81 14 := hs37_.e (by decide)
                  have e16_N36_ : ze N36_ 81 16 = ze N26_ 81 16 := hs37_.e (by decide)
                  have e17_N36_ : ze N36_ 81 17 = ze N26_ 81 17 := hs37_.e (by decide)
                  have e18_N36_ : ze N36_ 81 18 = ze N26_ 81 18 := hs37_.e (by decide)
                  have e58_N36_ : ze N36_ 81 58 = ze N26_ 81 58 := hs37_.e (by decide)
                  have e60_N36_ : ze N36_ 81 60 = ze N26_ 81 60 := hs37_.e (by decide)
                  have c39_ : zPm N36_ := zPm.fr hs37_ c29_ (by decide) (by decide)
                  have c40_ : zFin N36_ := zFin.fr hs37_ c30_ (by decide) (by decide)
                  have c41_ : zB 83 24 0 5 N36_ := zB.fr hs37_ c31_ (by decide) (by decide)
                  have c42_ : zMvt mv_ N36_ := zMvt.fr hs37_ c32_ (by decide) (by decide)
                  have c43_ : zIF N36_ := zIF.fr hs37_ c33_ (by decide) (by decide)
                  have c44_ : zMvq mv_ N36_ := zMvq.fr hs37_ c34_ (by decide) (by decide)
                  refine zw_iload_n (pc := 78) (n := 1) (x := Int32.ofInt u35_) rfl d_M_inForce_78 ?_
                  refine zw_sipush (pc := 79) (v := Int32.ofInt 512) (by decide) d_M_inForce_79 ?_
                  refine zr_icmp_ge (pc := 82) (tgt := 103) ⟨hu35_a, hu35_b⟩ ⟨(by decide), (by decide)⟩ (by decide) d_M_inForce_82 (fun hc_82 => ?_) (fun hc_82 => ?_)
                  · skip
                    refine zw_iconst (pc := 103) (v := Int32.ofInt 0) (by decide) d_M_inForce_103 ?_
                    refine zw_istore_n (pc := 104) (i := 1) (L2 := [some (.ref 81), some (.int (Int32.ofInt 0))]) rfl (by decide) rfl d_M_inForce_104 ?_
                    have lp_105 : ∀ (n : Nat) (u45_ : Int) (hu45_a : -2147483648 ≤ u45_) (hu45_b : u45_ < 2147483648) (N46_ : zMem) (hs47_ : zFr [] [98] N36_ N46_) (i48_ : 0 ≤ u45_), (64 - u45_).toNat < n → zW l m_M_inForce (zn Mz + 0, zw Mz + 0) N46_ 105 [some (.ref 81), some (.int (Int32.ofInt u45_))] [] (zpV [16, 17, 18, 58, 60] [84, 98, 103, 104] Mz (fun N => zIF N ∧ ze N 81 60 = 0 ∧ 0 ≤ ze N 81 18 ∧ ze N 81 18 ≤ 8 ∧ zMvq mv_ N ∧ ze N 81 16 = ze Mz 81 12)) := by
                      intro n
                      induction n with
                      | zero =>
                        intro u45_ hu45_a hu45_b N46_ hs47_ i48_ h0
                        exact absurd h0 (Nat.not_lt_zero _)
                      | succ n ih_105 =>
                        intro u45_ hu45_a hu45_b N46_ hs47_ i48_ hlt_105
                        have hf_N46_ : zFr [16, 17, 18, 58, 60] [84, 98, 103, 104] Mz N46_ := hf_N36_.tr hs47_ (by decide) (by decide)
                        have e12_N46_ : ze N46_ 81 12 = ze N36_ 81 12 := hs47_.e (by decide)
                        have e13_N46_ : ze N46_ 81 13 = ze N36_ 81 13 := hs47_.e (by decide)
                        have e14_N46_ : ze N46_ 81 14 = ze N36_ 81 14 := hs47_.e (by decide)
                        have e16_N46_ : ze N46_ 81 16 = ze N36_ 81 16 := hs47_.e (by decide)
                        have e17_N46_ : ze N46_ 81 17 = ze N36_ 81 17 := hs47_.e (by decide)
                        have e18_N46_ : ze N46_ 81 18 = ze N36_ 81 18 := hs47_.e (by decide)
                        have e58_N46_ : ze N46_ 81 58 = ze N36_ 81 58 := hs47_.e (by decide)
                        have e60_N46_ : ze N46_ 81 60 = ze N36_ 81 60 := hs47_.e (by decide)
                        have c49_ : zPm N46_ := zPm.fr hs47_ c39_ (by decide) (by decide)
                        have c50_ : zFin N46_ := zFin.fr hs47_ c40_ (by decide) (by decide)
                        have c51_ : zB 83 24 0 5 N46_ := zB.fr hs47_ c41_ (by decide) (by decide)
                        have c52_ : zMvt mv_ N46_ := zMvt.fr hs47_ c42_ (by decide) (by decide)
                        have c53_ : zIF N46_ := zIF.fr hs47_ c43_ (by decide) (by decide)
                        have c54_ : zMvq mv_ N46_ := zMvq.fr hs47_ c44_ (by decide) (by decide)
                        refine zw_iload_n (pc := 105) (n := 1) (x := Int32.ofInt u45_) rfl d_M_inForce_105 ?_
                        refine zw_bipush (pc := 106) (v := Int32.ofInt 64) (by decide) d_M_inForce_106 ?_
                        refine zr_icmp_ge (pc := 108) (tgt := 124) ⟨hu45_a, hu45_b⟩ ⟨(by decide), (by decide)⟩ (by decide) d_M_inForce_108 (fun hc_108 => ?_) (fun hc_108 => ?_)
                        · skip
                          refine zw_aload_n (pc := 124) (n := 0) (x := 81) rfl d_M_inForce_124 ?_
                          refine zw_iconst (pc := 125) (v := Int32.ofInt 0) (by decide) d_M_inForce_125 ?_
                          refine zr_putI (hf_N46_.w hW) (pc := 126) f_M_391 rfl rfl ⟨by omega, by omega⟩ rfl rfl d_M_inForce_126 (fun N55_ hsN55_ hvN55_ => ?_)
                          have hf_N55_ : zFr [16, 17, 18, 58, 60] [84, 98, 103, 104] Mz N55_ := hf_N46_.tr hsN55_ (by decide) (by decide)
                          have e12_N55_ : ze N55_ 81 12 = ze N46_ 81 12 := hsN55_.e (by decide)
                          have e13_N55_ : ze N55_ 81 13 = ze N46_ 81 13 := hsN55_.e (by decide)
                          have e14_N55_ : ze N55_ 81 14 = ze N46_ 81 14 := hsN55_.e (by decide)
                          have e16_N55_ : ze N55_ 81 16 = ze N46_ 81 16 := hsN55_.e (by decide)
                          have e17_N55_ : ze N55_ 81 17 = ze N46_ 81 17 := hsN55_.e (by decide)
                          have e18_N55_ : ze N55_ 81 18 = ze N46_ 81 18 := hsN55_.e (by decide)
                          have e58_N55_ : ze N55_ 81 58 = ze N46_ 81 58 := hsN55_.e (by decide)
                          have r60_N55_ := ze_r N55_ 81 60
                          have c56_ : zPm N55_ := zPm.fr hsN55_ c49_ (by decide) (by decide)
                          have c57_ : zFin N55_ := zFin.fr hsN55_ c50_ (by decide) (by decide)
                          have c58_ : zB 83 24 0 5 N55_ := zB.fr hsN55_ c51_ (by decide) (by decide)
                          have c59_ : zMvt mv_ N55_ := zMvt.fr hsN55_ c52_ (by decide) (by decide)
                          have c60_ : zIF N55_ := zIF.fr hsN55_ c53_ (by decide) (by decide)
                          have c61_ : zMvq mv_ N55_ := zMvq.fr hsN55_ c54_ (by decide) (by decide)
                          refine zw_aload_n (pc := 129) (n := 0) (x := 81) rfl d_M_inForce_129 ?_
                          refine zw_iconst (pc := 130) (v := Int32.ofInt 0) (by decide) d_M_inForce_130 ?_
                          refine zr_putI (hf_N55_.w hW) (pc := 131) f_M_394 rfl rfl ⟨by omega, by omega⟩ (z_narB (by omega)) (z_fitB (by omega)) d_M_inForce_131 (fun N62_ hsN62_ hvN62_ => ?_)
                          have hf_N62_ : zFr [16, 17, 18, 58, 60] [84, 98, 103, 104] Mz N62_ := hf_N55_.tr hsN62_ (by decide) (by decide)
                          have e12_N62_ : ze N62_ 81 12 = ze N55_ 81 12 := hsN62_.e (by decide)
                          have e13_N62_ : ze N62_ 81 13 = ze N55_ 81 13 := hsN62_.e (by decide)
                          have e14_N62_ : ze N62_ 81 14 = ze N55_ 81 14 := hsN62_.e (by decide)
                          have e16_N62_ : ze N62_ 81 16 = ze N55_ 81 16 := hsN62_.e (by decide)
                          have e17_N62_ : ze N62_ 81 17 = ze N55_ 81 17 := hsN62_.e (by decide)
                          have e18_N62_ : ze N62_ 81 18 = ze N55_ 81 18 := hsN62_.e (by decide)
                          have r58_N62_ := ze_r N62_ 81 58
                          have e60_N62_ : ze N62_ 81 60 = ze N55_ 81 60 := hsN62_.e (by decide)
                          have c63_ : zPm N62_ := zPm.fr hsN62_ c56_ (by decide) (by decide)
                          have c64_ : zFin N62_ := zFin.fr hsN62_ c57_ (by decide) (by decide)
                          have c65_ : zB 83 24 0 5 N62_ := zB.fr hsN62_ c58_ (by decide) (by decide)
                          have c66_ : zMvt mv_ N62_ := zMvt.fr hsN62_ c59_ (by decide) (by decide)
                          have c67_ : zIF N62_ := zIF.fr hsN62_ c60_ (by decide) (by decide)
                          have c68_ : zMvq mv_ N62_ := zMvq.fr hsN62_ c61_ (by decide) (by decide)
                          exact zr_vret (pc := 134) rfl hf_N62_ ⟨c67_, (show ze N62_ 81 60 = 0 by first | assumption | omega), (show 0 ≤ ze N62_ 81 18 by first | assumption | omega), (show ze N62_ 81 18 ≤ 8 by first | assumption | omega), c68_, (show ze N62_ 81 16 = ze Mz 81 12 by first | assumption | omega)⟩ d_M_inForce_134
                        · skip
                          refine zw_aload_n (pc := 111) (n := 0) (x := 81) rfl d_M_inForce_111 ?_
                          refine zr_getF (r := 98) (hf_N46_.w hW) (pc := 112) f_M_66 rfl (zh_98 (hf_N46_.w hW)).1 d_M_inForce_112 ?_
                          refine zw_iload_n (pc := 115) (n := 1) (x := Int32.ofInt u45_) rfl d_M_inForce_115 ?_
                          refine zw_lconst (pc := 116) (v := Int64.ofInt 0) (by decide) d_M_inForce_116 ?_
                          refine zr_last (pc := 117) (zh_98 (hf_N46_.w hW)).2 (by decide) (by decide) (by omega) (by omega) d_M_inForce_117 (fun N69_ hN69_ hsN69_ => ?_)
                          have hf_N69_ : zFr [16, 17, 18, 58, 60] [84, 98, 103, 104] Mz N69_ := hf_N46_.tr hsN69_ (by decide) (by decide)
                          have hb0_N69_ : zFr [] [98] N36_ N69_ := hs47_.tr hsN69_ (by decide) (by decide)
                          have e12_N69_ : ze N69_ 81 12 = ze N46_ 81 12 := hsN69_.e (by decide)
                          have e13_N69_ : ze N69_ 81 13 = ze N46_ 81 13 := hsN69_.e (by decide)
                          have e14_N69_ : ze N69_ 81 14 = ze N46_ 81 14 := hsN69_.e (by decide)
                          have e16_N69_ : ze N69_ 81 16 = ze N46_ 81 16 := hsN69_.e (by decide)
                          have e17_N69_ : ze N69_ 81 17 = ze N46_ 81 17 := hsN69_.e (by decide)
                          have e18_N69_ : ze N69_ 81 18 = ze N46_ 81 18 := hsN69_.e (by decide)
                          have e58_N69_ : ze N69_ 81 58 = ze N46_ 81 58 := hsN69_.e (by decide)
                          have e60_N69_ : ze N69_ 81 60 = ze N46_ 81 60 := hsN69_.e (by decide)
                          have c70_ : zPm N69_ := zPm.fr hsN69_ c49_ (by decide) (by decide)
                          have c71_ : zFin N69_ := zFin.fr hsN69_ c50_ (by decide) (by decide)
                          have c72_ : zB 83 24 0 5 N69_ := zB.fr hsN69_ c51_ (by decide) (by decide)
                          have c73_ : zMvt mv_ N69_ := zMvt.fr hsN69_ c52_ (by decide) (by decide)
                          have c74_ : zIF N69_ := zIF.fr hsN69_ c53_ (by decide) (by decide)
                          have c75_ : zMvq mv_ N69_ := zMvq.fr hsN69_ c54_ (by decide) (by decide)
                          refine zr_iinc (pc := 118) (i := 1) (a := u45_) (n := 1) (L2 := [some (.ref 81), some (.int (Int32.ofInt (u45_ + 1)))]) rfl (by decide) rfl d_M_inForce_118 ?_
                          refine zw_goto (pc := 121) (tgt := 105) (by decide) d_M_inForce_121 ?_
                          exact ih_105 (u45_ + 1) (by omega) (by omega) N69_ hb0_N69_ (show 0 ≤ (u45_ + 1) by first | assumption | omega) (by omega)
                    exact lp_105 _ 0 (by decide) (by decide) N36_ zFr.rf (show 0 ≤ (0 : Int) by first | assumption | omega) (Nat.lt_succ_self _)
                  · skip
                    refine zw_aload_n (pc := 85) (n := 0) (x := 81) rfl d_M_inForce_85 ?_
                    refine zr_getF (r := 104) (hf_N36_.w hW) (pc := 86) f_M_84 rfl (zh_104 (hf_N36_.w hW)).1 d_M_inForce_86 ?_
                    refine zw_iload_n (pc := 89) (n := 1) (x := Int32.ofInt u35_) rfl d_M_inForce_89 ?_
                    refine zw_aload_n (pc := 90) (n := 0) (x := 81) rfl d_M_inForce_90 ?_
                    refine zr_getF (r := 102) (hf_N36_.w hW) (pc := 91) f_M_78 rfl (zh_102 (hf_N36_.w hW)).1 d_M_inForce_91 ?_
                    refine zw_iload_n (pc := 94) (n := 1) (x := Int32.ofInt u35_) rfl d_M_inForce_94 ?_
                    refine zr_laldn (pc := 95) (zh_102 (hf_N36_.w hW)).2 (by decide) (by omega) (by omega) d_M_inForce_95 (fun v76_ hv76_ hv76_a hv76_b => ?_)
                    rw [hf_N36_.jg (by decide) (by decide)] at hv76_
                    refine zr_last (pc := 96) (zh_104 (hf_N36_.w hW)).2 (by decide) (by decide) (by omega) (by omega) d_M_inForce_96 (fun N77_ hN77_ hsN77_ => ?_)
                    have hf_N77_ : zFr [16, 17, 18, 58, 60] [84, 98, 103, 104] Mz N77_ := hf_N36_.tr hsN77_ (by decide) (by decide)
                    have hb0_N77_ : zFr [] [104] N26_ N77_ := hs37_.tr hsN77_ (by decide) (by decide)
                    have e12_N77_ : ze N77_ 81 12 = ze N36_ 81 12 := hsN77_.e (by decide)
                    have e13_N77_ : ze N77_ 81 13 = ze N36_ 81 13 := hsN77_.e (by decide)
                    have e14_N77_ : ze N77_ 81 14 = ze N36_ 81 14 := hsN77_.e (by decide)
                    have e16_N77_ : ze N77_ 81 16 = ze N36_ 81 16 := hsN77_.e (by decide)
                    have e17_N77_ : ze N77_ 81 17 = ze N36_ 81 17 := hsN77_.e (by decide)
                    have e18_N77_ : ze N77_ 81 18 = ze N36_ 81 18 := hsN77_.e (by decide)
                    have e58_N77_ : ze N77_ 81 58 = ze N36_ 81 58 := hsN77_.e (by decide)
                    have e60_N77_ : ze N77_ 81 60 = ze N36_ 81 60 := hsN77_.e (by decide)
                    have c78_ : zPm N77_ := zPm.fr hsN77_ c39_ (by decide) (by decide)
                    have c79_ : zFin N77_ := zFin.fr hsN77_ c40_ (by decide) (by decide)
                    have c80_ : zB 83 24 0 5 N77_ := zB.fr hsN77_ c41_ (by decide) (by decide)
                    have c81_ : zMvt mv_ N77_ := zMvt.fr hsN77_ c42_ (by decide) (by decide)
                    have c82_ : zIF N77_ := zIF.fr hsN77_ c43_ (by decide) (by decide)
                    have c83_ : zMvq mv_ N77_ := zMvq.fr hsN77_ c44_ (by decide) (by decide)
                    refine zr_iinc (pc := 97) (i := 1) (a := u35_) (n := 1) (L2 := [some (.ref 81), some (.int (Int32.ofInt (u35_ + 1)))]) rfl (by decide) rfl d_M_inForce_97 ?_
                    refine zw_goto (pc := 100) (tgt := 78) (by decide) d_M_inForce_100 ?_
                    exact ih_78 (u35_ + 1) (by omega) (by omega) N77_ hb0_N77_ (show 0 ≤ (u35_ + 1) by first | assumption | omega) (by omega)
              exact lp_78 _ 0 (by decide) (by decide) N26_ zFr.rf (show 0 ≤ (0 : Int) by first | assumption | omega) (Nat.lt_succ_self _)
            · skip
              refine zw_aload_n (pc := 58) (n := 0) (x := 81) rfl d_M_inForce_58 ?_
              refine zr_getF (r := 103) (hf_N26_.w hW) (pc := 59) f_M_81 rfl (zh_103 (hf_N26_.w hW)).1 d_M_inForce_59 ?_
              refine zw_iload_n (pc := 62) (n := 1) (x := Int32.ofInt u25_) rfl d_M_inForce_62 ?_
              refine zw_aload_n (pc := 63) (n := 0) (x := 81) rfl d_M_inForce_63 ?_
              refine zr_getF (r := 101) (hf_N26_.w hW) (pc := 64) f_M_75 rfl (zh_101 (hf_N26_.w hW)).1 d_M_inForce_64 ?_
              refine zw_iload_n (pc := 67) (n := 1) (x := Int32.ofInt u25_) rfl d_M_inForce_67 ?_
              refine zr_laldn (pc := 68) (zh_101 (hf_N26_.w hW)).2 (by decide) (by omega) (by omega) d_M_inForce_68 (fun v84_ hv84_ hv84_a hv84_b => ?_)
              rw [hf_N26_.jg (by decide) (by decide)] at hv84_
              refine zr_last (pc := 69) (zh_103 (hf_N26_.w hW)).2 (by decide) (by decide) (by omega) (by omega) d_M_inForce_69 (fun N85_ hN85_ hsN85_ => ?_)
              have hf_N85_ : zFr [16, 17, 18, 58, 60] [84, 98, 103, 104] Mz N85_ := hf_N26_.tr hsN85_ (by decide) (by decide)
              have hb0_N85_ : zFr [] [103] N17_ N85_ := hs27_.tr hsN85_ (by decide) (by decide)
              have e12_N85_ : ze N85_ 81 12 = ze N26_ 81 12 := hsN85_.e (by decide)
              have e13_N85_ : ze N85_ 81 13 = ze N26_ 81 13 := hsN85_.e (by decide)
              have e14_N85_ : ze N85_ 81 14 = ze N26_ 81 14 := hsN85_.e (by decide)
              have e16_N85_ : ze N85_ 81 16 = ze N26_ 81 16 := hsN85_.e (by decide)
              have e17_N85_ : ze N85_ 81 17 = ze N26_ 81 17 := hsN85_.e (by decide)
              have e18_N85_ : ze N85_ 81 18 = ze N26_ 81 18 := hsN85_.e (by decide)
              have e58_N85_ : ze N85_ 81 58 = ze N26_ 81 58 := hsN85_.e (by decide)
              have e60_N85_ : ze N85_ 81 60 = ze N26_ 81 60 := hsN85_.e (by decide)
              have c86_ : zPm N85_ := zPm.fr hsN85_ c29_ (by decide) (by decide)
              have c87_ : zFin N85_ := zFin.fr hsN85_ c30_ (by decide) (by decide)
              have c88_ : zB 83 24 0 5 N85_ := zB.fr hsN85_ c31_ (by decide) (by decide)
              have c89_ : zMvt mv_ N85_ := zMvt.fr hsN85_ c32_ (by decide) (by decide)
              have c90_ : zIF N85_ := zIF.fr hsN85_ c33_ (by decide) (by decide)
              have c91_ : zMvq mv_ N85_ := zMvq.fr hsN85_ c34_ (by decide) (by decide)
              refine zr_iinc (pc := 70) (i := 1) (a := u25_) (n := 1) (L2 := [some (.ref 81), some (.int (Int32.ofInt (u25_ + 1)))]) rfl (by decide) rfl d_M_inForce_70 ?_
              refine zw_goto (pc := 73) (tgt := 52) (by decide) d_M_inForce_73 ?_
              exact ih_52 (u25_ + 1) (by omega) (by omega) N85_ hb0_N85_ (show 0 ≤ (u25_ + 1) by first | assumption | omega) (by omega)
        exact lp_52 _ 0 (by decide) (by decide) N17_ zFr.rf (show 0 ≤ (0 : Int) by first | assumption | omega) (Nat.lt_succ_self _)
      · skip
        refine zw_aload_n (pc := 32) (n := 0) (x := 81) rfl d_M_inForce_32 ?_
        refine zr_getF (r := 84) (hf_N17_.w hW) (pc := 33) f_M_23 rfl (zh_84 (hf_N17_.w hW)).1 d_M_inForce_33 ?_
        refine zw_iload_n (pc := 36) (n := 1) (x := Int32.ofInt u16_) rfl d_M_inForce_36 ?_
        refine zw_aload_n (pc := 37) (n := 0) (x := 81) rfl d_M_inForce_37 ?_
        refine zr_getF (r := 83) (hf_N17_.w hW) (pc := 38) f_M_20 rfl (zh_83 (hf_N17_.w hW)).1 d_M_inForce_38 ?_
        refine zw_iload_n (pc := 41) (n := 1) (x := Int32.ofInt u16_) rfl d_M_inForce_41 ?_
        refine zr_ialdn (pc := 42) (zh_83 (hf_N17_.w hW)).2 (by decide) (by omega) (by omega) d_M_inForce_42 (fun v92_ hv92_ hv92_a hv92_b => ?_)
        have hr93_ := c23_.g (e := u16_) (by omega) (by omega)
        rw [← hv92_] at hr93_
        rw [hf_N17_.ie (by decide) (by decide)] at hv92_
        refine zr_iast (pc := 43) (zh_84 (hf_N17_.w hW)).2 (by decide) (by decide) (by omega) (by omega) d_M_inForce_43 (fun N94_ hN94_ hsN94_ => ?_)
        have hf_N94_ : zFr [16, 17, 18, 58, 60] [84, 98, 103, 104] Mz N94_ := hf_N17_.tr hsN94_ (by decide) (by decide)
        have hb0_N94_ : zFr [] [84] N11_ N94_ := hs18_.tr hsN94_ (by decide) (by decide)
        have e12_N94_ : ze N94_ 81 12 = ze N17_ 81 12 := hsN94_.e (by decide)
        have e13_N94_ : ze N94_ 81 13 = ze N17_ 81 13 := hsN94_.e (by decide)
        have e14_N94_ : ze N94_ 81 14 = ze N17_ 81 14 := hsN94_.e (by decide)
        have e16_N94_ : ze N94_ 81 16 = ze N17_ 81 16 := hsN94_.e (by decide)
        have e17_N94_ : ze N94_ 81 17 = ze N17_ 81 17 := hsN94_.e (by decide)
        have e18_N94_ : ze N94_ 81 18 = ze N17_ 81 18 := hsN94_.e (by decide)
        have e58_N94_ : ze N94_ 81 58 = ze N17_ 81 58 := hsN94_.e (by decide)
        have e60_N94_ : ze N94_ 81 60 = ze N17_ 81 60 := hsN94_.e (by decide)
        have c95_ : zPm N94_ := zPm.fr hsN94_ c21_ (by decide) (by decide)
        have c96_ : zFin N94_ := zFin.fr hsN94_ c22_ (by decide) (by decide)
        have c97_ : zB 83 24 0 5 N94_ := zB.fr hsN94_ c23_ (by decide) (by decide)
        have c98_ : zMvt mv_ N94_ := zMvt.fr hsN94_ c24_ (by decide) (by decide)
        have hC1_ := zCp_s (by omega) (show zCp 83 84 Mz N17_ u16_ by assumption) (by assumption) hN94_
        refine zr_iinc (pc := 44) (i := 1) (a := u16_) (n := 1) (L2 := [some (.ref 81), some (.int (Int32.ofInt (u16_ + 1)))]) rfl (by decide) rfl d_M_inForce_44 ?_
        refine zw_goto (pc := 47) (tgt := 26) (by decide) d_M_inForce_47 ?_
        exact ih_26 (u16_ + 1) (by omega) (by omega) N94_ hb0_N94_ (show 0 ≤ (u16_ + 1) by first | assumption | omega) (show zCp 83 84 Mz N94_ (u16_ + 1) by exact hC1_) (by omega)
  exact lp_26 _ 0 (by decide) (by decide) N11_ zFr.rf (show 0 ≤ (0 : Int) by first | assumption | omega) (show zCp 83 84 Mz N11_ (0 : Int) by exact zCp_0) (Nat.lt_succ_self _)
set_option maxHeartbeats 40000000 in
theorem c_M_goesBackG (l : Launch) (Mz : zMem) (hW : zMt Mz) (mv_ : List Nat) (p0_ : zIF Mz) (p1_ : 0 ≤ ze Mz 81 18) (p2_ : ze Mz 81 18 ≤ 8) (p3_ : zB 83 24 0 5 Mz) (p4_ : zB 85 144 0 5 Mz) (p5_ : zMvq mv_ Mz) : zC l m_M_goesBack 0 0 [.ref 81] Mz (zpV [12, 13, 14, 20, 25, 26, 58] [83, 85, 86, 87, 88, 89, 90, 91, 92, 93, 94, 101, 102] Mz (fun N => (∃ T : zGT, T ∈ gTabs ∧ zGB T N ∧ zTm mv_ T) ∧ 0 ≤ ze N 81 14 ∧ ze N 81 14 ≤ 8 ∧ zIF N ∧ zB 83 24 0 5 N ∧ zMvq mv_ N)) := by
  refine zC_of (L0 := [some (.ref 81), none]) md_M_goesBack (Nat.le_of_ble_eq_true rfl) rfl ?_ zQ0
  have hf : zFr [12, 13, 14, 20, 25, 26, 58] [83, 85, 86, 87, 88, 89, 90, 91, 92, 93, 94, 101, 102] Mz Mz := zFr.rf
  have r_12 := ze_r Mz 81 12
  have r_13 := ze_r Mz 81 13
  have r_14 := ze_r Mz 81 14
  have r_16 := ze_r Mz 81 16
  have r_17 := ze_r Mz 81 17
  have r_18 := ze_r Mz 81 18
  have r_58 := ze_r Mz 81 58
  have hi_ := p0_.1
  refine zw_aload_n (pc := 0) (n := 0) (x := 81) rfl d_M_goesBack_0 ?_
  refine zw_aload_n (pc := 1) (n := 0) (x := 81) rfl d_M_goesBack_1 ?_
  refine zr_getI0 hf hW (pc := 2) (by decide) f_M_382 rfl d_M_goesBack_2 ?_
  refine zr_putI (hf.w hW) (pc := 5) f_M_115 rfl rfl ⟨by omega, by omega⟩ rfl rfl d_M_goesBack_5 (fun N1_ hsN1_ hvN1_ => ?_)
  have hf_N1_ : zFr [12, 13, 14, 20, 25, 26, 58] [83, 85, 86, 87, 88, 89, 90, 91, 92, 93, 94, 101, 102] Mz N1_ := hf.tr hsN1_ (by decide) (by decide)
  have r12_N1_ := ze_r N1_ 81 12
  have e13_N1_ : ze N1_ 81 13 = ze Mz 81 13 := hsN1_.e (by decide)
  have e14_N1_ : ze N1_ 81 14 = ze Mz 81 14 := hsN1_.e (by decide)
  have e16_N1_ : ze N1_ 81 16 = ze Mz 81 16 := hsN1_.e (by decide)
  have e17_N1_ : ze N1_ 81 17 = ze Mz 81 17 := hsN1_.e (by decide)
  have e18_N1_ : ze N1_ 81 18 = ze Mz 81 18 := hsN1_.e (by decide)
  have e58_N1_ : ze N1_ 81 58 = ze Mz 81 58 := hsN1_.e (by decide)
  have c2_ : zIF N1_ := zIF.fr hsN1_ p0_ (by decide) (by decide)
  have c3_ : zB 83 24 0 5 N1_ := zB.fr hsN1_ p3_ (by decide) (by decide)
  have c4_ : zB 85 144 0 5 N1_ := zB.fr hsN1_ p4_ (by decide) (by decide)
  have c5_ : zMvq mv_ N1_ := zMvq.fr hsN1_ p5_ (by decide) (by decide)
  refine zw_aload_n (pc := 8) (n := 0) (x := 81) rfl d_M_goesBack_8 ?_
  refine zw_aload_n (pc := 9) (n := 0) (x := 81) rfl d_M_goesBack_9 ?_
  refine zr_getI0 hf_N1_ hW (pc := 10) (by decide) f_M_385 rfl d_M_goesBack_10 ?_
  refine zr_putI (hf_N1_.w hW) (pc := 13) f_M_199 rfl rfl ⟨by omega, by omega⟩ rfl rfl d_M_goesBack_13 (fun N6_ hsN6_ hvN6_ => ?_)
  have hf_N6_ : zFr [12, 13, 14, 20, 25, 26, 58] [83, 85, 86, 87, 88, 89, 90, 91, 92, 93, 94, 101, 102] Mz N6_ := hf_N1_.tr hsN6_ (by decide) (by decide)
  have e12_N6_ : ze N6_ 81 12 = ze N1_ 81 12 := hsN6_.e (by decide)
  have r13_N6_ := ze_r N6_ 81 13
  have e14_N6_ : ze N6_ 81 14 = ze N1_ 81 14 := hsN6_.e (by decide)
  have e16_N6_ : ze N6_ 81 16 = ze N1_ 81 16 := hsN6_.e (by decide)
  have e17_N6_ : ze N6_ 81 17 = ze N1_ 81 17 := hsN6_.e (by decide)
  have e18_N6_ : ze N6_ 81 18 = ze N1_ 81 18 := hsN6_.e (by decide)
  have e58_N6_ : ze N6_ 81 58 = ze N1_ 81 58 := hsN6_.e (by decide)
  have c7_ : zIF N6_ := zIF.fr hsN6_ c2_ (by decide) (by decide)
  have c8_ : zB 83 24 0 5 N6_ := zB.fr hsN6_ c3_ (by decide) (by decide)
  have c9_ : zB 85 144 0 5 N6_ := zB.fr hsN6_ c4_ (by decide) (by decide)
  have c10_ : zMvq mv_ N6_ := zMvq.fr hsN6_ c5_ (by decide) (by decide)
  refine zw_aload_n (pc := 16) (n := 0) (x := 81) rfl d_M_goesBack_16 ?_
  refine zw_aload_n (pc := 17) (n := 0) (x := 81) rfl d_M_goesBack_17 ?_
  refine zr_getI0 hf_N6_ hW (pc := 18) (by decide) f_M_388 rfl d_M_goesBack_18 ?_
  refine zr_putI (hf_N6_.w hW) (pc := 21) f_M_299 rfl rfl ⟨by omega, by omega⟩ rfl rfl d_M_goesBack_21 (fun N11_ hsN11_ hvN11_ => ?_)
  have hf_N11_ : zFr [12, 13, 14, 20, 25, 26, 58] [83, 85, 86, 87, 88, 89, 90, 91, 92, 93, 94, 101, 102] Mz N11_ := hf_N6_.tr hsN11_ (by decide) (by decide)
  have e12_N11_ : ze N11_ 81 12 = ze N6_ 81 12 := hsN11_.e (by decide)
  have e13_N11_ : ze N11_ 81 13 = ze N6_ 81 13 := hsN11_.e (by decide)
  have r14_N11_ := ze_r N11_ 81 14
  have e16_N11_ : ze N11_ 81 16 = ze N6_ 81 16 := hsN11_.e (by decide)
  have e17_N11_ : ze N11_ 81 17 = ze N6_ 81 17 := hsN11_.e (by decide)
  have e18_N11_ : ze N11_ 81 18 = ze N6_ 81 18 := hsN11_.e (by decide)
  have e58_N11_ : ze N11_ 81 58 = ze N6_ 81 58 := hsN11_.e (by decide)
  have c12_ : zIF N11_ := zIF.fr hsN11_ c7_ (by decide) (by decide)
  have c13_ : zB 83 24 0 5 N11_ := zB.fr hsN11_ c8_ (by decide) (by decide)
  have c14_ : zB 85 144 0 5 N11_ := zB.fr hsN11_ c9_ (by decide) (by decide)
  have c15_ : zMvq mv_ N11_ := zMvq.fr hsN11_ c10_ (by decide) (by decide)
  refine zw_iconst (pc := 24) (v := Int32.ofInt 0) (by decide) d_M_goesBack_24 ?_
  refine zw_istore_n (pc := 25) (i := 1) (L2 := [some (.ref 81), some (.int (Int32.ofInt 0))]) rfl (by decide) rfl d_M_goesBack_25 ?_
  have lp_26 : ∀ (n : Nat) (u16_ : Int) (hu16_a : -2147483648 ≤ u16_) (hu16_b : u16_ < 2147483648) (N17_ : zMem) (hs18_ : zFr [] [83] N11_ N17_) (i19_ : 0 ≤ u16_) (i20_ : zCp 84 83 Mz N17_ u16_) (i21_ : zB 83 24 0 5 N17_), (24 - u16_).toNat < n → zW l m_M_goesBack (zn Mz + 0, zw Mz + 0) N17_ 26 [some (.ref 81), some (.int (Int32.ofInt u16_))] [] (zpV [12, 13, 14, 20, 25, 26, 58] [83, 85, 86, 87, 88, 89, 90, 91, 92, 93, 94, 101, 102] Mz (fun N => (∃ T : zGT, T ∈ gTabs ∧ zGB T N ∧ zTm mv_ T) ∧ 0 ≤ ze N 81 14 ∧ ze N 81 14 ≤ 8 ∧ zIF N ∧ zB 83 24 0 5 N ∧ zMvq mv_ N)) := by
    intro n
    induction n with
    | zero =>
      intro u16_ hu16_a hu16_b N17_ hs18_ i19_ i20_ i21_ h0
      exact absurd h0 (Nat.not_lt_zero _)
    | succ n ih_26 =>
      intro u16_ hu16_a hu16_b N17_ hs18_ i19_ i20_ i21_ hlt_26
      have hf_N17_ : zFr [12, 13, 14, 20, 25, 26, 58] [83, 85, 86, 87, 88, 89, 90, 91, 92, 93, 94, 101, 102] Mz N17_ := hf_N11_.tr hs18_ (by decide) (by decide)
      have e12_N17_ : ze N17_ 81 12 = ze N11_ 81 12 := hs18_.e (by decide)
      have e13_N17_ : ze N17_ 81 13 = ze N11_ 81 13 := hs18_.e (by decide)
      have e14_N17_ : ze N17_ 81 14 = ze N11_ 81 14 := hs18_.e (by decide)
      have e16_N17_ : ze N17_ 81 16 = ze N11_ 81 16 := hs18_.e (by decide)
      have e17_N17_ : ze N17_ 81 17 = ze N11_ 81 17 := hs18_.e (by decide)
      have e18_N17_ : ze N17_ 81 18 = ze N11_ 81 18 := hs18_.e (by decide)
      have e58_N17_ : ze N17_ 81 58 = ze N11_ 81 58 := hs18_.e (by decide)
      have c22_ : zIF N17_ := zIF.fr hs18_ c12_ (by decide) (by decide)
      have c23_ : zB 85 144 0 5 N17_ := zB.fr hs18_ c14_ (by decide) (by decide)
      have c24_ : zMvq mv_ N17_ := zMvq.fr hs18_ c15_ (by decide) (by decide)
      refine zw_iload_n (pc := 26) (n := 1) (x := Int32.ofInt u16_) rfl d_M_goesBack_26 ?_
      refine zw_bipush (pc := 27) (v := Int32.ofInt 24) (by decide) d_M_goesBack_27 ?_
      refine zr_icmp_ge (pc := 29) (tgt := 50) ⟨hu16_a, hu16_b⟩ ⟨(by decide), (by decide)⟩ (by decide) d_M_goesBack_29 (fun hc_29 => ?_) (fun hc_29 => ?_)
      · skip
        have hI_ := zIF_b (by omega) (show zCp 84 83 Mz N17_ u16_ by assumption) (fun j => hf_N17_.ie (by decide) (by decide) j) c22_ (by omega) (by omega)
        have hIp_ := hI_.1
        have hIf_ := hI_.2.1
        have hMs_ : zMvt mv_ N17_ := (zMvF_b (by omega) (show zCp 84 83 Mz N17_ u16_ by assumption) (fun j => hf_N17_.ie (by decide) (by decide) j) c22_ (by omega) (by omega)).trans c24_
        refine zw_iconst (pc := 50) (v := Int32.ofInt 0) (by decide) d_M_goesBack_50 ?_
        refine zw_istore_n (pc := 51) (i := 1) (L2 := [some (.ref 81), some (.int (Int32.ofInt 0))]) rfl (by decide) rfl d_M_goesBack_51 ?_
        have lp_52 : ∀ (n : Nat) (u25_ : Int) (hu25_a : -2147483648 ≤ u25_) (hu25_b : u25_ < 2147483648) (N26_ : zMem) (hs27_ : zFr [] [101] N17_ N26_) (i28_ : 0 ≤ u25_), (8 - u25_).toNat < n → zW l m_M_goesBack (zn Mz + 0, zw Mz + 0) N26_ 52 [some (.ref 81), some (.int (Int32.ofInt u25_))] [] (zpV [12, 13, 14, 20, 25, 26, 58] [83, 85, 86, 87, 88, 89, 90, 91, 92, 93, 94, 101, 102] Mz (fun N => (∃ T : zGT, T ∈ gTabs ∧ zGB T N ∧ zTm mv_ T) ∧ 0 ≤ ze N 81 14 ∧ ze N 81 14 ≤ 8 ∧ zIF N ∧ zB 83 24 0 5 N ∧ zMvq mv_ N)) := by
          intro n
          induction n with
          | zero =>
            intro u25_ hu25_a hu25_b N26_ hs27_ i28_ h0
            exact absurd h0 (Nat.not_lt_zero _)
          | succ n ih_52 =>
            intro u25_ hu25_a hu25_b N26_ hs27_ i28_ hlt_52
            have hf_N26_ : zFr [12, 13, 14, 20, 25, 26, 58] [83, 85, 86, 87, 88, 89, 90, 91, 92, 93, 94, 101, 102] Mz N26_ := hf_N17_.tr hs27_ (by decide) (by decide)
            have e12_N26_ : ze N26_ 81 12 = ze N17_ 81 12 := hs27_.e (by decide)
            have e13_N26_ : ze N26_ 81 13 = ze N17_ 81 13 := hs27_.e (by decide)
            have e14_N26_ : ze N26_ 81 14 = ze N17_ 81 14 := hs27_.e (by decide)
            have e16_N26_ : ze N26_ 81 16 = ze N17_ 81 16 := hs27_.e (by decide)
            have e17_N26_ : ze N26_ 81 17 = ze N17_ 81 17 := hs27_.e (by decide)
            have e18_N26_ : ze N26_ 81 18 = ze N17_ 81 18 := hs27_.e (by decide)
            have e58_N26_ : ze N26_ 81 58 = ze N17_ 81 58 := hs27_.e (by decide)
            have c29_ : zIF N26_ := zIF.fr hs27_ c22_ (by decide) (by decide)
            have c30_ : zB 85 144 0 5 N26_ := zB.fr hs27_ c23_ (by decide) (by decide)
            have c31_ : zMvq mv_ N26_ := zMvq.fr hs27_ c24_ (by decide) (by decide)
            have c32_ : zB 83 24 0 5 N26_ := zB.fr hs27_ i21_ (by decide) (by decide)
            have c33_ : zPm N26_ := zPm.fr hs27_ hIp_ (by decide) (by decide)
            have c34_ : zFin N26_ := zFin.fr hs27_ hIf_ (by decide) (by decide)
            have c35_ : zMvt mv_ N26_ := zMvt.fr hs27_ hMs_ (by decide) (by decide)
            refine zw_iload_n (pc := 52) (n := 1) (x := Int32.ofInt u25_) rfl d_M_goesBack_52 ?_
            refine zw_bipush (pc := 53) (v := Int32.ofInt 8) (by decide) d_M_goesBack_53 ?_
            refine zr_icmp_ge (pc := 55) (tgt := 76) ⟨hu25_a, hu25_b⟩ ⟨(by decide), (by decide)⟩ (by decide) d_M_goesBack_55 (fun hc_55 => ?_) (fun hc_55 => ?_)
            · skip
              refine zw_iconst (pc := 76) (v := Int32.ofInt 0) (by decide) d_M_goesBack_76 ?_
              refine zw_istore_n (pc := 77) (i := 1) (L2 := [some (.ref 81), some (.int (Int32.ofInt 0))]) rfl (by decide) rfl d_M_goesBack_77 ?_
              have lp_78 : ∀ (n : Nat) (u36_ : Int) (hu36_a : -2147483648 ≤ u36_) (hu36_b : u36_ < 2147483648) (N37_ : zMem) (hs38_ : zFr [] [102] N26_ N37_) (i39_ : 0 ≤ u36_), (512 - u36_).toNat < n → zW l m_M_goesBack (zn Mz + 0, zw Mz + 0) N37_ 78 [some (.ref 81), some (.int (Int32.ofInt u36_))] [] (zpV [12, 13, 14, 20, 25, 26, 58] [83, 85, 86, 87, 88, 89, 90, 91, 92, 93, 94, 101, 102] Mz (fun N => (∃ T : zGT, T ∈ gTabs ∧ zGB T N ∧ zTm mv_ T) ∧ 0 ≤ ze N 81 14 ∧ ze N 81 14 ≤ 8 ∧ zIF N ∧ zB 83 24 0 5 N ∧ zMvq mv_ N)) := by
                intro n
                induction n with
                | zero =>
                  intro u36_ hu36_a hu36_b N37_ hs38_ i39_ h0
                  exact absurd h0 (Nat.not_lt_zero _)
                | succ n ih_78 =>
                  intro u36_ hu36_a hu36_b N37_ hs38_ i39_ hlt_78
                  have hf_N37_ : zFr [12, 13, 14, 20, 25, 26, 58] [83, 85, 86, 87, 88, 89, 90, 91, 92, 93, 94, 101, 102] Mz N37_ := hf_N26_.tr hs38_ (by decide) (by decide)
                  have e12_N37_ : ze N37_ 81 12 = ze N26_ 81 12 := hs38_.e (by decide)
                  have e13_N37_ : ze N37_ 81 13 = ze N26_ 81 13 := hs38_.e (by decide)
                  have e14_N37_ : ze N37_ 81 14 = ze N26_ 81 14 := hs38_.e (by decide)
                  have e16_N37_ : ze N37_ 81 16 = ze N26_ 81 16 := hs38_.e (by decide)
                  have e17_N37_ : ze N37_ 81 17 = ze N26_ 81 17 := hs38_.e (by decide)
                  have e18_N37_ : ze N37_ 81 18 = ze N26_ 81 18 := hs38_.e (by decide)
                  have e58_N37_ : ze N37_ 81 58 = ze N26_ 81 58 := hs38_.e (by decide)
                  have c40_ : zIF N37_ := zIF.fr hs38_ c29_ (by decide) (by decide)
                  have c41_ : zB 85 144 0 5 N37_ := zB.fr hs38_ c30_ (by decide) (by decide)
                  have c42_ : zMvq mv_ N37_ := zMvq.fr hs38_ c31_ (by decide) (by decide)
                  have c43_ : zB 83 24 0 5 N37_ := zB.fr hs38_ c32_ (by decide) (by decide)
                  have c44_ : zPm N37_ := zPm.fr hs38_ c33_ (by decide) (by decide)
                  have c45_ : zFin N37_ := zFin.fr hs38_ c34_ (by decide) (by decide)
                  have c46_ : zMvt mv_ N37_ := zMvt.fr hs38_ c35_ (by decide) (by decide)
                  refine zw_iload_n (pc := 78) (n := 1) (x := Int32.ofInt u36_) rfl d_M_goesBack_78 ?_
                  refine zw_sipush (pc := 79) (v := Int32.ofInt 512) (by decide) d_M_goesBack_79 ?_
                  refine zr_icmp_ge (pc := 82) (tgt := 103) ⟨hu36_a, hu36_b⟩ ⟨(by decide), (by decide)⟩ (by decide) d_M_goesBack_82 (fun hc_82 => ?_) (fun hc_82 => ?_)
                  · skip
                    refine zw_aload_n (pc := 103) (n := 0) (x := 81) rfl d_M_goesBack_103 ?_
                    refine zr_callV (hf_N37_.w hW) hf_N37_.x (pc := 104) [] [] l_M_118 (c_M_buildsF l N37_ (hf_N37_.w hW) (show 1 ≤ ze N37_ 81 12 by first | assumption | omega) (show ze N37_ 81 12 ≤ 6 by first | assumption | omega) (show 0 ≤ ze N37_ 81 13 by first | assumption | omega) (show ze N37_ 81 13 ≤ 4 by first | assumption | omega) c44_ c45_ c43_ c41_) rfl rfl rfl (by decide) (Nat.le_of_ble_eq_true rfl) d_M_goesBack_104 ?_
                    rintro _ N47_ ⟨rfl, hsN47_, hp0_N47_⟩
                    replace hp0_N47_ : ∃ T : zGT, T ∈ gTabs ∧ zGB T N47_ ∧ zTm (zMvs N37_) T := hp0_N47_
                    have hf_N47_ : zFr [12, 13, 14, 20, 25, 26, 58] [83, 85, 86, 87, 88, 89, 90, 91, 92, 93, 94, 101, 102] Mz N47_ := hf_N37_.tr hsN47_ (by decide) (by decide)
                    have e12_N47_ : ze N47_ 81 12 = ze N37_ 81 12 := hsN47_.e (by decide)
                    have e13_N47_ : ze N47_ 81 13 = ze N37_ 81 13 := hsN47_.e (by decide)
                    have e14_N47_ : ze N47_ 81 14 = ze N37_ 81 14 := hsN47_.e (by decide)
                    have e16_N47_ : ze N47_ 81 16 = ze N37_ 81 16 := hsN47_.e (by decide)
                    have e17_N47_ : ze N47_ 81 17 = ze N37_ 81 17 := hsN47_.e (by decide)
                    have e18_N47_ : ze N47_ 81 18 = ze N37_ 81 18 := hsN47_.e (by decide)
                    have e58_N47_ : ze N47_ 81 58 = ze N37_ 81 58 := hsN47_.e (by decide)
                    have c49_ : zIF N47_ := zIF.fr hsN47_ c40_ (by decide) (by decide)
                    have c50_ : zMvq mv_ N47_ := zMvq.fr hsN47_ c42_ (by decide) (by decide)
                    have c51_ : zB 83 24 0 5 N47_ := zB.fr hsN47_ c43_ (by decide) (by decide)
                    have c52_ : zPm N47_ := zPm.fr hsN47_ c44_ (by decide) (by decide)
                    have c53_ : zFin N47_ := zFin.fr hsN47_ c45_ (by decide) (by decide)
                    have c54_ : zMvt mv_ N47_ := zMvt.fr hsN47_ c46_ (by decide) (by decide)
                    show zW l m_M_goesBack (zn Mz + 0, zw Mz + 0) N47_ 107 [some (.ref 81), some (.int (Int32.ofInt u36_))] [] (zpV [12, 13, 14, 20, 25, 26, 58] [83, 85, 86, 87, 88, 89, 90, 91, 92, 93, 94, 101, 102] Mz (fun N => (∃ T : zGT, T ∈ gTabs ∧ zGB T N ∧ zTm mv_ T) ∧ 0 ≤ ze N 81 14 ∧ ze N 81 14 ≤ 8 ∧ zIF N ∧ zB 83 24 0 5 N ∧ zMvq mv_ N))
                    obtain ⟨T, hTt, hGB, hTm_⟩ := id hp0_N47_
                    have hTm2_ : zTm mv_ T := by have h_ := c54_; unfold zMvt at h_; rw [← h_, zMvs_f hsN47_ (by decide) (by decide)]; exact hTm_
                    refine zw_aload_n (pc := 107) (n := 0) (x := 81) rfl d_M_goesBack_107 ?_
                    refine zw_iconst (pc := 108) (v := Int32.ofInt 0) (by decide) d_M_goesBack_108 ?_
                    refine zr_putI (hf_N47_.w hW) (pc := 109) f_M_394 rfl rfl ⟨by omega, by omega⟩ (z_narB (by omega)) (z_fitB (by omega)) d_M_goesBack_109 (fun N55_ hsN55_ hvN55_ => ?_)
                    have hf_N55_ : zFr [12, 13, 14, 20, 25, 26, 58] [83, 85, 86, 87, 88, 89, 90, 91, 92, 93, 94, 101, 102] Mz N55_ := hf_N47_.tr hsN55_ (by decide) (by decide)
                    have e12_N55_ : ze N55_ 81 12 = ze N47_ 81 12 := hsN55_.e (by decide)
                    have e13_N55_ : ze N55_ 81 13 = ze N47_ 81 13 := hsN55_.e (by decide)
                    have e14_N55_ : ze N55_ 81 14 = ze N47_ 81 14 := hsN55_.e (by decide)
                    have e16_N55_ : ze N55_ 81 16 = ze N47_ 81 16 := hsN55_.e (by decide)
                    have e17_N55_ : ze N55_ 81 17 = ze N47_ 81 17 := hsN55_.e (by decide)
                    have e18_N55_ : ze N55_ 81 18 = ze N47_ 81 18 := hsN55_.e (by decide)
                    have r58_N55_ := ze_r N55_ 81 58
                    have c56_ : zIF N55_ := zIF.fr hsN55_ c49_ (by decide) (by decide)
                    have c57_ : zMvq mv_ N55_ := zMvq.fr hsN55_ c50_ (by decide) (by decide)
                    have c58_ : zB 83 24 0 5 N55_ := zB.fr hsN55_ c51_ (by decide) (by decide)
                    have c59_ : zPm N55_ := zPm.fr hsN55_ c52_ (by decide) (by decide)
                    have c60_ : zFin N55_ := zFin.fr hsN55_ c53_ (by decide) (by decide)
                    have c61_ : zMvt mv_ N55_ := zMvt.fr hsN55_ c54_ (by decide) (by decide)
                    have c62_ : zGB T N55_ := zGB.fr hsN55_ hGB (by decide) (by decide)
                    exact zr_vret (pc := 112) rfl hf_N55_ ⟨(show (∃ T : zGT, T ∈ gTabs ∧ zGB T N55_ ∧ zTm mv_ T) by exact ⟨T, hTt, c62_, hTm2_⟩), (show 0 ≤ ze N55_ 81 14 by first | assumption | omega), (show ze N55_ 81 14 ≤ 8 by first | assumption | omega), c56_, c58_, c57_⟩ d_M_goesBack_112
                  · skip
                    refine zw_aload_n (pc := 85) (n := 0) (x := 81) rfl d_M_goesBack_85 ?_
                    refine zr_getF (r := 102) (hf_N37_.w hW) (pc := 86) f_M_78 rfl (zh_102 (hf_N37_.w hW)).1 d_M_goesBack_86 ?_
                    refine zw_iload_n (pc := 89) (n := 1) (x := Int32.ofInt u36_) rfl d_M_goesBack_89 ?_
                    refine zw_aload_n (pc := 90) (n := 0) (x := 81) rfl d_M_goesBack_90 ?_
                    refine zr_getF (r := 104) (hf_N37_.w hW) (pc := 91) f_M_84 rfl (zh_104 (hf_N37_.w hW)).1 d_M_goesBack_91 ?_
                    refine zw_iload_n (pc := 94) (n := 1) (x := Int32.ofInt u36_) rfl d_M_goesBack_94 ?_
                    refine zr_laldn (pc := 95) (zh_104 (hf_N37_.w hW)).2 (by decide) (by omega) (by omega) d_M_goesBack_95 (fun v63_ hv63_ hv63_a hv63_b => ?_)
                    rw [hf_N37_.jg (by decide) (by decide)] at hv63_
                    refine zr_last (pc := 96) (zh_102 (hf_N37_.w hW)).2 (by decide) (by decide) (by omega) (by omega) d_M_goesBack_96 (fun N64_ hN64_ hsN64_ => ?_)
                    have hf_N64_ : zFr [12, 13, 14, 20, 25, 26, 58] [83, 85, 86, 87, 88, 89, 90, 91, 92, 93, 94, 101, 102] Mz N64_ := hf_N37_.tr hsN64_ (by decide) (by decide)
                    have hb0_N64_ : zFr [] [102] N26_ N64_ := hs38_.tr hsN64_ (by decide) (by decide)
                    have e12_N64_ : ze N64_ 81 12 = ze N37_ 81 12 := hsN64_.e (by decide)
                    have e13_N64_ : ze N64_ 81 13 = ze N37_ 81 13 := hsN64_.e (by decide)
                    have e14_N64_ : ze N64_ 81 14 = ze N37_ 81 14 := hsN64_.e (by decide)
                    have e16_N64_ : ze N64_ 81 16 = ze N37_ 81 16 := hsN64_.e (by decide)
                    have e17_N64_ : ze N64_ 81 17 = ze N37_ 81 17 := hsN64_.e (by decide)
                    have e18_N64_ : ze N64_ 81 18 = ze N37_ 81 18 := hsN64_.e (by decide)
                    have e58_N64_ : ze N64_ 81 58 = ze N37_ 81 58 := hsN64_.e (by decide)
                    have c65_ : zIF N64_ := zIF.fr hsN64_ c40_ (by decide) (by decide)
                    have c66_ : zB 85 144 0 5 N64_ := zB.fr hsN64_ c41_ (by decide) (by decide)
                    have c67_ : zMvq mv_ N64_ := zMvq.fr hsN64_ c42_ (by decide) (by decide)
                    have c68_ : zB 83 24 0 5 N64_ := zB.fr hsN64_ c43_ (by decide) (by decide)
                    have c69_ : zPm N64_ := zPm.fr hsN64_ c44_ (by decide) (by decide)
                    have c70_ : zFin N64_ := zFin.fr hsN64_ c45_ (by decide) (by decide)
                    have c71_ : zMvt mv_ N64_ := zMvt.fr hsN64_ c46_ (by decide) (by decide)
                    refine zr_iinc (pc := 97) (i := 1) (a := u36_) (n := 1) (L2 := [some (.ref 81), some (.int (Int32.ofInt (u36_ + 1)))]) rfl (by decide) rfl d_M_goesBack_97 ?_
                    refine zw_goto (pc := 100) (tgt := 78) (by decide) d_M_goesBack_100 ?_
                    exact ih_78 (u36_ + 1) (by omega) (by omega) N64_ hb0_N64_ (show 0 ≤ (u36_ + 1) by first | assumption | omega) (by omega)
              exact lp_78 _ 0 (by decide) (by decide) N26_ zFr.rf (show 0 ≤ (0 : Int) by first | assumption | omega) (Nat.lt_succ_self _)
            · skip
              refine zw_aload_n (pc := 58) (n := 0) (x := 81) rfl d_M_goesBack_58 ?_
              refine zr_getF (r := 101) (hf_N26_.w hW) (pc := 59) f_M_75 rfl (zh_101 (hf_N26_.w hW)).1 d_M_goesBack_59 ?_
              refine zw_iload_n (pc := 62) (n := 1) (x := Int32.ofInt u25_) rfl d_M_goesBack_62 ?_
              refine zw_aload_n (pc := 63) (n := 0) (x := 81) rfl d_M_goesBack_63 ?_
              refine zr_getF (r := 103) (hf_N26_.w hW) (pc := 64) f_M_81 rfl (zh_103 (hf_N26_.w hW)).1 d_M_goesBack_64 ?_
              refine zw_iload_n (pc := 67) (n := 1) (x := Int32.ofInt u25_) rfl d_M_goesBack_67 ?_
              refine zr_laldn (pc := 68) (zh_103 (hf_N26_.w hW)).2 (by decide) (by omega) (by omega) d_M_goesBack_68 (fun v72_ hv72_ hv72_a hv72_b => ?_)
              rw [hf_N26_.jg (by decide) (by decide)] at hv72_
              refine zr_last (pc := 69) (zh_101 (hf_N26_.w hW)).2 (by decide) (by decide) (by omega) (by omega) d_M_goesBack_69 (fun N73_ hN73_ hsN73_ => ?_)
              have hf_N73_ : zFr [12, 13, 14, 20, 25, 26, 58] [83, 85, 86, 87, 88, 89, 90, 91, 92, 93, 94, 101, 102] Mz N73_ := hf_N26_.tr hsN73_ (by decide) (by decide)
              have hb0_N73_ : zFr [] [101] N17_ N73_ := hs27_.tr hsN73_ (by decide) (by decide)
              have e12_N73_ : ze N73_ 81 12 = ze N26_ 81 12 := hsN73_.e (by decide)
              have e13_N73_ : ze N73_ 81 13 = ze N26_ 81 13 := hsN73_.e (by decide)
              have e14_N73_ : ze N73_ 81 14 = ze N26_ 81 14 := hsN73_.e (by decide)
              have e16_N73_ : ze N73_ 81 16 = ze N26_ 81 16 := hsN73_.e (by decide)
              have e17_N73_ : ze N73_ 81 17 = ze N26_ 81 17 := hsN73_.e (by decide)
              have e18_N73_ : ze N73_ 81 18 = ze N26_ 81 18 := hsN73_.e (by decide)
              have e58_N73_ : ze N73_ 81 58 = ze N26_ 81 58 := hsN73_.e (by decide)
              have c74_ : zIF N73_ := zIF.fr hsN73_ c29_ (by decide) (by decide)
              have c75_ : zB 85 144 0 5 N73_ := zB.fr hsN73_ c30_ (by decide) (by decide)
              have c76_ : zMvq mv_ N73_ := zMvq.fr hsN73_ c31_ (by decide) (by decide)
              have c77_ : zB 83 24 0 5 N73_ := zB.fr hsN73_ c32_ (by decide) (by decide)
              have c78_ : zPm N73_ := zPm.fr hsN73_ c33_ (by decide) (by decide)
              have c79_ : zFin N73_ := zFin.fr hsN73_ c34_ (by decide) (by decide)
              have c80_ : zMvt mv_ N73_ := zMvt.fr hsN73_ c35_ (by decide) (by decide)
              refine zr_iinc (pc := 70) (i := 1) (a := u25_) (n := 1) (L2 := [some (.ref 81), some (.int (Int32.ofInt (u25_ + 1)))]) rfl (by decide) rfl d_M_goesBack_70 ?_
              refine zw_goto (pc := 73) (tgt := 52) (by decide) d_M_goesBack_73 ?_
              exact ih_52 (u25_ + 1) (by omega) (by omega) N73_ hb0_N73_ (show 0 ≤ (u25_ + 1) by first | assumption | omega) (by omega)
        exact lp_52 _ 0 (by decide) (by decide) N17_ zFr.rf (show 0 ≤ (0 : Int) by first | assumption | omega) (Nat.lt_succ_self _)
      · skip
        refine zw_aload_n (pc := 32) (n := 0) (x := 81) rfl d_M_goesBack_32 ?_
        refine zr_getF (r := 83) (hf_N17_.w hW) (pc := 33) f_M_20 rfl (zh_83 (hf_N17_.w hW)).1 d_M_goesBack_33 ?_
        refine zw_iload_n (pc := 36) (n := 1) (x := Int32.ofInt u16_) rfl d_M_goesBack_36 ?_
        refine zw_aload_n (pc := 37) (n := 0) (x := 81) rfl d_M_goesBack_37 ?_
        refine zr_getF (r := 84) (hf_N17_.w hW) (pc := 38) f_M_23 rfl (zh_84 (hf_N17_.w hW)).1 d_M_goesBack_38 ?_
        refine zw_iload_n (pc := 41) (n := 1) (x := Int32.ofInt u16_) rfl d_M_goesBack_41 ?_
        refine zr_ialdn (pc := 42) (zh_84 (hf_N17_.w hW)).2 (by decide) (by omega) (by omega) d_M_goesBack_42 (fun v81_ hv81_ hv81_a hv81_b => ?_)
        rw [hf_N17_.ie (by decide) (by decide)] at hv81_
        have hb84_ := p0_.2.1 (u16_).toNat (by omega)
        refine zr_iast (pc := 43) (zh_83 (hf_N17_.w hW)).2 (by decide) (by decide) (by omega) (by omega) d_M_goesBack_43 (fun N82_ hN82_ hsN82_ => ?_)
        have hf_N82_ : zFr [12, 13, 14, 20, 25, 26, 58] [83, 85, 86, 87, 88, 89, 90, 91, 92, 93, 94, 101, 102] Mz N82_ := hf_N17_.tr hsN82_ (by decide) (by decide)
        have hb0_N82_ : zFr [] [83] N11_ N82_ := hs18_.tr hsN82_ (by decide) (by decide)
        have e12_N82_ : ze N82_ 81 12 = ze N17_ 81 12 := hsN82_.e (by decide)
        have e13_N82_ : ze N82_ 81 13 = ze N17_ 81 13 := hsN82_.e (by decide)
        have e14_N82_ : ze N82_ 81 14 = ze N17_ 81 14 := hsN82_.e (by decide)
        have e16_N82_ : ze N82_ 81 16 = ze N17_ 81 16 := hsN82_.e (by decide)
        have e17_N82_ : ze N82_ 81 17 = ze N17_ 81 17 := hsN82_.e (by decide)
        have e18_N82_ : ze N82_ 81 18 = ze N17_ 81 18 := hsN82_.e (by decide)
        have e58_N82_ : ze N82_ 81 58 = ze N17_ 81 58 := hsN82_.e (by decide)
        have c83_ : zIF N82_ := zIF.fr hsN82_ c22_ (by decide) (by decide)
        have c84_ : zB 85 144 0 5 N82_ := zB.fr hsN82_ c23_ (by decide) (by decide)
        have c85_ : zMvq mv_ N82_ := zMvq.fr hsN82_ c24_ (by decide) (by decide)
        have c86_ : zB 83 24 0 5 N82_ := zB.s i21_ hN82_ (by omega) (by omega) (by decide) (by decide)
        have hC1_ := zCp_s (by omega) (show zCp 84 83 Mz N17_ u16_ by assumption) (by assumption) hN82_
        refine zr_iinc (pc := 44) (i := 1) (a := u16_) (n := 1) (L2 := [some (.ref 81), some (.int (Int32.ofInt (u16_ + 1)))]) rfl (by decide) rfl d_M_goesBack_44 ?_
        refine zw_goto (pc := 47) (tgt := 26) (by decide) d_M_goesBack_47 ?_
        exact ih_26 (u16_ + 1) (by omega) (by omega) N82_ hb0_N82_ (show 0 ≤ (u16_ + 1) by first | assumption | omega) (show zCp 84 83 Mz N82_ (u16_ + 1) by exact hC1_) c86_ (by omega)
  exact lp_26 _ 0 (by decide) (by decide) N11_ zFr.rf (show 0 ≤ (0 : Int) by first | assumption | omega) (show zCp 84 83 Mz N11_ (0 : Int) by exact zCp_0) c13_ (Nat.lt_succ_self _)
