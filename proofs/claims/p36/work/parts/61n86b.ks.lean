set_option maxHeartbeats 4000000 in
theorem u_Reader_readWholeS (l : Launch) (d_ : Nat) (Mz : zMem) (hW : zKW d_ Mz) (b_ : Nat → Int) (n_ : Nat) (F_ : Nat) (K_ : Nat → Nat → Int) (hA_ : zTA F_ K_) (nm_ : List (Int × (Nat → Int))) (p0_ : zYb b_ n_ Mz) (p1_ : zYt b_ n_ Mz) (p2_ : zKm F_ K_ d_ Mz) (p3_ : zNm nm_ F_ K_ d_ Mz) : zC l m_Reader_readWhole 0 0 [.ref 4, .ref (d_ + 0)] Mz (zqcI d_ [(1, 2), (1, 3), (1, 4), (1, 5), (4, 1), (4, 2), (4, 3)] [] [(33, 2), (33, 3), (33, 4), (33, 5), (33, 6)] [25, 27, 35] Mz (fun v N => (((v = 1 ∧ (∃ q un : Nat, (zfe (zfs b_ n_ F_ K_ nm_) (0, (ze Mz 1 2).toNat, [], [], 0, false)) = (3, q, [], [zvc F_ d_ N 21], un, false) ∧ zkd b_ n_ q = 0) ∧ zfit F_ K_ (zvc F_ d_ N 21) ∧ zLow d_ Mz N) ∨ (v = 0 ∧ (¬ ∃ v_ : Nat → Int, ∃ q un : Nat, (zfe (zfs b_ n_ F_ K_ nm_) (0, (ze Mz 1 2).toNat, [], [], 0, false)) = (3, q, [], [v_], un, false) ∧ zkd b_ n_ q = 0) ∧ zLow d_ Mz N))))) := by
  refine zC_of (L0 := [some (.ref 4), some (.ref (d_ + 0))]) md_Reader_readWhole (Nat.le_of_ble_eq_true rfl) rfl ?_ zQ0
  have hf : zFc d_ [(1, 2), (1, 3), (1, 4), (1, 5), (4, 1), (4, 2), (4, 3)] [] [(33, 2), (33, 3), (33, 4), (33, 5), (33, 6)] [25, 27, 35] Mz Mz := zFc.rf
  have r_A1_2 := ze_r Mz 1 2
  have r_A1_4 := ze_r Mz 1 4
  have r_D33_2 := ze_r Mz (d_ + 33) 2
  have r_D33_3 := ze_r Mz (d_ + 33) 3
  have r_D33_4 := ze_r Mz (d_ + 33) 4
  have r_D33_5 := ze_r Mz (d_ + 33) 5
  have r_D33_6 := ze_r Mz (d_ + 33) 6
  obtain ⟨⟨hF1_, hF27_⟩, hAr_⟩ := id hA_
  refine zw_aload_n (pc := 0) (n := 0) (x := 4) rfl d_Reader_readWhole_0 ?_
  refine zw_aload_n (pc := 1) (n := 1) (x := (d_ + 0)) rfl d_Reader_readWhole_1 ?_
  refine zk_callV hf.x (pc := 2) [.ref (d_ + 0)] [] l_Reader_107 (u_Reader_readSum l d_ Mz (hf.w hW) b_ n_ F_ K_ hA_ nm_ p0_ p1_ p2_ p3_) rfl rfl ((hf.w hW).ka (o := 4) (by decide)) (by decide) (by decide) (Nat.le_of_ble_eq_true rfl) d_Reader_readWhole_2 ?_
  rintro _ N1_ ⟨v2_, rfl, ⟨hv2_a, hv2_b⟩, hsN1_, ⟨hp0_N1_, hp1_N1_⟩⟩
  have hf_N1_ : zFc d_ [(1, 2), (1, 3), (1, 4), (1, 5), (4, 1), (4, 2), (4, 3)] [] [(33, 2), (33, 3), (33, 4), (33, 5), (33, 6)] [25, 27, 35] Mz N1_ := hf.tr hsN1_ (by decide) (by decide) (by decide) (by decide)
  have rA1_2_N1_ := ze_r N1_ 1 2
  have rA1_4_N1_ := ze_r N1_ 1 4
  have rD33_2_N1_ := ze_r N1_ (d_ + 33) 2
  have rD33_3_N1_ := ze_r N1_ (d_ + 33) 3
  have rD33_4_N1_ := ze_r N1_ (d_ + 33) 4
  have rD33_5_N1_ := ze_r N1_ (d_ + 33) 5
  have rD33_6_N1_ := ze_r N1_ (d_ + 33) 6
  have c3_ : zYb b_ n_ N1_ := zYb.fr (hf.w hW) hsN1_ p0_ (by decide)
  have c4_ : zKm F_ K_ d_ N1_ := zKm.fr (hf.w hW) hsN1_ p2_ (by decide)
  rcases hp1_N1_ with ⟨rfl, ha2_0_hp1_N1_, ha2_1_hp1_N1_, ha2_2_hp1_N1_, ha2_3_hp1_N1_⟩ | ⟨rfl, ha2_0_hp1_N1_, ha2_1_hp1_N1_⟩
  · skip
    have hre_ := ha2_0_hp1_N1_
    have hci_ := ha2_1_hp1_N1_
    have hlw_ := ha2_2_hp1_N1_
    have hse_ := ha2_3_hp1_N1_
    have hzs_ : (zfe (zfs b_ n_ F_ K_ nm_) (0, (ze Mz 1 2).toNat, [], [], 0, false)) = zKst 3 F_ d_ N1_ := zfe_s hre_ (by unfold zKst; exact zfs_d)
    obtain ⟨j1_, j2_, j3_⟩ := zKst_3 hse_ hci_
    obtain ⟨t1_, t2_, t3_, t4_, t5_, t6_⟩ := id hp0_N1_
    show zW l m_Reader_readWhole (zn Mz + 0, zw Mz + 0) N1_ 5 [some (.ref 4), some (.ref (d_ + 0))] [.int (Int32.ofInt 1)] (zqcI d_ [(1, 2), (1, 3), (1, 4), (1, 5), (4, 1), (4, 2), (4, 3)] [] [(33, 2), (33, 3), (33, 4), (33, 5), (33, 6)] [25, 27, 35] Mz (fun v N => (((v = 1 ∧ (∃ q un : Nat, (zfe (zfs b_ n_ F_ K_ nm_) (0, (ze Mz 1 2).toNat, [], [], 0, false)) = (3, q, [], [zvc F_ d_ N 21], un, false) ∧ zkd b_ n_ q = 0) ∧ zfit F_ K_ (zvc F_ d_ N 21) ∧ zLow d_ Mz N) ∨ (v = 0 ∧ (¬ ∃ v_ : Nat → Int, ∃ q un : Nat, (zfe (zfs b_ n_ F_ K_ nm_) (0, (ze Mz 1 2).toNat, [], [], 0, false)) = (3, q, [], [v_], un, false) ∧ zkd b_ n_ q = 0) ∧ zLow d_ Mz N)))))
    refine zr_if_ne (pc := 5) (tgt := 10) ⟨(by decide), (by decide)⟩ (by decide) d_Reader_readWhole_5 (fun hc_5 => ?_) (fun hc_5 => ?_)
    · skip
      refine zw_aload_n (pc := 10) (n := 0) (x := 4) rfl d_Reader_readWhole_10 ?_
      refine zw_getF (pc := 11) f_Reader_15 rfl ((hf_N1_.w hW).ka (o := 4) (by decide)) ((hf_N1_.w hW).la (o := 4) (s := 0) (r := 1) (by decide)) d_Reader_readWhole_11 ?_
      refine zk_getI (pc := 14) f_Reader_27 rfl ((hf_N1_.w hW).ka (o := 1) (by decide)) d_Reader_readWhole_14 ?_
      refine zr_if_eq (pc := 17) (tgt := 26) ⟨(ze_r N1_ 1 4).1, (ze_r N1_ 1 4).2⟩ (by decide) d_Reader_readWhole_17 (fun hc_17 => ?_) (fun hc_17 => ?_)
      · skip
        refine zw_aload_n (pc := 26) (n := 1) (x := (d_ + 0)) rfl d_Reader_readWhole_26 ?_
        refine zw_getF (pc := 27) f_Reader_111 rfl ((hf_N1_.w hW).kr (o := 0) (by decide)) ((hf_N1_.w hW).lr (o := 0) (s := 4) (r := 33) (by decide)) d_Reader_readWhole_27 ?_
        refine zk_getI (pc := 30) f_Reader_115 rfl ((hf_N1_.w hW).kr (o := 33) (by decide)) d_Reader_readWhole_30 ?_
        refine zr_if_eq (pc := 33) (tgt := 46) ⟨(ze_r N1_ (d_ + 33) 6).1, (ze_r N1_ (d_ + 33) 6).2⟩ (by decide) d_Reader_readWhole_33 (fun hc_33 => ?_) (fun hc_33 => ?_)
        · skip
          have hok_ : (∃ q un : Nat, (zfe (zfs b_ n_ F_ K_ nm_) (0, (ze Mz 1 2).toNat, [], [], 0, false)) = (3, q, [], [zvc F_ d_ N1_ 21], un, false) ∧ zkd b_ n_ q = 0) := by rcases j3_ with ⟨g_, e2_⟩ | ⟨g_, e2_⟩; exact ⟨_, _, hzs_.trans e2_, by omega⟩; exfalso; omega
          refine zw_iconst (pc := 46) (v := Int32.ofInt 1) (by decide) d_Reader_readWhole_46 ?_
          refine zw_goto (pc := 47) (tgt := 51) (by decide) d_Reader_readWhole_47 ?_
          exact zk_iret (pc := 51) (ty := .boolean) rfl (z_narB (by omega)) ⟨by omega, by omega⟩ hf_N1_ (show ((1 = 1 ∧ (∃ q un : Nat, (zfe (zfs b_ n_ F_ K_ nm_) (0, (ze Mz 1 2).toNat, [], [], 0, false)) = (3, q, [], [zvc F_ d_ N1_ 21], un, false) ∧ zkd b_ n_ q = 0) ∧ zfit F_ K_ (zvc F_ d_ N1_ 21) ∧ zLow d_ Mz N1_) ∨ (1 = 0 ∧ (¬ ∃ v_ : Nat → Int, ∃ q un : Nat, (zfe (zfs b_ n_ F_ K_ nm_) (0, (ze Mz 1 2).toNat, [], [], 0, false)) = (3, q, [], [v_], un, false) ∧ zkd b_ n_ q = 0) ∧ zLow d_ Mz N1_)) from Or.inl (⟨(show 1 = 1 by first | rfl | exact hok_ | exact j2_ | exact hlw_), (show (∃ q un : Nat, (zfe (zfs b_ n_ F_ K_ nm_) (0, (ze Mz 1 2).toNat, [], [], 0, false)) = (3, q, [], [zvc F_ d_ N1_ 21], un, false) ∧ zkd b_ n_ q = 0) by first | rfl | exact hok_ | exact j2_ | exact hlw_), (show zfit F_ K_ (zvc F_ d_ N1_ 21) by first | rfl | exact hok_ | exact j2_ | exact hlw_), (show zLow d_ Mz N1_ by first | rfl | exact hok_ | exact j2_ | exact hlw_)⟩)) d_Reader_readWhole_51
        · skip
          have hno_ : (¬ ∃ v_ : Nat → Int, ∃ q un : Nat, (zfe (zfs b_ n_ F_ K_ nm_) (0, (ze Mz 1 2).toNat, [], [], 0, false)) = (3, q, [], [v_], un, false) ∧ zkd b_ n_ q = 0) := by rintro ⟨v_, q_, un_, e_, z_⟩; rw [hzs_] at e_; rcases j3_ with ⟨g_, e2_⟩ | ⟨g_, e2_⟩; exfalso; omega; rw [e2_] at e_; have e5_ : true = false := congrArg (fun x_ : zFst => x_.2.2.2.2.2) e_; cases e5_
          refine zw_aload_n (pc := 36) (n := 0) (x := 4) rfl d_Reader_readWhole_36 ?_
          refine zw_bipush (pc := 37) (v := Int32.ofInt 6) (by decide) d_Reader_readWhole_37 ?_
          refine zw_iconst (pc := 39) (v := Int32.ofInt 0) (by decide) d_Reader_readWhole_39 ?_
          refine zk_callV hf_N1_.x (pc := 40) [.int (Int32.ofInt 6), .int (Int32.ofInt 0)] [] l_Reader_33 (u_Reader_refuseAt l d_ N1_ (hf_N1_.w hW) 6 (by decide) (by decide) 0 (by decide) (by decide)) rfl rfl ((hf_N1_.w hW).ka (o := 4) (by decide)) (by decide) (by decide) (Nat.le_of_ble_eq_true rfl) d_Reader_readWhole_40 ?_
          rintro _ N5_ ⟨v6_, rfl, ⟨hv6_a, hv6_b⟩, hsN5_, hp0_N5_⟩
          replace hp0_N5_ : ((v6_ = 0)) := hp0_N5_
          have hf_N5_ : zFc d_ [(1, 2), (1, 3), (1, 4), (1, 5), (4, 1), (4, 2), (4, 3)] [] [(33, 2), (33, 3), (33, 4), (33, 5), (33, 6)] [25, 27, 35] Mz N5_ := hf_N1_.tr hsN5_ (by decide) (by decide) (by decide) (by decide)
          have eA1_2_N5_ : ze N5_ 1 2 = ze N1_ 1 2 := hsN5_.ea (hf_N1_.w hW) (by decide)
          have eA1_4_N5_ : ze N5_ 1 4 = ze N1_ 1 4 := hsN5_.ea (hf_N1_.w hW) (by decide)
          have eD33_2_N5_ : ze N5_ (d_ + 33) 2 = ze N1_ (d_ + 33) 2 := hsN5_.e (by decide)
          have eD33_3_N5_ : ze N5_ (d_ + 33) 3 = ze N1_ (d_ + 33) 3 := hsN5_.e (by decide)
          have eD33_4_N5_ : ze N5_ (d_ + 33) 4 = ze N1_ (d_ + 33) 4 := hsN5_.e (by decide)
          have eD33_5_N5_ : ze N5_ (d_ + 33) 5 = ze N1_ (d_ + 33) 5 := hsN5_.e (by decide)
          have eD33_6_N5_ : ze N5_ (d_ + 33) 6 = ze N1_ (d_ + 33) 6 := hsN5_.e (by decide)
          have c7_ : zYb b_ n_ N5_ := zYb.fr (hf_N1_.w hW) hsN5_ c3_ (by decide)
          have c8_ : zKm F_ K_ d_ N5_ := zKm.fr (hf_N1_.w hW) hsN5_ c4_ (by decide)
          have c9_ : zYt b_ n_ N5_ := zYt.fr (hf_N1_.w hW) hsN5_ hp0_N1_ (by decide)
          have c10_ : zLow d_ Mz N5_ := zLow.fr (hf_N1_.w hW) hsN5_ hlw_ (by decide)
          rcases hp0_N5_ with rfl
          · skip
            show zW l m_Reader_readWhole (zn Mz + 0, zw Mz + 0) N5_ 43 [some (.ref 4), some (.ref (d_ + 0))] [.int (Int32.ofInt 0)] (zqcI d_ [(1, 2), (1, 3), (1, 4), (1, 5), (4, 1), (4, 2), (4, 3)] [] [(33, 2), (33, 3), (33, 4), (33, 5), (33, 6)] [25, 27, 35] Mz (fun v N => (((v = 1 ∧ (∃ q un : Nat, (zfe (zfs b_ n_ F_ K_ nm_) (0, (ze Mz 1 2).toNat, [], [], 0, false)) = (3, q, [], [zvc F_ d_ N 21], un, false) ∧ zkd b_ n_ q = 0) ∧ zfit F_ K_ (zvc F_ d_ N 21) ∧ zLow d_ Mz N) ∨ (v = 0 ∧ (¬ ∃ v_ : Nat → Int, ∃ q un : Nat, (zfe (zfs b_ n_ F_ K_ nm_) (0, (ze Mz 1 2).toNat, [], [], 0, false)) = (3, q, [], [v_], un, false) ∧ zkd b_ n_ q = 0) ∧ zLow d_ Mz N)))))
            refine zr_if_eq (pc := 43) (tgt := 50) ⟨(by decide), (by decide)⟩ (by decide) d_Reader_readWhole_43 (fun hc_43 => ?_) (fun hc_43 => ?_)
            · skip
              refine zw_iconst (pc := 50) (v := Int32.ofInt 0) (by decide) d_Reader_readWhole_50 ?_
              exact zk_iret (pc := 51) (ty := .boolean) rfl (z_narB (by omega)) ⟨by omega, by omega⟩ hf_N5_ (show ((0 = 1 ∧ (∃ q un : Nat, (zfe (zfs b_ n_ F_ K_ nm_) (0, (ze Mz 1 2).toNat, [], [], 0, false)) = (3, q, [], [zvc F_ d_ N5_ 21], un, false) ∧ zkd b_ n_ q = 0) ∧ zfit F_ K_ (zvc F_ d_ N5_ 21) ∧ zLow d_ Mz N5_) ∨ (0 = 0 ∧ (¬ ∃ v_ : Nat → Int, ∃ q un : Nat, (zfe (zfs b_ n_ F_ K_ nm_) (0, (ze Mz 1 2).toNat, [], [], 0, false)) = (3, q, [], [v_], un, false) ∧ zkd b_ n_ q = 0) ∧ zLow d_ Mz N5_)) from Or.inr (⟨(show 0 = 0 by first | rfl | exact hno_ | exact c10_), (show (¬ ∃ v_ : Nat → Int, ∃ q un : Nat, (zfe (zfs b_ n_ F_ K_ nm_) (0, (ze Mz 1 2).toNat, [], [], 0, false)) = (3, q, [], [v_], un, false) ∧ zkd b_ n_ q = 0) by first | rfl | exact hno_ | exact c10_), (show zLow d_ Mz N5_ by first | rfl | exact hno_ | exact c10_)⟩)) d_Reader_readWhole_51
            · skip
              exact absurd hc_43 (by decide)
      · skip
        have hno_ : (¬ ∃ v_ : Nat → Int, ∃ q un : Nat, (zfe (zfs b_ n_ F_ K_ nm_) (0, (ze Mz 1 2).toNat, [], [], 0, false)) = (3, q, [], [v_], un, false) ∧ zkd b_ n_ q = 0) := by rintro ⟨v_, q_, un_, e_, z_⟩; rw [hzs_] at e_; have e4_ : (ze N1_ 1 2).toNat = q_ := congrArg (fun x_ : zFst => x_.2.1) e_; rw [← e4_] at z_; omega
        refine zw_aload_n (pc := 20) (n := 0) (x := 4) rfl d_Reader_readWhole_20 ?_
        refine zw_iconst (pc := 21) (v := Int32.ofInt 2) (by decide) d_Reader_readWhole_21 ?_
        refine zk_callV hf_N1_.x (pc := 22) [.int (Int32.ofInt 2)] [] l_Reader_41 (u_Reader_refuse l d_ N1_ (hf_N1_.w hW) 2 (by decide) (by decide)) rfl rfl ((hf_N1_.w hW).ka (o := 4) (by decide)) (by decide) (by decide) (Nat.le_of_ble_eq_true rfl) d_Reader_readWhole_22 ?_
        rintro _ N11_ ⟨v12_, rfl, ⟨hv12_a, hv12_b⟩, hsN11_, hp0_N11_⟩
        replace hp0_N11_ : ((v12_ = 0)) := hp0_N11_
        have hf_N11_ : zFc d_ [(1, 2), (1, 3), (1, 4), (1, 5), (4, 1), (4, 2), (4, 3)] [] [(33, 2), (33, 3), (33, 4), (33, 5), (33, 6)] [25, 27, 35] Mz N11_ := hf_N1_.tr hsN11_ (by decide) (by decide) (by decide) (by decide)
        have eA1_2_N11_ : ze N11_ 1 2 = ze N1_ 1 2 := hsN11_.ea (hf_N1_.w hW) (by decide)
        have eA1_4_N11_ : ze N11_ 1 4 = ze N1_ 1 4 := hsN11_.ea (hf_N1_.w hW) (by decide)
        have eD33_2_N11_ : ze N11_ (d_ + 33) 2 = ze N1_ (d_ + 33) 2 := hsN11_.e (by decide)
        have eD33_3_N11_ : ze N11_ (d_ + 33) 3 = ze N1_ (d_ + 33) 3 := hsN11_.e (by decide)
        have eD33_4_N11_ : ze N11_ (d_ + 33) 4 = ze N1_ (d_ + 33) 4 := hsN11_.e (by decide)
        have eD33_5_N11_ : ze N11_ (d_ + 33) 5 = ze N1_ (d_ + 33) 5 := hsN11_.e (by decide)
        have eD33_6_N11_ : ze N11_ (d_ + 33) 6 = ze N1_ (d_ + 33) 6 := hsN11_.e (by decide)
        have c13_ : zYb b_ n_ N11_ := zYb.fr (hf_N1_.w hW) hsN11_ c3_ (by decide)
        have c14_ : zKm F_ K_ d_ N11_ := zKm.fr (hf_N1_.w hW) hsN11_ c4_ (by decide)
        have c15_ : zYt b_ n_ N11_ := zYt.fr (hf_N1_.w hW) hsN11_ hp0_N1_ (by decide)
        have c16_ : zLow d_ Mz N11_ := zLow.fr (hf_N1_.w hW) hsN11_ hlw_ (by decide)
        rcases hp0_N11_ with rfl
        · skip
          show zW l m_Reader_readWhole (zn Mz + 0, zw Mz + 0) N11_ 25 [some (.ref 4), some (.ref (d_ + 0))] [.int (Int32.ofInt 0)] (zqcI d_ [(1, 2), (1, 3), (1, 4), (1, 5), (4, 1), (4, 2), (4, 3)] [] [(33, 2), (33, 3), (33, 4), (33, 5), (33, 6)] [25, 27, 35] Mz (fun v N => (((v = 1 ∧ (∃ q un : Nat, (zfe (zfs b_ n_ F_ K_ nm_) (0, (ze Mz 1 2).toNat, [], [], 0, false)) = (3, q, [], [zvc F_ d_ N 21], un, false) ∧ zkd b_ n_ q = 0) ∧ zfit F_ K_ (zvc F_ d_ N 21) ∧ zLow d_ Mz N) ∨ (v = 0 ∧ (¬ ∃ v_ : Nat → Int, ∃ q un : Nat, (zfe (zfs b_ n_ F_ K_ nm_) (0, (ze Mz 1 2).toNat, [], [], 0, false)) = (3, q, [], [v_], un, false) ∧ zkd b_ n_ q = 0) ∧ zLow d_ Mz N)))))
          exact zk_iret (pc := 25) (ty := .boolean) rfl (z_narB (by omega)) ⟨by omega, by omega⟩ hf_N11_ (show ((0 = 1 ∧ (∃ q un : Nat, (zfe (zfs b_ n_ F_ K_ nm_) (0, (ze Mz 1 2).toNat, [], [], 0, false)) = (3, q, [], [zvc F_ d_ N11_ 21], un, false) ∧ zkd b_ n_ q = 0) ∧ zfit F_ K_ (zvc F_ d_ N11_ 21) ∧ zLow d_ Mz N11_) ∨ (0 = 0 ∧ (¬ ∃ v_ : Nat → Int, ∃ q un : Nat, (zfe (zfs b_ n_ F_ K_ nm_) (0, (ze Mz 1 2).toNat, [], [], 0, false)) = (3, q, [], [v_], un, false) ∧ zkd b_ n_ q = 0) ∧ zLow d_ Mz N11_)) from Or.inr (⟨(show 0 = 0 by first | rfl | exact hno_ | exact c16_), (show (¬ ∃ v_ : Nat → Int, ∃ q un : Nat, (zfe (zfs b_ n_ F_ K_ nm_) (0, (ze Mz 1 2).toNat, [], [], 0, false)) = (3, q, [], [v_], un, false) ∧ zkd b_ n_ q = 0) by first | rfl | exact hno_ | exact c16_), (show zLow d_ Mz N11_ by first | rfl | exact hno_ | exact c16_)⟩)) d_Reader_readWhole_25
    · skip
      exact absurd hc_5 (by decide)
  · skip
    have hlw_ := ha2_1_hp1_N1_
    have hno_ : (¬ ∃ v_ : Nat → Int, ∃ q un : Nat, (zfe (zfs b_ n_ F_ K_ nm_) (0, (ze Mz 1 2).toNat, [], [], 0, false)) = (3, q, [], [v_], un, false) ∧ zkd b_ n_ q = 0) := by rintro ⟨v_, q_, un_, e_, -⟩; rw [zfe_s ha2_0_hp1_N1_ zfs_F] at e_; cases e_
    show zW l m_Reader_readWhole (zn Mz + 0, zw Mz + 0) N1_ 5 [some (.ref 4), some (.ref (d_ + 0))] [.int (Int32.ofInt 0)] (zqcI d_ [(1, 2), (1, 3), (1, 4), (1, 5), (4, 1), (4, 2), (4, 3)] [] [(33, 2), (33, 3), (33, 4), (33, 5), (33, 6)] [25, 27, 35] Mz (fun v N => (((v = 1 ∧ (∃ q un : Nat, (zfe (zfs b_ n_ F_ K_ nm_) (0, (ze Mz 1 2).toNat, [], [], 0, false)) = (3, q, [], [zvc F_ d_ N 21], un, false) ∧ zkd b_ n_ q = 0) ∧ zfit F_ K_ (zvc F_ d_ N 21) ∧ zLow d_ Mz N) ∨ (v = 0 ∧ (¬ ∃ v_ : Nat → Int, ∃ q un : Nat, (zfe (zfs b_ n_ F_ K_ nm_) (0, (ze Mz 1 2).toNat, [], [], 0, false)) = (3, q, [], [v_], un, false) ∧ zkd b_ n_ q = 0) ∧ zLow d_ Mz N)))))
    refine zr_if_ne (pc := 5) (tgt := 10) ⟨(by decide), (by decide)⟩ (by decide) d_Reader_readWhole_5 (fun hc_5 => ?_) (fun hc_5 => ?_)
    · skip
      exact absurd hc_5 (by decide)
    · skip
      refine zw_iconst (pc := 8) (v := Int32.ofInt 0) (by decide) d_Reader_readWhole_8 ?_
      exact zk_iret (pc := 9) (ty := .boolean) rfl (z_narB (by omega)) ⟨by omega, by omega⟩ hf_N1_ (show ((0 = 1 ∧ (∃ q un : Nat, (zfe (zfs b_ n_ F_ K_ nm_) (0, (ze Mz 1 2).toNat, [], [], 0, false)) = (3, q, [], [zvc F_ d_ N1_ 21], un, false) ∧ zkd b_ n_ q = 0) ∧ zfit F_ K_ (zvc F_ d_ N1_ 21) ∧ zLow d_ Mz N1_) ∨ (0 = 0 ∧ (¬ ∃ v_ : Nat → Int, ∃ q un : Nat, (zfe (zfs b_ n_ F_ K_ nm_) (0, (ze Mz 1 2).toNat, [], [], 0, false)) = (3, q, [], [v_], un, false) ∧ zkd b_ n_ q = 0) ∧ zLow d_ Mz N1_)) from Or.inr (⟨(show 0 = 0 by first | rfl | exact hno_ | exact hlw_), (show (¬ ∃ v_ : Nat → Int, ∃ q un : Nat, (zfe (zfs b_ n_ F_ K_ nm_) (0, (ze Mz 1 2).toNat, [], [], 0, false)) = (3, q, [], [v_], un, false) ∧ zkd b_ n_ q = 0) by first | rfl | exact hno_ | exact hlw_), (show zLow d_ Mz N1_ by first | rfl | exact hno_ | exact hlw_)⟩)) d_Reader_readWhole_9
set_option maxHeartbeats 4000000 in
theorem u_T_makesS (l : Launch) (d_ : Nat) (Mz : zMem) (hW : zKW d_ Mz) (hnow : zf Mz 0 2 = some (d_ + 0)) (b_ : Nat → Int) (n_ : Nat) (T_ : zGT) (hT_ : T_ ∈ gTabs) (s_ : zSg) (nm_ : List (Int × (Nat → Int))) (p0_ : zYb b_ n_ Mz) (p1_ : zKm (gF T_).length (gmkI T_) d_ Mz) (p2_ : zSK (gF T_).length s_ d_ Mz) (p3_ : zNm nm_ (gF T_).length (gmkI T_) d_ Mz) : zC l m_T_makes 0 0 [.ref 0] Mz (zqcI d_ [(1, 1), (1, 2), (1, 3), (1, 4), (1, 5), (4, 1), (4, 2), (4, 3)] [] [(0, 7), (0, 8), (33, 2), (33, 3), (33, 4), (33, 5), (33, 6)] [25, 27, 35] Mz (fun v N => ze N 1 1 = 0 ∧ ((((¬ ∃ w_ : Nat → Int, zMkR b_ n_ (gF T_).length (gmkI T_) nm_ w_) ∧ v = -1 ∧ zSK (gF T_).length s_ d_ N) ∨ ∃ w_ : Nat → Int, zMkR b_ n_ (gF T_).length (gmkI T_) nm_ w_ ∧ zfit (gF T_).length (gmkI T_) w_ ∧ v = ((znzc w_ (gF T_).length : Nat) : Int) ∧ zSK (gF T_).length (zpush s_ w_) d_ N)) ∧ zNm nm_ (gF T_).length (gmkI T_) d_ N)) := by
  refine zC_of (L0 := [some (.ref 0), none]) md_T_makes (Nat.le_of_ble_eq_true rfl) rfl ?_ zQ0
  have hf : zFc d_ [(1, 1), (1, 2), (1, 3), (1, 4), (1, 5), (4, 1), (4, 2), (4, 3)] [] [(0, 7), (0, 8), (33, 2), (33, 3), (33, 4), (33, 5), (33, 6)] [25, 27, 35] Mz Mz := zFc.rf
  have r_A1_1 := ze_r Mz 1 1
  have r_A1_2 := ze_r Mz 1 2
  have hO_ := gTabs_ok T_ hT_
  have hG_ := hO_.1
  have hn24_ := hG_.2.1
  have hn1_ := hG_.1
  have hTA_ := gT_zTA hT_
  obtain ⟨⟨hF1_, hF27_⟩, hAr_⟩ := id hTA_
  obtain ⟨hFc_, hKt_⟩ := id p1_
  obtain ⟨⟨hs1_, hs2_⟩, ⟨hs3_, hs4_⟩, hs5_, hs6_⟩ := id p2_
  refine zw_aload_n (pc := 0) (n := 0) (x := 0) rfl d_T_makes_0 ?_
  refine zw_getF (pc := 1) f_T_21 rfl ((hf.w hW).ka (o := 0) (by decide)) ((hf.w hW).la (o := 0) (s := 1) (r := 4) (by decide)) d_T_makes_1 ?_
  refine zk_callV hf.x (pc := 4) [] [] l_T_49 (u_Reader_begin l d_ Mz (hf.w hW) b_ n_ p0_) rfl rfl ((hf.w hW).ka (o := 4) (by decide)) (by decide) (by decide) (Nat.le_of_ble_eq_true rfl) d_T_makes_4 ?_
  rintro _ N1_ ⟨rfl, hsN1_, ⟨hp0_N1_, hp1_N1_⟩⟩
  have hf_N1_ : zFc d_ [(1, 1), (1, 2), (1, 3), (1, 4), (1, 5), (4, 1), (4, 2), (4, 3)] [] [(0, 7), (0, 8), (33, 2), (33, 3), (33, 4), (33, 5), (33, 6)] [25, 27, 35] Mz N1_ := hf.tr hsN1_ (by decide) (by decide) (by decide) (by decide)
  have eA1_1_N1_ : ze N1_ 1 1 = ze Mz 1 1 := hsN1_.ea (hf.w hW) (by decide)
  have rA1_2_N1_ := ze_r N1_ 1 2
  have c3_ : zYb b_ n_ N1_ := zYb.fr (hf.w hW) hsN1_ p0_ (by decide)
  have c4_ : zKm (gF T_).length (gmkI T_) d_ N1_ := zKm.fr (hf.w hW) hsN1_ p1_ (by decide)
  have c5_ : zSK (gF T_).length s_ d_ N1_ := zSKc.fr (hf.w hW) hsN1_ p2_ (by decide)
  have c6_ : zNm nm_ (gF T_).length (gmkI T_) d_ N1_ := zNm.fr (hf.w hW) hsN1_ p3_ (by decide)
  show zW l m_T_makes (zn Mz + 0, zw Mz + 0) N1_ 7 [some (.ref 0), none] [] (zqcI d_ [(1, 1), (1, 2), (1, 3), (1, 4), (1, 5), (4, 1), (4, 2), (4, 3)] [] [(0, 7), (0, 8), (33, 2), (33, 3), (33, 4), (33, 5), (33, 6)] [25, 27, 35] Mz (fun v N => ze N 1 1 = 0 ∧ ((((¬ ∃ w_ : Nat → Int, zMkR b_ n_ (gF T_).length (gmkI T_) nm_ w_) ∧ v = -1 ∧ zSK (gF T_).length s_ d_ N) ∨ ∃ w_ : Nat → Int, zMkR b_ n_ (gF T_).length (gmkI T_) nm_ w_ ∧ zfit (gF T_).length (gmkI T_) w_ ∧ v = ((znzc w_ (gF T_).length : Nat) : Int) ∧ zSK (gF T_).length (zpush s_ w_) d_ N)) ∧ zNm nm_ (gF T_).length (gmkI T_) d_ N))
  have hbg_ := hp0_N1_
  refine zw_aload_n (pc := 7) (n := 0) (x := 0) rfl d_T_makes_7 ?_
  refine zw_getF (pc := 8) f_T_21 rfl ((hf_N1_.w hW).ka (o := 0) (by decide)) ((hf_N1_.w hW).la (o := 0) (s := 1) (r := 4) (by decide)) d_T_makes_8 ?_
  refine zw_aload_n (pc := 11) (n := 0) (x := 0) rfl d_T_makes_11 ?_
  refine zw_getF (pc := 12) f_T_28 rfl ((hf_N1_.w hW).ka (o := 0) (by decide)) (hf_N1_.now hnow) d_T_makes_12 ?_
  have hska_ := c5_
  have hnma_ := c6_
  have hs0_ : (ze N1_ 1 2).toNat = (zru zpB b_ n_ 0) := by have h0_ := hbg_; omega
  refine zk_callV hf_N1_.x (pc := 15) [.ref (d_ + 0)] [] l_T_281 (u_Reader_readWholeS l d_ N1_ (hf_N1_.w hW) b_ n_ (gF T_).length (gmkI T_) hTA_ nm_ c3_ hp1_N1_ c4_ c6_) rfl rfl ((hf_N1_.w hW).ka (o := 4) (by decide)) (by decide) (by decide) (Nat.le_of_ble_eq_true rfl) d_T_makes_15 ?_
  rintro _ N7_ ⟨v8_, rfl, ⟨hv8_a, hv8_b⟩, hsN7_, hp0_N7_⟩
  replace hp0_N7_ : ((v8_ = 1 ∧ (∃ q un : Nat, (zfe (zfs b_ n_ (gF T_).length (gmkI T_) nm_) (0, (ze N1_ 1 2).toNat, [], [], 0, false)) = (3, q, [], [zvc (gF T_).length d_ N7_ 21], un, false) ∧ zkd b_ n_ q = 0) ∧ zfit (gF T_).length (gmkI T_) (zvc (gF T_).length d_ N7_ 21) ∧ zLow d_ N1_ N7_) ∨ (v8_ = 0 ∧ (¬ ∃ v_ : Nat → Int, ∃ q un : Nat, (zfe (zfs b_ n_ (gF T_).length (gmkI T_) nm_) (0, (ze N1_ 1 2).toNat, [], [], 0, false)) = (3, q, [], [v_], un, false) ∧ zkd b_ n_ q = 0) ∧ zLow d_ N1_ N7_)) := hp0_N7_
  have hf_N7_ : zFc d_ [(1, 1), (1, 2), (1, 3), (1, 4), (1, 5), (4, 1), (4, 2), (4, 3)] [] [(0, 7), (0, 8), (33, 2), (33, 3), (33, 4), (33, 5), (33, 6)] [25, 27, 35] Mz N7_ := hf_N1_.tr hsN7_ (by decide) (by decide) (by decide) (by decide)
  have eA1_1_N7_ : ze N7_ 1 1 = ze N1_ 1 1 := hsN7_.ea (hf_N1_.w hW) (by decide)
  have rA1_2_N7_ := ze_r N7_ 1 2
  have c9_ : zYb b_ n_ N7_ := zYb.fr (hf_N1_.w hW) hsN7_ c3_ (by decide)
  have c10_ : zKm (gF T_).length (gmkI T_) d_ N7_ := zKm.fr (hf_N1_.w hW) hsN7_ c4_ (by decide)
  rcases hp0_N7_ with ⟨rfl, ha15_0_hp0_N7_, ha15_1_hp0_N7_, ha15_2_hp0_N7_⟩ | ⟨rfl, ha15_0_hp0_N7_, ha15_1_hp0_N7_⟩
  · skip
    have hfi_ := ha15_1_hp0_N7_
    have hlw_ := ha15_2_hp0_N7_
    have hz_ := ha15_0_hp0_N7_
    rw [hs0_] at hz_
    have hmk_ : zMkR b_ n_ (gF T_).length (gmkI T_) nm_ (zvc (gF T_).length d_ N7_ 21) := hz_
    have hsk1_ := zSK.fr hsN7_ hlw_ hF27_ hska_ (by decide)
    have hnm1_ := hnma_.l hsN7_ hlw_ hF27_ (by decide)
    show zW l m_T_makes (zn Mz + 0, zw Mz + 0) N7_ 18 [some (.ref 0), none] [.int (Int32.ofInt 1)] (zqcI d_ [(1, 1), (1, 2), (1, 3), (1, 4), (1, 5), (4, 1), (4, 2), (4, 3)] [] [(0, 7), (0, 8), (33, 2), (33, 3), (33, 4), (33, 5), (33, 6)] [25, 27, 35] Mz (fun v N => ze N 1 1 = 0 ∧ ((((¬ ∃ w_ : Nat → Int, zMkR b_ n_ (gF T_).length (gmkI T_) nm_ w_) ∧ v = -1 ∧ zSK (gF T_).length s_ d_ N) ∨ ∃ w_ : Nat → Int, zMkR b_ n_ (gF T_).length (gmkI T_) nm_ w_ ∧ zfit (gF T_).length (gmkI T_) w_ ∧ v = ((znzc w_ (gF T_).length : Nat) : Int) ∧ zSK (gF T_).length (zpush s_ w_) d_ N)) ∧ zNm nm_ (gF T_).length (gmkI T_) d_ N))
    refine zw_istore_n (pc := 18) (i := 1) (L2 := [some (.ref 0), some (.int (Int32.ofInt 1))]) rfl (by decide) rfl d_T_makes_18 ?_
    refine zw_aload_n (pc := 19) (n := 0) (x := 0) rfl d_T_makes_19 ?_
    refine zw_getF (pc := 20) f_T_10 rfl ((hf_N7_.w hW).ka (o := 0) (by decide)) ((hf_N7_.w hW).la (o := 0) (s := 0) (r := 1) (by decide)) d_T_makes_20 ?_
    refine zw_iconst (pc := 23) (v := Int32.ofInt 0) (by decide) d_T_makes_23 ?_
    refine zk_putA (pc := 24) (hf_N7_.w hW) (by decide) f_T_42 rfl rfl ((hf_N7_.w hW).ka (o := 1) (by decide)) ⟨by omega, by omega⟩ rfl rfl d_T_makes_24 (fun N11_ hsN11_ hvN11_ => ?_)
    have hf_N11_ : zFc d_ [(1, 1), (1, 2), (1, 3), (1, 4), (1, 5), (4, 1), (4, 2), (4, 3)] [] [(0, 7), (0, 8), (33, 2), (33, 3), (33, 4), (33, 5), (33, 6)] [25, 27, 35] Mz N11_ := hf_N7_.tr hsN11_ (by decide) (by decide) (by decide) (by decide)
    have rA1_1_N11_ := ze_r N11_ 1 1
    have eA1_2_N11_ : ze N11_ 1 2 = ze N7_ 1 2 := hsN11_.ea (hf_N7_.w hW) (by decide)
    have c12_ : zKm (gF T_).length (gmkI T_) d_ N11_ := zKm.fr (hf_N7_.w hW) hsN11_ c10_ (by decide)
    have c13_ : zSK (gF T_).length s_ d_ N11_ := zSKc.fr (hf_N7_.w hW) hsN11_ hsk1_ (by decide)
    have c14_ : zNm nm_ (gF T_).length (gmkI T_) d_ N11_ := zNm.fr (hf_N7_.w hW) hsN11_ hnm1_ (by decide)
    refine zw_iload_n (pc := 27) (n := 1) (x := Int32.ofInt 1) rfl d_T_makes_27 ?_
    refine zr_if_ne (pc := 28) (tgt := 33) ⟨(by decide), (by decide)⟩ (by decide) d_T_makes_28 (fun hc_28 => ?_) (fun hc_28 => ?_)
    · skip
      refine zw_aload_n (pc := 33) (n := 0) (x := 0) rfl d_T_makes_33 ?_
      refine zw_getF (pc := 34) f_T_28 rfl ((hf_N11_.w hW).ka (o := 0) (by decide)) (hf_N11_.now hnow) d_T_makes_34 ?_
      refine zw_bipush (pc := 37) (v := Int32.ofInt 21) (by decide) d_T_makes_37 ?_
      have hnmb_ := c14_
      refine zk_callV hf_N11_.x (pc := 39) [.int (Int32.ofInt 21)] [] l_T_284 (u_Troupe_becomeS l d_ N11_ (hf_N11_.w hW) 21 (by decide) (by decide) (gF T_).length (gmkI T_) hTA_ s_ c12_ c13_ (show ((1 ≤ 21 ∧ 21 ≤ 8) ∨ (21 ≤ 21 ∧ 21 ≤ 39)) by first | assumption | omega)) rfl rfl ((hf_N11_.w hW).kr (o := 0) (by decide)) (by decide) (by decide) (Nat.le_of_ble_eq_true rfl) d_T_makes_39 ?_
      rintro _ N15_ ⟨rfl, hsN15_, ⟨hp0_N15_, hp1_N15_⟩⟩
      have hf_N15_ : zFc d_ [(1, 1), (1, 2), (1, 3), (1, 4), (1, 5), (4, 1), (4, 2), (4, 3)] [] [(0, 7), (0, 8), (33, 2), (33, 3), (33, 4), (33, 5), (33, 6)] [25, 27, 35] Mz N15_ := hf_N11_.tr hsN15_ (by decide) (by decide) (by decide) (by decide)
      have eA1_1_N15_ : ze N15_ 1 1 = ze N11_ 1 1 := hsN15_.ea (hf_N11_.w hW) (by decide)
      have eA1_2_N15_ : ze N15_ 1 2 = ze N11_ 1 2 := hsN15_.ea (hf_N11_.w hW) (by decide)
      have c17_ : zKm (gF T_).length (gmkI T_) d_ N15_ := zKm.fr (hf_N11_.w hW) hsN15_ c12_ (by decide)
      show zW l m_T_makes (zn Mz + 0, zw Mz + 0) N15_ 42 [some (.ref 0), some (.int (Int32.ofInt 1))] [] (zqcI d_ [(1, 1), (1, 2), (1, 3), (1, 4), (1, 5), (4, 1), (4, 2), (4, 3)] [] [(0, 7), (0, 8), (33, 2), (33, 3), (33, 4), (33, 5), (33, 6)] [25, 27, 35] Mz (fun v N => ze N 1 1 = 0 ∧ ((((¬ ∃ w_ : Nat → Int, zMkR b_ n_ (gF T_).length (gmkI T_) nm_ w_) ∧ v = -1 ∧ zSK (gF T_).length s_ d_ N) ∨ ∃ w_ : Nat → Int, zMkR b_ n_ (gF T_).length (gmkI T_) nm_ w_ ∧ zfit (gF T_).length (gmkI T_) w_ ∧ v = ((znzc w_ (gF T_).length : Nat) : Int) ∧ zSK (gF T_).length (zpush s_ w_) d_ N)) ∧ zNm nm_ (gF T_).length (gmkI T_) d_ N))
      have hq21_ := zvc_f (F := (gF T_).length) hsN11_ (by decide) 21
      have hsk2_ := hp0_N15_
      rw [hq21_] at hsk2_
      have hnm2_ := zNm.md hsN15_ hp1_N15_ hF27_ hnmb_ (by decide)
      have hcv_ := hsk2_.v
      refine zw_aload_n (pc := 42) (n := 0) (x := 0) rfl d_T_makes_42 ?_
      refine zw_getF (pc := 43) f_T_28 rfl ((hf_N15_.w hW).ka (o := 0) (by decide)) (hf_N15_.now hnow) d_T_makes_43 ?_
      refine zw_getF (pc := 46) f_T_169 rfl ((hf_N15_.w hW).kr (o := 0) (by decide)) ((hf_N15_.w hW).lr (o := 0) (s := 2) (r := 23) (by decide)) d_T_makes_46 ?_
      refine zw_iconst (pc := 49) (v := Int32.ofInt 0) (by decide) d_T_makes_49 ?_
      refine zk_callV hf_N15_.x (pc := 50) [.int (Int32.ofInt 0)] [] l_T_253 (u_Sums_partsOfS l d_ N15_ (hf_N15_.w hW) 0 (by decide) (by decide) (gF T_).length (gmkI T_) hTA_ c17_ (show 0 ≤ 0 by first | assumption | omega) (show 0 ≤ 39 by first | assumption | omega)) rfl rfl ((hf_N15_.w hW).kr (o := 23) (by decide)) (by decide) (by decide) (Nat.le_of_ble_eq_true rfl) d_T_makes_50 ?_
      rintro _ N18_ ⟨v19_, rfl, ⟨hv19_a, hv19_b⟩, hsN18_, hp0_N18_⟩
      obtain rfl := hsN18_.eq.symm
      replace hp0_N18_ : v19_ = ((znzc (zvc (gF T_).length d_ N15_ 0) (gF T_).length : Nat) : Int) := hp0_N18_
      show zW l m_T_makes (zn Mz + 0, zw Mz + 0) N15_ 53 [some (.ref 0), some (.int (Int32.ofInt 1))] [.int (Int32.ofInt v19_)] (zqcI d_ [(1, 1), (1, 2), (1, 3), (1, 4), (1, 5), (4, 1), (4, 2), (4, 3)] [] [(0, 7), (0, 8), (33, 2), (33, 3), (33, 4), (33, 5), (33, 6)] [25, 27, 35] Mz (fun v N => ze N 1 1 = 0 ∧ ((((¬ ∃ w_ : Nat → Int, zMkR b_ n_ (gF T_).length (gmkI T_) nm_ w_) ∧ v = -1 ∧ zSK (gF T_).length s_ d_ N) ∨ ∃ w_ : Nat → Int, zMkR b_ n_ (gF T_).length (gmkI T_) nm_ w_ ∧ zfit (gF T_).length (gmkI T_) w_ ∧ v = ((znzc w_ (gF T_).length : Nat) : Int) ∧ zSK (gF T_).length (zpush s_ w_) d_ N)) ∧ zNm nm_ (gF T_).length (gmkI T_) d_ N))
      have hv_ := hp0_N18_
      have hw_ := hv_.trans (congrArg (fun n_ : Nat => (n_ : Int)) (znzc_c (gF T_).length hcv_))
      exact zk_iret (pc := 53) (ty := .int) rfl rfl ⟨by omega, by omega⟩ hf_N15_ ⟨(show ze N15_ 1 1 = 0 by first | assumption | omega), (show (((¬ ∃ w_ : Nat → Int, zMkR b_ n_ (gF T_).length (gmkI T_) nm_ w_) ∧ v19_ = -1 ∧ zSK (gF T_).length s_ d_ N15_) ∨ ∃ w_ : Nat → Int, zMkR b_ n_ (gF T_).length (gmkI T_) nm_ w_ ∧ zfit (gF T_).length (gmkI T_) w_ ∧ v19_ = ((znzc w_ (gF T_).length : Nat) : Int) ∧ zSK (gF T_).length (zpush s_ w_) d_ N15_) by exact Or.inr ⟨_, hmk_, hfi_, hw_, hsk2_⟩), hnm2_⟩ d_T_makes_53
    · skip
      exact absurd hc_28 (by decide)
  · skip
    have hlw_ := ha15_1_hp0_N7_
    have hz_ := ha15_0_hp0_N7_
    rw [hs0_] at hz_
    have hno_ : (¬ ∃ w_ : Nat → Int, zMkR b_ n_ (gF T_).length (gmkI T_) nm_ w_) := hz_
    have hsk1_ := zSK.fr hsN7_ hlw_ hF27_ hska_ (by decide)
    have hnm1_ := hnma_.l hsN7_ hlw_ hF27_ (by decide)
    show zW l m_T_makes (zn Mz + 0, zw Mz + 0) N7_ 18 [some (.ref 0), none] [.int (Int32.ofInt 0)] (zqcI d_ [(1, 1), (1, 2), (1, 3), (1, 4), (1, 5), (4, 1), (4, 2), (4, 3)] [] [(0, 7), (0, 8), (33, 2), (33, 3), (33, 4), (33, 5), (33, 6)] [25, 27, 35] Mz (fun v N => ze N 1 1 = 0 ∧ ((((¬ ∃ w_ : Nat → Int, zMkR b_ n_ (gF T_).length (gmkI T_) nm_ w_) ∧ v = -1 ∧ zSK (gF T_).length s_ d_ N) ∨ ∃ w_ : Nat → Int, zMkR b_ n_ (gF T_).length (gmkI T_) nm_ w_ ∧ zfit (gF T_).length (gmkI T_) w_ ∧ v = ((znzc w_ (gF T_).length : Nat) : Int) ∧ zSK (gF T_).length (zpush s_ w_) d_ N)) ∧ zNm nm_ (gF T_).length (gmkI T_) d_ N))
    refine zw_istore_n (pc := 18) (i := 1) (L2 := [some (.ref 0), some (.int (Int32.ofInt 0))]) rfl (by decide) rfl d_T_makes_18 ?_
    refine zw_aload_n (pc := 19) (n := 0) (x := 0) rfl d_T_makes_19 ?_
    refine zw_getF (pc := 20) f_T_10 rfl ((hf_N7_.w hW).ka (o := 0) (by decide)) ((hf_N7_.w hW).la (o := 0) (s := 0) (r := 1) (by decide)) d_T_makes_20 ?_
    refine zw_iconst (pc := 23) (v := Int32.ofInt 0) (by decide) d_T_makes_23 ?_
    refine zk_putA (pc := 24) (hf_N7_.w hW) (by decide) f_T_42 rfl rfl ((hf_N7_.w hW).ka (o := 1) (by decide)) ⟨by omega, by omega⟩ rfl rfl d_T_makes_24 (fun N20_ hsN20_ hvN20_ => ?_)
    have hf_N20_ : zFc d_ [(1, 1), (1, 2), (1, 3), (1, 4), (1, 5), (4, 1), (4, 2), (4, 3)] [] [(0, 7), (0, 8), (33, 2), (33, 3), (33, 4), (33, 5), (33, 6)] [25, 27, 35] Mz N20_ := hf_N7_.tr hsN20_ (by decide) (by decide) (by decide) (by decide)
    have rA1_1_N20_ := ze_r N20_ 1 1
    have eA1_2_N20_ : ze N20_ 1 2 = ze N7_ 1 2 := hsN20_.ea (hf_N7_.w hW) (by decide)
    have c21_ : zKm (gF T_).length (gmkI T_) d_ N20_ := zKm.fr (hf_N7_.w hW) hsN20_ c10_ (by decide)
    have c22_ : zSK (gF T_).length s_ d_ N20_ := zSKc.fr (hf_N7_.w hW) hsN20_ hsk1_ (by decide)
    have c23_ : zNm nm_ (gF T_).length (gmkI T_) d_ N20_ := zNm.fr (hf_N7_.w hW) hsN20_ hnm1_ (by decide)
    refine zw_iload_n (pc := 27) (n := 1) (x := Int32.ofInt 0) rfl d_T_makes_27 ?_
    refine zr_if_ne (pc := 28) (tgt := 33) ⟨(by decide), (by decide)⟩ (by decide) d_T_makes_28 (fun hc_28 => ?_) (fun hc_28 => ?_)
    · skip
      exact absurd hc_28 (by decide)
    · skip
      refine zw_iconst (pc := 31) (v := Int32.ofInt (-1)) (by decide) d_T_makes_31 ?_
      exact zk_iret (pc := 32) (ty := .int) rfl rfl ⟨by omega, by omega⟩ hf_N20_ ⟨(show ze N20_ 1 1 = 0 by first | assumption | omega), (show (((¬ ∃ w_ : Nat → Int, zMkR b_ n_ (gF T_).length (gmkI T_) nm_ w_) ∧ ((-1)) = -1 ∧ zSK (gF T_).length s_ d_ N20_) ∨ ∃ w_ : Nat → Int, zMkR b_ n_ (gF T_).length (gmkI T_) nm_ w_ ∧ zfit (gF T_).length (gmkI T_) w_ ∧ ((-1)) = ((znzc w_ (gF T_).length : Nat) : Int) ∧ zSK (gF T_).length (zpush s_ w_) d_ N20_) by exact Or.inl ⟨hno_, rfl, c22_⟩), c23_⟩ d_T_makes_32
