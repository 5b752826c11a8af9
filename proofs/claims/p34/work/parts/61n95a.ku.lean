set_option maxHeartbeats 4000000 in
theorem u_Units_forgetU (l : Launch) (d_ : Nat) (Mz : zMem) (hW : zKW d_ Mz) : zC l m_Units_forget 0 0 [.ref (d_ + 28)] Mz (zqcV d_ [] [] [(28, 4)] [] Mz (fun N => ze N (d_ + 28) 4 = 0)) := by
  refine zC_of (L0 := [some (.ref (d_ + 28))]) md_Units_forget (Nat.le_of_ble_eq_true rfl) rfl ?_ zQ0
  have hf : zFc d_ [] [] [(28, 4)] [] Mz Mz := zFc.rf
  have r_D28_4 := ze_r Mz (d_ + 28) 4
  refine zw_aload_n (pc := 0) (n := 0) (x := (d_ + 28)) rfl (zdal_p dlA_Units_forget_60 (i := 0) rfl) ?_
  refine zw_iconst (pc := 1) (v := Int32.ofInt 0) (by decide) (zdal_p dlA_Units_forget_60 (i := 1) rfl) ?_
  refine zk_putR (pc := 2) (o := 28) (by decide) f_Units_27 rfl rfl ((hf.w hW).kr (o := 28) (by decide)) ⟨by omega, by omega⟩ (z_narB (by omega)) (z_fitB (by omega)) (zdal_p dlA_Units_forget_60 (i := 2) rfl) (fun N1_ hsN1_ hvN1_ => ?_)
  have hf_N1_ : zFc d_ [] [] [(28, 4)] [] Mz N1_ := hf.tr hsN1_ (by decide) (by decide) (by decide) (by decide)
  have rD28_4_N1_ := ze_r N1_ (d_ + 28) 4
  exact zk_vret (pc := 5) rfl hf_N1_ (show ze N1_ (d_ + 28) 4 = 0 by first | with_reducible assumption | assumption | omega) (zdal_p dlA_Units_forget_60 (i := 3) rfl)
set_option maxHeartbeats 4000000 in
theorem u_Troupe_settleU (l : Launch) (d_ : Nat) (Mz : zMem) (hW : zKW d_ Mz) (P_ : Nat) (mv_ : List Nat) (hpm_ : ∀ g ∈ mv_, gpm g) (p0_ : zMvK mv_ P_ d_ Mz) (p1_ : zGg mv_ P_ d_ Mz) : zC l m_Troupe_settle 0 0 [.ref (d_ + 0)] Mz (zqcV d_ [] [] [(12, 6), (12, 7), (28, 4)] [5, 7, 9, 11, 14, 16, 20, 22, 25] Mz (fun N => (∃ T : zGT, T ∈ gTabs ∧ zTm mv_ T ∧ zKm (gF T).length (gmkI T) d_ N ∧ ze N (d_ + 1) 7 = gN T ∧ zTt T d_ N ∧ zGc mv_ P_ T d_ N ∧ zFir T d_ N ∧ zSbK T d_ N) ∧ ze N (d_ + 0) 6 = ze Mz (d_ + 0) 6 ∧ ze N (d_ + 28) 4 = 0)) := by
  refine zC_of (L0 := [some (.ref (d_ + 0))]) md_Troupe_settle (Nat.le_of_ble_eq_true rfl) rfl ?_ zQ0
  have hf : zFc d_ [] [] [(12, 6), (12, 7), (28, 4)] [5, 7, 9, 11, 14, 16, 20, 22, 25] Mz Mz := zFc.rf
  have r_D0_6 := ze_r Mz (d_ + 0) 6
  have r_D1_7 := ze_r Mz (d_ + 1) 7
  have r_D28_4 := ze_r Mz (d_ + 28) 4
  refine zw_aload_n (pc := 0) (n := 0) (x := (d_ + 0)) rfl (zdal_p dlA_Troupe_settle_27 (i := 0) rfl) ?_
  refine zw_getF (pc := 1) f_Troupe_12 rfl ((hf.w hW).kr (o := 0) (by decide)) ((hf.w hW).lr (o := 0) (s := 0) (r := 1) (by decide)) (zdal_p dlA_Troupe_settle_27 (i := 1) rfl) ?_
  refine zk_callV hf.x (pc := 4) [] [] l_Troupe_74 (u_Group_settleG l d_ Mz (hf.w hW) P_ mv_ hpm_ p0_ p1_) rfl rfl ((hf.w hW).kr (o := 1) (by decide)) (by decide) (by decide) (Nat.le_of_ble_eq_true rfl) (zdal_p dlA_Troupe_settle_27 (i := 2) rfl) ?_
  rintro _ N1_ ⟨rfl, hsN1_, hp0_N1_⟩
  replace hp0_N1_ : (∃ T : zGT, zTm mv_ T ∧ zTt T d_ N1_ ∧ zGc mv_ P_ T d_ N1_) := hp0_N1_
  have hf_N1_ : zFc d_ [] [] [(12, 6), (12, 7), (28, 4)] [5, 7, 9, 11, 14, 16, 20, 22, 25] Mz N1_ := hf.tr hsN1_ (by decide) (by decide) (by decide) (by decide)
  have eD0_6_N1_ : ze N1_ (d_ + 0) 6 = ze Mz (d_ + 0) 6 := hsN1_.e (by decide)
  have eD1_7_N1_ : ze N1_ (d_ + 1) 7 = ze Mz (d_ + 1) 7 := hsN1_.e (by decide)
  have eD28_4_N1_ : ze N1_ (d_ + 28) 4 = ze Mz (d_ + 28) 4 := hsN1_.e (by decide)
  have c3_ : zMvK mv_ P_ d_ N1_ := zMvK.fr (hf.w hW) hsN1_ p0_ (by decide)
  show zW l m_Troupe_settle (zn Mz + 0, zw Mz + 0) N1_ 7 [some (.ref (d_ + 0))] [] _
  obtain ⟨T_, hm_, htt_, hgc_⟩ := hp0_N1_
  have hT_ : T_ ∈ gTabs := by obtain ⟨c_, hc_⟩ := hm_; exact hc_.1
  obtain ⟨l_, Kp_, hol_⟩ := gTabs_ol T_ hT_
  refine zw_aload_n (pc := 7) (n := 0) (x := (d_ + 0)) rfl (zdal_p dlA_Troupe_settle_27 (i := 3) rfl) ?_
  refine zw_getF (pc := 8) f_Troupe_23 rfl ((hf_N1_.w hW).kr (o := 0) (by decide)) ((hf_N1_.w hW).lr (o := 0) (s := 1) (r := 12) (by decide)) (zdal_p dlA_Troupe_settle_27 (i := 4) rfl) ?_
  refine zk_callV hf_N1_.x (pc := 11) [] [] l_Troupe_77 (u_Sorts_settleG l d_ N1_ (hf_N1_.w hW) T_ hT_ l_ Kp_ hol_ (hm_.as hpm_) (hm_.gr hpm_) htt_) rfl rfl ((hf_N1_.w hW).kr (o := 12) (by decide)) (by decide) (by decide) (Nat.le_of_ble_eq_true rfl) (zdal_p dlA_Troupe_settle_27 (i := 5) rfl) ?_
  rintro _ N4_ ⟨rfl, hsN4_, ⟨hp0_N4_, hp1_N4_, hp2_N4_, hp3_N4_⟩⟩
  have hf_N4_ : zFc d_ [] [] [(12, 6), (12, 7), (28, 4)] [5, 7, 9, 11, 14, 16, 20, 22, 25] Mz N4_ := hf_N1_.tr hsN4_ (by decide) (by decide) (by decide) (by decide)
  have eD0_6_N4_ : ze N4_ (d_ + 0) 6 = ze N1_ (d_ + 0) 6 := hsN4_.e (by decide)
  have eD1_7_N4_ : ze N4_ (d_ + 1) 7 = ze N1_ (d_ + 1) 7 := hsN4_.e (by decide)
  have eD28_4_N4_ : ze N4_ (d_ + 28) 4 = ze N1_ (d_ + 28) 4 := hsN4_.e (by decide)
  have c6_ : zMvK mv_ P_ d_ N4_ := zMvK.fr (hf_N1_.w hW) hsN4_ c3_ (by decide)
  have c7_ : zTt T_ d_ N4_ := zTt.fr (hf_N1_.w hW) hsN4_ htt_ (by decide)
  have c8_ : zGc mv_ P_ T_ d_ N4_ := zGc.fr (hf_N1_.w hW) hsN4_ hgc_ (by decide)
  show zW l m_Troupe_settle (zn Mz + 0, zw Mz + 0) N4_ 14 [some (.ref (d_ + 0))] [] _
  have hkm_ := hp0_N4_
  have hfi_ := hp2_N4_
  have hsb_ := hp3_N4_
  refine zw_aload_n (pc := 14) (n := 0) (x := (d_ + 0)) rfl (zdal_p dlA_Troupe_settle_27 (i := 6) rfl) ?_
  refine zw_getF (pc := 15) f_Troupe_39 rfl ((hf_N4_.w hW).kr (o := 0) (by decide)) ((hf_N4_.w hW).lr (o := 0) (s := 3) (r := 28) (by decide)) (zdal_p dlA_Troupe_settle_27 (i := 7) rfl) ?_
  refine zk_callV hf_N4_.x (pc := 18) [] [] l_Troupe_78 (u_Units_forgetU l d_ N4_ (hf_N4_.w hW) ) rfl rfl ((hf_N4_.w hW).kr (o := 28) (by decide)) (by decide) (by decide) (Nat.le_of_ble_eq_true rfl) (zdal_p dlA_Troupe_settle_27 (i := 8) rfl) ?_
  rintro _ N9_ ⟨rfl, hsN9_, hp0_N9_⟩
  replace hp0_N9_ : ze N9_ (d_ + 28) 4 = 0 := hp0_N9_
  have hf_N9_ : zFc d_ [] [] [(12, 6), (12, 7), (28, 4)] [5, 7, 9, 11, 14, 16, 20, 22, 25] Mz N9_ := hf_N4_.tr hsN9_ (by decide) (by decide) (by decide) (by decide)
  have eD0_6_N9_ : ze N9_ (d_ + 0) 6 = ze N4_ (d_ + 0) 6 := hsN9_.e (by decide)
  have eD1_7_N9_ : ze N9_ (d_ + 1) 7 = ze N4_ (d_ + 1) 7 := hsN9_.e (by decide)
  have rD28_4_N9_ := ze_r N9_ (d_ + 28) 4
  have c11_ : zMvK mv_ P_ d_ N9_ := zMvK.fr (hf_N4_.w hW) hsN9_ c6_ (by decide)
  have c12_ : zTt T_ d_ N9_ := zTt.fr (hf_N4_.w hW) hsN9_ hp1_N4_ (by decide)
  have c13_ : zGc mv_ P_ T_ d_ N9_ := zGc.fr (hf_N4_.w hW) hsN9_ c8_ (by decide)
  have c14_ : zFir T_ d_ N9_ := zFir.fr (hf_N4_.w hW) hsN9_ hfi_ (by decide)
  have c15_ : zSbK T_ d_ N9_ := zSbK.fr (hf_N4_.w hW) hsN9_ hsb_ (by decide)
  have c16_ : zKm (gF T_).length (gmkI T_) d_ N9_ := zKm.fr (hf_N4_.w hW) hsN9_ hkm_ (by decide)
  show zW l m_Troupe_settle (zn Mz + 0, zw Mz + 0) N9_ 21 [some (.ref (d_ + 0))] [] _
  refine zw_aload_n (pc := 21) (n := 0) (x := (d_ + 0)) rfl (zdal_p dlA_Troupe_settle_27 (i := 9) rfl) ?_
  refine zw_getF (pc := 22) f_Troupe_32 rfl ((hf_N9_.w hW).kr (o := 0) (by decide)) ((hf_N9_.w hW).lr (o := 0) (s := 2) (r := 23) (by decide)) (zdal_p dlA_Troupe_settle_27 (i := 10) rfl) ?_
  refine zw_iconst (pc := 25) (v := Int32.ofInt 0) (by decide) (zdal_p dlA_Troupe_settle_27 (i := 11) rfl) ?_
  refine zw_iconst (pc := 26) (v := Int32.ofInt (-1)) (by decide) (zdal_p dlA_Troupe_settle_27 (i := 12) rfl) ?_
  refine zw_lconst (pc := 27) (v := Int64.ofInt 0) (by decide) (zdal_p dlA_Troupe_settle_27 (i := 13) rfl) ?_
  refine zk_callV hf_N9_.x (pc := 28) [.int (Int32.ofInt 0), .int (Int32.ofInt ((-1))), .long (Int64.ofInt 0)] [] l_Troupe_81 (u_Sums_putSingle l d_ N9_ (hf_N9_.w hW) 0 (by decide) (by decide) ((-1)) (by decide) (by decide) 0 (by decide) (by decide) (gF T_).length (gmkI T_) (gT_zTA hT_) c16_ (show 0 ≤ 0 by first | with_reducible assumption | assumption | omega) (show 0 ≤ 39 by first | with_reducible assumption | assumption | omega)) rfl rfl ((hf_N9_.w hW).kr (o := 23) (by decide)) (by decide) (by decide) (Nat.le_of_ble_eq_true rfl) (zdal_p dlA_Troupe_settle_27 (i := 14) rfl) ?_
  rintro _ N17_ ⟨rfl, hsN17_, hp0_N17_⟩
  replace hp0_N17_ : zSh (gF T_).length d_ N9_ N17_ 0 (zone ((-1)) 0) := hp0_N17_
  have hf_N17_ : zFc d_ [] [] [(12, 6), (12, 7), (28, 4)] [5, 7, 9, 11, 14, 16, 20, 22, 25] Mz N17_ := hf_N9_.tr hsN17_ (by decide) (by decide) (by decide) (by decide)
  have eD0_6_N17_ : ze N17_ (d_ + 0) 6 = ze N9_ (d_ + 0) 6 := hsN17_.e (by decide)
  have eD1_7_N17_ : ze N17_ (d_ + 1) 7 = ze N9_ (d_ + 1) 7 := hsN17_.e (by decide)
  have eD28_4_N17_ : ze N17_ (d_ + 28) 4 = ze N9_ (d_ + 28) 4 := hsN17_.e (by decide)
  have c19_ : zMvK mv_ P_ d_ N17_ := zMvK.fr (hf_N9_.w hW) hsN17_ c11_ (by decide)
  have c20_ : zTt T_ d_ N17_ := zTt.fr (hf_N9_.w hW) hsN17_ c12_ (by decide)
  have c21_ : zGc mv_ P_ T_ d_ N17_ := zGc.fr (hf_N9_.w hW) hsN17_ c13_ (by decide)
  have c22_ : zFir T_ d_ N17_ := zFir.fr (hf_N9_.w hW) hsN17_ c14_ (by decide)
  have c23_ : zSbK T_ d_ N17_ := zSbK.fr (hf_N9_.w hW) hsN17_ c15_ (by decide)
  have c24_ : zKm (gF T_).length (gmkI T_) d_ N17_ := zKm.fr (hf_N9_.w hW) hsN17_ c16_ (by decide)
  show zW l m_Troupe_settle (zn Mz + 0, zw Mz + 0) N17_ 31 [some (.ref (d_ + 0))] [] _
  exact zk_vret (pc := 31) rfl hf_N17_ ⟨(show (∃ T : zGT, T ∈ gTabs ∧ zTm mv_ T ∧ zKm (gF T).length (gmkI T) d_ N17_ ∧ ze N17_ (d_ + 1) 7 = gN T ∧ zTt T d_ N17_ ∧ zGc mv_ P_ T d_ N17_ ∧ zFir T d_ N17_ ∧ zSbK T d_ N17_) by exact ⟨T_, hT_, hm_, c24_, c20_.1, c20_, c21_, c22_, c23_⟩), (show ze N17_ (d_ + 0) 6 = ze Mz (d_ + 0) 6 by first | with_reducible assumption | assumption | omega), (show ze N17_ (d_ + 28) 4 = 0 by first | with_reducible assumption | assumption | omega)⟩ (zdal_p dlA_Troupe_settle_27 (i := 15) rfl)
