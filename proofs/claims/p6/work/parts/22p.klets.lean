set_option maxHeartbeats 4000000 in
theorem u_Troupe_addName (l : Launch) (d_ : Nat) (Mz : zMem) (hW : zKW d_ Mz) (a0_ : Int) (ha0_a : -2147483648 ≤ a0_) (ha0_b : a0_ < 2147483648) (F_ : Nat) (K_ : Nat → Nat → Int) (hA_ : zTA F_ K_) (nm_ : List (Int × (Nat → Int))) (p0_ : zKm F_ K_ d_ Mz) (p1_ : zNm nm_ F_ K_ d_ Mz) (p2_ : ze Mz (d_ + 0) 6 ≤ 7) (p3_ : zfit F_ K_ (zvc F_ d_ Mz 21)) : zC l m_Troupe_addName 0 0 [.ref (d_ + 0), .int (Int32.ofInt a0_)] Mz (zqcV d_ [] [] [(0, 6)] [25, 37] Mz (fun N => zNm (nm_ ++ [(a0_, zvc F_ d_ Mz 21)]) F_ K_ d_ N ∧ ze N (d_ + 0) 6 = ze Mz (d_ + 0) 6 + 1 ∧ zS0 d_ Mz N)) := by
  refine zC_of (L0 := [some (.ref (d_ + 0)), some (.int (Int32.ofInt a0_))]) md_Troupe_addName (Nat.le_of_ble_eq_true rfl) rfl ?_ zQ0
  have hf : zFc d_ [] [] [(0, 6)] [25, 37] Mz Mz := zFc.rf
  have r_D0_6 := ze_r Mz (d_ + 0) 6
  obtain ⟨⟨hF1_, hF27_⟩, hAr_⟩ := id hA_
  obtain ⟨w1_, w2_, w3_⟩ := id p1_
  have dv0 : zS0 d_ Mz Mz := zS0.rf
  refine zw_aload_n (pc := 0) (n := 0) (x := (d_ + 0)) rfl (zdal_p dlA_Troupe_addName_161 (i := 0) rfl) ?_
  refine zk_getI (pc := 1) f_Troupe_64 rfl ((hf.w hW).kr (o := 0) (by decide)) (zdal_p dlA_Troupe_addName_161 (i := 1) rfl) ?_
  refine zw_bipush (pc := 4) (v := Int32.ofInt 8) (by decide) (zdal_p dlA_Troupe_addName_161 (i := 2) rfl) ?_
  refine zr_icmp_ge (pc := 6) (tgt := 46) ⟨(ze_r Mz (d_ + 0) 6).1, (ze_r Mz (d_ + 0) 6).2⟩ ⟨(by decide), (by decide)⟩ (by decide) (zdal_p dlA_Troupe_addName_161 (i := 3) rfl) (fun hc_6 => ?_) (fun hc_6 => ?_)
  · skip
    exact zk_vret (pc := 46) rfl hf ⟨(show zNm (nm_ ++ [(a0_, zvc F_ d_ Mz 21)]) F_ K_ d_ Mz by first | exact hfin_ | (exfalso; (exact zo_2262 hc_6 p2_))), (show ze Mz (d_ + 0) 6 = ze Mz (d_ + 0) 6 + 1 by first | with_reducible assumption | assumption | omega), (show zS0 d_ Mz Mz by exact dv0)⟩ (zdal_p dlA_Troupe_addName_162 (i := 0) rfl)
  · skip
    refine zw_aload_n (pc := 9) (n := 0) (x := (d_ + 0)) rfl (zdal_p dlA_Troupe_addName_161 (i := 4) rfl) ?_
    refine zw_getF (pc := 10) f_Troupe_57 rfl ((hf.w hW).kr (o := 0) (by decide)) ((hf.w hW).lr (o := 0) (s := 5) (r := 36) (by decide)) (zdal_p dlA_Troupe_addName_161 (i := 5) rfl) ?_
    refine zw_aload_n (pc := 13) (n := 0) (x := (d_ + 0)) rfl (zdal_p dlA_Troupe_addName_161 (i := 6) rfl) ?_
    refine zk_getI (pc := 14) f_Troupe_64 rfl ((hf.w hW).kr (o := 0) (by decide)) (zdal_p dlA_Troupe_addName_161 (i := 7) rfl) ?_
    refine zw_iload_n (pc := 17) (n := 1) (x := Int32.ofInt a0_) rfl (zdal_p dlA_Troupe_addName_161 (i := 8) rfl) ?_
    refine zk_st hf.x (pc := 18) (o := 37) (by decide) l_Troupe_89 ((hf.w hW).kr (o := 36) (by decide)) ((hf.w hW).lr (o := 36) (s := 0) (r := 37) (by decide)) ((hf.w hW).rr (o := 37) (t := 1) (n := 8) (by decide)) (by decide) (by (exact zo_57 w1_.1)) (by (exact zo_2263 p2_ w1_.2)) (by decide) (Nat.le_of_ble_eq_true rfl) (zdal_p dlA_Troupe_addName_161 (i := 9) rfl) (fun N1_ hN1_ hsN1_ => ?_)
    have hf_N1_ : zFc d_ [] [] [(0, 6)] [25, 37] Mz N1_ := hf.tr hsN1_ (by decide) (by decide) (by decide) (by decide)
    have eD0_6_N1_ : ze N1_ (d_ + 0) 6 = ze Mz (d_ + 0) 6 := hsN1_.e (by decide)
    have c2_ : zKm F_ K_ d_ N1_ := zKm.fr (hf.w hW) hsN1_ p0_ (by decide)
    have c3_ : zS0 d_ Mz N1_ := zS0.fr (hf.w hW) hsN1_ dv0 (by decide)
    have hg_ := zs_get hN1_ ⟨by (exact ha0_a), by (exact ha0_b)⟩
    have ho_ := fun (i : Nat) (hi : (i : Int) < ze Mz (d_ + 0) 6) => zs_oth hN1_ (j := i) (by (exact zo_732 hi))
    refine zw_aload_n (pc := 21) (n := 0) (x := (d_ + 0)) rfl (zdal_p dlA_Troupe_addName_161 (i := 10) rfl) ?_
    refine zw_getF (pc := 22) f_Troupe_32 rfl ((hf_N1_.w hW).kr (o := 0) (by decide)) ((hf_N1_.w hW).lr (o := 0) (s := 2) (r := 23) (by decide)) (zdal_p dlA_Troupe_addName_161 (i := 11) rfl) ?_
    refine zw_bipush (pc := 25) (v := Int32.ofInt 21) (by decide) (zdal_p dlA_Troupe_addName_161 (i := 12) rfl) ?_
    refine zw_iconst (pc := 27) (v := Int32.ofInt 1) (by decide) (zdal_p dlA_Troupe_addName_161 (i := 13) rfl) ?_
    refine zw_aload_n (pc := 28) (n := 0) (x := (d_ + 0)) rfl (zdal_p dlA_Troupe_addName_161 (i := 14) rfl) ?_
    refine zk_getI (pc := 29) f_Troupe_64 rfl ((hf_N1_.w hW).kr (o := 0) (by decide)) (zdal_p dlA_Troupe_addName_161 (i := 15) rfl) ?_
    refine zr_iadd (pc := 32) (zdal_p dlA_Troupe_addName_161 (i := 16) rfl) ?_
    have hz0c_ := c3_
    refine zk_callV hf_N1_.x (pc := 33) [.int (Int32.ofInt 21), .int (Int32.ofInt (1 + (ze N1_ (d_ + 0) 6)))] [] l_Troupe_93 (u_Sums_copy l d_ N1_ (hf_N1_.w hW) 21 (by decide) (by decide) (1 + (ze N1_ (d_ + 0) 6)) (by (exact zo_2264 eD0_6_N1_ w1_.1)) (by (exact zo_2265 eD0_6_N1_ w1_.2)) F_ K_ hA_ c2_ (show 0 ≤ 21 by first | with_reducible assumption | (decide) | assumption) (show 21 ≤ 39 by first | with_reducible assumption | (decide) | assumption) (show 0 ≤ (1 + (ze N1_ (d_ + 0) 6)) by first | with_reducible assumption | (exact zo_2266 eD0_6_N1_ w1_.1) | assumption) (show (1 + (ze N1_ (d_ + 0) 6)) ≤ 39 by first | with_reducible assumption | (exact zo_2267 eD0_6_N1_ w1_.2) | assumption)) rfl rfl ((hf_N1_.w hW).kr (o := 23) (by decide)) (by decide) (by decide) (Nat.le_of_ble_eq_true rfl) (zdal_p dlA_Troupe_addName_161 (i := 17) rfl) ?_
    rintro _ N4_ ⟨rfl, hsN4_, hp0_N4_⟩
    replace hp0_N4_ : zSh F_ d_ N1_ N4_ (1 + (ze N1_ (d_ + 0) 6)) (zvc F_ d_ N1_ 21) := hp0_N4_
    have hf_N4_ : zFc d_ [] [] [(0, 6)] [25, 37] Mz N4_ := hf_N1_.tr hsN4_ (by decide) (by decide) (by decide) (by decide)
    have eD0_6_N4_ : ze N4_ (d_ + 0) 6 = ze N1_ (d_ + 0) 6 := hsN4_.e (by decide)
    have c6_ : zKm F_ K_ d_ N4_ := zKm.fr (hf_N1_.w hW) hsN4_ c2_ (by decide)
    show zW l m_Troupe_addName (zn Mz + 0, zw Mz + 0) N4_ 36 [some (.ref (d_ + 0)), some (.int (Int32.ofInt a0_))] [] _
    have hc_ := hp0_N4_
    rw [zvc_f (F := F_) hsN1_ (by decide) 21] at hc_
    have hcv_ := (zSh_n (F := F_) (by (exact zo_2266 eD0_6_N1_ w1_.1)) hc_).trans (zvc_i _)
    have hco_ := fun (k : Nat) (hk : (k : Int) < ze Mz (d_ + 0) 6) => (zSh_o (t := 1 + k) hF27_ (by (exact zo_2266 eD0_6_N1_ w1_.1)) (by (exact zo_2268)) (by (exact zo_2269 eD0_6_N1_ hk)) hc_).trans (zvc_f hsN1_ (by decide) _)
    have hg2_ := (hsN4_.r (by decide) _).trans hg_
    have ho2_ := fun (i : Nat) (hi : (i : Int) < ze Mz (d_ + 0) 6) => (hsN4_.r (by decide) i).trans (ho_ i hi)
    have hz0d_ := hz0c_.tr (zS0.sh hp0_N4_ (by omega))
    refine zw_aload_n (pc := 36) (n := 0) (x := (d_ + 0)) rfl (zdal_p dlA_Troupe_addName_161 (i := 18) rfl) ?_
    refine zw_dup (pc := 37) rfl (zdal_p dlA_Troupe_addName_161 (i := 19) rfl) ?_
    refine zk_getI (pc := 38) f_Troupe_64 rfl ((hf_N4_.w hW).kr (o := 0) (by decide)) (zdal_p dlA_Troupe_addName_161 (i := 20) rfl) ?_
    refine zw_iconst (pc := 41) (v := Int32.ofInt 1) (by decide) (zdal_p dlA_Troupe_addName_161 (i := 21) rfl) ?_
    refine zr_iadd (pc := 42) (zdal_p dlA_Troupe_addName_161 (i := 22) rfl) ?_
    refine zk_putR (pc := 43) (o := 0) (by decide) f_Troupe_64 rfl rfl ((hf_N4_.w hW).kr (o := 0) (by decide)) ⟨by (exact zo_743 eD0_6_N1_ eD0_6_N4_ w1_.1), by (exact zo_2270 eD0_6_N1_ eD0_6_N4_ w1_.2)⟩ rfl rfl (zdal_p dlA_Troupe_addName_161 (i := 23) rfl) (fun N7_ hsN7_ hvN7_ => ?_)
    have hf_N7_ : zFc d_ [] [] [(0, 6)] [25, 37] Mz N7_ := hf_N4_.tr hsN7_ (by decide) (by decide) (by decide) (by decide)
    have rD0_6_N7_ := ze_r N7_ (d_ + 0) 6
    have c8_ : zKm F_ K_ d_ N7_ := zKm.fr (hf_N4_.w hW) hsN7_ c6_ (by decide)
    have c9_ : zS0 d_ Mz N7_ := zS0.fr (hf_N4_.w hW) hsN7_ hz0d_ (by decide)
    have hfin_ := p1_.u (Nz := N7_) (w := a0_) (by (exact zo_2271 eD0_6_N1_ eD0_6_N4_ hvN7_ p2_ rD0_6_N7_.1 rD0_6_N7_.2 w1_.1)) (by (exact p2_)) ((hsN7_.r (by decide) _).trans hg2_) (fun k hk => (hsN7_.r (by decide) k).trans (ho2_ k hk)) ((zvc_f hsN7_ (by decide) _).trans (by rw [show (1 : Int) + ze Mz (d_ + 0) 6 = 1 + ze N1_ (d_ + 0) 6 by (exact zo_2272 eD0_6_N1_)]; exact hcv_)) (fun k hk => (zvc_f hsN7_ (by decide) _).trans (hco_ k hk)) p3_
    exact zk_vret (pc := 46) rfl hf_N7_ ⟨(show zNm (nm_ ++ [(a0_, zvc F_ d_ Mz 21)]) F_ K_ d_ N7_ by first | exact hfin_ | (exfalso; omega)), (show ze N7_ (d_ + 0) 6 = ze Mz (d_ + 0) 6 + 1 by first | with_reducible assumption | (exact zo_2271 eD0_6_N1_ eD0_6_N4_ hvN7_ p2_ rD0_6_N7_.1 rD0_6_N7_.2 w1_.1) | assumption), (show zS0 d_ Mz N7_ by exact c9_)⟩ (zdal_p dlA_Troupe_addName_162 (i := 0) rfl)
set_option maxHeartbeats 4000000 in
theorem u_Reader_readLets (l : Launch) (d_ : Nat) (Mz : zMem) (hW : zKW d_ Mz) (b_ : Nat → Int) (n_ : Nat) (F_ : Nat) (K_ : Nat → Nat → Int) (hA_ : zTA F_ K_) (nm0_ : List (Int × (Nat → Int))) (p0_ : zYb b_ n_ Mz) (p1_ : zYt b_ n_ Mz) (p2_ : zKm F_ K_ d_ Mz) (p3_ : zNm nm0_ F_ K_ d_ Mz) : zC l m_Reader_readLets 0 0 [.ref 4, .ref (d_ + 0)] Mz (zqcI d_ [(1, 2), (1, 3), (1, 4), (1, 5), (4, 1), (4, 2), (4, 3)] [] [(0, 6), (33, 2), (33, 3), (33, 4), (33, 5), (33, 6)] [25, 27, 35, 37] Mz (fun v N => (((v = 1 ∧ (∃ q nm, zRg (zls b_ n_ F_ K_) (0, (ze Mz 1 2).toNat, nm0_) (1, q, nm) ∧ zNm nm F_ K_ d_ N) ∧ zS0 d_ Mz N) ∨ (v = 0 ∧ zRg (zls b_ n_ F_ K_) (0, (ze Mz 1 2).toNat, nm0_) zLf))))) := by
  refine zC_of (L0 := [some (.ref 4), some (.ref (d_ + 0)), none, none, none]) md_Reader_readLets (Nat.le_of_ble_eq_true rfl) rfl ?_ zQ0
  have hf : zFc d_ [(1, 2), (1, 3), (1, 4), (1, 5), (4, 1), (4, 2), (4, 3)] [] [(0, 6), (33, 2), (33, 3), (33, 4), (33, 5), (33, 6)] [25, 27, 35, 37] Mz Mz := zFc.rf
  have r_A1_2 := ze_r Mz 1 2
  have r_A1_3 := ze_r Mz 1 3
  have r_A1_4 := ze_r Mz 1 4
  have r_A1_5 := ze_r Mz 1 5
  have r_D0_6 := ze_r Mz (d_ + 0) 6
  have r_D33_2 := ze_r Mz (d_ + 33) 2
  have r_D33_3 := ze_r Mz (d_ + 33) 3
  have r_D33_4 := ze_r Mz (d_ + 33) 4
  have r_D33_5 := ze_r Mz (d_ + 33) 5
  have r_D33_6 := ze_r Mz (d_ + 33) 6
  obtain ⟨⟨hF1_, hF27_⟩, hAr_⟩ := id hA_
  obtain ⟨y1_, y2_, y3_⟩ := id p3_
  have dv0 : zS0 d_ Mz Mz := zS0.rf
  refine zw_iconst (pc := 0) (v := Int32.ofInt 0) (by decide) (zdal_p dlA_Reader_readLets_103 (i := 0) rfl) ?_
  refine zw_istore_n (pc := 1) (i := 2) (L2 := [some (.ref 4), some (.ref (d_ + 0)), some (.int (Int32.ofInt 0)), none, none]) rfl (by decide) rfl (zdal_p dlA_Reader_readLets_103 (i := 1) rfl) ?_
  have lp_2 : ∀ (n : Nat) (u1_ : Int) (hu1_a : -2147483648 ≤ u1_) (hu1_b : u1_ < 2147483648) (N2_ : zMem) (hs3_ : zFc d_ [(1, 2), (1, 3), (1, 4), (1, 5), (4, 1), (4, 2), (4, 3)] [] [(0, 6), (33, 2), (33, 3), (33, 4), (33, 5), (33, 6)] [25, 27, 35, 37] Mz N2_) (i4_ : 0 ≤ u1_) (i5_ : u1_ ≤ ze N2_ (d_ + 0) 6) (i6_ : zYt b_ n_ N2_) (i7_ : ∃ nm, zNm nm F_ K_ d_ N2_ ∧ zRg (zls b_ n_ F_ K_) (0, (ze Mz 1 2).toNat, nm0_) (0, (ze N2_ 1 2).toNat, nm)) (i8_ : zS0 d_ Mz N2_), (9 - u1_).toNat < n → zW l m_Reader_readLets (zn Mz + 0, zw Mz + 0) N2_ 2 [some (.ref 4), some (.ref (d_ + 0)), some (.int (Int32.ofInt u1_)), none, none] [] (zqcI d_ [(1, 2), (1, 3), (1, 4), (1, 5), (4, 1), (4, 2), (4, 3)] [] [(0, 6), (33, 2), (33, 3), (33, 4), (33, 5), (33, 6)] [25, 27, 35, 37] Mz (fun v N => (((v = 1 ∧ (∃ q nm, zRg (zls b_ n_ F_ K_) (0, (ze Mz 1 2).toNat, nm0_) (1, q, nm) ∧ zNm nm F_ K_ d_ N) ∧ zS0 d_ Mz N) ∨ (v = 0 ∧ zRg (zls b_ n_ F_ K_) (0, (ze Mz 1 2).toNat, nm0_) zLf))))) := by
    intro n
    induction n with
    | zero =>
      intro u1_ hu1_a hu1_b N2_ hs3_ i4_ i5_ i6_ i7_ i8_ h0
      exact absurd h0 (Nat.not_lt_zero _)
    | succ n ih_2 =>
      intro u1_ hu1_a hu1_b N2_ hs3_ i4_ i5_ i6_ i7_ i8_ hlt_2
      have hf_N2_ : zFc d_ [(1, 2), (1, 3), (1, 4), (1, 5), (4, 1), (4, 2), (4, 3)] [] [(0, 6), (33, 2), (33, 3), (33, 4), (33, 5), (33, 6)] [25, 27, 35, 37] Mz N2_ := hf.tr hs3_ (by decide) (by decide) (by decide) (by decide)
      have rA1_2_N2_ := ze_r N2_ 1 2
      have rA1_3_N2_ := ze_r N2_ 1 3
      have rA1_4_N2_ := ze_r N2_ 1 4
      have rA1_5_N2_ := ze_r N2_ 1 5
      have rD0_6_N2_ := ze_r N2_ (d_ + 0) 6
      have rD33_2_N2_ := ze_r N2_ (d_ + 33) 2
      have rD33_3_N2_ := ze_r N2_ (d_ + 33) 3
      have rD33_4_N2_ := ze_r N2_ (d_ + 33) 4
      have rD33_5_N2_ := ze_r N2_ (d_ + 33) 5
      have rD33_6_N2_ := ze_r N2_ (d_ + 33) 6
      have c9_ : zYb b_ n_ N2_ := zYb.fr (hf.w hW) hs3_ p0_ (by decide)
      have c10_ : zKm F_ K_ d_ N2_ := zKm.fr (hf.w hW) hs3_ p2_ (by decide)
      obtain ⟨nm_, hnm_, hre_⟩ := (show ∃ nm, zNm nm F_ K_ d_ N2_ ∧ zRg (zls b_ n_ F_ K_) (0, (ze Mz 1 2).toNat, nm0_) (0, (ze N2_ 1 2).toNat, nm) by first | with_reducible assumption | assumption)
      have hlen_ := hnm_.len
      obtain ⟨w1_, w2_, w3_⟩ := id hnm_
      refine zw_iload_n (pc := 2) (n := 2) (x := Int32.ofInt u1_) rfl (zdal_p dlA_Reader_readLets_103 (i := 2) rfl) ?_
      refine zw_bipush (pc := 3) (v := Int32.ofInt 8) (by decide) (zdal_p dlA_Reader_readLets_103 (i := 3) rfl) ?_
      refine zr_icmp_gt (pc := 5) (tgt := 156) ⟨hu1_a, hu1_b⟩ ⟨(by decide), (by decide)⟩ (by decide) (zdal_p dlA_Reader_readLets_103 (i := 4) rfl) (fun hc_5 => ?_) (fun hc_5 => ?_)
      · skip
        first | (have ht4_ : ze N2_ 1 4 = zkd b_ n_ (ze N2_ 1 2).toNat := i6_.2.2.1) | skip
        refine zw_aload_n (pc := 156) (n := 0) (x := 4) rfl (zdal_p dlA_Reader_readLets_106 (i := 5) rfl) ?_
        refine zw_getF (pc := 157) f_Reader_15 rfl ((hf_N2_.w hW).ka (o := 4) (by decide)) ((hf_N2_.w hW).la (o := 4) (s := 0) (r := 1) (by decide)) (zdal_p dlA_Reader_readLets_106 (i := 6) rfl) ?_
        refine zk_getI (pc := 160) f_Reader_27 rfl ((hf_N2_.w hW).ka (o := 1) (by decide)) (zdal_p dlA_Reader_readLets_106 (i := 7) rfl) ?_
        refine zr_if_eq (pc := 163) (tgt := 174) ⟨(ze_r N2_ 1 4).1, (ze_r N2_ 1 4).2⟩ (by decide) (zdal_p dlA_Reader_readLets_106 (i := 8) rfl) (fun hc_163 => ?_) (fun hc_163 => ?_)
        · skip
          refine zw_iconst (pc := 174) (v := Int32.ofInt 1) (by decide) (zdal_p dlA_Reader_readLets_106 (i := 13) rfl) ?_
          refine zw_goto (pc := 175) (tgt := 179) (by decide) (zdal_p dlA_Reader_readLets_106 (i := 14) rfl) ?_
          exact zk_iret (pc := 179) (ty := .boolean) rfl (z_narB (by (decide))) ⟨by (decide), by (decide)⟩ hf_N2_ (show ((1 = 1 ∧ (∃ q nm, zRg (zls b_ n_ F_ K_) (0, (ze Mz 1 2).toNat, nm0_) (1, q, nm) ∧ zNm nm F_ K_ d_ N2_) ∧ zS0 d_ Mz N2_) ∨ (1 = 0 ∧ zRg (zls b_ n_ F_ K_) (0, (ze Mz 1 2).toNat, nm0_) zLf)) from Or.inl (⟨(show 1 = 1 by first | rfl | exact ⟨_, _, hre_.tr (zRg.st (zls_e hl1_ (by omega))), hnm_⟩ | exact i8_ | (exfalso; omega)), (show (∃ q nm, zRg (zls b_ n_ F_ K_) (0, (ze Mz 1 2).toNat, nm0_) (1, q, nm) ∧ zNm nm F_ K_ d_ N2_) by first | rfl | exact ⟨_, _, hre_.tr (zRg.st (zls_e hl1_ (by omega))), hnm_⟩ | exact i8_ | (exfalso; (exact zo_2273 hc_5 i5_ w1_.2))), (show zS0 d_ Mz N2_ by first | rfl | exact ⟨_, _, hre_.tr (zRg.st (zls_e hl1_ (by omega))), hnm_⟩ | exact i8_ | (exfalso; omega))⟩)) (zdal_p dlA_Reader_readLets_106 (i := 16) rfl)
        · skip
          refine zw_aload_n (pc := 166) (n := 0) (x := 4) rfl (zdal_p dlA_Reader_readLets_106 (i := 9) rfl) ?_
          refine zw_iconst (pc := 167) (v := Int32.ofInt 2) (by decide) (zdal_p dlA_Reader_readLets_106 (i := 10) rfl) ?_
          refine zk_callV hf_N2_.x (pc := 168) [.int (Int32.ofInt 2)] [] l_Reader_41 (u_Reader_refuse l d_ N2_ (hf_N2_.w hW) 2 (by decide) (by decide)) rfl rfl ((hf_N2_.w hW).ka (o := 4) (by decide)) (by decide) (by decide) (Nat.le_of_ble_eq_true rfl) (zdal_p dlA_Reader_readLets_106 (i := 11) rfl) ?_
          rintro _ N11_ ⟨v12_, rfl, ⟨hv12_a, hv12_b⟩, hsN11_, hp0_N11_⟩
          replace hp0_N11_ : ((v12_ = 0)) := hp0_N11_
          have hf_N11_ : zFc d_ [(1, 2), (1, 3), (1, 4), (1, 5), (4, 1), (4, 2), (4, 3)] [] [(0, 6), (33, 2), (33, 3), (33, 4), (33, 5), (33, 6)] [25, 27, 35, 37] Mz N11_ := hf_N2_.tr hsN11_ (by decide) (by decide) (by decide) (by decide)
          have eA1_2_N11_ : ze N11_ 1 2 = ze N2_ 1 2 := hsN11_.ea (hf_N2_.w hW) (by decide)
          have eA1_3_N11_ : ze N11_ 1 3 = ze N2_ 1 3 := hsN11_.ea (hf_N2_.w hW) (by decide)
          have eA1_4_N11_ : ze N11_ 1 4 = ze N2_ 1 4 := hsN11_.ea (hf_N2_.w hW) (by decide)
          have eA1_5_N11_ : ze N11_ 1 5 = ze N2_ 1 5 := hsN11_.ea (hf_N2_.w hW) (by decide)
          have eD0_6_N11_ : ze N11_ (d_ + 0) 6 = ze N2_ (d_ + 0) 6 := hsN11_.e (by decide)
          have eD33_2_N11_ : ze N11_ (d_ + 33) 2 = ze N2_ (d_ + 33) 2 := hsN11_.e (by decide)
          have eD33_3_N11_ : ze N11_ (d_ + 33) 3 = ze N2_ (d_ + 33) 3 := hsN11_.e (by decide)
          have eD33_4_N11_ : ze N11_ (d_ + 33) 4 = ze N2_ (d_ + 33) 4 := hsN11_.e (by decide)
          have eD33_5_N11_ : ze N11_ (d_ + 33) 5 = ze N2_ (d_ + 33) 5 := hsN11_.e (by decide)
          have eD33_6_N11_ : ze N11_ (d_ + 33) 6 = ze N2_ (d_ + 33) 6 := hsN11_.e (by decide)
          have qzkS_N11_ : zkS d_ N11_ = zkS d_ N2_ := zkS_q hsN11_ (by decide)
          have qzkG_N11_ : zkG d_ N11_ = zkG d_ N2_ := zkG_q hsN11_ (by decide)
          have qzkW_N11_ : zkW F_ d_ N11_ = zkW F_ d_ N2_ := zkW_q hsN11_ (by decide)
          have c13_ : zYb b_ n_ N11_ := zYb.fr (hf_N2_.w hW) hsN11_ c9_ (by decide)
          have c14_ : zKm F_ K_ d_ N11_ := zKm.fr (hf_N2_.w hW) hsN11_ c10_ (by decide)
          have c15_ : zYt b_ n_ N11_ := zYt.fr (hf_N2_.w hW) hsN11_ i6_ (by decide)
          have c16_ : zS0 d_ Mz N11_ := zS0.fr (hf_N2_.w hW) hsN11_ i8_ (by decide)
          have c17_ : zNm nm_ F_ K_ d_ N11_ := zNm.fr (hf_N2_.w hW) hsN11_ hnm_ (by decide)
          rcases hp0_N11_ with rfl
          · skip
            show zW l m_Reader_readLets (zn Mz + 0, zw Mz + 0) N11_ 171 [some (.ref 4), some (.ref (d_ + 0)), some (.int (Int32.ofInt u1_)), none, none] [.int (Int32.ofInt 0)] _
            refine zr_if_eq (pc := 171) (tgt := 178) ⟨(by decide), (by decide)⟩ (by decide) (zdal_p dlA_Reader_readLets_106 (i := 12) rfl) (fun hc_171 => ?_) (fun hc_171 => ?_)
            · skip
              refine zw_iconst (pc := 178) (v := Int32.ofInt 0) (by decide) (zdal_p dlA_Reader_readLets_106 (i := 15) rfl) ?_
              exact zk_iret (pc := 179) (ty := .boolean) rfl (z_narB (by (decide))) ⟨by (exact hv12_a), by (exact hv12_b)⟩ hf_N11_ (show ((0 = 1 ∧ (∃ q nm, zRg (zls b_ n_ F_ K_) (0, (ze Mz 1 2).toNat, nm0_) (1, q, nm) ∧ zNm nm F_ K_ d_ N11_) ∧ zS0 d_ Mz N11_) ∨ (0 = 0 ∧ zRg (zls b_ n_ F_ K_) (0, (ze Mz 1 2).toNat, nm0_) zLf)) from Or.inr (⟨(show 0 = 0 by first | rfl | exact hrt_ | exact hre_.tr (zRg.st (zls_f (F := F_) (K := K_) hl0_ (fun q_ => by have := q_.1; omega))) | exact hre_.tr (zRg.st (zls_ef (F := F_) (K := K_) hl1_ (by omega))) | exact hre_.tr (zRg.st (hsm_.trans (by rcases j3_ with ⟨g_, e_⟩ | ⟨g_, e_⟩; exfalso; omega; rw [e_]; exact zle_b))) | (exfalso; omega)), (show zRg (zls b_ n_ F_ K_) (0, (ze Mz 1 2).toNat, nm0_) zLf by first | rfl | exact hrt_ | exact hre_.tr (zRg.st (zls_f (F := F_) (K := K_) hl0_ (fun q_ => by have := q_.1; omega))) | exact hre_.tr (zRg.st (zls_ef (F := F_) (K := K_) hl1_ (by omega))) | exact hre_.tr (zRg.st (hsm_.trans (by rcases j3_ with ⟨g_, e_⟩ | ⟨g_, e_⟩; exfalso; omega; rw [e_]; exact zle_b))) | (exfalso; (exact zo_2273 hc_5 i5_ w1_.2)))⟩)) (zdal_p dlA_Reader_readLets_106 (i := 16) rfl)
            · skip
              exact absurd hc_171 (by decide)
      · skip
        refine zw_aload_n (pc := 8) (n := 0) (x := 4) rfl (zdal_p dlA_Reader_readLets_103 (i := 5) rfl) ?_
        refine zw_getF (pc := 9) f_Reader_15 rfl ((hf_N2_.w hW).ka (o := 4) (by decide)) ((hf_N2_.w hW).la (o := 4) (s := 0) (r := 1) (by decide)) (zdal_p dlA_Reader_readLets_103 (i := 6) rfl) ?_
        refine zw_ldcs (pc := 12) (i := 2) (List.mem_of_getElem? (i := 2) rfl) (zdal_p dlA_Reader_readLets_103 (i := 7) rfl) ?_
        refine zk_callV hf_N2_.x (pc := 14) [.ref (zK 2)] [] l_Reader_49 (u_Tokens_isWord l d_ N2_ (hf_N2_.w hW) 2 (by decide) b_ n_ c9_ i6_) rfl rfl ((hf_N2_.w hW).ka (o := 1) (by decide)) (by decide) (by decide) (Nat.le_of_ble_eq_true rfl) (zdal_p dlA_Reader_readLets_103 (i := 8) rfl) ?_
        rintro _ N18_ ⟨v19_, rfl, ⟨hv19_a, hv19_b⟩, hsN18_, hp0_N18_⟩
        obtain rfl := hsN18_.eq.symm
        replace hp0_N18_ : ((v19_ = 1 ∧ zkd b_ n_ (ze N2_ 1 2).toNat = 1 ∧ zkey b_ n_ (ze N2_ 1 2).toNat = zkw 2) ∨ (v19_ = 0 ∧ ¬ (zkd b_ n_ (ze N2_ 1 2).toNat = 1 ∧ zkey b_ n_ (ze N2_ 1 2).toNat = zkw 2))) := hp0_N18_
        rcases hp0_N18_ with ⟨rfl, ha14_0_hp0_N18_, ha14_1_hp0_N18_⟩ | ⟨rfl, ha14_0_hp0_N18_⟩
        · skip
          have hl0_ : zkd b_ n_ (ze N2_ 1 2).toNat = 1 ∧ zkey b_ n_ (ze N2_ 1 2).toNat = zkw 2 := ⟨ha14_0_hp0_N18_, ha14_1_hp0_N18_⟩
          show zW l m_Reader_readLets (zn Mz + 0, zw Mz + 0) N2_ 17 [some (.ref 4), some (.ref (d_ + 0)), some (.int (Int32.ofInt u1_)), none, none] [.int (Int32.ofInt 1)] _
          refine zr_if_eq (pc := 17) (tgt := 156) ⟨(by decide), (by decide)⟩ (by decide) (zdal_p dlA_Reader_readLets_103 (i := 9) rfl) (fun hc_17 => ?_) (fun hc_17 => ?_)
          · skip
            exact absurd hc_17 (by decide)
          · skip
            refine zw_aload_n (pc := 20) (n := 0) (x := 4) rfl (zdal_p dlA_Reader_readLets_103 (i := 10) rfl) ?_
            refine zw_getF (pc := 21) f_Reader_15 rfl ((hf_N2_.w hW).ka (o := 4) (by decide)) ((hf_N2_.w hW).la (o := 4) (s := 0) (r := 1) (by decide)) (zdal_p dlA_Reader_readLets_103 (i := 11) rfl) ?_
            refine zk_getI (pc := 24) f_Reader_30 rfl ((hf_N2_.w hW).ka (o := 1) (by decide)) (zdal_p dlA_Reader_readLets_103 (i := 12) rfl) ?_
            refine zw_istore_n (pc := 27) (i := 3) (L2 := [some (.ref 4), some (.ref (d_ + 0)), some (.int (Int32.ofInt u1_)), some (.int (Int32.ofInt (ze N2_ 1 2))), none]) rfl (by decide) rfl (zdal_p dlA_Reader_readLets_103 (i := 13) rfl) ?_
            refine zw_aload_n (pc := 28) (n := 1) (x := (d_ + 0)) rfl (zdal_p dlA_Reader_readLets_103 (i := 14) rfl) ?_
            refine zk_getI (pc := 29) f_Reader_98 rfl ((hf_N2_.w hW).kr (o := 0) (by decide)) (zdal_p dlA_Reader_readLets_103 (i := 15) rfl) ?_
            refine zw_bipush (pc := 32) (v := Int32.ofInt 8) (by decide) (zdal_p dlA_Reader_readLets_103 (i := 16) rfl) ?_
            refine zr_icmp_lt (pc := 34) (tgt := 43) ⟨(ze_r N2_ (d_ + 0) 6).1, (ze_r N2_ (d_ + 0) 6).2⟩ ⟨(by decide), (by decide)⟩ (by decide) (zdal_p dlA_Reader_readLets_103 (i := 17) rfl) (fun hc_34 => ?_) (fun hc_34 => ?_)
            · skip
              have hyt_ := i6_
              have hyx_ := hyt_.x
              refine zw_aload_n (pc := 43) (n := 0) (x := 4) rfl (zdal_p dlA_Reader_readLets_103 (i := 22) rfl) ?_
              refine zw_getF (pc := 44) f_Reader_15 rfl ((hf_N2_.w hW).ka (o := 4) (by decide)) ((hf_N2_.w hW).la (o := 4) (s := 0) (r := 1) (by decide)) (zdal_p dlA_Reader_readLets_103 (i := 23) rfl) ?_
              refine zk_callV hf_N2_.x (pc := 47) [] [] l_Reader_44 (u_Tokens_step l d_ N2_ (hf_N2_.w hW) b_ n_ c9_ (show 0 ≤ ze N2_ 1 3 by first | with_reducible assumption | (exact zo_57 hyx_.2.1) | assumption) (show ze N2_ 1 3 ≤ n_ by first | with_reducible assumption | (exact zo_277 hyx_.2.2 rA1_3_N2_.2) | assumption)) rfl rfl ((hf_N2_.w hW).ka (o := 1) (by decide)) (by decide) (by decide) (Nat.le_of_ble_eq_true rfl) (zdal_p dlA_Reader_readLets_104 (i := 0) rfl) ?_
              rintro _ N20_ ⟨rfl, hsN20_, ⟨hp0_N20_, hp1_N20_⟩⟩
              have hf_N20_ : zFc d_ [(1, 2), (1, 3), (1, 4), (1, 5), (4, 1), (4, 2), (4, 3)] [] [(0, 6), (33, 2), (33, 3), (33, 4), (33, 5), (33, 6)] [25, 27, 35, 37] Mz N20_ := hf_N2_.tr hsN20_ (by decide) (by decide) (by decide) (by decide)
              have hb0_N20_ : zFc d_ [(1, 2), (1, 3), (1, 4), (1, 5), (4, 1), (4, 2), (4, 3)] [] [(0, 6), (33, 2), (33, 3), (33, 4), (33, 5), (33, 6)] [25, 27, 35, 37] Mz N20_ := hs3_.tr hsN20_ (by decide) (by decide) (by decide) (by decide)
              have rA1_2_N20_ := ze_r N20_ 1 2
              have rA1_3_N20_ := ze_r N20_ 1 3
              have rA1_4_N20_ := ze_r N20_ 1 4
              have rA1_5_N20_ := ze_r N20_ 1 5
              have eD0_6_N20_ : ze N20_ (d_ + 0) 6 = ze N2_ (d_ + 0) 6 := hsN20_.e (by decide)
              have eD33_2_N20_ : ze N20_ (d_ + 33) 2 = ze N2_ (d_ + 33) 2 := hsN20_.e (by decide)
              have eD33_3_N20_ : ze N20_ (d_ + 33) 3 = ze N2_ (d_ + 33) 3 := hsN20_.e (by decide)
              have eD33_4_N20_ : ze N20_ (d_ + 33) 4 = ze N2_ (d_ + 33) 4 := hsN20_.e (by decide)
              have eD33_5_N20_ : ze N20_ (d_ + 33) 5 = ze N2_ (d_ + 33) 5 := hsN20_.e (by decide)
              have eD33_6_N20_ : ze N20_ (d_ + 33) 6 = ze N2_ (d_ + 33) 6 := hsN20_.e (by decide)
              have qzkS_N20_ : zkS d_ N20_ = zkS d_ N2_ := zkS_q hsN20_ (by decide)
              have qzkG_N20_ : zkG d_ N20_ = zkG d_ N2_ := zkG_q hsN20_ (by decide)
              have qzkW_N20_ : zkW F_ d_ N20_ = zkW F_ d_ N2_ := zkW_q hsN20_ (by decide)
              have c22_ : zYb b_ n_ N20_ := zYb.fr (hf_N2_.w hW) hsN20_ c9_ (by decide)
              have c23_ : zKm F_ K_ d_ N20_ := zKm.fr (hf_N2_.w hW) hsN20_ c10_ (by decide)
              have c24_ : zS0 d_ Mz N20_ := zS0.fr (hf_N2_.w hW) hsN20_ i8_ (by decide)
              have c25_ : zNm nm_ F_ K_ d_ N20_ := zNm.fr (hf_N2_.w hW) hsN20_ hnm_ (by decide)
              show zW l m_Reader_readLets (zn Mz + 0, zw Mz + 0) N20_ 50 [some (.ref 4), some (.ref (d_ + 0)), some (.int (Int32.ofInt u1_)), some (.int (Int32.ofInt (ze N2_ 1 2))), none] [] _
              have hnn_ := hyt_.n hp0_N20_
              have hx1_ : (ze N20_ 1 2).toNat = znx b_ n_ (ze N2_ 1 2).toNat := hnn_.2.trans (by rw [show ze N2_ 1 2 = ze N2_ 1 2 by (exact zo_62)])
              refine zw_aload_n (pc := 50) (n := 0) (x := 4) rfl (zdal_p dlA_Reader_readLets_104 (i := 1) rfl) ?_
              refine zw_getF (pc := 51) f_Reader_15 rfl ((hf_N20_.w hW).ka (o := 4) (by decide)) ((hf_N20_.w hW).la (o := 4) (s := 0) (r := 1) (by decide)) (zdal_p dlA_Reader_readLets_104 (i := 2) rfl) ?_
              refine zk_callV hf_N20_.x (pc := 54) [] [] l_Reader_101 (u_Tokens_isName l d_ N20_ (hf_N20_.w hW) b_ n_ c22_ hp1_N20_) rfl rfl ((hf_N20_.w hW).ka (o := 1) (by decide)) (by decide) (by decide) (Nat.le_of_ble_eq_true rfl) (zdal_p dlA_Reader_readLets_104 (i := 3) rfl) ?_
              rintro _ N26_ ⟨v27_, rfl, ⟨hv27_a, hv27_b⟩, hsN26_, hp0_N26_⟩
              obtain rfl := hsN26_.eq.symm
              replace hp0_N26_ : ((v27_ = 1 ∧ zisn b_ n_ (ze N20_ 1 2).toNat) ∨ (v27_ = 0 ∧ ¬ zisn b_ n_ (ze N20_ 1 2).toNat)) := hp0_N26_
              rcases hp0_N26_ with ⟨rfl, ha54_0_hp0_N26_⟩ | ⟨rfl, ha54_0_hp0_N26_⟩
              · skip
                have hn1_ := ha54_0_hp0_N26_
                have hky_ := hp1_N20_.v1 hn1_.1
                rw [hx1_] at hn1_ hky_
                show zW l m_Reader_readLets (zn Mz + 0, zw Mz + 0) N20_ 57 [some (.ref 4), some (.ref (d_ + 0)), some (.int (Int32.ofInt u1_)), some (.int (Int32.ofInt (ze N2_ 1 2))), none] [.int (Int32.ofInt 1)] _
                refine zr_if_ne (pc := 57) (tgt := 66) ⟨(by decide), (by decide)⟩ (by decide) (zdal_p dlA_Reader_readLets_104 (i := 4) rfl) (fun hc_57 => ?_) (fun hc_57 => ?_)
                · skip
                  refine zw_aload_n (pc := 66) (n := 0) (x := 4) rfl (zdal_p dlA_Reader_readLets_104 (i := 9) rfl) ?_
                  refine zw_getF (pc := 67) f_Reader_15 rfl ((hf_N20_.w hW).ka (o := 4) (by decide)) ((hf_N20_.w hW).la (o := 4) (s := 0) (r := 1) (by decide)) (zdal_p dlA_Reader_readLets_104 (i := 10) rfl) ?_
                  refine zk_getI (pc := 70) f_Reader_57 rfl ((hf_N20_.w hW).ka (o := 1) (by decide)) (zdal_p dlA_Reader_readLets_104 (i := 11) rfl) ?_
                  refine zw_istore (pc := 73) (i := 4) (L2 := [some (.ref 4), some (.ref (d_ + 0)), some (.int (Int32.ofInt u1_)), some (.int (Int32.ofInt (ze N2_ 1 2))), some (.int (Int32.ofInt (ze N20_ 1 5)))]) (by decide) rfl (zdal_p dlA_Reader_readLets_104 (i := 12) rfl) ?_
                  refine zw_aload_n (pc := 75) (n := 1) (x := (d_ + 0)) rfl (zdal_p dlA_Reader_readLets_104 (i := 13) rfl) ?_
                  refine zw_iload (pc := 76) (i := 4) (x := Int32.ofInt (ze N20_ 1 5)) rfl (zdal_p dlA_Reader_readLets_104 (i := 14) rfl) ?_
                  refine zk_callV hf_N20_.x (pc := 78) [.int (Int32.ofInt (ze N20_ 1 5))] [] l_Reader_104 (u_Troupe_nameOf l d_ N20_ (hf_N20_.w hW) (ze N20_ 1 5) (ze_r N20_ 1 5).1 (ze_r N20_ 1 5).2 F_ K_ hA_ nm_ c25_) rfl rfl ((hf_N20_.w hW).kr (o := 0) (by decide)) (by decide) (by decide) (Nat.le_of_ble_eq_true rfl) (zdal_p dlA_Reader_readLets_104 (i := 15) rfl) ?_
                  rintro _ N28_ ⟨v29_, rfl, ⟨hv29_a, hv29_b⟩, hsN28_, hp0_N28_⟩
                  obtain rfl := hsN28_.eq.symm
                  replace hp0_N28_ : ((v29_ = -1 ∧ zfd nm_ (ze N20_ 1 5) = none) ∨ (0 ≤ v29_ ∧ v29_ ≤ 7 ∧ zfd nm_ (ze N20_ 1 5) = some (zvc F_ d_ N20_ (1 + v29_)) ∧ zfit F_ K_ (zvc F_ d_ N20_ (1 + v29_)))) := hp0_N28_
                  rcases hp0_N28_ with ⟨rfl, ha78_0_hp0_N28_⟩ | ⟨ha78_0_hp0_N28_, ha78_1_hp0_N28_, ha78_2_hp0_N28_, ha78_3_hp0_N28_⟩
                  · skip
                    have hf1_ := ha78_0_hp0_N28_
                    rw [show (ze N20_ 1 5) = zkey b_ n_ (znx b_ n_ (ze N2_ 1 2).toNat) from hky_] at hf1_
                    show zW l m_Reader_readLets (zn Mz + 0, zw Mz + 0) N20_ 81 [some (.ref 4), some (.ref (d_ + 0)), some (.int (Int32.ofInt u1_)), some (.int (Int32.ofInt (ze N2_ 1 2))), some (.int (Int32.ofInt (ze N20_ 1 5)))] [.int (Int32.ofInt ((-1)))] _
                    refine zw_iconst (pc := 81) (v := Int32.ofInt (-1)) (by decide) (zdal_p dlA_Reader_readLets_104 (i := 16) rfl) ?_
                    refine zr_icmp_eq (pc := 82) (tgt := 91) ⟨(by decide), (by decide)⟩ ⟨(by decide), (by decide)⟩ (by decide) (zdal_p dlA_Reader_readLets_104 (i := 17) rfl) (fun hc_82 => ?_) (fun hc_82 => ?_)
                    · skip
                      have hyt_ := hp1_N20_
                      have hyx_ := hyt_.x
                      refine zw_aload_n (pc := 91) (n := 0) (x := 4) rfl (zdal_p dlA_Reader_readLets_104 (i := 22) rfl) ?_
                      refine zw_getF (pc := 92) f_Reader_15 rfl ((hf_N20_.w hW).ka (o := 4) (by decide)) ((hf_N20_.w hW).la (o := 4) (s := 0) (r := 1) (by decide)) (zdal_p dlA_Reader_readLets_104 (i := 23) rfl) ?_
                      refine zk_callV hf_N20_.x (pc := 95) [] [] l_Reader_44 (u_Tokens_step l d_ N20_ (hf_N20_.w hW) b_ n_ c22_ (show 0 ≤ ze N20_ 1 3 by first | with_reducible assumption | (exact zo_57 hyx_.2.1) | assumption) (show ze N20_ 1 3 ≤ n_ by first | with_reducible assumption | (exact zo_277 hyx_.2.2 rA1_3_N20_.2) | assumption)) rfl rfl ((hf_N20_.w hW).ka (o := 1) (by decide)) (by decide) (by decide) (Nat.le_of_ble_eq_true rfl) (zdal_p dlA_Reader_readLets_105 (i := 0) rfl) ?_
                      rintro _ N30_ ⟨rfl, hsN30_, ⟨hp0_N30_, hp1_N30_⟩⟩
                      have hf_N30_ : zFc d_ [(1, 2), (1, 3), (1, 4), (1, 5), (4, 1), (4, 2), (4, 3)] [] [(0, 6), (33, 2), (33, 3), (33, 4), (33, 5), (33, 6)] [25, 27, 35, 37] Mz N30_ := hf_N20_.tr hsN30_ (by decide) (by decide) (by decide) (by decide)
                      have hb0_N30_ : zFc d_ [(1, 2), (1, 3), (1, 4), (1, 5), (4, 1), (4, 2), (4, 3)] [] [(0, 6), (33, 2), (33, 3), (33, 4), (33, 5), (33, 6)] [25, 27, 35, 37] Mz N30_ := hb0_N20_.tr hsN30_ (by decide) (by decide) (by decide) (by decide)
                      have rA1_2_N30_ := ze_r N30_ 1 2
                      have rA1_3_N30_ := ze_r N30_ 1 3
                      have rA1_4_N30_ := ze_r N30_ 1 4
                      have rA1_5_N30_ := ze_r N30_ 1 5
                      have eD0_6_N30_ : ze N30_ (d_ + 0) 6 = ze N20_ (d_ + 0) 6 := hsN30_.e (by decide)
                      have eD33_2_N30_ : ze N30_ (d_ + 33) 2 = ze N20_ (d_ + 33) 2 := hsN30_.e (by decide)
                      have eD33_3_N30_ : ze N30_ (d_ + 33) 3 = ze N20_ (d_ + 33) 3 := hsN30_.e (by decide)
                      have eD33_4_N30_ : ze N30_ (d_ + 33) 4 = ze N20_ (d_ + 33) 4 := hsN30_.e (by decide)
                      have eD33_5_N30_ : ze N30_ (d_ + 33) 5 = ze N20_ (d_ + 33) 5 := hsN30_.e (by decide)
                      have eD33_6_N30_ : ze N30_ (d_ + 33) 6 = ze N20_ (d_ + 33) 6 := hsN30_.e (by decide)
                      have qzkS_N30_ : zkS d_ N30_ = zkS d_ N20_ := zkS_q hsN30_ (by decide)
                      have qzkG_N30_ : zkG d_ N30_ = zkG d_ N20_ := zkG_q hsN30_ (by decide)
                      have qzkW_N30_ : zkW F_ d_ N30_ = zkW F_ d_ N20_ := zkW_q hsN30_ (by decide)
                      have c32_ : zYb b_ n_ N30_ := zYb.fr (hf_N20_.w hW) hsN30_ c22_ (by decide)
                      have c33_ : zKm F_ K_ d_ N30_ := zKm.fr (hf_N20_.w hW) hsN30_ c23_ (by decide)
                      have c34_ : zS0 d_ Mz N30_ := zS0.fr (hf_N20_.w hW) hsN30_ c24_ (by decide)
                      have c35_ : zNm nm_ F_ K_ d_ N30_ := zNm.fr (hf_N20_.w hW) hsN30_ c25_ (by decide)
                      show zW l m_Reader_readLets (zn Mz + 0, zw Mz + 0) N30_ 98 [some (.ref 4), some (.ref (d_ + 0)), some (.int (Int32.ofInt u1_)), some (.int (Int32.ofInt (ze N2_ 1 2))), some (.int (Int32.ofInt (ze N20_ 1 5)))] [] _
                      have hnn_ := hyt_.n hp0_N30_
                      have hx2_ : (ze N30_ 1 2).toNat = znx b_ n_ (znx b_ n_ (ze N2_ 1 2).toNat) := hnn_.2.trans (by rw [hx1_])
                      refine zw_aload_n (pc := 98) (n := 0) (x := 4) rfl (zdal_p dlA_Reader_readLets_105 (i := 1) rfl) ?_
                      refine zw_bipush (pc := 99) (v := Int32.ofInt 61) (by decide) (zdal_p dlA_Reader_readLets_105 (i := 2) rfl) ?_
                      refine zk_callV hf_N30_.x (pc := 101) [.int (Int32.ofInt 61)] [] l_Reader_66 (u_Reader_passSign l d_ N30_ (hf_N30_.w hW) 61 (by decide) (by decide) b_ n_ c32_ hp1_N30_) rfl rfl ((hf_N30_.w hW).ka (o := 4) (by decide)) (by decide) (by decide) (Nat.le_of_ble_eq_true rfl) (zdal_p dlA_Reader_readLets_105 (i := 3) rfl) ?_
                      rintro _ N36_ ⟨v37_, rfl, ⟨hv37_a, hv37_b⟩, hsN36_, ⟨hp0_N36_, hp1_N36_⟩⟩
                      have hf_N36_ : zFc d_ [(1, 2), (1, 3), (1, 4), (1, 5), (4, 1), (4, 2), (4, 3)] [] [(0, 6), (33, 2), (33, 3), (33, 4), (33, 5), (33, 6)] [25, 27, 35, 37] Mz N36_ := hf_N30_.tr hsN36_ (by decide) (by decide) (by decide) (by decide)
                      have hb0_N36_ : zFc d_ [(1, 2), (1, 3), (1, 4), (1, 5), (4, 1), (4, 2), (4, 3)] [] [(0, 6), (33, 2), (33, 3), (33, 4), (33, 5), (33, 6)] [25, 27, 35, 37] Mz N36_ := hb0_N30_.tr hsN36_ (by decide) (by decide) (by decide) (by decide)
                      have rA1_2_N36_ := ze_r N36_ 1 2
                      have rA1_3_N36_ := ze_r N36_ 1 3
                      have rA1_4_N36_ := ze_r N36_ 1 4
                      have rA1_5_N36_ := ze_r N36_ 1 5
                      have eD0_6_N36_ : ze N36_ (d_ + 0) 6 = ze N30_ (d_ + 0) 6 := hsN36_.e (by decide)
                      have eD33_2_N36_ : ze N36_ (d_ + 33) 2 = ze N30_ (d_ + 33) 2 := hsN36_.e (by decide)
                      have eD33_3_N36_ : ze N36_ (d_ + 33) 3 = ze N30_ (d_ + 33) 3 := hsN36_.e (by decide)
                      have eD33_4_N36_ : ze N36_ (d_ + 33) 4 = ze N30_ (d_ + 33) 4 := hsN36_.e (by decide)
                      have eD33_5_N36_ : ze N36_ (d_ + 33) 5 = ze N30_ (d_ + 33) 5 := hsN36_.e (by decide)
                      have eD33_6_N36_ : ze N36_ (d_ + 33) 6 = ze N30_ (d_ + 33) 6 := hsN36_.e (by decide)
                      have qzkS_N36_ : zkS d_ N36_ = zkS d_ N30_ := zkS_q hsN36_ (by decide)
                      have qzkG_N36_ : zkG d_ N36_ = zkG d_ N30_ := zkG_q hsN36_ (by decide)
                      have qzkW_N36_ : zkW F_ d_ N36_ = zkW F_ d_ N30_ := zkW_q hsN36_ (by decide)
                      have c38_ : zYb b_ n_ N36_ := zYb.fr (hf_N30_.w hW) hsN36_ c32_ (by decide)
                      have c39_ : zKm F_ K_ d_ N36_ := zKm.fr (hf_N30_.w hW) hsN36_ c33_ (by decide)
                      have c40_ : zS0 d_ Mz N36_ := zS0.fr (hf_N30_.w hW) hsN36_ c34_ (by decide)
                      have c41_ : zNm nm_ F_ K_ d_ N36_ := zNm.fr (hf_N30_.w hW) hsN36_ c35_ (by decide)
                      rcases hp1_N36_ with ⟨rfl, ha101_0_hp1_N36_, ha101_1_hp1_N36_⟩ | ⟨rfl, ha101_0_hp1_N36_⟩
                      · skip
                        have hs1_ := ha101_0_hp1_N36_
                        have hx3_ := ha101_1_hp1_N36_
                        rw [hx2_] at hs1_ hx3_
                        have hle_ : nm_.length < 8 := by (exact zo_2274 hc_34 hlen_)
                        have hall_ := And.intro hle_ (And.intro hn1_ (And.intro hf1_ hs1_))
                        show zW l m_Reader_readLets (zn Mz + 0, zw Mz + 0) N36_ 104 [some (.ref 4), some (.ref (d_ + 0)), some (.int (Int32.ofInt u1_)), some (.int (Int32.ofInt (ze N2_ 1 2))), some (.int (Int32.ofInt (ze N20_ 1 5)))] [.int (Int32.ofInt 1)] _
                        refine zr_if_eq (pc := 104) (tgt := 124) ⟨(by decide), (by decide)⟩ (by decide) (zdal_p dlA_Reader_readLets_105 (i := 4) rfl) (fun hc_104 => ?_) (fun hc_104 => ?_)
                        · skip
                          exact absurd hc_104 (by decide)
                        · skip
                          have hnmb_ := c41_
                          refine zw_aload_n (pc := 107) (n := 0) (x := 4) rfl (zdal_p dlA_Reader_readLets_105 (i := 5) rfl) ?_
                          refine zw_aload_n (pc := 108) (n := 1) (x := (d_ + 0)) rfl (zdal_p dlA_Reader_readLets_105 (i := 6) rfl) ?_
                          have hz0c_ := c40_
                          refine zk_callV hf_N36_.x (pc := 109) [.ref (d_ + 0)] [] l_Reader_107 (u_Reader_readSum l d_ N36_ (hf_N36_.w hW) b_ n_ F_ K_ hA_ nm_ c38_ hp0_N36_ c39_ c41_) rfl rfl ((hf_N36_.w hW).ka (o := 4) (by decide)) (by decide) (by decide) (Nat.le_of_ble_eq_true rfl) (zdal_p dlA_Reader_readLets_105 (i := 7) rfl) ?_
                          rintro _ N42_ ⟨v43_, rfl, ⟨hv43_a, hv43_b⟩, hsN42_, ⟨hp0_N42_, hp1_N42_⟩⟩
                          have hf_N42_ : zFc d_ [(1, 2), (1, 3), (1, 4), (1, 5), (4, 1), (4, 2), (4, 3)] [] [(0, 6), (33, 2), (33, 3), (33, 4), (33, 5), (33, 6)] [25, 27, 35, 37] Mz N42_ := hf_N36_.tr hsN42_ (by decide) (by decide) (by decide) (by decide)
                          have hb0_N42_ : zFc d_ [(1, 2), (1, 3), (1, 4), (1, 5), (4, 1), (4, 2), (4, 3)] [] [(0, 6), (33, 2), (33, 3), (33, 4), (33, 5), (33, 6)] [25, 27, 35, 37] Mz N42_ := hb0_N36_.tr hsN42_ (by decide) (by decide) (by decide) (by decide)
                          have rA1_2_N42_ := ze_r N42_ 1 2
                          have rA1_3_N42_ := ze_r N42_ 1 3
                          have rA1_4_N42_ := ze_r N42_ 1 4
                          have rA1_5_N42_ := ze_r N42_ 1 5
                          have eD0_6_N42_ : ze N42_ (d_ + 0) 6 = ze N36_ (d_ + 0) 6 := hsN42_.e (by decide)
                          have rD33_2_N42_ := ze_r N42_ (d_ + 33) 2
                          have rD33_3_N42_ := ze_r N42_ (d_ + 33) 3
                          have rD33_4_N42_ := ze_r N42_ (d_ + 33) 4
                          have rD33_5_N42_ := ze_r N42_ (d_ + 33) 5
                          have rD33_6_N42_ := ze_r N42_ (d_ + 33) 6
                          have c44_ : zYb b_ n_ N42_ := zYb.fr (hf_N36_.w hW) hsN42_ c38_ (by decide)
                          have c45_ : zKm F_ K_ d_ N42_ := zKm.fr (hf_N36_.w hW) hsN42_ c39_ (by decide)
                          rcases hp1_N42_ with ⟨rfl, ha109_0_hp1_N42_, ha109_1_hp1_N42_, ha109_2_hp1_N42_, ha109_3_hp1_N42_⟩ | ⟨rfl, ha109_0_hp1_N42_, ha109_1_hp1_N42_⟩
                          · skip
                            have hm0_ := ha109_0_hp1_N42_
                            have hm1_ := ha109_1_hp1_N42_
                            have hm2_ := ha109_2_hp1_N42_
                            have hm3_ := ha109_3_hp1_N42_
                            have hnm2_ := hnmb_.l hsN42_ hm2_ hF27_ (by decide)
                            rw [hx3_] at hm0_
                            obtain ⟨j1_, j2_, j3_⟩ := zKst_3 hm3_ hm1_
                            have hsm_ := zls_g hl0_ hall_ hm0_ (show zfs b_ n_ F_ K_ nm_ (zKst 3 F_ d_ N42_) = zKst 3 F_ d_ N42_ from rfl)
                            have hz0d_ := hz0c_.tr (zLow.s0 hm2_)
                            show zW l m_Reader_readLets (zn Mz + 0, zw Mz + 0) N42_ 112 [some (.ref 4), some (.ref (d_ + 0)), some (.int (Int32.ofInt u1_)), some (.int (Int32.ofInt (ze N2_ 1 2))), some (.int (Int32.ofInt (ze N20_ 1 5)))] [.int (Int32.ofInt 1)] _
                            refine zr_if_eq (pc := 112) (tgt := 124) ⟨(by decide), (by decide)⟩ (by decide) (zdal_p dlA_Reader_readLets_105 (i := 8) rfl) (fun hc_112 => ?_) (fun hc_112 => ?_)
                            · skip
                              exact absurd hc_112 (by decide)
                            · skip
                              refine zw_aload_n (pc := 115) (n := 0) (x := 4) rfl (zdal_p dlA_Reader_readLets_105 (i := 9) rfl) ?_
                              refine zw_bipush (pc := 116) (v := Int32.ofInt 59) (by decide) (zdal_p dlA_Reader_readLets_105 (i := 10) rfl) ?_
                              refine zk_callV hf_N42_.x (pc := 118) [.int (Int32.ofInt 59)] [] l_Reader_66 (u_Reader_passSign l d_ N42_ (hf_N42_.w hW) 59 (by decide) (by decide) b_ n_ c44_ hp0_N42_) rfl rfl ((hf_N42_.w hW).ka (o := 4) (by decide)) (by decide) (by decide) (Nat.le_of_ble_eq_true rfl) (zdal_p dlA_Reader_readLets_105 (i := 11) rfl) ?_
                              rintro _ N46_ ⟨v47_, rfl, ⟨hv47_a, hv47_b⟩, hsN46_, ⟨hp0_N46_, hp1_N46_⟩⟩
                              have hf_N46_ : zFc d_ [(1, 2), (1, 3), (1, 4), (1, 5), (4, 1), (4, 2), (4, 3)] [] [(0, 6), (33, 2), (33, 3), (33, 4), (33, 5), (33, 6)] [25, 27, 35, 37] Mz N46_ := hf_N42_.tr hsN46_ (by decide) (by decide) (by decide) (by decide)
                              have hb0_N46_ : zFc d_ [(1, 2), (1, 3), (1, 4), (1, 5), (4, 1), (4, 2), (4, 3)] [] [(0, 6), (33, 2), (33, 3), (33, 4), (33, 5), (33, 6)] [25, 27, 35, 37] Mz N46_ := hb0_N42_.tr hsN46_ (by decide) (by decide) (by decide) (by decide)
                              have rA1_2_N46_ := ze_r N46_ 1 2
                              have rA1_3_N46_ := ze_r N46_ 1 3
                              have rA1_4_N46_ := ze_r N46_ 1 4
                              have rA1_5_N46_ := ze_r N46_ 1 5
                              have eD0_6_N46_ : ze N46_ (d_ + 0) 6 = ze N42_ (d_ + 0) 6 := hsN46_.e (by decide)
                              have eD33_2_N46_ : ze N46_ (d_ + 33) 2 = ze N42_ (d_ + 33) 2 := hsN46_.e (by decide)
                              have eD33_3_N46_ : ze N46_ (d_ + 33) 3 = ze N42_ (d_ + 33) 3 := hsN46_.e (by decide)
                              have eD33_4_N46_ : ze N46_ (d_ + 33) 4 = ze N42_ (d_ + 33) 4 := hsN46_.e (by decide)
                              have eD33_5_N46_ : ze N46_ (d_ + 33) 5 = ze N42_ (d_ + 33) 5 := hsN46_.e (by decide)
                              have eD33_6_N46_ : ze N46_ (d_ + 33) 6 = ze N42_ (d_ + 33) 6 := hsN46_.e (by decide)
                              have qzkS_N46_ : zkS d_ N46_ = zkS d_ N42_ := zkS_q hsN46_ (by decide)
                              have qzkG_N46_ : zkG d_ N46_ = zkG d_ N42_ := zkG_q hsN46_ (by decide)
                              have qzkW_N46_ : zkW F_ d_ N46_ = zkW F_ d_ N42_ := zkW_q hsN46_ (by decide)
                              have c48_ : zYb b_ n_ N46_ := zYb.fr (hf_N42_.w hW) hsN46_ c44_ (by decide)
                              have c49_ : zKm F_ K_ d_ N46_ := zKm.fr (hf_N42_.w hW) hsN46_ c45_ (by decide)
                              have c50_ : zCI F_ K_ d_ 1 N46_ := zCI.fr (hf_N42_.w hW) hsN46_ hm1_ (by decide)
                              have c51_ : zNm nm_ F_ K_ d_ N46_ := zNm.fr (hf_N42_.w hW) hsN46_ hnm2_ (by decide)
                              have c52_ : zS0 d_ Mz N46_ := zS0.fr (hf_N42_.w hW) hsN46_ hz0d_ (by decide)
                              rcases hp1_N46_ with ⟨rfl, ha118_0_hp1_N46_, ha118_1_hp1_N46_⟩ | ⟨rfl, ha118_0_hp1_N46_⟩
                              · skip
                                have hs4_ := ha118_0_hp1_N46_
                                have hx4_ := ha118_1_hp1_N46_
                                have hv21_ := zvc_f (F := F_) hsN46_ (by decide) 21
                                show zW l m_Reader_readLets (zn Mz + 0, zw Mz + 0) N46_ 121 [some (.ref 4), some (.ref (d_ + 0)), some (.int (Int32.ofInt u1_)), some (.int (Int32.ofInt (ze N2_ 1 2))), some (.int (Int32.ofInt (ze N20_ 1 5)))] [.int (Int32.ofInt 1)] _
                                refine zr_if_ne (pc := 121) (tgt := 126) ⟨(by decide), (by decide)⟩ (by decide) (zdal_p dlA_Reader_readLets_105 (i := 12) rfl) (fun hc_121 => ?_) (fun hc_121 => ?_)
                                · skip
                                  refine zw_aload_n (pc := 126) (n := 1) (x := (d_ + 0)) rfl (zdal_p dlA_Reader_readLets_105 (i := 15) rfl) ?_
                                  refine zw_getF (pc := 127) f_Reader_111 rfl ((hf_N46_.w hW).kr (o := 0) (by decide)) ((hf_N46_.w hW).lr (o := 0) (s := 4) (r := 33) (by decide)) (zdal_p dlA_Reader_readLets_105 (i := 16) rfl) ?_
                                  refine zk_getI (pc := 130) f_Reader_115 rfl ((hf_N46_.w hW).kr (o := 33) (by decide)) (zdal_p dlA_Reader_readLets_105 (i := 17) rfl) ?_
                                  refine zr_if_eq (pc := 133) (tgt := 144) ⟨(ze_r N46_ (d_ + 33) 6).1, (ze_r N46_ (d_ + 33) 6).2⟩ (by decide) (zdal_p dlA_Reader_readLets_105 (i := 18) rfl) (fun hc_133 => ?_) (fun hc_133 => ?_)
                                  · skip
                                    refine zw_aload_n (pc := 144) (n := 1) (x := (d_ + 0)) rfl (zdal_p dlA_Reader_readLets_106 (i := 0) rfl) ?_
                                    refine zw_iload (pc := 145) (i := 4) (x := Int32.ofInt (ze N20_ 1 5)) rfl (zdal_p dlA_Reader_readLets_106 (i := 1) rfl) ?_
                                    have hz0e_ := c52_
                                    refine zk_callV hf_N46_.x (pc := 147) [.int (Int32.ofInt (ze N20_ 1 5))] [] l_Reader_121 (u_Troupe_addName l d_ N46_ (hf_N46_.w hW) (ze N20_ 1 5) (ze_r N20_ 1 5).1 (ze_r N20_ 1 5).2 F_ K_ hA_ nm_ c49_ c51_ (show ze N46_ (d_ + 0) 6 ≤ 7 by first | with_reducible assumption | (exact zo_2275 eD0_6_N20_ eD0_6_N30_ eD0_6_N36_ eD0_6_N42_ eD0_6_N46_ hc_34) | assumption) (show zfit F_ K_ (zvc F_ d_ N46_ 21) by rw [hv21_]; exact j2_)) rfl rfl ((hf_N46_.w hW).kr (o := 0) (by decide)) (by decide) (by decide) (Nat.le_of_ble_eq_true rfl) (zdal_p dlA_Reader_readLets_106 (i := 2) rfl) ?_
                                    rintro _ N53_ ⟨rfl, hsN53_, ⟨hp0_N53_, hp1_N53_, hp2_N53_⟩⟩
                                    have hf_N53_ : zFc d_ [(1, 2), (1, 3), (1, 4), (1, 5), (4, 1), (4, 2), (4, 3)] [] [(0, 6), (33, 2), (33, 3), (33, 4), (33, 5), (33, 6)] [25, 27, 35, 37] Mz N53_ := hf_N46_.tr hsN53_ (by decide) (by decide) (by decide) (by decide)
                                    have hb0_N53_ : zFc d_ [(1, 2), (1, 3), (1, 4), (1, 5), (4, 1), (4, 2), (4, 3)] [] [(0, 6), (33, 2), (33, 3), (33, 4), (33, 5), (33, 6)] [25, 27, 35, 37] Mz N53_ := hb0_N46_.tr hsN53_ (by decide) (by decide) (by decide) (by decide)
                                    have eA1_2_N53_ : ze N53_ 1 2 = ze N46_ 1 2 := hsN53_.ea (hf_N46_.w hW) (by decide)
                                    have eA1_3_N53_ : ze N53_ 1 3 = ze N46_ 1 3 := hsN53_.ea (hf_N46_.w hW) (by decide)
                                    have eA1_4_N53_ : ze N53_ 1 4 = ze N46_ 1 4 := hsN53_.ea (hf_N46_.w hW) (by decide)
                                    have eA1_5_N53_ : ze N53_ 1 5 = ze N46_ 1 5 := hsN53_.ea (hf_N46_.w hW) (by decide)
                                    have rD0_6_N53_ := ze_r N53_ (d_ + 0) 6
                                    have eD33_2_N53_ : ze N53_ (d_ + 33) 2 = ze N46_ (d_ + 33) 2 := hsN53_.e (by decide)
                                    have eD33_3_N53_ : ze N53_ (d_ + 33) 3 = ze N46_ (d_ + 33) 3 := hsN53_.e (by decide)
                                    have eD33_4_N53_ : ze N53_ (d_ + 33) 4 = ze N46_ (d_ + 33) 4 := hsN53_.e (by decide)
                                    have eD33_5_N53_ : ze N53_ (d_ + 33) 5 = ze N46_ (d_ + 33) 5 := hsN53_.e (by decide)
                                    have eD33_6_N53_ : ze N53_ (d_ + 33) 6 = ze N46_ (d_ + 33) 6 := hsN53_.e (by decide)
                                    have qzkS_N53_ : zkS d_ N53_ = zkS d_ N46_ := zkS_q hsN53_ (by decide)
                                    have qzkG_N53_ : zkG d_ N53_ = zkG d_ N46_ := zkG_q hsN53_ (by decide)
                                    have c55_ : zYb b_ n_ N53_ := zYb.fr (hf_N46_.w hW) hsN53_ c48_ (by decide)
                                    have c56_ : zKm F_ K_ d_ N53_ := zKm.fr (hf_N46_.w hW) hsN53_ c49_ (by decide)
                                    have c57_ : zYt b_ n_ N53_ := zYt.fr (hf_N46_.w hW) hsN53_ hp0_N46_ (by decide)
                                    show zW l m_Reader_readLets (zn Mz + 0, zw Mz + 0) N53_ 150 [some (.ref 4), some (.ref (d_ + 0)), some (.int (Int32.ofInt u1_)), some (.int (Int32.ofInt (ze N2_ 1 2))), some (.int (Int32.ofInt (ze N20_ 1 5)))] [] _
                                    have ha_ := hp0_N53_
                                    rw [hv21_, show (ze N20_ 1 5) = zkey b_ n_ (znx b_ n_ (ze N2_ 1 2).toNat) from hky_] at ha_
                                    have hz0f_ := hz0e_.tr hp2_N53_
                                    refine zr_iinc (pc := 150) (i := 2) (a := u1_) (n := 1) (L2 := [some (.ref 4), some (.ref (d_ + 0)), some (.int (Int32.ofInt (u1_ + 1))), some (.int (Int32.ofInt (ze N2_ 1 2))), some (.int (Int32.ofInt (ze N20_ 1 5)))]) rfl (by decide) rfl (zdal_p dlA_Reader_readLets_106 (i := 3) rfl) ?_
                                    refine zw_goto (pc := 153) (tgt := 2) (by decide) (zdal_p dlA_Reader_readLets_106 (i := 4) rfl) ?_
                                    have hst_ : zRg (zls b_ n_ F_ K_) (0, (ze Mz 1 2).toNat, nm0_) (0, (ze N53_ 1 2).toNat, nm_ ++ [(zkey b_ n_ (znx b_ n_ (ze N2_ 1 2).toNat), zvc F_ d_ N42_ 21)]) := hre_.tr (zRg.st (hsm_.trans (by rcases j3_ with ⟨g_, e_⟩ | ⟨g_, e_⟩; rw [e_, zle_t hs4_, show (ze N53_ 1 2).toNat = znx b_ n_ (ze N42_ 1 2).toNat by rw [show ze N53_ 1 2 = ze N46_ 1 2 by (exact eA1_2_N53_), hx4_]]; exfalso; (exact zo_2276 eD33_6_N46_ g_ hc_133))))
                                    refine zW_le [some (.ref 4), some (.ref (d_ + 0)), some (.int (Int32.ofInt (u1_ + 1))), none, none] (⟨rfl, rfl, rfl, trivial⟩) ?_
                                    exact ih_2 (u1_ + 1) (by (exact zo_74 i4_)) (by (exact zo_2277 hc_5)) N53_ hb0_N53_ (show 0 ≤ (u1_ + 1) by first | with_reducible assumption | (exact zo_76 i4_) | assumption) (show (u1_ + 1) ≤ ze N53_ (d_ + 0) 6 by first | with_reducible assumption | (exact zo_2278 eD0_6_N20_ eD0_6_N30_ eD0_6_N36_ eD0_6_N42_ eD0_6_N46_ hc_5 hp1_N53_ i5_ w1_.1) | assumption) c57_ (show ∃ nm, zNm nm F_ K_ d_ N53_ ∧ zRg (zls b_ n_ F_ K_) (0, (ze Mz 1 2).toNat, nm0_) (0, (ze N53_ 1 2).toNat, nm) by exact ⟨_, ha_, hst_⟩) hz0f_ (by (exact zo_2279 hc_5 hlt_2 i4_))
                                  · skip
                                    refine zw_aload_n (pc := 136) (n := 0) (x := 4) rfl (zdal_p dlA_Reader_readLets_105 (i := 19) rfl) ?_
                                    refine zw_bipush (pc := 137) (v := Int32.ofInt 6) (by decide) (zdal_p dlA_Reader_readLets_105 (i := 20) rfl) ?_
                                    refine zw_iload_n (pc := 139) (n := 3) (x := Int32.ofInt (ze N2_ 1 2)) rfl (zdal_p dlA_Reader_readLets_105 (i := 21) rfl) ?_
                                    refine zk_callV hf_N46_.x (pc := 140) [.int (Int32.ofInt 6), .int (Int32.ofInt (ze N2_ 1 2))] [] l_Reader_33 (u_Reader_refuseAt l d_ N46_ (hf_N46_.w hW) 6 (by decide) (by decide) (ze N2_ 1 2) (ze_r N2_ 1 2).1 (ze_r N2_ 1 2).2) rfl rfl ((hf_N46_.w hW).ka (o := 4) (by decide)) (by decide) (by decide) (Nat.le_of_ble_eq_true rfl) (zdal_p dlA_Reader_readLets_105 (i := 22) rfl) ?_
                                    rintro _ N58_ ⟨v59_, rfl, ⟨hv59_a, hv59_b⟩, hsN58_, hp0_N58_⟩
                                    replace hp0_N58_ : ((v59_ = 0)) := hp0_N58_
                                    have hf_N58_ : zFc d_ [(1, 2), (1, 3), (1, 4), (1, 5), (4, 1), (4, 2), (4, 3)] [] [(0, 6), (33, 2), (33, 3), (33, 4), (33, 5), (33, 6)] [25, 27, 35, 37] Mz N58_ := hf_N46_.tr hsN58_ (by decide) (by decide) (by decide) (by decide)
                                    have eA1_2_N58_ : ze N58_ 1 2 = ze N46_ 1 2 := hsN58_.ea (hf_N46_.w hW) (by decide)
                                    have eA1_3_N58_ : ze N58_ 1 3 = ze N46_ 1 3 := hsN58_.ea (hf_N46_.w hW) (by decide)
                                    have eA1_4_N58_ : ze N58_ 1 4 = ze N46_ 1 4 := hsN58_.ea (hf_N46_.w hW) (by decide)
                                    have eA1_5_N58_ : ze N58_ 1 5 = ze N46_ 1 5 := hsN58_.ea (hf_N46_.w hW) (by decide)
                                    have eD0_6_N58_ : ze N58_ (d_ + 0) 6 = ze N46_ (d_ + 0) 6 := hsN58_.e (by decide)
                                    have eD33_2_N58_ : ze N58_ (d_ + 33) 2 = ze N46_ (d_ + 33) 2 := hsN58_.e (by decide)
                                    have eD33_3_N58_ : ze N58_ (d_ + 33) 3 = ze N46_ (d_ + 33) 3 := hsN58_.e (by decide)
                                    have eD33_4_N58_ : ze N58_ (d_ + 33) 4 = ze N46_ (d_ + 33) 4 := hsN58_.e (by decide)
                                    have eD33_5_N58_ : ze N58_ (d_ + 33) 5 = ze N46_ (d_ + 33) 5 := hsN58_.e (by decide)
                                    have eD33_6_N58_ : ze N58_ (d_ + 33) 6 = ze N46_ (d_ + 33) 6 := hsN58_.e (by decide)
                                    have qzkS_N58_ : zkS d_ N58_ = zkS d_ N46_ := zkS_q hsN58_ (by decide)
                                    have qzkG_N58_ : zkG d_ N58_ = zkG d_ N46_ := zkG_q hsN58_ (by decide)
                                    have qzkW_N58_ : zkW F_ d_ N58_ = zkW F_ d_ N46_ := zkW_q hsN58_ (by decide)
                                    have c60_ : zYb b_ n_ N58_ := zYb.fr (hf_N46_.w hW) hsN58_ c48_ (by decide)
                                    have c61_ : zKm F_ K_ d_ N58_ := zKm.fr (hf_N46_.w hW) hsN58_ c49_ (by decide)
                                    have c62_ : zCI F_ K_ d_ 1 N58_ := zCI.fr (hf_N46_.w hW) hsN58_ c50_ (by decide)
                                    have c63_ : zNm nm_ F_ K_ d_ N58_ := zNm.fr (hf_N46_.w hW) hsN58_ c51_ (by decide)
                                    have c64_ : zS0 d_ Mz N58_ := zS0.fr (hf_N46_.w hW) hsN58_ c52_ (by decide)
                                    have c65_ : zYt b_ n_ N58_ := zYt.fr (hf_N46_.w hW) hsN58_ hp0_N46_ (by decide)
                                    rcases hp0_N58_ with rfl
                                    · skip
                                      show zW l m_Reader_readLets (zn Mz + 0, zw Mz + 0) N58_ 143 [some (.ref 4), some (.ref (d_ + 0)), some (.int (Int32.ofInt u1_)), some (.int (Int32.ofInt (ze N2_ 1 2))), some (.int (Int32.ofInt (ze N20_ 1 5)))] [.int (Int32.ofInt 0)] _
                                      exact zk_iret (pc := 143) (ty := .boolean) rfl (z_narB (by (decide))) ⟨by (exact hv59_a), by (exact hv59_b)⟩ hf_N58_ (show ((0 = 1 ∧ (∃ q nm, zRg (zls b_ n_ F_ K_) (0, (ze Mz 1 2).toNat, nm0_) (1, q, nm) ∧ zNm nm F_ K_ d_ N58_) ∧ zS0 d_ Mz N58_) ∨ (0 = 0 ∧ zRg (zls b_ n_ F_ K_) (0, (ze Mz 1 2).toNat, nm0_) zLf)) from Or.inr (⟨(show 0 = 0 by first | rfl | exact hrt_ | exact hre_.tr (zRg.st (zls_f (F := F_) (K := K_) hl0_ (fun q_ => by have := q_.1; omega))) | exact hre_.tr (zRg.st (zls_ef (F := F_) (K := K_) hl1_ (by omega))) | exact hre_.tr (zRg.st (hsm_.trans (by rcases j3_ with ⟨g_, e_⟩ | ⟨g_, e_⟩; exfalso; omega; rw [e_]; exact zle_b))) | (exfalso; omega)), (show zRg (zls b_ n_ F_ K_) (0, (ze Mz 1 2).toNat, nm0_) zLf by first | rfl | exact hrt_ | exact hre_.tr (zRg.st (zls_f (F := F_) (K := K_) hl0_ (fun q_ => by have := q_.1; omega))) | exact hre_.tr (zRg.st (zls_ef (F := F_) (K := K_) hl1_ (by omega))) | exact hre_.tr (zRg.st (hsm_.trans (by rcases j3_ with ⟨g_, e_⟩ | ⟨g_, e_⟩; exfalso; (exact zo_770 eD33_6_N46_ g_ hc_133); rw [e_]; exact zle_b))) | (exfalso; omega))⟩)) (zdal_p dlA_Reader_readLets_105 (i := 23) rfl)
                                · skip
                                  exact absurd hc_121 (by decide)
                              · skip
                                have hrt_ := hre_.tr (zRg.st (hsm_.trans (zle_n ha118_0_hp1_N46_)))
                                show zW l m_Reader_readLets (zn Mz + 0, zw Mz + 0) N46_ 121 [some (.ref 4), some (.ref (d_ + 0)), some (.int (Int32.ofInt u1_)), some (.int (Int32.ofInt (ze N2_ 1 2))), some (.int (Int32.ofInt (ze N20_ 1 5)))] [.int (Int32.ofInt 0)] _
                                refine zr_if_ne (pc := 121) (tgt := 126) ⟨(by decide), (by decide)⟩ (by decide) (zdal_p dlA_Reader_readLets_105 (i := 12) rfl) (fun hc_121 => ?_) (fun hc_121 => ?_)
                                · skip
                                  exact absurd hc_121 (by decide)
                                · skip
                                  refine zw_iconst (pc := 124) (v := Int32.ofInt 0) (by decide) (zdal_p dlA_Reader_readLets_105 (i := 13) rfl) ?_
                                  exact zk_iret (pc := 125) (ty := .boolean) rfl (z_narB (by (decide))) ⟨by (exact hv47_a), by (exact hv47_b)⟩ hf_N46_ (show ((0 = 1 ∧ (∃ q nm, zRg (zls b_ n_ F_ K_) (0, (ze Mz 1 2).toNat, nm0_) (1, q, nm) ∧ zNm nm F_ K_ d_ N46_) ∧ zS0 d_ Mz N46_) ∨ (0 = 0 ∧ zRg (zls b_ n_ F_ K_) (0, (ze Mz 1 2).toNat, nm0_) zLf)) from Or.inr (⟨(show 0 = 0 by first | rfl | exact hrt_ | exact hre_.tr (zRg.st (zls_f (F := F_) (K := K_) hl0_ (fun q_ => by have := q_.1; omega))) | exact hre_.tr (zRg.st (zls_ef (F := F_) (K := K_) hl1_ (by omega))) | exact hre_.tr (zRg.st (hsm_.trans (by rcases j3_ with ⟨g_, e_⟩ | ⟨g_, e_⟩; exfalso; omega; rw [e_]; exact zle_b))) | (exfalso; omega)), (show zRg (zls b_ n_ F_ K_) (0, (ze Mz 1 2).toNat, nm0_) zLf by first | rfl | exact hrt_ | exact hre_.tr (zRg.st (zls_f (F := F_) (K := K_) hl0_ (fun q_ => by have := q_.1; omega))) | exact hre_.tr (zRg.st (zls_ef (F := F_) (K := K_) hl1_ (by omega))) | exact hre_.tr (zRg.st (hsm_.trans (by rcases j3_ with ⟨g_, e_⟩ | ⟨g_, e_⟩; exfalso; omega; rw [e_]; exact zle_b))) | (exfalso; omega))⟩)) (zdal_p dlA_Reader_readLets_105 (i := 14) rfl)
                          · skip
                            have hm0_ := ha109_0_hp1_N42_
                            rw [hx3_] at hm0_
                            have hrt_ := hre_.tr (zRg.st ((zls_g hl0_ hall_ hm0_ zfs_F).trans zle_f))
                            show zW l m_Reader_readLets (zn Mz + 0, zw Mz + 0) N42_ 112 [some (.ref 4), some (.ref (d_ + 0)), some (.int (Int32.ofInt u1_)), some (.int (Int32.ofInt (ze N2_ 1 2))), some (.int (Int32.ofInt (ze N20_ 1 5)))] [.int (Int32.ofInt 0)] _
                            refine zr_if_eq (pc := 112) (tgt := 124) ⟨(by decide), (by decide)⟩ (by decide) (zdal_p dlA_Reader_readLets_105 (i := 8) rfl) (fun hc_112 => ?_) (fun hc_112 => ?_)
                            · skip
                              refine zw_iconst (pc := 124) (v := Int32.ofInt 0) (by decide) (zdal_p dlA_Reader_readLets_105 (i := 13) rfl) ?_
                              exact zk_iret (pc := 125) (ty := .boolean) rfl (z_narB (by (decide))) ⟨by (exact hv43_a), by (exact hv43_b)⟩ hf_N42_ (show ((0 = 1 ∧ (∃ q nm, zRg (zls b_ n_ F_ K_) (0, (ze Mz 1 2).toNat, nm0_) (1, q, nm) ∧ zNm nm F_ K_ d_ N42_) ∧ zS0 d_ Mz N42_) ∨ (0 = 0 ∧ zRg (zls b_ n_ F_ K_) (0, (ze Mz 1 2).toNat, nm0_) zLf)) from Or.inr (⟨(show 0 = 0 by first | rfl | exact hrt_ | exact hre_.tr (zRg.st (zls_f (F := F_) (K := K_) hl0_ (fun q_ => by have := q_.1; omega))) | exact hre_.tr (zRg.st (zls_ef (F := F_) (K := K_) hl1_ (by omega))) | exact hre_.tr (zRg.st (hsm_.trans (by rcases j3_ with ⟨g_, e_⟩ | ⟨g_, e_⟩; exfalso; omega; rw [e_]; exact zle_b))) | (exfalso; omega)), (show zRg (zls b_ n_ F_ K_) (0, (ze Mz 1 2).toNat, nm0_) zLf by first | rfl | exact hrt_ | exact hre_.tr (zRg.st (zls_f (F := F_) (K := K_) hl0_ (fun q_ => by have := q_.1; omega))) | exact hre_.tr (zRg.st (zls_ef (F := F_) (K := K_) hl1_ (by omega))) | exact hre_.tr (zRg.st (hsm_.trans (by rcases j3_ with ⟨g_, e_⟩ | ⟨g_, e_⟩; exfalso; omega; rw [e_]; exact zle_b))) | (exfalso; omega))⟩)) (zdal_p dlA_Reader_readLets_105 (i := 14) rfl)
                            · skip
                              exact absurd hc_112 (by decide)
                      · skip
                        have hs1_ := ha101_0_hp1_N36_
                        rw [hx2_] at hs1_
                        have hrt_ := hre_.tr (zRg.st (zls_f (F := F_) (K := K_) hl0_ (fun q_ => hs1_ q_.2.2.2)))
                        show zW l m_Reader_readLets (zn Mz + 0, zw Mz + 0) N36_ 104 [some (.ref 4), some (.ref (d_ + 0)), some (.int (Int32.ofInt u1_)), some (.int (Int32.ofInt (ze N2_ 1 2))), some (.int (Int32.ofInt (ze N20_ 1 5)))] [.int (Int32.ofInt 0)] _
                        refine zr_if_eq (pc := 104) (tgt := 124) ⟨(by decide), (by decide)⟩ (by decide) (zdal_p dlA_Reader_readLets_105 (i := 4) rfl) (fun hc_104 => ?_) (fun hc_104 => ?_)
                        · skip
                          refine zw_iconst (pc := 124) (v := Int32.ofInt 0) (by decide) (zdal_p dlA_Reader_readLets_105 (i := 13) rfl) ?_
                          exact zk_iret (pc := 125) (ty := .boolean) rfl (z_narB (by (decide))) ⟨by (exact hv37_a), by (exact hv37_b)⟩ hf_N36_ (show ((0 = 1 ∧ (∃ q nm, zRg (zls b_ n_ F_ K_) (0, (ze Mz 1 2).toNat, nm0_) (1, q, nm) ∧ zNm nm F_ K_ d_ N36_) ∧ zS0 d_ Mz N36_) ∨ (0 = 0 ∧ zRg (zls b_ n_ F_ K_) (0, (ze Mz 1 2).toNat, nm0_) zLf)) from Or.inr (⟨(show 0 = 0 by first | rfl | exact hrt_ | exact hre_.tr (zRg.st (zls_f (F := F_) (K := K_) hl0_ (fun q_ => by have := q_.1; omega))) | exact hre_.tr (zRg.st (zls_ef (F := F_) (K := K_) hl1_ (by omega))) | exact hre_.tr (zRg.st (hsm_.trans (by rcases j3_ with ⟨g_, e_⟩ | ⟨g_, e_⟩; exfalso; omega; rw [e_]; exact zle_b))) | (exfalso; omega)), (show zRg (zls b_ n_ F_ K_) (0, (ze Mz 1 2).toNat, nm0_) zLf by first | rfl | exact hrt_ | exact hre_.tr (zRg.st (zls_f (F := F_) (K := K_) hl0_ (fun q_ => by have := q_.1; omega))) | exact hre_.tr (zRg.st (zls_ef (F := F_) (K := K_) hl1_ (by omega))) | exact hre_.tr (zRg.st (hsm_.trans (by rcases j3_ with ⟨g_, e_⟩ | ⟨g_, e_⟩; exfalso; omega; rw [e_]; exact zle_b))) | (exfalso; omega))⟩)) (zdal_p dlA_Reader_readLets_105 (i := 14) rfl)
                        · skip
                          exact absurd hc_104 (by decide)
                    · skip
                      exact absurd hc_82 (by decide)
                  · skip
                    have hf1_ := ha78_2_hp0_N28_
                    rw [show (ze N20_ 1 5) = zkey b_ n_ (znx b_ n_ (ze N2_ 1 2).toNat) from hky_] at hf1_
                    have hrt_ := hre_.tr (zRg.st (zls_f (F := F_) (K := K_) hl0_ (fun q_ => by rw [hf1_] at q_; exact absurd q_.2.2.1 (fun z => by cases z))))
                    show zW l m_Reader_readLets (zn Mz + 0, zw Mz + 0) N20_ 81 [some (.ref 4), some (.ref (d_ + 0)), some (.int (Int32.ofInt u1_)), some (.int (Int32.ofInt (ze N2_ 1 2))), some (.int (Int32.ofInt (ze N20_ 1 5)))] [.int (Int32.ofInt v29_)] _
                    refine zw_iconst (pc := 81) (v := Int32.ofInt (-1)) (by decide) (zdal_p dlA_Reader_readLets_104 (i := 16) rfl) ?_
                    refine zr_icmp_eq (pc := 82) (tgt := 91) ⟨hv29_a, hv29_b⟩ ⟨(by decide), (by decide)⟩ (by decide) (zdal_p dlA_Reader_readLets_104 (i := 17) rfl) (fun hc_82 => ?_) (fun hc_82 => ?_)
                    · skip
                      exfalso; (exact zo_583 ha78_0_hp0_N28_ hc_82)
                    · skip
                      refine zw_aload_n (pc := 85) (n := 0) (x := 4) rfl (zdal_p dlA_Reader_readLets_104 (i := 18) rfl) ?_
                      refine zw_iconst (pc := 86) (v := Int32.ofInt 3) (by decide) (zdal_p dlA_Reader_readLets_104 (i := 19) rfl) ?_
                      refine zk_callV hf_N20_.x (pc := 87) [.int (Int32.ofInt 3)] [] l_Reader_41 (u_Reader_refuse l d_ N20_ (hf_N20_.w hW) 3 (by decide) (by decide)) rfl rfl ((hf_N20_.w hW).ka (o := 4) (by decide)) (by decide) (by decide) (Nat.le_of_ble_eq_true rfl) (zdal_p dlA_Reader_readLets_104 (i := 20) rfl) ?_
                      rintro _ N66_ ⟨v67_, rfl, ⟨hv67_a, hv67_b⟩, hsN66_, hp0_N66_⟩
                      replace hp0_N66_ : ((v67_ = 0)) := hp0_N66_
                      have hf_N66_ : zFc d_ [(1, 2), (1, 3), (1, 4), (1, 5), (4, 1), (4, 2), (4, 3)] [] [(0, 6), (33, 2), (33, 3), (33, 4), (33, 5), (33, 6)] [25, 27, 35, 37] Mz N66_ := hf_N20_.tr hsN66_ (by decide) (by decide) (by decide) (by decide)
                      have eA1_2_N66_ : ze N66_ 1 2 = ze N20_ 1 2 := hsN66_.ea (hf_N20_.w hW) (by decide)
                      have eA1_3_N66_ : ze N66_ 1 3 = ze N20_ 1 3 := hsN66_.ea (hf_N20_.w hW) (by decide)
                      have eA1_4_N66_ : ze N66_ 1 4 = ze N20_ 1 4 := hsN66_.ea (hf_N20_.w hW) (by decide)
                      have eA1_5_N66_ : ze N66_ 1 5 = ze N20_ 1 5 := hsN66_.ea (hf_N20_.w hW) (by decide)
                      have eD0_6_N66_ : ze N66_ (d_ + 0) 6 = ze N20_ (d_ + 0) 6 := hsN66_.e (by decide)
                      have eD33_2_N66_ : ze N66_ (d_ + 33) 2 = ze N20_ (d_ + 33) 2 := hsN66_.e (by decide)
                      have eD33_3_N66_ : ze N66_ (d_ + 33) 3 = ze N20_ (d_ + 33) 3 := hsN66_.e (by decide)
                      have eD33_4_N66_ : ze N66_ (d_ + 33) 4 = ze N20_ (d_ + 33) 4 := hsN66_.e (by decide)
                      have eD33_5_N66_ : ze N66_ (d_ + 33) 5 = ze N20_ (d_ + 33) 5 := hsN66_.e (by decide)
                      have eD33_6_N66_ : ze N66_ (d_ + 33) 6 = ze N20_ (d_ + 33) 6 := hsN66_.e (by decide)
                      have qzkS_N66_ : zkS d_ N66_ = zkS d_ N20_ := zkS_q hsN66_ (by decide)
                      have qzkG_N66_ : zkG d_ N66_ = zkG d_ N20_ := zkG_q hsN66_ (by decide)
                      have qzkW_N66_ : zkW F_ d_ N66_ = zkW F_ d_ N20_ := zkW_q hsN66_ (by decide)
                      have c68_ : zYb b_ n_ N66_ := zYb.fr (hf_N20_.w hW) hsN66_ c22_ (by decide)
                      have c69_ : zKm F_ K_ d_ N66_ := zKm.fr (hf_N20_.w hW) hsN66_ c23_ (by decide)
                      have c70_ : zS0 d_ Mz N66_ := zS0.fr (hf_N20_.w hW) hsN66_ c24_ (by decide)
                      have c71_ : zNm nm_ F_ K_ d_ N66_ := zNm.fr (hf_N20_.w hW) hsN66_ c25_ (by decide)
                      have c72_ : zYt b_ n_ N66_ := zYt.fr (hf_N20_.w hW) hsN66_ hp1_N20_ (by decide)
                      rcases hp0_N66_ with rfl
                      · skip
                        show zW l m_Reader_readLets (zn Mz + 0, zw Mz + 0) N66_ 90 [some (.ref 4), some (.ref (d_ + 0)), some (.int (Int32.ofInt u1_)), some (.int (Int32.ofInt (ze N2_ 1 2))), some (.int (Int32.ofInt (ze N20_ 1 5)))] [.int (Int32.ofInt 0)] _
                        exact zk_iret (pc := 90) (ty := .boolean) rfl (z_narB (by (decide))) ⟨by (exact hv67_a), by (exact hv67_b)⟩ hf_N66_ (show ((0 = 1 ∧ (∃ q nm, zRg (zls b_ n_ F_ K_) (0, (ze Mz 1 2).toNat, nm0_) (1, q, nm) ∧ zNm nm F_ K_ d_ N66_) ∧ zS0 d_ Mz N66_) ∨ (0 = 0 ∧ zRg (zls b_ n_ F_ K_) (0, (ze Mz 1 2).toNat, nm0_) zLf)) from Or.inr (⟨(show 0 = 0 by first | rfl | exact hrt_ | exact hre_.tr (zRg.st (zls_f (F := F_) (K := K_) hl0_ (fun q_ => by have := q_.1; omega))) | exact hre_.tr (zRg.st (zls_ef (F := F_) (K := K_) hl1_ (by omega))) | exact hre_.tr (zRg.st (hsm_.trans (by rcases j3_ with ⟨g_, e_⟩ | ⟨g_, e_⟩; exfalso; omega; rw [e_]; exact zle_b))) | (exfalso; omega)), (show zRg (zls b_ n_ F_ K_) (0, (ze Mz 1 2).toNat, nm0_) zLf by first | rfl | exact hrt_ | exact hre_.tr (zRg.st (zls_f (F := F_) (K := K_) hl0_ (fun q_ => by have := q_.1; omega))) | exact hre_.tr (zRg.st (zls_ef (F := F_) (K := K_) hl1_ (by omega))) | exact hre_.tr (zRg.st (hsm_.trans (by rcases j3_ with ⟨g_, e_⟩ | ⟨g_, e_⟩; exfalso; omega; rw [e_]; exact zle_b))) | (exfalso; omega))⟩)) (zdal_p dlA_Reader_readLets_104 (i := 21) rfl)
                · skip
                  exact absurd hc_57 (by decide)
              · skip
                have hn1_ := ha54_0_hp0_N26_
                rw [hx1_] at hn1_
                have hrt_ := hre_.tr (zRg.st (zls_f (F := F_) (K := K_) hl0_ (fun q_ => hn1_ q_.2.1)))
                show zW l m_Reader_readLets (zn Mz + 0, zw Mz + 0) N20_ 57 [some (.ref 4), some (.ref (d_ + 0)), some (.int (Int32.ofInt u1_)), some (.int (Int32.ofInt (ze N2_ 1 2))), none] [.int (Int32.ofInt 0)] _
                refine zr_if_ne (pc := 57) (tgt := 66) ⟨(by decide), (by decide)⟩ (by decide) (zdal_p dlA_Reader_readLets_104 (i := 4) rfl) (fun hc_57 => ?_) (fun hc_57 => ?_)
                · skip
                  exact absurd hc_57 (by decide)
                · skip
                  refine zw_aload_n (pc := 60) (n := 0) (x := 4) rfl (zdal_p dlA_Reader_readLets_104 (i := 5) rfl) ?_
                  refine zw_iconst (pc := 61) (v := Int32.ofInt 2) (by decide) (zdal_p dlA_Reader_readLets_104 (i := 6) rfl) ?_
                  refine zk_callV hf_N20_.x (pc := 62) [.int (Int32.ofInt 2)] [] l_Reader_41 (u_Reader_refuse l d_ N20_ (hf_N20_.w hW) 2 (by decide) (by decide)) rfl rfl ((hf_N20_.w hW).ka (o := 4) (by decide)) (by decide) (by decide) (Nat.le_of_ble_eq_true rfl) (zdal_p dlA_Reader_readLets_104 (i := 7) rfl) ?_
                  rintro _ N73_ ⟨v74_, rfl, ⟨hv74_a, hv74_b⟩, hsN73_, hp0_N73_⟩
                  replace hp0_N73_ : ((v74_ = 0)) := hp0_N73_
                  have hf_N73_ : zFc d_ [(1, 2), (1, 3), (1, 4), (1, 5), (4, 1), (4, 2), (4, 3)] [] [(0, 6), (33, 2), (33, 3), (33, 4), (33, 5), (33, 6)] [25, 27, 35, 37] Mz N73_ := hf_N20_.tr hsN73_ (by decide) (by decide) (by decide) (by decide)
                  have eA1_2_N73_ : ze N73_ 1 2 = ze N20_ 1 2 := hsN73_.ea (hf_N20_.w hW) (by decide)
                  have eA1_3_N73_ : ze N73_ 1 3 = ze N20_ 1 3 := hsN73_.ea (hf_N20_.w hW) (by decide)
                  have eA1_4_N73_ : ze N73_ 1 4 = ze N20_ 1 4 := hsN73_.ea (hf_N20_.w hW) (by decide)
                  have eA1_5_N73_ : ze N73_ 1 5 = ze N20_ 1 5 := hsN73_.ea (hf_N20_.w hW) (by decide)
                  have eD0_6_N73_ : ze N73_ (d_ + 0) 6 = ze N20_ (d_ + 0) 6 := hsN73_.e (by decide)
                  have eD33_2_N73_ : ze N73_ (d_ + 33) 2 = ze N20_ (d_ + 33) 2 := hsN73_.e (by decide)
                  have eD33_3_N73_ : ze N73_ (d_ + 33) 3 = ze N20_ (d_ + 33) 3 := hsN73_.e (by decide)
                  have eD33_4_N73_ : ze N73_ (d_ + 33) 4 = ze N20_ (d_ + 33) 4 := hsN73_.e (by decide)
                  have eD33_5_N73_ : ze N73_ (d_ + 33) 5 = ze N20_ (d_ + 33) 5 := hsN73_.e (by decide)
                  have eD33_6_N73_ : ze N73_ (d_ + 33) 6 = ze N20_ (d_ + 33) 6 := hsN73_.e (by decide)
                  have qzkS_N73_ : zkS d_ N73_ = zkS d_ N20_ := zkS_q hsN73_ (by decide)
                  have qzkG_N73_ : zkG d_ N73_ = zkG d_ N20_ := zkG_q hsN73_ (by decide)
                  have qzkW_N73_ : zkW F_ d_ N73_ = zkW F_ d_ N20_ := zkW_q hsN73_ (by decide)
                  have c75_ : zYb b_ n_ N73_ := zYb.fr (hf_N20_.w hW) hsN73_ c22_ (by decide)
                  have c76_ : zKm F_ K_ d_ N73_ := zKm.fr (hf_N20_.w hW) hsN73_ c23_ (by decide)
                  have c77_ : zS0 d_ Mz N73_ := zS0.fr (hf_N20_.w hW) hsN73_ c24_ (by decide)
                  have c78_ : zNm nm_ F_ K_ d_ N73_ := zNm.fr (hf_N20_.w hW) hsN73_ c25_ (by decide)
                  have c79_ : zYt b_ n_ N73_ := zYt.fr (hf_N20_.w hW) hsN73_ hp1_N20_ (by decide)
                  rcases hp0_N73_ with rfl
                  · skip
                    show zW l m_Reader_readLets (zn Mz + 0, zw Mz + 0) N73_ 65 [some (.ref 4), some (.ref (d_ + 0)), some (.int (Int32.ofInt u1_)), some (.int (Int32.ofInt (ze N2_ 1 2))), none] [.int (Int32.ofInt 0)] _
                    exact zk_iret (pc := 65) (ty := .boolean) rfl (z_narB (by (decide))) ⟨by (exact hv27_a), by (exact hv27_b)⟩ hf_N73_ (show ((0 = 1 ∧ (∃ q nm, zRg (zls b_ n_ F_ K_) (0, (ze Mz 1 2).toNat, nm0_) (1, q, nm) ∧ zNm nm F_ K_ d_ N73_) ∧ zS0 d_ Mz N73_) ∨ (0 = 0 ∧ zRg (zls b_ n_ F_ K_) (0, (ze Mz 1 2).toNat, nm0_) zLf)) from Or.inr (⟨(show 0 = 0 by first | rfl | exact hrt_ | exact hre_.tr (zRg.st (zls_f (F := F_) (K := K_) hl0_ (fun q_ => by have := q_.1; omega))) | exact hre_.tr (zRg.st (zls_ef (F := F_) (K := K_) hl1_ (by omega))) | exact hre_.tr (zRg.st (hsm_.trans (by rcases j3_ with ⟨g_, e_⟩ | ⟨g_, e_⟩; exfalso; omega; rw [e_]; exact zle_b))) | (exfalso; omega)), (show zRg (zls b_ n_ F_ K_) (0, (ze Mz 1 2).toNat, nm0_) zLf by first | rfl | exact hrt_ | exact hre_.tr (zRg.st (zls_f (F := F_) (K := K_) hl0_ (fun q_ => by have := q_.1; omega))) | exact hre_.tr (zRg.st (zls_ef (F := F_) (K := K_) hl1_ (by omega))) | exact hre_.tr (zRg.st (hsm_.trans (by rcases j3_ with ⟨g_, e_⟩ | ⟨g_, e_⟩; exfalso; omega; rw [e_]; exact zle_b))) | (exfalso; omega))⟩)) (zdal_p dlA_Reader_readLets_104 (i := 8) rfl)
            · skip
              refine zw_aload_n (pc := 37) (n := 0) (x := 4) rfl (zdal_p dlA_Reader_readLets_103 (i := 18) rfl) ?_
              refine zw_iconst (pc := 38) (v := Int32.ofInt 5) (by decide) (zdal_p dlA_Reader_readLets_103 (i := 19) rfl) ?_
              refine zk_callV hf_N2_.x (pc := 39) [.int (Int32.ofInt 5)] [] l_Reader_41 (u_Reader_refuse l d_ N2_ (hf_N2_.w hW) 5 (by decide) (by decide)) rfl rfl ((hf_N2_.w hW).ka (o := 4) (by decide)) (by decide) (by decide) (Nat.le_of_ble_eq_true rfl) (zdal_p dlA_Reader_readLets_103 (i := 20) rfl) ?_
              rintro _ N80_ ⟨v81_, rfl, ⟨hv81_a, hv81_b⟩, hsN80_, hp0_N80_⟩
              replace hp0_N80_ : ((v81_ = 0)) := hp0_N80_
              have hf_N80_ : zFc d_ [(1, 2), (1, 3), (1, 4), (1, 5), (4, 1), (4, 2), (4, 3)] [] [(0, 6), (33, 2), (33, 3), (33, 4), (33, 5), (33, 6)] [25, 27, 35, 37] Mz N80_ := hf_N2_.tr hsN80_ (by decide) (by decide) (by decide) (by decide)
              have eA1_2_N80_ : ze N80_ 1 2 = ze N2_ 1 2 := hsN80_.ea (hf_N2_.w hW) (by decide)
              have eA1_3_N80_ : ze N80_ 1 3 = ze N2_ 1 3 := hsN80_.ea (hf_N2_.w hW) (by decide)
              have eA1_4_N80_ : ze N80_ 1 4 = ze N2_ 1 4 := hsN80_.ea (hf_N2_.w hW) (by decide)
              have eA1_5_N80_ : ze N80_ 1 5 = ze N2_ 1 5 := hsN80_.ea (hf_N2_.w hW) (by decide)
              have eD0_6_N80_ : ze N80_ (d_ + 0) 6 = ze N2_ (d_ + 0) 6 := hsN80_.e (by decide)
              have eD33_2_N80_ : ze N80_ (d_ + 33) 2 = ze N2_ (d_ + 33) 2 := hsN80_.e (by decide)
              have eD33_3_N80_ : ze N80_ (d_ + 33) 3 = ze N2_ (d_ + 33) 3 := hsN80_.e (by decide)
              have eD33_4_N80_ : ze N80_ (d_ + 33) 4 = ze N2_ (d_ + 33) 4 := hsN80_.e (by decide)
              have eD33_5_N80_ : ze N80_ (d_ + 33) 5 = ze N2_ (d_ + 33) 5 := hsN80_.e (by decide)
              have eD33_6_N80_ : ze N80_ (d_ + 33) 6 = ze N2_ (d_ + 33) 6 := hsN80_.e (by decide)
              have qzkS_N80_ : zkS d_ N80_ = zkS d_ N2_ := zkS_q hsN80_ (by decide)
              have qzkG_N80_ : zkG d_ N80_ = zkG d_ N2_ := zkG_q hsN80_ (by decide)
              have qzkW_N80_ : zkW F_ d_ N80_ = zkW F_ d_ N2_ := zkW_q hsN80_ (by decide)
              have c82_ : zYb b_ n_ N80_ := zYb.fr (hf_N2_.w hW) hsN80_ c9_ (by decide)
              have c83_ : zKm F_ K_ d_ N80_ := zKm.fr (hf_N2_.w hW) hsN80_ c10_ (by decide)
              have c84_ : zYt b_ n_ N80_ := zYt.fr (hf_N2_.w hW) hsN80_ i6_ (by decide)
              have c85_ : zS0 d_ Mz N80_ := zS0.fr (hf_N2_.w hW) hsN80_ i8_ (by decide)
              have c86_ : zNm nm_ F_ K_ d_ N80_ := zNm.fr (hf_N2_.w hW) hsN80_ hnm_ (by decide)
              rcases hp0_N80_ with rfl
              · skip
                show zW l m_Reader_readLets (zn Mz + 0, zw Mz + 0) N80_ 42 [some (.ref 4), some (.ref (d_ + 0)), some (.int (Int32.ofInt u1_)), some (.int (Int32.ofInt (ze N2_ 1 2))), none] [.int (Int32.ofInt 0)] _
                exact zk_iret (pc := 42) (ty := .boolean) rfl (z_narB (by (decide))) ⟨by (exact hv81_a), by (exact hv81_b)⟩ hf_N80_ (show ((0 = 1 ∧ (∃ q nm, zRg (zls b_ n_ F_ K_) (0, (ze Mz 1 2).toNat, nm0_) (1, q, nm) ∧ zNm nm F_ K_ d_ N80_) ∧ zS0 d_ Mz N80_) ∨ (0 = 0 ∧ zRg (zls b_ n_ F_ K_) (0, (ze Mz 1 2).toNat, nm0_) zLf)) from Or.inr (⟨(show 0 = 0 by first | rfl | exact hrt_ | exact hre_.tr (zRg.st (zls_f (F := F_) (K := K_) hl0_ (fun q_ => by have := q_.1; omega))) | exact hre_.tr (zRg.st (zls_ef (F := F_) (K := K_) hl1_ (by omega))) | exact hre_.tr (zRg.st (hsm_.trans (by rcases j3_ with ⟨g_, e_⟩ | ⟨g_, e_⟩; exfalso; omega; rw [e_]; exact zle_b))) | (exfalso; omega)), (show zRg (zls b_ n_ F_ K_) (0, (ze Mz 1 2).toNat, nm0_) zLf by first | rfl | exact hrt_ | exact hre_.tr (zRg.st (zls_f (F := F_) (K := K_) hl0_ (fun q_ => by have := q_.1; (exact zo_2280 hc_34 hlen_ q_.1)))) | exact hre_.tr (zRg.st (zls_ef (F := F_) (K := K_) hl1_ (by omega))) | exact hre_.tr (zRg.st (hsm_.trans (by rcases j3_ with ⟨g_, e_⟩ | ⟨g_, e_⟩; exfalso; omega; rw [e_]; exact zle_b))) | (exfalso; omega))⟩)) (zdal_p dlA_Reader_readLets_103 (i := 21) rfl)
        · skip
          have hl1_ := ha14_0_hp0_N18_
          show zW l m_Reader_readLets (zn Mz + 0, zw Mz + 0) N2_ 17 [some (.ref 4), some (.ref (d_ + 0)), some (.int (Int32.ofInt u1_)), none, none] [.int (Int32.ofInt 0)] _
          refine zr_if_eq (pc := 17) (tgt := 156) ⟨(by decide), (by decide)⟩ (by decide) (zdal_p dlA_Reader_readLets_103 (i := 9) rfl) (fun hc_17 => ?_) (fun hc_17 => ?_)
          · skip
            first | (have ht4_ : ze N2_ 1 4 = zkd b_ n_ (ze N2_ 1 2).toNat := i6_.2.2.1) | skip
            refine zw_aload_n (pc := 156) (n := 0) (x := 4) rfl (zdal_p dlA_Reader_readLets_106 (i := 5) rfl) ?_
            refine zw_getF (pc := 157) f_Reader_15 rfl ((hf_N2_.w hW).ka (o := 4) (by decide)) ((hf_N2_.w hW).la (o := 4) (s := 0) (r := 1) (by decide)) (zdal_p dlA_Reader_readLets_106 (i := 6) rfl) ?_
            refine zk_getI (pc := 160) f_Reader_27 rfl ((hf_N2_.w hW).ka (o := 1) (by decide)) (zdal_p dlA_Reader_readLets_106 (i := 7) rfl) ?_
            refine zr_if_eq (pc := 163) (tgt := 174) ⟨(ze_r N2_ 1 4).1, (ze_r N2_ 1 4).2⟩ (by decide) (zdal_p dlA_Reader_readLets_106 (i := 8) rfl) (fun hc_163 => ?_) (fun hc_163 => ?_)
            · skip
              refine zw_iconst (pc := 174) (v := Int32.ofInt 1) (by decide) (zdal_p dlA_Reader_readLets_106 (i := 13) rfl) ?_
              refine zw_goto (pc := 175) (tgt := 179) (by decide) (zdal_p dlA_Reader_readLets_106 (i := 14) rfl) ?_
              exact zk_iret (pc := 179) (ty := .boolean) rfl (z_narB (by (decide))) ⟨by (decide), by (decide)⟩ hf_N2_ (show ((1 = 1 ∧ (∃ q nm, zRg (zls b_ n_ F_ K_) (0, (ze Mz 1 2).toNat, nm0_) (1, q, nm) ∧ zNm nm F_ K_ d_ N2_) ∧ zS0 d_ Mz N2_) ∨ (1 = 0 ∧ zRg (zls b_ n_ F_ K_) (0, (ze Mz 1 2).toNat, nm0_) zLf)) from Or.inl (⟨(show 1 = 1 by first | rfl | exact ⟨_, _, hre_.tr (zRg.st (zls_e hl1_ (by omega))), hnm_⟩ | exact i8_ | (exfalso; omega)), (show (∃ q nm, zRg (zls b_ n_ F_ K_) (0, (ze Mz 1 2).toNat, nm0_) (1, q, nm) ∧ zNm nm F_ K_ d_ N2_) by first | rfl | exact ⟨_, _, hre_.tr (zRg.st (zls_e hl1_ (by (exact zo_2281 hc_163 ht4_)))), hnm_⟩ | exact i8_ | (exfalso; omega)), (show zS0 d_ Mz N2_ by first | rfl | exact ⟨_, _, hre_.tr (zRg.st (zls_e hl1_ (by omega))), hnm_⟩ | exact i8_ | (exfalso; omega))⟩)) (zdal_p dlA_Reader_readLets_106 (i := 16) rfl)
            · skip
              refine zw_aload_n (pc := 166) (n := 0) (x := 4) rfl (zdal_p dlA_Reader_readLets_106 (i := 9) rfl) ?_
              refine zw_iconst (pc := 167) (v := Int32.ofInt 2) (by decide) (zdal_p dlA_Reader_readLets_106 (i := 10) rfl) ?_
              refine zk_callV hf_N2_.x (pc := 168) [.int (Int32.ofInt 2)] [] l_Reader_41 (u_Reader_refuse l d_ N2_ (hf_N2_.w hW) 2 (by decide) (by decide)) rfl rfl ((hf_N2_.w hW).ka (o := 4) (by decide)) (by decide) (by decide) (Nat.le_of_ble_eq_true rfl) (zdal_p dlA_Reader_readLets_106 (i := 11) rfl) ?_
              rintro _ N87_ ⟨v88_, rfl, ⟨hv88_a, hv88_b⟩, hsN87_, hp0_N87_⟩
              replace hp0_N87_ : ((v88_ = 0)) := hp0_N87_
              have hf_N87_ : zFc d_ [(1, 2), (1, 3), (1, 4), (1, 5), (4, 1), (4, 2), (4, 3)] [] [(0, 6), (33, 2), (33, 3), (33, 4), (33, 5), (33, 6)] [25, 27, 35, 37] Mz N87_ := hf_N2_.tr hsN87_ (by decide) (by decide) (by decide) (by decide)
              have eA1_2_N87_ : ze N87_ 1 2 = ze N2_ 1 2 := hsN87_.ea (hf_N2_.w hW) (by decide)
              have eA1_3_N87_ : ze N87_ 1 3 = ze N2_ 1 3 := hsN87_.ea (hf_N2_.w hW) (by decide)
              have eA1_4_N87_ : ze N87_ 1 4 = ze N2_ 1 4 := hsN87_.ea (hf_N2_.w hW) (by decide)
              have eA1_5_N87_ : ze N87_ 1 5 = ze N2_ 1 5 := hsN87_.ea (hf_N2_.w hW) (by decide)
              have eD0_6_N87_ : ze N87_ (d_ + 0) 6 = ze N2_ (d_ + 0) 6 := hsN87_.e (by decide)
              have eD33_2_N87_ : ze N87_ (d_ + 33) 2 = ze N2_ (d_ + 33) 2 := hsN87_.e (by decide)
              have eD33_3_N87_ : ze N87_ (d_ + 33) 3 = ze N2_ (d_ + 33) 3 := hsN87_.e (by decide)
              have eD33_4_N87_ : ze N87_ (d_ + 33) 4 = ze N2_ (d_ + 33) 4 := hsN87_.e (by decide)
              have eD33_5_N87_ : ze N87_ (d_ + 33) 5 = ze N2_ (d_ + 33) 5 := hsN87_.e (by decide)
              have eD33_6_N87_ : ze N87_ (d_ + 33) 6 = ze N2_ (d_ + 33) 6 := hsN87_.e (by decide)
              have qzkS_N87_ : zkS d_ N87_ = zkS d_ N2_ := zkS_q hsN87_ (by decide)
              have qzkG_N87_ : zkG d_ N87_ = zkG d_ N2_ := zkG_q hsN87_ (by decide)
              have qzkW_N87_ : zkW F_ d_ N87_ = zkW F_ d_ N2_ := zkW_q hsN87_ (by decide)
              have c89_ : zYb b_ n_ N87_ := zYb.fr (hf_N2_.w hW) hsN87_ c9_ (by decide)
              have c90_ : zKm F_ K_ d_ N87_ := zKm.fr (hf_N2_.w hW) hsN87_ c10_ (by decide)
              have c91_ : zYt b_ n_ N87_ := zYt.fr (hf_N2_.w hW) hsN87_ i6_ (by decide)
              have c92_ : zS0 d_ Mz N87_ := zS0.fr (hf_N2_.w hW) hsN87_ i8_ (by decide)
              have c93_ : zNm nm_ F_ K_ d_ N87_ := zNm.fr (hf_N2_.w hW) hsN87_ hnm_ (by decide)
              rcases hp0_N87_ with rfl
              · skip
                show zW l m_Reader_readLets (zn Mz + 0, zw Mz + 0) N87_ 171 [some (.ref 4), some (.ref (d_ + 0)), some (.int (Int32.ofInt u1_)), none, none] [.int (Int32.ofInt 0)] _
                refine zr_if_eq (pc := 171) (tgt := 178) ⟨(by decide), (by decide)⟩ (by decide) (zdal_p dlA_Reader_readLets_106 (i := 12) rfl) (fun hc_171 => ?_) (fun hc_171 => ?_)
                · skip
                  refine zw_iconst (pc := 178) (v := Int32.ofInt 0) (by decide) (zdal_p dlA_Reader_readLets_106 (i := 15) rfl) ?_
                  exact zk_iret (pc := 179) (ty := .boolean) rfl (z_narB (by (decide))) ⟨by (exact hv19_a), by (exact hv19_b)⟩ hf_N87_ (show ((0 = 1 ∧ (∃ q nm, zRg (zls b_ n_ F_ K_) (0, (ze Mz 1 2).toNat, nm0_) (1, q, nm) ∧ zNm nm F_ K_ d_ N87_) ∧ zS0 d_ Mz N87_) ∨ (0 = 0 ∧ zRg (zls b_ n_ F_ K_) (0, (ze Mz 1 2).toNat, nm0_) zLf)) from Or.inr (⟨(show 0 = 0 by first | rfl | exact hrt_ | exact hre_.tr (zRg.st (zls_f (F := F_) (K := K_) hl0_ (fun q_ => by have := q_.1; omega))) | exact hre_.tr (zRg.st (zls_ef (F := F_) (K := K_) hl1_ (by omega))) | exact hre_.tr (zRg.st (hsm_.trans (by rcases j3_ with ⟨g_, e_⟩ | ⟨g_, e_⟩; exfalso; omega; rw [e_]; exact zle_b))) | (exfalso; omega)), (show zRg (zls b_ n_ F_ K_) (0, (ze Mz 1 2).toNat, nm0_) zLf by first | rfl | exact hrt_ | exact hre_.tr (zRg.st (zls_f (F := F_) (K := K_) hl0_ (fun q_ => by have := q_.1; omega))) | exact hre_.tr (zRg.st (zls_ef (F := F_) (K := K_) hl1_ (by (exact zo_806 ht4_ hc_163)))) | exact hre_.tr (zRg.st (hsm_.trans (by rcases j3_ with ⟨g_, e_⟩ | ⟨g_, e_⟩; exfalso; omega; rw [e_]; exact zle_b))) | (exfalso; omega))⟩)) (zdal_p dlA_Reader_readLets_106 (i := 16) rfl)
                · skip
                  exact absurd hc_171 (by decide)
          · skip
            exact absurd hc_17 (by decide)
  exact lp_2 _ 0 (by decide) (by decide) Mz zFc.rf (show 0 ≤ (0 : Int) by first | with_reducible assumption | (decide) | assumption) (show (0 : Int) ≤ ze Mz (d_ + 0) 6 by first | with_reducible assumption | (exact zo_57 y1_.1) | assumption) p1_ (show ∃ nm, zNm nm F_ K_ d_ Mz ∧ zRg (zls b_ n_ F_ K_) (0, (ze Mz 1 2).toNat, nm0_) (0, (ze Mz 1 2).toNat, nm) by exact ⟨nm0_, p3_, zRg.rf⟩) dv0 (Nat.lt_succ_self _)
def zhr (M : zMem) (k : Int) : Int := if ze M 81 3 + k < ze M 81 2 then ze M 82 (ze M 81 3 + k).toNat else -1
def zTv (M : zMem) : Prop := ze M 81 5 = 2 → 0 ≤ ze M 81 6 ∧ ze M 81 6 ≤ 999
theorem zTv.fr {S C : List Nat} {M N : zMem} (hf : zFr S C M N) (h : zTv M) (hs : 5 ∉ S ∧ 6 ∉ S) (_ : True) : zTv N := by
  unfold zTv
  rw [hf.e hs.1, hf.e hs.2]
  exact h
set_option maxHeartbeats 4000000 in
theorem c_M_truth (l : Launch) (Mz : zMem) (hW : zMt Mz) (a0_ : Int) (ha0_a : -2147483648 ≤ a0_) (ha0_b : a0_ < 2147483648) (ha0_z : a0_ = 0 ∨ a0_ = 1) : zC l m_M_truth 0 0 [.int (Int32.ofInt a0_)] Mz (zpI [] [] Mz (fun v N => v = a0_)) := by
  refine zC_of (L0 := [some (.int (Int32.ofInt a0_))]) md_M_truth (Nat.le_of_ble_eq_true rfl) rfl ?_ zQ0
  have hf : zFr [] [] Mz Mz := zFr.rf
  refine zw_iload_n (pc := 0) (n := 0) (x := Int32.ofInt a0_) rfl (zdal_p dlC_M_truth_47 (i := 0) rfl) ?_
  refine zr_if_eq (pc := 1) (tgt := 8) ⟨by omega, by omega⟩ (by decide) (zdal_p dlC_M_truth_47 (i := 1) rfl) (fun hc_1 => ?_) (fun hc_1 => ?_)
  · skip
    refine zw_iconst (pc := 8) (v := Int32.ofInt 0) (by decide) (zdal_p dlC_M_truth_47 (i := 4) rfl) ?_
    exact zr_iret (pc := 9) (ty := .int) rfl rfl ⟨by omega, by omega⟩ hf (show 0 = a0_ by omega) (zdal_p dlC_M_truth_47 (i := 5) rfl)
  · skip
    refine zw_iconst (pc := 4) (v := Int32.ofInt 1) (by decide) (zdal_p dlC_M_truth_47 (i := 2) rfl) ?_
    refine zw_goto (pc := 5) (tgt := 9) (by decide) (zdal_p dlC_M_truth_47 (i := 3) rfl) ?_
    exact zr_iret (pc := 9) (ty := .int) rfl rfl ⟨by omega, by omega⟩ hf (show 1 = a0_ by omega) (zdal_p dlC_M_truth_47 (i := 5) rfl)
set_option maxHeartbeats 4000000 in
theorem c_M_isIn (l : Launch) (Mz : zMem) (hW : zMt Mz) (a0_ : Int) (ha0_a : -9223372036854775808 ≤ a0_) (ha0_b : a0_ < 9223372036854775808) (a1_ : Int) (ha1_a : -9223372036854775808 ≤ a1_) (ha1_b : a1_ < 9223372036854775808) (a2_ : Int) (ha2_a : -9223372036854775808 ≤ a2_) (ha2_b : a2_ < 9223372036854775808) : zC l m_M_isIn 0 0 [.long (Int64.ofInt a0_), .long (Int64.ofInt a1_), .long (Int64.ofInt a2_)] Mz (zpI [] [] Mz (fun v N => (((v = 1 ∧ a1_ ≤ a0_ ∧ a0_ ≤ a2_) ∨ (v = 0 ∧ (a0_ < a1_ ∨ a2_ < a0_)))))) := by
  refine zC_of (L0 := [some (.long (Int64.ofInt a0_)), none, some (.long (Int64.ofInt a1_)), none, some (.long (Int64.ofInt a2_)), none]) md_M_isIn (Nat.le_of_ble_eq_true rfl) rfl ?_ zQ0
  have hf : zFr [] [] Mz Mz := zFr.rf
  refine zw_lload_n (pc := 0) (n := 0) (x := Int64.ofInt a0_) rfl (zdal_p dlC_M_isIn_56 (i := 0) rfl) ?_
  refine zw_lload_n (pc := 1) (n := 2) (x := Int64.ofInt a1_) rfl (zdal_p dlC_M_isIn_56 (i := 1) rfl) ?_
  refine zr_lcmp (pc := 2) ⟨by omega, by omega⟩ ⟨by omega, by omega⟩ (zdal_p dlC_M_isIn_56 (i := 2) rfl) ?_
  have hr1_ := zcmp_s a0_ a1_
  refine zr_if_lt (pc := 3) (tgt := 17) ⟨by omega, by omega⟩ (by decide) (zdal_p dlC_M_isIn_56 (i := 3) rfl) (fun hc_3 => ?_) (fun hc_3 => ?_)
  · skip
    refine zw_iconst (pc := 17) (v := Int32.ofInt 0) (by decide) (zdal_p dlC_M_isIn_56 (i := 10) rfl) ?_
    exact zr_iret (pc := 18) (ty := .boolean) rfl (z_narB (by omega)) ⟨by omega, by omega⟩ hf (show ((0 = 1 ∧ a1_ ≤ a0_ ∧ a0_ ≤ a2_) ∨ (0 = 0 ∧ (a0_ < a1_ ∨ a2_ < a0_))) from Or.inr (⟨(show 0 = 0 by omega), (show (a0_ < a1_ ∨ a2_ < a0_) by omega)⟩)) (zdal_p dlC_M_isIn_56 (i := 11) rfl)
  · skip
    refine zw_lload_n (pc := 6) (n := 0) (x := Int64.ofInt a0_) rfl (zdal_p dlC_M_isIn_56 (i := 4) rfl) ?_
    refine zw_lload (pc := 7) (i := 4) (x := Int64.ofInt a2_) rfl (zdal_p dlC_M_isIn_56 (i := 5) rfl) ?_
    refine zr_lcmp (pc := 9) ⟨by omega, by omega⟩ ⟨by omega, by omega⟩ (zdal_p dlC_M_isIn_56 (i := 6) rfl) ?_
    have hr2_ := zcmp_s a0_ a2_
    refine zr_if_gt (pc := 10) (tgt := 17) ⟨by omega, by omega⟩ (by decide) (zdal_p dlC_M_isIn_56 (i := 7) rfl) (fun hc_10 => ?_) (fun hc_10 => ?_)
    · skip
      refine zw_iconst (pc := 17) (v := Int32.ofInt 0) (by decide) (zdal_p dlC_M_isIn_56 (i := 10) rfl) ?_
      exact zr_iret (pc := 18) (ty := .boolean) rfl (z_narB (by omega)) ⟨by omega, by omega⟩ hf (show ((0 = 1 ∧ a1_ ≤ a0_ ∧ a0_ ≤ a2_) ∨ (0 = 0 ∧ (a0_ < a1_ ∨ a2_ < a0_))) from Or.inr (⟨(show 0 = 0 by omega), (show (a0_ < a1_ ∨ a2_ < a0_) by omega)⟩)) (zdal_p dlC_M_isIn_56 (i := 11) rfl)
    · skip
      refine zw_iconst (pc := 13) (v := Int32.ofInt 1) (by decide) (zdal_p dlC_M_isIn_56 (i := 8) rfl) ?_
      refine zw_goto (pc := 14) (tgt := 18) (by decide) (zdal_p dlC_M_isIn_56 (i := 9) rfl) ?_
      exact zr_iret (pc := 18) (ty := .boolean) rfl (z_narB (by omega)) ⟨by omega, by omega⟩ hf (show ((1 = 1 ∧ a1_ ≤ a0_ ∧ a0_ ≤ a2_) ∨ (1 = 0 ∧ (a0_ < a1_ ∨ a2_ < a0_))) from Or.inl (⟨(show 1 = 1 by omega), (show a1_ ≤ a0_ by omega), (show a0_ ≤ a2_ by omega)⟩)) (zdal_p dlC_M_isIn_56 (i := 11) rfl)
set_option maxHeartbeats 4000000 in
theorem c_M_end (l : Launch) (Mz : zMem) (hW : zMt Mz) (a0_ : Int) (ha0_a : -2147483648 ≤ a0_) (ha0_b : a0_ < 2147483648) (p0_ : 0 ≤ ze Mz 81 1) (p1_ : ze Mz 81 1 ≤ 700) : zC l m_M_end 0 0 [.ref 81, .int (Int32.ofInt a0_)] Mz (zpI [1] [] Mz (fun v N => ((((a0_ < 0 ∨ ze Mz 81 1 < a0_) ∧ v = -1 ∧ ze N 81 1 = ze Mz 81 1) ∨ (0 ≤ a0_ ∧ a0_ ≤ ze Mz 81 1 ∧ v = a0_ ∧ ze N 81 1 = a0_))))) := by
  refine zC_of (L0 := [some (.ref 81), some (.int (Int32.ofInt a0_))]) md_M_end (Nat.le_of_ble_eq_true rfl) rfl ?_ zQ0
  have hf : zFr [1] [] Mz Mz := zFr.rf
  have r_1 := ze_r Mz 81 1
  refine zw_iload_n (pc := 0) (n := 1) (x := Int32.ofInt a0_) rfl (zdal_p dlC_M_end_55 (i := 0) rfl) ?_
  refine zr_i2l (pc := 1) ⟨by omega, by omega⟩ (zdal_p dlC_M_end_55 (i := 1) rfl) ?_
  refine zw_lconst (pc := 2) (v := Int64.ofInt 0) (by decide) (zdal_p dlC_M_end_55 (i := 2) rfl) ?_
  refine zw_aload_n (pc := 3) (n := 0) (x := 81) rfl (zdal_p dlC_M_end_55 (i := 3) rfl) ?_
  refine zr_getI (hf.w hW) (pc := 4) f_M_124 rfl (zdal_p dlC_M_end_55 (i := 4) rfl) ?_
  refine zr_i2l (pc := 7) ⟨by omega, by omega⟩ (zdal_p dlC_M_end_55 (i := 5) rfl) ?_
  refine zr_callS hf.x (pc := 8) [.long (Int64.ofInt a0_), .long (Int64.ofInt 0), .long (Int64.ofInt (ze Mz 81 1))] [] l_M_131 (c_M_isIn l Mz (hf.w hW) a0_ (by omega) (by omega) 0 (by omega) (by omega) (ze Mz 81 1) (by omega) (by omega)) rfl rfl (by decide) (Nat.le_of_ble_eq_true rfl) (zdal_p dlC_M_end_55 (i := 6) rfl) ?_
  rintro _ N1_ ⟨v2_, rfl, ⟨hv2_a, hv2_b⟩, hsN1_, hp0_N1_⟩
  obtain rfl := hsN1_.eq.symm
  replace hp0_N1_ : ((v2_ = 1 ∧ 0 ≤ a0_ ∧ a0_ ≤ (ze Mz 81 1)) ∨ (v2_ = 0 ∧ (a0_ < 0 ∨ (ze Mz 81 1) < a0_))) := hp0_N1_
  rcases hp0_N1_ with ⟨rfl, ha8_0_hp0_N1_, ha8_1_hp0_N1_⟩ | ⟨rfl, ha8_0_hp0_N1_⟩
  · skip
    show zW l m_M_end (zn Mz + 0, zw Mz + 0) Mz 11 [some (.ref 81), some (.int (Int32.ofInt a0_))] [.int (Int32.ofInt 1)] _
    refine zr_if_ne (pc := 11) (tgt := 16) ⟨by omega, by omega⟩ (by decide) (zdal_p dlC_M_end_55 (i := 7) rfl) (fun hc_11 => ?_) (fun hc_11 => ?_)
    · skip
      refine zw_aload_n (pc := 16) (n := 0) (x := 81) rfl (zdal_p dlC_M_end_55 (i := 10) rfl) ?_
      refine zw_iload_n (pc := 17) (n := 1) (x := Int32.ofInt a0_) rfl (zdal_p dlC_M_end_55 (i := 11) rfl) ?_
      refine zr_putI (hf.w hW) (pc := 18) f_M_124 rfl rfl ⟨by omega, by omega⟩ rfl rfl (zdal_p dlC_M_end_55 (i := 12) rfl) (fun N3_ hsN3_ hvN3_ => ?_)
      have hf_N3_ : zFr [1] [] Mz N3_ := hf.tr hsN3_ (by decide) (by decide)
      have r1_N3_ := ze_r N3_ 81 1
      refine zw_iload_n (pc := 21) (n := 1) (x := Int32.ofInt a0_) rfl (zdal_p dlC_M_end_55 (i := 13) rfl) ?_
      exact zr_iret (pc := 22) (ty := .int) rfl rfl ⟨by omega, by omega⟩ hf_N3_ (show (((a0_ < 0 ∨ ze Mz 81 1 < a0_) ∧ a0_ = -1 ∧ ze N3_ 81 1 = ze Mz 81 1) ∨ (0 ≤ a0_ ∧ a0_ ≤ ze Mz 81 1 ∧ a0_ = a0_ ∧ ze N3_ 81 1 = a0_)) by omega) (zdal_p dlC_M_end_55 (i := 14) rfl)
    · skip
      exact absurd hc_11 (by decide)
  · skip
    show zW l m_M_end (zn Mz + 0, zw Mz + 0) Mz 11 [some (.ref 81), some (.int (Int32.ofInt a0_))] [.int (Int32.ofInt 0)] _
    refine zr_if_ne (pc := 11) (tgt := 16) ⟨by omega, by omega⟩ (by decide) (zdal_p dlC_M_end_55 (i := 7) rfl) (fun hc_11 => ?_) (fun hc_11 => ?_)
    · skip
      exact absurd hc_11 (by decide)
    · skip
      refine zw_iconst (pc := 14) (v := Int32.ofInt (-1)) (by decide) (zdal_p dlC_M_end_55 (i := 8) rfl) ?_
      exact zr_iret (pc := 15) (ty := .int) rfl rfl ⟨by omega, by omega⟩ hf (show (((a0_ < 0 ∨ ze Mz 81 1 < a0_) ∧ ((-1)) = -1 ∧ ze Mz 81 1 = ze Mz 81 1) ∨ (0 ≤ a0_ ∧ a0_ ≤ ze Mz 81 1 ∧ ((-1)) = a0_ ∧ ze Mz 81 1 = a0_)) by omega) (zdal_p dlC_M_end_55 (i := 9) rfl)
set_option maxHeartbeats 4000000 in
theorem c_M_here (l : Launch) (Mz : zMem) (hW : zMt Mz) (a0_ : Int) (ha0_a : -2147483648 ≤ a0_) (ha0_b : a0_ < 2147483648) (p0_ : 0 ≤ ze Mz 81 3 + a0_) (p1_ : ze Mz 81 3 ≤ 700) (p2_ : a0_ ≤ 1000) (p3_ : ze Mz 81 2 ≤ 700) : zC l m_M_here 0 0 [.ref 81, .int (Int32.ofInt a0_)] Mz (zpI [] [] Mz (fun v N => (((v = -1 ∧ ze Mz 81 2 ≤ ze Mz 81 3 + a0_) ∨ ze Mz 81 3 + a0_ < ze Mz 81 2)) ∧ v = zhr Mz a0_)) := by
  refine zC_of (L0 := [some (.ref 81), some (.int (Int32.ofInt a0_))]) md_M_here (Nat.le_of_ble_eq_true rfl) rfl ?_ zQ0
  have hf : zFr [] [] Mz Mz := zFr.rf
  have r_2 := ze_r Mz 81 2
  have r_3 := ze_r Mz 81 3
  refine zw_aload_n (pc := 0) (n := 0) (x := 81) rfl (zdal_p dlC_M_here_66 (i := 0) rfl) ?_
  refine zr_getI0 hf hW (pc := 1) (by decide) f_M_135 rfl (zdal_p dlC_M_here_66 (i := 1) rfl) ?_
  refine zw_iload_n (pc := 4) (n := 1) (x := Int32.ofInt a0_) rfl (zdal_p dlC_M_here_66 (i := 2) rfl) ?_
  refine zr_iadd (pc := 5) (zdal_p dlC_M_here_66 (i := 3) rfl) ?_
  refine zw_aload_n (pc := 6) (n := 0) (x := 81) rfl (zdal_p dlC_M_here_66 (i := 4) rfl) ?_
  refine zr_getI0 hf hW (pc := 7) (by decide) f_M_138 rfl (zdal_p dlC_M_here_66 (i := 5) rfl) ?_
  refine zr_icmp_ge (pc := 10) (tgt := 27) ⟨by omega, by omega⟩ ⟨by omega, by omega⟩ (by decide) (zdal_p dlC_M_here_66 (i := 6) rfl) (fun hc_10 => ?_) (fun hc_10 => ?_)
  · skip
    refine zw_iconst (pc := 27) (v := Int32.ofInt (-1)) (by decide) (zdal_p dlC_M_here_66 (i := 15) rfl) ?_
    exact zr_iret (pc := 28) (ty := .int) rfl rfl ⟨by omega, by omega⟩ hf ⟨(show ((((-1)) = -1 ∧ ze Mz 81 2 ≤ ze Mz 81 3 + a0_) ∨ ze Mz 81 3 + a0_ < ze Mz 81 2) by omega), (show ((-1)) = zhr Mz a0_ by unfold zhr; split <;> omega)⟩ (zdal_p dlC_M_here_66 (i := 16) rfl)
  · skip
    refine zw_aload_n (pc := 13) (n := 0) (x := 81) rfl (zdal_p dlC_M_here_66 (i := 7) rfl) ?_
    refine zr_getF (r := 82) (hf.w hW) (pc := 14) f_M_7 rfl (zh_82 (hf.w hW)).1 (zdal_p dlC_M_here_66 (i := 8) rfl) ?_
    refine zw_aload_n (pc := 17) (n := 0) (x := 81) rfl (zdal_p dlC_M_here_66 (i := 9) rfl) ?_
    refine zr_getI0 hf hW (pc := 18) (by decide) f_M_135 rfl (zdal_p dlC_M_here_66 (i := 10) rfl) ?_
    refine zw_iload_n (pc := 21) (n := 1) (x := Int32.ofInt a0_) rfl (zdal_p dlC_M_here_66 (i := 11) rfl) ?_
    refine zr_iadd (pc := 22) (zdal_p dlC_M_here_66 (i := 12) rfl) ?_
    refine zr_ialdn (pc := 23) (zh_82 (hf.w hW)).2 (by decide) (by omega) (by omega) (zdal_p dlC_M_here_66 (i := 13) rfl) (fun v1_ hv1_ hv1_a hv1_b => ?_)
    refine zw_goto (pc := 24) (tgt := 28) (by decide) (zdal_p dlC_M_here_66 (i := 14) rfl) ?_
    exact zr_iret (pc := 28) (ty := .int) rfl rfl ⟨by omega, by omega⟩ hf ⟨(show ((v1_ = -1 ∧ ze Mz 81 2 ≤ ze Mz 81 3 + a0_) ∨ ze Mz 81 3 + a0_ < ze Mz 81 2) by omega), (show v1_ = zhr Mz a0_ by unfold zhr; split <;> omega)⟩ (zdal_p dlC_M_here_66 (i := 16) rfl)
set_option maxHeartbeats 4000000 in
theorem c_M_isLetter (l : Launch) (Mz : zMem) (hW : zMt Mz) (a0_ : Int) (ha0_a : -2147483648 ≤ a0_) (ha0_b : a0_ < 2147483648) : zC l m_M_isLetter 0 0 [.int (Int32.ofInt a0_)] Mz (zpI [] [] Mz (fun v N => (((v = 1 ∧ 97 ≤ a0_ ∧ a0_ ≤ 122) ∨ (v = 0 ∧ (a0_ < 97 ∨ 122 < a0_)))))) := by
  refine zC_of (L0 := [some (.int (Int32.ofInt a0_))]) md_M_isLetter (Nat.le_of_ble_eq_true rfl) rfl ?_ zQ0
  have hf : zFr [] [] Mz Mz := zFr.rf
  refine zw_iload_n (pc := 0) (n := 0) (x := Int32.ofInt a0_) rfl (zdal_p dlC_M_isLetter_67 (i := 0) rfl) ?_
  refine zw_bipush (pc := 1) (v := Int32.ofInt 97) (by decide) (zdal_p dlC_M_isLetter_67 (i := 1) rfl) ?_
  refine zr_icmp_lt (pc := 3) (tgt := 16) ⟨by omega, by omega⟩ ⟨by omega, by omega⟩ (by decide) (zdal_p dlC_M_isLetter_67 (i := 2) rfl) (fun hc_3 => ?_) (fun hc_3 => ?_)
  · skip
    refine zw_iconst (pc := 16) (v := Int32.ofInt 0) (by decide) (zdal_p dlC_M_isLetter_67 (i := 8) rfl) ?_
    exact zr_iret (pc := 17) (ty := .boolean) rfl (z_narB (by omega)) ⟨by omega, by omega⟩ hf (show ((0 = 1 ∧ 97 ≤ a0_ ∧ a0_ ≤ 122) ∨ (0 = 0 ∧ (a0_ < 97 ∨ 122 < a0_))) from Or.inr (⟨(show 0 = 0 by omega), (show (a0_ < 97 ∨ 122 < a0_) by omega)⟩)) (zdal_p dlC_M_isLetter_67 (i := 9) rfl)
  · skip
    refine zw_iload_n (pc := 6) (n := 0) (x := Int32.ofInt a0_) rfl (zdal_p dlC_M_isLetter_67 (i := 3) rfl) ?_
    refine zw_bipush (pc := 7) (v := Int32.ofInt 122) (by decide) (zdal_p dlC_M_isLetter_67 (i := 4) rfl) ?_
    refine zr_icmp_gt (pc := 9) (tgt := 16) ⟨by omega, by omega⟩ ⟨by omega, by omega⟩ (by decide) (zdal_p dlC_M_isLetter_67 (i := 5) rfl) (fun hc_9 => ?_) (fun hc_9 => ?_)
    · skip
      refine zw_iconst (pc := 16) (v := Int32.ofInt 0) (by decide) (zdal_p dlC_M_isLetter_67 (i := 8) rfl) ?_
      exact zr_iret (pc := 17) (ty := .boolean) rfl (z_narB (by omega)) ⟨by omega, by omega⟩ hf (show ((0 = 1 ∧ 97 ≤ a0_ ∧ a0_ ≤ 122) ∨ (0 = 0 ∧ (a0_ < 97 ∨ 122 < a0_))) from Or.inr (⟨(show 0 = 0 by omega), (show (a0_ < 97 ∨ 122 < a0_) by omega)⟩)) (zdal_p dlC_M_isLetter_67 (i := 9) rfl)
    · skip
      refine zw_iconst (pc := 12) (v := Int32.ofInt 1) (by decide) (zdal_p dlC_M_isLetter_67 (i := 6) rfl) ?_
      refine zw_goto (pc := 13) (tgt := 17) (by decide) (zdal_p dlC_M_isLetter_67 (i := 7) rfl) ?_
      exact zr_iret (pc := 17) (ty := .boolean) rfl (z_narB (by omega)) ⟨by omega, by omega⟩ hf (show ((1 = 1 ∧ 97 ≤ a0_ ∧ a0_ ≤ 122) ∨ (1 = 0 ∧ (a0_ < 97 ∨ 122 < a0_))) from Or.inl (⟨(show 1 = 1 by omega), (show 97 ≤ a0_ by omega), (show a0_ ≤ 122 by omega)⟩)) (zdal_p dlC_M_isLetter_67 (i := 9) rfl)
set_option maxHeartbeats 4000000 in
theorem c_M_isDigit (l : Launch) (Mz : zMem) (hW : zMt Mz) (a0_ : Int) (ha0_a : -2147483648 ≤ a0_) (ha0_b : a0_ < 2147483648) : zC l m_M_isDigit 0 0 [.int (Int32.ofInt a0_)] Mz (zpI [] [] Mz (fun v N => (((v = 1 ∧ 48 ≤ a0_ ∧ a0_ ≤ 57) ∨ (v = 0 ∧ (a0_ < 48 ∨ 57 < a0_)))))) := by
  refine zC_of (L0 := [some (.int (Int32.ofInt a0_))]) md_M_isDigit (Nat.le_of_ble_eq_true rfl) rfl ?_ zQ0
  have hf : zFr [] [] Mz Mz := zFr.rf
  refine zw_iload_n (pc := 0) (n := 0) (x := Int32.ofInt a0_) rfl (zdal_p dlC_M_isDigit_68 (i := 0) rfl) ?_
  refine zw_bipush (pc := 1) (v := Int32.ofInt 48) (by decide) (zdal_p dlC_M_isDigit_68 (i := 1) rfl) ?_
  refine zr_icmp_lt (pc := 3) (tgt := 16) ⟨by omega, by omega⟩ ⟨by omega, by omega⟩ (by decide) (zdal_p dlC_M_isDigit_68 (i := 2) rfl) (fun hc_3 => ?_) (fun hc_3 => ?_)
  · skip
    refine zw_iconst (pc := 16) (v := Int32.ofInt 0) (by decide) (zdal_p dlC_M_isDigit_68 (i := 8) rfl) ?_
    exact zr_iret (pc := 17) (ty := .boolean) rfl (z_narB (by omega)) ⟨by omega, by omega⟩ hf (show ((0 = 1 ∧ 48 ≤ a0_ ∧ a0_ ≤ 57) ∨ (0 = 0 ∧ (a0_ < 48 ∨ 57 < a0_))) from Or.inr (⟨(show 0 = 0 by omega), (show (a0_ < 48 ∨ 57 < a0_) by omega)⟩)) (zdal_p dlC_M_isDigit_68 (i := 9) rfl)
  · skip
    refine zw_iload_n (pc := 6) (n := 0) (x := Int32.ofInt a0_) rfl (zdal_p dlC_M_isDigit_68 (i := 3) rfl) ?_
    refine zw_bipush (pc := 7) (v := Int32.ofInt 57) (by decide) (zdal_p dlC_M_isDigit_68 (i := 4) rfl) ?_
    refine zr_icmp_gt (pc := 9) (tgt := 16) ⟨by omega, by omega⟩ ⟨by omega, by omega⟩ (by decide) (zdal_p dlC_M_isDigit_68 (i := 5) rfl) (fun hc_9 => ?_) (fun hc_9 => ?_)
    · skip
      refine zw_iconst (pc := 16) (v := Int32.ofInt 0) (by decide) (zdal_p dlC_M_isDigit_68 (i := 8) rfl) ?_
      exact zr_iret (pc := 17) (ty := .boolean) rfl (z_narB (by omega)) ⟨by omega, by omega⟩ hf (show ((0 = 1 ∧ 48 ≤ a0_ ∧ a0_ ≤ 57) ∨ (0 = 0 ∧ (a0_ < 48 ∨ 57 < a0_))) from Or.inr (⟨(show 0 = 0 by omega), (show (a0_ < 48 ∨ 57 < a0_) by omega)⟩)) (zdal_p dlC_M_isDigit_68 (i := 9) rfl)
    · skip
      refine zw_iconst (pc := 12) (v := Int32.ofInt 1) (by decide) (zdal_p dlC_M_isDigit_68 (i := 6) rfl) ?_
      refine zw_goto (pc := 13) (tgt := 17) (by decide) (zdal_p dlC_M_isDigit_68 (i := 7) rfl) ?_
      exact zr_iret (pc := 17) (ty := .boolean) rfl (z_narB (by omega)) ⟨by omega, by omega⟩ hf (show ((1 = 1 ∧ 48 ≤ a0_ ∧ a0_ ≤ 57) ∨ (1 = 0 ∧ (a0_ < 48 ∨ 57 < a0_))) from Or.inl (⟨(show 1 = 1 by omega), (show 48 ≤ a0_ by omega), (show a0_ ≤ 57 by omega)⟩)) (zdal_p dlC_M_isDigit_68 (i := 9) rfl)
set_option maxHeartbeats 4000000 in
theorem c_M_isGood (l : Launch) (Mz : zMem) (hW : zMt Mz) : zC l m_M_isGood 0 0 [.ref 81] Mz (zpI [] [] Mz (fun v N => (((v = 1 ∧ ze Mz 81 7 = 0) ∨ (v = 0 ∧ ze Mz 81 7 ≠ 0))))) := by
  refine zC_of (L0 := [some (.ref 81)]) md_M_isGood (Nat.le_of_ble_eq_true rfl) rfl ?_ zQ0
  have hf : zFr [] [] Mz Mz := zFr.rf
  have r_7 := ze_r Mz 81 7
  refine zw_aload_n (pc := 0) (n := 0) (x := 81) rfl (zdal_p dlC_M_isGood_77 (i := 0) rfl) ?_
  refine zr_getI0 hf hW (pc := 1) (by decide) f_M_172 rfl (zdal_p dlC_M_isGood_77 (i := 1) rfl) ?_
  refine zr_if_ne (pc := 4) (tgt := 11) ⟨by omega, by omega⟩ (by decide) (zdal_p dlC_M_isGood_77 (i := 2) rfl) (fun hc_4 => ?_) (fun hc_4 => ?_)
  · skip
    refine zw_iconst (pc := 11) (v := Int32.ofInt 0) (by decide) (zdal_p dlC_M_isGood_77 (i := 5) rfl) ?_
    exact zr_iret (pc := 12) (ty := .boolean) rfl (z_narB (by omega)) ⟨by omega, by omega⟩ hf (show ((0 = 1 ∧ ze Mz 81 7 = 0) ∨ (0 = 0 ∧ ze Mz 81 7 ≠ 0)) from Or.inr (⟨(show 0 = 0 by omega), (show ze Mz 81 7 ≠ 0 by omega)⟩)) (zdal_p dlC_M_isGood_77 (i := 6) rfl)
  · skip
    refine zw_iconst (pc := 7) (v := Int32.ofInt 1) (by decide) (zdal_p dlC_M_isGood_77 (i := 3) rfl) ?_
    refine zw_goto (pc := 8) (tgt := 12) (by decide) (zdal_p dlC_M_isGood_77 (i := 4) rfl) ?_
    exact zr_iret (pc := 12) (ty := .boolean) rfl (z_narB (by omega)) ⟨by omega, by omega⟩ hf (show ((1 = 1 ∧ ze Mz 81 7 = 0) ∨ (1 = 0 ∧ ze Mz 81 7 ≠ 0)) from Or.inl (⟨(show 1 = 1 by omega), (show ze Mz 81 7 = 0 by omega)⟩)) (zdal_p dlC_M_isGood_77 (i := 6) rfl)
theorem zn_bv (m : Nat) (h : m < 2147483648) : (Int32.ofInt (m : Int)).toBitVec.toNat = m := by
  rw [Int32.toBitVec_ofInt, BitVec.ofInt_natCast, BitVec.toNat_ofNat]
  omega
theorem zn_ti {x : Int32} {m : Nat} (h : x.toBitVec.toNat = m) (hm : m < 2147483648) : x.toInt = (m : Int) := by
  show x.toBitVec.toInt = _
  rw [BitVec.toInt_eq_toNat_of_lt (by rw [h]; omega), h]
theorem zor_n (m n : Nat) (hm : m < 2147483648) (hn : n < 2147483648) : zor m n = ((m ||| n : Nat) : Int) := by
  refine zn_ti ?_ (Nat.or_lt_two_pow (n := 31) hm hn)
  rw [Int32.toBitVec_or, BitVec.toNat_or, zn_bv m hm, zn_bv n hn]
theorem zand_n (m n : Nat) (hm : m < 2147483648) (hn : n < 2147483648) : zand m n = ((m &&& n : Nat) : Int) := by
  refine zn_ti ?_ (Nat.lt_of_le_of_lt Nat.and_le_left hm)
  rw [Int32.toBitVec_and, BitVec.toNat_and, zn_bv m hm, zn_bv n hn]
theorem zsh_k : ∀ k : Fin 32, ((Int32.ofInt ((k.val : Nat) : Int)) &&& 31).toBitVec.smod 32 = BitVec.ofNat 32 k.val := by decide +kernel
theorem zshl1_k : ∀ k : Fin 31, zshl 1 ((k.val : Nat) : Int) = ((2 ^ k.val : Nat) : Int) := by decide +kernel
theorem zshl1 (k : Nat) (h : k < 31) : zshl 1 k = ((2 ^ k : Nat) : Int) := zshl1_k ⟨k, h⟩
theorem zshr_n (m k : Nat) (hm : m < 2147483648) (hk : k < 32) : zshr m k = ((m >>> k : Nat) : Int) := by
  refine zn_ti ?_ (Nat.lt_of_le_of_lt (Nat.shiftRight_le m k) hm)
  show (BitVec.sshiftRight' (Int32.ofInt (m : Int)).toBitVec (((Int32.ofInt ((k : Nat) : Int)) &&& 31).toBitVec.smod 32)).toNat = _
  rw [zsh_k ⟨k, hk⟩, BitVec.sshiftRight_eq', BitVec.sshiftRight_eq_of_msb_false, BitVec.toNat_ushiftRight, zn_bv m hm, BitVec.toNat_ofNat, Nat.mod_eq_of_lt (by show k < 2 ^ 32; omega)]
  rw [BitVec.msb_eq_false_iff_two_mul_lt, zn_bv m hm]
  omega
def zbt (x k : Int) : Prop := x.toNat.testBit k.toNat = true
theorem zbit {x k : Int} (h0 : 0 ≤ x) (h1 : x < 2147483648) (k0 : 0 ≤ k) (k1 : k < 32) : (zbt x k ∧ zand (zshr x k) 1 = 1) ∨ (¬ zbt x k ∧ zand (zshr x k) 1 = 0) := by
  obtain ⟨m, rfl⟩ := Int.eq_ofNat_of_zero_le h0
  obtain ⟨n, rfl⟩ := Int.eq_ofNat_of_zero_le k0
  have e1 := zshr_n m n (by omega) (by omega)
  have e2 := zand_n (m >>> n) 1 (Nat.lt_of_le_of_lt (Nat.shiftRight_le m n) (by omega)) (by omega)
  rw [e1]
  unfold zbt
  rw [Int.toNat_natCast, Int.toNat_natCast, Nat.testBit_eq_decide_div_mod_eq, ← Nat.shiftRight_eq_div_pow]
  have e3 : ((1 : Nat) : Int) = 1 := rfl
  rw [e3] at e2
  rw [e2, Nat.and_one_is_mod]
  rcases Nat.mod_two_eq_zero_or_one (m >>> n) with h | h
  · exact Or.inr ⟨by rw [h]; decide, by rw [h]; rfl⟩
  · exact Or.inl ⟨by rw [h]; decide, by rw [h]; rfl⟩
theorem zorb {x k : Int} (h0 : 0 ≤ x) (h1 : x < 2147483648) (k0 : 0 ≤ k) (k1 : k < 31) : zor x (zshl 1 k) = ((x.toNat ||| 2 ^ k.toNat : Nat) : Int) := by
  obtain ⟨m, rfl⟩ := Int.eq_ofNat_of_zero_le h0
  obtain ⟨n, rfl⟩ := Int.eq_ofNat_of_zero_le k0
  rw [zshl1 n (by omega), zor_n m (2 ^ n) (by omega) (by
    have : 2 ^ n ≤ 2 ^ 30 := Nat.pow_le_pow_right (by omega) (by omega)
    omega)]
  rfl
abbrev zGT : Type := Nat × Nat × List Nat × List Nat × List (List Nat)
def gN (T : zGT) : Nat := T.1
def gS (T : zGT) : List Nat := T.2.2.1
def gF (T : zGT) : List Nat := T.2.2.2.1
def gm (T : zGT) (a b : Nat) : Nat := (T.2.1 >>> (5 * (24 * a + b))) % 32
def gup {α : Type} (f : Nat → α → α) (a : α) : Nat → α
  | 0 => a
  | k + 1 => f k (gup f a k)
def gel (n S : Nat) : List Nat := (List.range n).filter (fun k => S.testBit k)
def gi (T : zGT) (a : Nat) : Nat := gup (fun b r => if gm T a b = 0 then b else r) 0 (gN T)
def gtr (T : zGT) (S g : Nat) : Nat := gup (fun x r => if S.testBit x then r ||| 2 ^ gm T (gm T (gi T g) x) g else r) 0 (gN T)
def glt (T : zGT) (S : Nat) : Nat := gup (fun g r => if gtr T S g < r then gtr T S g else r) S (gN T)
def gcos (T : zGT) (S x : Nat) : Nat := gup (fun h r => if S.testBit h && decide (gm T h x < r) then gm T h x else r) x (gN T)
def gfx (T : zGT) (F H x : Nat) : Bool := (gcos T F x == x) && (gel (gN T) H).all (fun k => gcos T F (gm T x k) == x)
def gmk (T : zGT) (F H : Nat) : Nat := gup (fun x r => r + (gfx T F H x).toNat) 0 (gN T)
def gCl (T : zGT) (C : Nat) : Prop := C.testBit 0 = true ∧ ∀ a b, a < gN T → b < gN T → C.testBit a = true → C.testBit b = true → C.testBit (gm T a b) = true
def gSb (S R : Nat) : Prop := ∀ k, S.testBit k = true → R.testBit k = true
def gLC (T : zGT) (X R : Nat) : Prop := R < 2 ^ gN T ∧ gSb X R ∧ gCl T R ∧ ∀ C, gCl T C → gSb X C → gSb R C
theorem gSb.rf (S : Nat) : gSb S S := fun _ h => h
theorem gSb.tr {S R Q : Nat} (h : gSb S R) (h2 : gSb R Q) : gSb S Q := fun k hk => h2 k (h k hk)
theorem gSb.le {S R : Nat} (h : gSb S R) : S ≤ R := by
  have e : S ||| R = R := Nat.eq_of_testBit_eq fun i => by
    rw [Nat.testBit_or]
    cases hs : S.testBit i with
    | false => rfl
    | true => rw [h i hs]; rfl
  rw [← e]
  exact Nat.left_le_or
theorem gSb.an {S R : Nat} (h : gSb S R) (h2 : gSb R S) : S = R := Nat.le_antisymm h.le h2.le
theorem gSb.or {S R Q : Nat} (h : gSb S Q) (h2 : gSb R Q) : gSb (S ||| R) Q := by
  intro k hk
  rw [Nat.testBit_or, Bool.or_eq_true] at hk
  exact hk.elim (h k) (h2 k)
theorem gSb.ol (S R : Nat) : gSb S (S ||| R) := fun k hk => by rw [Nat.testBit_or, hk]; rfl
theorem gSb.orr (S R : Nat) : gSb R (S ||| R) := fun k hk => by rw [Nat.testBit_or, hk, Bool.or_true]
theorem gSb.p2 {n R : Nat} (h : R.testBit n = true) : gSb (2 ^ n) R := by
  intro k hk
  rw [Nat.testBit_two_pow, decide_eq_true_eq] at hk
  rw [← hk]; exact h
theorem gbit_lt {S n k : Nat} (h : S < 2 ^ n) (hk : S.testBit k = true) : k < n := by
  rcases Nat.lt_or_ge k n with h1 | h1
  · exact h1
  · rw [Nat.testBit_lt_two_pow (Nat.lt_of_lt_of_le h (Nat.pow_le_pow_right (by omega) h1))] at hk
    cases hk
theorem gLC.uq {T : zGT} {X R R' : Nat} (h : gLC T X R) (h' : gLC T X R') : R = R' := gSb.an (h.2.2.2 R' h'.2.2.1 h'.2.1) (h'.2.2.2 R h.2.2.1 h.2.1)
theorem gel_m {n S k : Nat} : k ∈ gel n S ↔ k < n ∧ S.testBit k = true := by
  unfold gel
  rw [List.mem_filter, List.mem_range]
def gSub (T : zGT) (S : Nat) : Prop := S ∈ gS T ∧ S < 2 ^ gN T ∧ gCl T S
theorem gcomp {T : zGT} {J : List Nat} (h1 : 1 ∈ J) (hJ : ∀ S ∈ J, ∀ g, g < gN T → ¬ S.testBit g = true → ∃ R ∈ J, gLC T (S ||| 2 ^ g) R) {C : Nat} (hn : C < 2 ^ gN T) (hC : gCl T C) : C ∈ J := by
  have key : ∀ (d S : Nat), S ∈ J → gSb S C → C - S = d → C ∈ J := by
    intro d
    induction d using Nat.strongRecOn with
    | ind d ih =>
      intro S hS hs hd
      by_cases he : gSb C S
      · rw [hs.an he] at hS
        exact hS
      · have : ∃ g, C.testBit g = true ∧ ¬ S.testBit g = true := by
          refine Classical.byContradiction fun hx => he fun k hk => ?_
          refine Classical.byContradiction fun hy => hx ⟨k, hk, hy⟩
        obtain ⟨g, hg1, hg2⟩ := this
        obtain ⟨R, hR, hLC⟩ := hJ S hS g (gbit_lt hn hg1) hg2
        have hRC : gSb R C := hLC.2.2.2 C hC (hs.or (gSb.p2 hg1))
        have hSR : gSb S R := (gSb.ol S (2 ^ g)).tr hLC.2.1
        have hne : S ≠ R := by
          rintro rfl
          exact hg2 (hLC.2.1 g (by rw [Nat.testBit_or, Nat.testBit_two_pow_self, Bool.or_true]))
        have l1 := hSR.le
        have l2 := hRC.le
        exact ih (C - R) (by omega) R hR hRC rfl
  refine key (C - 1) 1 h1 (fun k hk => ?_) rfl
  have : k = 0 := Nat.testBit_one_eq_true_iff_self_eq_zero.mp hk
  rw [this]; exact hC.1
theorem gCl.and {T : zGT} {S R : Nat} (h : gCl T S) (h2 : gCl T R) : gCl T (S &&& R) := by
  refine ⟨by rw [Nat.testBit_and, h.1, h2.1]; rfl, fun a b ha hb h3 h4 => ?_⟩
  rw [Nat.testBit_and, Bool.and_eq_true] at h3 h4 ⊢
  exact ⟨h.2 a b ha hb h3.1 h4.1, h2.2 a b ha hb h3.2 h4.2⟩
def gIn (T : zGT) (x : Int) : Prop := 0 ≤ x ∧ x.toNat < 2 ^ gN T
def zclA (T : zGT) (x s w : Int) : Prop := (0 ≤ w ∧ w ≤ s) ∧ s.toNat < 2 ^ gN T ∧ gSb x.toNat s.toNat ∧ s.toNat.testBit 0 = true ∧ (∀ C, gCl T C → gSb x.toNat C → gSb s.toNat C) ∧ ∀ a b, a < gN T → b < gN T → w.toNat.testBit a = true → w.toNat.testBit b = true → s.toNat.testBit (gm T a b) = true
def zclB (T : zGT) (x w s a : Int) : Prop := (0 ≤ w ∧ 0 ≤ s) ∧ s.toNat < 2 ^ gN T ∧ gSb x.toNat s.toNat ∧ gSb w.toNat s.toNat ∧ s.toNat.testBit 0 = true ∧ (∀ C, gCl T C → gSb x.toNat C → gSb s.toNat C) ∧ ∀ a' b, a' < a.toNat → a' < gN T → b < gN T → w.toNat.testBit a' = true → w.toNat.testBit b = true → s.toNat.testBit (gm T a' b) = true
def zclC (T : zGT) (x w s a b : Int) : Prop := zclB T x w s a ∧ (0 ≤ a ∧ 0 ≤ b) ∧ ∀ b', b' < b.toNat → b' < gN T → w.toNat.testBit a.toNat = true → w.toNat.testBit b' = true → s.toNat.testBit (gm T a.toNat b') = true
theorem g24 {T : zGT} (h : gN T ≤ 24) {x : Int} (h0 : 0 ≤ x) (h1 : x.toNat < 2 ^ gN T) : x < 16777216 := by
  have h2 : 2 ^ gN T ≤ 2 ^ 24 := Nat.pow_le_pow_right (by omega) h
  have h3 : (2 : Nat) ^ 24 = 16777216 := rfl
  omega
theorem zclA_0 {T : zGT} (h1 : 1 ≤ gN T) (h24 : gN T ≤ 24) {x : Int} (hx : gIn T x) : zclA T x (zor x 1) 0 := by
  obtain ⟨h0, hx⟩ := hx
  have h2 := g24 h24 h0 hx
  obtain ⟨m, rfl⟩ := Int.eq_ofNat_of_zero_le h0
  have e : zor (m : Int) 1 = ((m ||| 1 : Nat) : Int) := zor_n m 1 (by omega) (by omega)
  rw [e]
  refine ⟨⟨by omega, by omega⟩, ?_, ?_, ?_, ?_, ?_⟩
  · exact Nat.or_lt_two_pow hx (Nat.one_lt_two_pow (by omega))
  · exact gSb.ol _ _
  · show (m ||| 1).testBit 0 = true
    rw [Nat.testBit_or, Nat.testBit_one_eq_true_iff_self_eq_zero.mpr rfl, Bool.or_true]
  · intro C hC hs
    refine gSb.or hs (fun k hk => ?_)
    rw [Nat.testBit_one_eq_true_iff_self_eq_zero.mp hk]
    exact hC.1
  · intro a b _ _ h
    exact absurd h (by rw [Int.toNat_zero, Nat.zero_testBit]; decide)
theorem zclA_l {T : zGT} (h24 : gN T ≤ 24) {x s w : Int} (h : zclA T x s w) : (0 ≤ w ∧ w ≤ s) ∧ s < 16777216 := ⟨h.1, g24 h24 (Int.le_trans h.1.1 h.1.2) h.2.1⟩
theorem zclB_0 {T : zGT} {x s w : Int} (h : zclA T x s w) : zclB T x s s 0 := ⟨⟨Int.le_trans h.1.1 h.1.2, Int.le_trans h.1.1 h.1.2⟩, h.2.1, h.2.2.1, gSb.rf _, h.2.2.2.1, h.2.2.2.2.1, fun a' b h0 => absurd h0 (by omega)⟩
theorem zclB_l {T : zGT} (h24 : gN T ≤ 24) {x w s a : Int} (h : zclB T x w s a) : (0 ≤ w ∧ w ≤ s) ∧ s < 16777216 := by
  have h2 := h.2.2.2.1.le
  have h3 := g24 h24 h.1.2 h.2.1
  have := h.1
  omega
theorem zclC_0 {T : zGT} {x w s a : Int} (h : zclB T x w s a) (ha : 0 ≤ a) : zclC T x w s a 0 := ⟨h, ⟨ha, by omega⟩, fun b' h0 => absurd h0 (by omega)⟩
theorem zclC_s1 {T : zGT} {x w s a b : Int} (h : zclC T x w s a b) (hb : ¬ zbt s b) : zclC T x w s a (b + 1) := by
  obtain ⟨hB, ⟨ha, hb0⟩, hC⟩ := h
  refine ⟨hB, ⟨ha, by omega⟩, fun b' h1 h2 h3 h4 => ?_⟩
  by_cases e : b' = b.toNat
  · subst e
    exact absurd (hB.2.2.2.1 _ h4) hb
  · exact hC b' (by omega) h2 h3 h4
theorem zclC_s2 {T : zGT} (h24 : gN T ≤ 24) (hm : ∀ a b, a < gN T → b < gN T → gm T a b < gN T) {x w s a b v : Int} (h : zclC T x w s a b) (ha : zbt s a) (hb : zbt s b) (han : a.toNat < gN T) (hbn : b.toNat < gN T) (hv : v = ((gm T a.toNat b.toNat : Nat) : Int)) : zclC T x w (zor s (zshl 1 v)) a (b + 1) := by
  obtain ⟨hB, ⟨ha0, hb0⟩, hC⟩ := h
  have hl := zclB_l h24 hB
  have hg := hm _ _ han hbn
  have e : zor s (zshl 1 v) = ((s.toNat ||| 2 ^ gm T a.toNat b.toNat : Nat) : Int) := by
    rw [zorb (by omega) (by omega) (by omega) (by omega), hv]
    rfl
  have en : (zor s (zshl 1 v)).toNat = s.toNat ||| 2 ^ gm T a.toNat b.toNat := by rw [e]; rfl
  have hsub : gSb s.toNat (zor s (zshl 1 v)).toNat := by rw [en]; exact gSb.ol _ _
  obtain ⟨⟨b1, b2⟩, b3, b4, b5, b6, b7, b8⟩ := hB
  refine ⟨⟨⟨b1, by omega⟩, ?_, b4.tr hsub, b5.tr hsub, hsub _ b6, ?_, fun a' b h1 h2 h3 h4 h5 => hsub _ (b8 a' b h1 h2 h3 h4 h5)⟩, ⟨ha0, by omega⟩, fun b' h1 h2 h3 h4 => ?_⟩
  · rw [en]
    exact Nat.or_lt_two_pow b3 (Nat.pow_lt_pow_right (by omega) hg)
  · intro C hCl hX
    rw [en]
    exact gSb.or (b7 C hCl hX) (gSb.p2 (hCl.2 _ _ han hbn (b7 C hCl hX _ ha) (b7 C hCl hX _ hb)))
  · by_cases e2 : b' = b.toNat
    · subst e2
      rw [en]
      exact gSb.orr _ _ _ Nat.testBit_two_pow_self
    · exact hsub _ (hC b' (by omega) h2 h3 h4)
theorem zclC_e1 {T : zGT} {x w s a b : Int} (h : zclC T x w s a b) (hb : (gN T : Int) ≤ b) : zclB T x w s (a + 1) := by
  obtain ⟨⟨b1, b3, b4, b5, b6, b7, b8⟩, ⟨ha0, hb0⟩, hC⟩ := h
  refine ⟨b1, b3, b4, b5, b6, b7, fun a' b' h1 h2 h3 h4 h5 => ?_⟩
  by_cases e : a' = a.toNat
  · subst e
    exact hC b' (by omega) h3 h4 h5
  · exact b8 a' b' (by omega) h2 h3 h4 h5
theorem zclC_e2 {T : zGT} {x w s a b : Int} (h : zclC T x w s a b) (ha : ¬ zbt s a) : zclB T x w s (a + 1) := by
  obtain ⟨⟨b1, b3, b4, b5, b6, b7, b8⟩, ⟨ha0, hb0⟩, hC⟩ := h
  refine ⟨b1, b3, b4, b5, b6, b7, fun a' b' h1 h2 h3 h4 h5 => ?_⟩
  by_cases e : a' = a.toNat
  · subst e
    exact absurd (b5 _ h4) ha
  · exact b8 a' b' (by omega) h2 h3 h4 h5
theorem zclB_e {T : zGT} {x w s a : Int} (h : zclB T x w s a) (ha : (gN T : Int) ≤ a) : zclA T x s w := by
  have h9 := h.2.2.2.1.le
  obtain ⟨b1, b3, b4, b5, b6, b7, b8⟩ := h
  exact ⟨⟨b1.1, by omega⟩, b3, b4, b6, b7, fun a' b' h2 h3 h4 h5 => b8 a' b' (by omega) h2 h3 h4 h5⟩
theorem zclA_e {T : zGT} {x s w : Int} (h : zclA T x s w) (e : s = w) : gLC T x.toNat s.toNat := by
  obtain ⟨b1, b2, b3, b4, b5, b6⟩ := h
  subst e
  exact ⟨b2, b3, ⟨b4, b6⟩, b5⟩
def zTab (T : zGT) (M : zMem) : Prop := ze M 81 20 = (gN T : Int) ∧ (∀ a b, a < gN T → b < gN T → ze M 87 (24 * a + b) = ((gm T a b : Nat) : Int)) ∧ ∀ a, a < gN T → ze M 88 a = ((gi T a : Nat) : Int)
theorem zTab.fr {T : zGT} {S C : List Nat} {M N : zMem} (hf : zFr S C M N) (h : zTab T M) (hs : 20 ∉ S) (hc : 87 ∉ C ∧ 88 ∉ C) : zTab T N := by
  unfold zTab
  rw [hf.e hs]
  refine ⟨h.1, fun a b ha hb => ?_, fun a ha => ?_⟩
  · rw [hf.ie (by decide) hc.1]; exact h.2.1 a b ha hb
  · rw [hf.ie (by decide) hc.2]; exact h.2.2 a ha
theorem zTab.m {T : zGT} {M : zMem} (h : zTab T M) {a b : Int} (a0 : 0 ≤ a) (a1 : a < ze M 81 20) (b0 : 0 ≤ b) (b1 : b < ze M 81 20) : ze M 87 (24 * a + b).toNat = ((gm T a.toNat b.toNat : Nat) : Int) := by
  have h1 := h.1
  rw [show (24 * a + b).toNat = 24 * a.toNat + b.toNat by omega]
  exact h.2.1 _ _ (by omega) (by omega)
theorem zTab.u {T : zGT} {M : zMem} (h : zTab T M) {a : Int} (a0 : 0 ≤ a) (a1 : a < ze M 81 20) : ze M 88 a.toNat = ((gi T a.toNat : Nat) : Int) := by
  have h1 := h.1
  exact h.2.2 _ (by omega)
def gGd (T : zGT) : Prop := 1 ≤ gN T ∧ gN T ≤ 24 ∧ (∀ a, a < gN T → gi T a < gN T) ∧ ∀ a b, a < gN T → b < gN T → gm T a b < gN T
def zcb (x : Int) : Nat → Int
  | 0 => 0
  | k + 1 => zcb x k + zand (zshr x k) 1
theorem zcb_s (x k : Int) (h : 0 ≤ k) : zcb x (k + 1).toNat = zcb x k.toNat + zand (zshr x k) 1 := by
  obtain ⟨n, rfl⟩ := Int.eq_ofNat_of_zero_le h
  rw [show ((n : Int) + 1).toNat = n + 1 by omega]
  rfl
set_option maxHeartbeats 4000000 in
theorem c_M_holds (l : Launch) (Mz : zMem) (hW : zMt Mz) (a0_ : Int) (ha0_a : -2147483648 ≤ a0_) (ha0_b : a0_ < 2147483648) (a1_ : Int) (ha1_a : -2147483648 ≤ a1_) (ha1_b : a1_ < 2147483648) (p0_ : 0 ≤ a0_) (p1_ : 0 ≤ a1_) (p2_ : a1_ < 32) : zC l m_M_holds 0 0 [.int (Int32.ofInt a0_), .int (Int32.ofInt a1_)] Mz (zpI [] [] Mz (fun v N => (((v = 1 ∧ zbt a0_ a1_) ∨ (v = 0 ∧ ¬ zbt a0_ a1_))))) := by
  refine zC_of (L0 := [some (.int (Int32.ofInt a0_)), some (.int (Int32.ofInt a1_))]) md_M_holds (Nat.le_of_ble_eq_true rfl) rfl ?_ zQ0
  have hf : zFr [] [] Mz Mz := zFr.rf
  refine zw_iload_n (pc := 0) (n := 0) (x := Int32.ofInt a0_) rfl (zdal_p dlC_M_holds_29 (i := 0) rfl) ?_
  refine zw_iload_n (pc := 1) (n := 1) (x := Int32.ofInt a1_) rfl (zdal_p dlC_M_holds_29 (i := 1) rfl) ?_
  refine zr_ishr (pc := 2) (zdal_p dlC_M_holds_29 (i := 2) rfl) ?_
  have hr1_ := zshr_r a0_ a1_
  refine zw_iconst (pc := 3) (v := Int32.ofInt 1) (by decide) (zdal_p dlC_M_holds_29 (i := 3) rfl) ?_
  refine zr_iand (pc := 4) (zdal_p dlC_M_holds_29 (i := 4) rfl) ?_
  have hr2_ := zand_r (zshr a0_ a1_) 1
  have hz := zbit (x := a0_) (k := a1_) (by omega) (by omega) (by omega) (by omega)
  refine zw_iconst (pc := 5) (v := Int32.ofInt 1) (by decide) (zdal_p dlC_M_holds_29 (i := 5) rfl) ?_
  refine zr_icmp_ne (pc := 6) (tgt := 13) ⟨(by omega), (by omega)⟩ ⟨(by decide), (by decide)⟩ (by decide) (zdal_p dlC_M_holds_29 (i := 6) rfl) (fun hc_6 => ?_) (fun hc_6 => ?_)
  · skip
    refine zw_iconst (pc := 13) (v := Int32.ofInt 0) (by decide) (zdal_p dlC_M_holds_29 (i := 9) rfl) ?_
    exact zr_iret (pc := 14) (ty := .boolean) rfl (z_narB (by omega)) ⟨by omega, by omega⟩ hf (show ((0 = 1 ∧ zbt a0_ a1_) ∨ (0 = 0 ∧ ¬ zbt a0_ a1_)) from Or.inr (⟨(show 0 = 0 by first | omega | (rcases hz with ⟨_, h⟩ | ⟨h, _⟩ <;> first | exact h | omega)), (show ¬ zbt a0_ a1_ by first | omega | (rcases hz with ⟨_, h⟩ | ⟨h, _⟩ <;> first | exact h | omega))⟩)) (zdal_p dlC_M_holds_29 (i := 10) rfl)
  · skip
    refine zw_iconst (pc := 9) (v := Int32.ofInt 1) (by decide) (zdal_p dlC_M_holds_29 (i := 7) rfl) ?_
    refine zw_goto (pc := 10) (tgt := 14) (by decide) (zdal_p dlC_M_holds_29 (i := 8) rfl) ?_
    exact zr_iret (pc := 14) (ty := .boolean) rfl (z_narB (by omega)) ⟨by omega, by omega⟩ hf (show ((1 = 1 ∧ zbt a0_ a1_) ∨ (1 = 0 ∧ ¬ zbt a0_ a1_)) from Or.inl (⟨(show 1 = 1 by first | omega | (rcases hz with ⟨h, _⟩ | ⟨_, h⟩ <;> first | exact h | omega)), (show zbt a0_ a1_ by first | omega | (rcases hz with ⟨h, _⟩ | ⟨_, h⟩ <;> first | exact h | omega))⟩)) (zdal_p dlC_M_holds_29 (i := 10) rfl)
set_option maxHeartbeats 4000000 in
theorem c_M_by (l : Launch) (Mz : zMem) (hW : zMt Mz) (a0_ : Int) (ha0_a : -2147483648 ≤ a0_) (ha0_b : a0_ < 2147483648) (a1_ : Int) (ha1_a : -2147483648 ≤ a1_) (ha1_b : a1_ < 2147483648) (T : zGT) (hG : gGd T) (p0_ : zTab T Mz) (p1_ : 0 ≤ a0_) (p2_ : a0_ < ze Mz 81 20) (p3_ : 0 ≤ a1_) (p4_ : a1_ < ze Mz 81 20) : zC l m_M_by 0 0 [.ref 81, .int (Int32.ofInt a0_), .int (Int32.ofInt a1_)] Mz (zpI [] [] Mz (fun v N => v = ((gm T (a0_).toNat (a1_).toNat : Nat) : Int) ∧ 0 ≤ v ∧ v < ze Mz 81 20)) := by
  refine zC_of (L0 := [some (.ref 81), some (.int (Int32.ofInt a0_)), some (.int (Int32.ofInt a1_))]) md_M_by (Nat.le_of_ble_eq_true rfl) rfl ?_ zQ0
  have hf : zFr [] [] Mz Mz := zFr.rf
  have r_20 := ze_r Mz 81 20
  have gn := p0_.1
  have g1 := hG.1
  have g24 := hG.2.1
  refine zw_aload_n (pc := 0) (n := 0) (x := 81) rfl (zdal_p dlC_M_by_32 (i := 0) rfl) ?_
  refine zr_getF (r := 87) (hf.w hW) (pc := 1) f_M_32 rfl (zh_87 (hf.w hW)).1 (zdal_p dlC_M_by_32 (i := 1) rfl) ?_
  refine zw_bipush (pc := 4) (v := Int32.ofInt 24) (by decide) (zdal_p dlC_M_by_32 (i := 2) rfl) ?_
  refine zw_iload_n (pc := 6) (n := 1) (x := Int32.ofInt a0_) rfl (zdal_p dlC_M_by_32 (i := 3) rfl) ?_
  refine zr_imul (pc := 7) (zdal_p dlC_M_by_32 (i := 4) rfl) ?_
  refine zw_iload_n (pc := 8) (n := 2) (x := Int32.ofInt a1_) rfl (zdal_p dlC_M_by_32 (i := 5) rfl) ?_
  refine zr_iadd (pc := 9) (zdal_p dlC_M_by_32 (i := 6) rfl) ?_
  refine zr_ialdn (pc := 10) (zh_87 (hf.w hW)).2 (by decide) (by omega) (by omega) (zdal_p dlC_M_by_32 (i := 7) rfl) (fun v1_ hv1_ hv1_a hv1_b => ?_)
  have hv := p0_.m (a := a0_) (b := a1_) (by omega) (by omega) (by omega) (by omega)
  have hw := hG.2.2.2 (a0_).toNat (a1_).toNat (by omega) (by omega)
  exact zr_iret (pc := 11) (ty := .int) rfl rfl ⟨by omega, by omega⟩ hf ⟨(show v1_ = ((gm T (a0_).toNat (a1_).toNat : Nat) : Int) by rw [‹v1_ = ze Mz 87 _›]; exact hv), (show 0 ≤ v1_ by omega), (show v1_ < ze Mz 81 20 by omega)⟩ (zdal_p dlC_M_by_32 (i := 8) rfl)
set_option maxHeartbeats 4000000 in
theorem c_M_ones (l : Launch) (Mz : zMem) (hW : zMt Mz) (a0_ : Int) (ha0_a : -2147483648 ≤ a0_) (ha0_b : a0_ < 2147483648) (p0_ : 0 ≤ a0_) : zC l m_M_ones 0 0 [.int (Int32.ofInt a0_)] Mz (zpI [] [] Mz (fun v N => v = zcb a0_ 31 ∧ 0 ≤ v ∧ v ≤ 31)) := by
  refine zC_of (L0 := [some (.int (Int32.ofInt a0_)), none, none]) md_M_ones (Nat.le_of_ble_eq_true rfl) rfl ?_ zQ0
  have hf : zFr [] [] Mz Mz := zFr.rf
  refine zw_iconst (pc := 0) (v := Int32.ofInt 0) (by decide) (zdal_p dlC_M_ones_40 (i := 0) rfl) ?_
  refine zw_istore_n (pc := 1) (i := 1) (L2 := [some (.int (Int32.ofInt a0_)), some (.int (Int32.ofInt 0)), none]) rfl (by decide) rfl (zdal_p dlC_M_ones_40 (i := 1) rfl) ?_
  refine zw_iconst (pc := 2) (v := Int32.ofInt 0) (by decide) (zdal_p dlC_M_ones_40 (i := 2) rfl) ?_
  refine zw_istore_n (pc := 3) (i := 2) (L2 := [some (.int (Int32.ofInt a0_)), some (.int (Int32.ofInt 0)), some (.int (Int32.ofInt 0))]) rfl (by decide) rfl (zdal_p dlC_M_ones_40 (i := 3) rfl) ?_
  have lp_4 : ∀ (n : Nat) (u1_ : Int) (hu1_a : -2147483648 ≤ u1_) (hu1_b : u1_ < 2147483648) (u2_ : Int) (hu2_a : -2147483648 ≤ u2_) (hu2_b : u2_ < 2147483648) (i3_ : 0 ≤ u2_) (i4_ : u2_ ≤ 31) (i5_ : 0 ≤ u1_) (i6_ : u1_ ≤ u2_) (i7_ : u1_ = zcb a0_ u2_.toNat), (31 - u2_).toNat < n → zW l m_M_ones (zn Mz + 0, zw Mz + 0) Mz 4 [some (.int (Int32.ofInt a0_)), some (.int (Int32.ofInt u1_)), some (.int (Int32.ofInt u2_))] [] (zpI [] [] Mz (fun v N => v = zcb a0_ 31 ∧ 0 ≤ v ∧ v ≤ 31)) := by
    intro n
    induction n with
    | zero =>
      intro u1_ hu1_a hu1_b u2_ hu2_a hu2_b i3_ i4_ i5_ i6_ i7_ h0
      exact absurd h0 (Nat.not_lt_zero _)
    | succ n ih_4 =>
      intro u1_ hu1_a hu1_b u2_ hu2_a hu2_b i3_ i4_ i5_ i6_ i7_ hlt_4
      refine zw_iload_n (pc := 4) (n := 2) (x := Int32.ofInt u2_) rfl (zdal_p dlC_M_ones_40 (i := 4) rfl) ?_
      refine zw_bipush (pc := 5) (v := Int32.ofInt 31) (by decide) (zdal_p dlC_M_ones_40 (i := 5) rfl) ?_
      refine zr_icmp_ge (pc := 7) (tgt := 24) ⟨hu2_a, hu2_b⟩ ⟨(by decide), (by decide)⟩ (by decide) (zdal_p dlC_M_ones_40 (i := 6) rfl) (fun hc_7 => ?_) (fun hc_7 => ?_)
      · skip
        refine zw_iload_n (pc := 24) (n := 1) (x := Int32.ofInt u1_) rfl (zdal_p dlC_M_ones_40 (i := 17) rfl) ?_
        have he : (u2_).toNat = 31 := by omega
        exact zr_iret (pc := 25) (ty := .int) rfl rfl ⟨by omega, by omega⟩ hf ⟨(show u1_ = zcb a0_ 31 by rw [← he]; assumption), (show 0 ≤ u1_ by first | with_reducible assumption | assumption | omega), (show u1_ ≤ 31 by first | with_reducible assumption | assumption | omega)⟩ (zdal_p dlC_M_ones_40 (i := 18) rfl)
      · skip
        refine zw_iload_n (pc := 10) (n := 1) (x := Int32.ofInt u1_) rfl (zdal_p dlC_M_ones_40 (i := 7) rfl) ?_
        refine zw_iload_n (pc := 11) (n := 0) (x := Int32.ofInt a0_) rfl (zdal_p dlC_M_ones_40 (i := 8) rfl) ?_
        refine zw_iload_n (pc := 12) (n := 2) (x := Int32.ofInt u2_) rfl (zdal_p dlC_M_ones_40 (i := 9) rfl) ?_
        refine zr_ishr (pc := 13) (zdal_p dlC_M_ones_40 (i := 10) rfl) ?_
        have hr8_ := zshr_r a0_ u2_
        refine zw_iconst (pc := 14) (v := Int32.ofInt 1) (by decide) (zdal_p dlC_M_ones_40 (i := 11) rfl) ?_
        refine zr_iand (pc := 15) (zdal_p dlC_M_ones_40 (i := 12) rfl) ?_
        have hr9_ := zand_r (zshr a0_ u2_) 1
        have hz := zbit (x := a0_) (k := u2_) (by omega) (by omega) (by omega) (by omega)
        have hz2 : zand (zshr a0_ u2_) 1 = 0 ∨ zand (zshr a0_ u2_) 1 = 1 := by rcases hz with ⟨_, h⟩ | ⟨_, h⟩ <;> omega
        have hy := zcb_s a0_ u2_ (by omega)
        refine zr_iadd (pc := 16) (zdal_p dlC_M_ones_40 (i := 13) rfl) ?_
        refine zw_istore_n (pc := 17) (i := 1) (L2 := [some (.int (Int32.ofInt a0_)), some (.int (Int32.ofInt (u1_ + (zand (zshr a0_ u2_) 1)))), some (.int (Int32.ofInt u2_))]) rfl (by decide) rfl (zdal_p dlC_M_ones_40 (i := 14) rfl) ?_
        refine zr_iinc (pc := 18) (i := 2) (a := u2_) (n := 1) (L2 := [some (.int (Int32.ofInt a0_)), some (.int (Int32.ofInt (u1_ + (zand (zshr a0_ u2_) 1)))), some (.int (Int32.ofInt (u2_ + 1)))]) rfl (by decide) rfl (zdal_p dlC_M_ones_40 (i := 15) rfl) ?_
        refine zw_goto (pc := 21) (tgt := 4) (by decide) (zdal_p dlC_M_ones_40 (i := 16) rfl) ?_
        exact ih_4 (u1_ + (zand (zshr a0_ u2_) 1)) (by omega) (by omega) (u2_ + 1) (by omega) (by omega) (show 0 ≤ (u2_ + 1) by first | with_reducible assumption | assumption | omega) (show (u2_ + 1) ≤ 31 by first | with_reducible assumption | assumption | omega) (show 0 ≤ (u1_ + (zand (zshr a0_ u2_) 1)) by first | with_reducible assumption | assumption | omega) (show (u1_ + (zand (zshr a0_ u2_) 1)) ≤ (u2_ + 1) by first | with_reducible assumption | assumption | omega) (show (u1_ + (zand (zshr a0_ u2_) 1)) = zcb a0_ (u2_ + 1).toNat by rw [hy]; omega) (by omega)
  exact lp_4 _ 0 (by decide) (by decide) 0 (by decide) (by decide) (show 0 ≤ (0 : Int) by first | with_reducible assumption | assumption | omega) (show (0 : Int) ≤ 31 by first | with_reducible assumption | assumption | omega) (show 0 ≤ (0 : Int) by first | with_reducible assumption | assumption | omega) (show (0 : Int) ≤ (0 : Int) by first | with_reducible assumption | assumption | omega) (show (0 : Int) = zcb a0_ (0 : Int).toNat by rfl) (Nat.lt_succ_self _)
set_option maxHeartbeats 4000000 in
theorem c_M_closed (l : Launch) (Mz : zMem) (hW : zMt Mz) (a0_ : Int) (ha0_a : -2147483648 ≤ a0_) (ha0_b : a0_ < 2147483648) (T : zGT) (hG : gGd T) (p0_ : zTab T Mz) (p1_ : gIn T a0_) : zC l m_M_closed 0 0 [.ref 81, .int (Int32.ofInt a0_)] Mz (zpI [] [] Mz (fun v N => gLC T (a0_).toNat (v).toNat ∧ 0 ≤ v ∧ v < 16777216)) := by
  refine zC_of (L0 := [some (.ref 81), some (.int (Int32.ofInt a0_)), none, none, none, none]) md_M_closed (Nat.le_of_ble_eq_true rfl) rfl ?_ zQ0
  have hf : zFr [] [] Mz Mz := zFr.rf
  have r_20 := ze_r Mz 81 20
  have gn := p0_.1
  have g1 := hG.1
  have g24 := hG.2.1
  refine zw_iload_n (pc := 0) (n := 1) (x := Int32.ofInt a0_) rfl (zdal_p dlC_M_closed_30 (i := 0) rfl) ?_
  refine zw_iconst (pc := 1) (v := Int32.ofInt 1) (by decide) (zdal_p dlC_M_closed_30 (i := 1) rfl) ?_
  refine zr_ior (pc := 2) (zdal_p dlC_M_closed_30 (i := 2) rfl) ?_
  have hr1_ := zor_r a0_ 1
  refine zw_istore_n (pc := 3) (i := 2) (L2 := [some (.ref 81), some (.int (Int32.ofInt a0_)), some (.int (Int32.ofInt (zor a0_ 1))), none, none, none]) rfl (by decide) rfl (zdal_p dlC_M_closed_30 (i := 3) rfl) ?_
  refine zw_iconst (pc := 4) (v := Int32.ofInt 0) (by decide) (zdal_p dlC_M_closed_30 (i := 4) rfl) ?_
  refine zw_istore_n (pc := 5) (i := 3) (L2 := [some (.ref 81), some (.int (Int32.ofInt a0_)), some (.int (Int32.ofInt (zor a0_ 1))), some (.int (Int32.ofInt 0)), none, none]) rfl (by decide) rfl (zdal_p dlC_M_closed_30 (i := 5) rfl) ?_
  have hA_0 := zclA_0 g1 g24 p1_
  have hl_0 := zclA_l g24 hA_0
  have lp_6 : ∀ (n : Nat) (u2_ : Int) (hu2_a : -2147483648 ≤ u2_) (hu2_b : u2_ < 2147483648) (u3_ : Int) (hu3_a : -2147483648 ≤ u3_) (hu3_b : u3_ < 2147483648) (i4_ : 0 ≤ u3_) (i5_ : u3_ ≤ u2_) (i6_ : u2_ < 16777216) (i7_ : zclA T a0_ u2_ u3_), (16777216 - u3_).toNat < n → zW l m_M_closed (zn Mz + 0, zw Mz + 0) Mz 6 [some (.ref 81), some (.int (Int32.ofInt a0_)), some (.int (Int32.ofInt u2_)), some (.int (Int32.ofInt u3_)), none, none] [] (zpI [] [] Mz (fun v N => gLC T (a0_).toNat (v).toNat ∧ 0 ≤ v ∧ v < 16777216)) := by
    intro n
    induction n with
    | zero =>
      intro u2_ hu2_a hu2_b u3_ hu3_a hu3_b i4_ i5_ i6_ i7_ h0
      exact absurd h0 (Nat.not_lt_zero _)
    | succ n ih_6 =>
      intro u2_ hu2_a hu2_b u3_ hu3_a hu3_b i4_ i5_ i6_ i7_ hlt_6
      refine zw_iload_n (pc := 6) (n := 2) (x := Int32.ofInt u2_) rfl (zdal_p dlC_M_closed_30 (i := 6) rfl) ?_
      refine zw_iload_n (pc := 7) (n := 3) (x := Int32.ofInt u3_) rfl (zdal_p dlC_M_closed_30 (i := 7) rfl) ?_
      refine zr_icmp_eq (pc := 8) (tgt := 83) ⟨hu2_a, hu2_b⟩ ⟨hu3_a, hu3_b⟩ (by decide) (zdal_p dlC_M_closed_30 (i := 8) rfl) (fun hc_8 => ?_) (fun hc_8 => ?_)
      · skip
        refine zw_iload_n (pc := 83) (n := 2) (x := Int32.ofInt u2_) rfl (zdal_p dlC_M_closed_31 (i := 21) rfl) ?_
        have hE := zclA_e ‹zclA T a0_ _ _› (by omega)
        exact zr_iret (pc := 84) (ty := .int) rfl rfl ⟨by omega, by omega⟩ hf ⟨(show gLC T (a0_).toNat (u2_).toNat by first | with_reducible assumption | assumption | omega), (show 0 ≤ u2_ by first | with_reducible assumption | assumption | omega), (show u2_ < 16777216 by first | with_reducible assumption | assumption | omega)⟩ (zdal_p dlC_M_closed_31 (i := 22) rfl)
      · skip
        refine zw_iload_n (pc := 11) (n := 2) (x := Int32.ofInt u2_) rfl (zdal_p dlC_M_closed_30 (i := 9) rfl) ?_
        refine zw_istore_n (pc := 12) (i := 3) (L2 := [some (.ref 81), some (.int (Int32.ofInt a0_)), some (.int (Int32.ofInt u2_)), some (.int (Int32.ofInt u2_)), none, none]) rfl (by decide) rfl (zdal_p dlC_M_closed_30 (i := 10) rfl) ?_
        refine zw_iconst (pc := 13) (v := Int32.ofInt 0) (by decide) (zdal_p dlC_M_closed_30 (i := 11) rfl) ?_
        refine zw_istore (pc := 14) (i := 4) (L2 := [some (.ref 81), some (.int (Int32.ofInt a0_)), some (.int (Int32.ofInt u2_)), some (.int (Int32.ofInt u2_)), some (.int (Int32.ofInt 0)), none]) (by decide) rfl (zdal_p dlC_M_closed_30 (i := 12) rfl) ?_
        have hB_0 := zclB_0 ‹zclA T a0_ u2_ _›
        have lp_16 : ∀ (n : Nat) (u8_ : Int) (hu8_a : -2147483648 ≤ u8_) (hu8_b : u8_ < 2147483648) (u9_ : Int) (hu9_a : -2147483648 ≤ u9_) (hu9_b : u9_ < 2147483648) (i10_ : 0 ≤ u9_) (i11_ : 0 ≤ u8_) (i12_ : u2_ ≤ u8_) (i13_ : u8_ < 16777216) (i14_ : zclB T a0_ u2_ u8_ u9_), (ze Mz 81 20 - u9_).toNat < n → zW l m_M_closed (zn Mz + 0, zw Mz + 0) Mz 16 [some (.ref 81), some (.int (Int32.ofInt a0_)), some (.int (Int32.ofInt u8_)), some (.int (Int32.ofInt u2_)), some (.int (Int32.ofInt u9_)), none] [] (zpI [] [] Mz (fun v N => gLC T (a0_).toNat (v).toNat ∧ 0 ≤ v ∧ v < 16777216)) := by
          intro n
          induction n with
          | zero =>
            intro u8_ hu8_a hu8_b u9_ hu9_a hu9_b i10_ i11_ i12_ i13_ i14_ h0
            exact absurd h0 (Nat.not_lt_zero _)
          | succ n ih_16 =>
            intro u8_ hu8_a hu8_b u9_ hu9_a hu9_b i10_ i11_ i12_ i13_ i14_ hlt_16
            refine zw_iload (pc := 16) (i := 4) (x := Int32.ofInt u9_) rfl (zdal_p dlC_M_closed_30 (i := 13) rfl) ?_
            refine zw_aload_n (pc := 18) (n := 0) (x := 81) rfl (zdal_p dlC_M_closed_30 (i := 14) rfl) ?_
            refine zr_getI0 hf hW (pc := 19) (by decide) f_M_196 rfl (zdal_p dlC_M_closed_30 (i := 15) rfl) ?_
            refine zr_icmp_ge (pc := 22) (tgt := 80) ⟨hu9_a, hu9_b⟩ ⟨(ze_r Mz 81 20).1, (ze_r Mz 81 20).2⟩ (by decide) (zdal_p dlC_M_closed_30 (i := 16) rfl) (fun hc_22 => ?_) (fun hc_22 => ?_)
            · skip
              refine zw_goto (pc := 80) (tgt := 6) (by decide) (zdal_p dlC_M_closed_31 (i := 20) rfl) ?_
              have hA : zclA T a0_ u8_ u2_ := zclB_e (by first | with_reducible assumption | assumption) (by omega)
              have hl := zclA_l g24 hA
              refine zW_le [some (.ref 81), some (.int (Int32.ofInt a0_)), some (.int (Int32.ofInt u8_)), some (.int (Int32.ofInt u2_)), none, none] (⟨rfl, rfl, rfl, rfl, trivial⟩) ?_
              exact ih_6 u8_ hu8_a hu8_b u2_ hu2_a hu2_b (show 0 ≤ u2_ by first | with_reducible assumption | assumption | omega) (show u2_ ≤ u8_ by first | with_reducible assumption | assumption | omega) (show u8_ < 16777216 by first | with_reducible assumption | assumption | omega) (show zclA T a0_ u8_ u2_ by first | with_reducible assumption | assumption | omega) (by omega)
            · skip
              refine zw_iconst (pc := 25) (v := Int32.ofInt 0) (by decide) (zdal_p dlC_M_closed_30 (i := 17) rfl) ?_
              refine zw_istore (pc := 26) (i := 5) (L2 := [some (.ref 81), some (.int (Int32.ofInt a0_)), some (.int (Int32.ofInt u8_)), some (.int (Int32.ofInt u2_)), some (.int (Int32.ofInt u9_)), some (.int (Int32.ofInt 0))]) (by decide) rfl (zdal_p dlC_M_closed_30 (i := 18) rfl) ?_
              have hC_0 := zclC_0 ‹zclB T a0_ u2_ u8_ u9_› (by omega)
              have lp_28 : ∀ (n : Nat) (u15_ : Int) (hu15_a : -2147483648 ≤ u15_) (hu15_b : u15_ < 2147483648) (u16_ : Int) (hu16_a : -2147483648 ≤ u16_) (hu16_b : u16_ < 2147483648) (i17_ : 0 ≤ u16_) (i18_ : 0 ≤ u15_) (i19_ : u2_ ≤ u15_) (i20_ : u15_ < 16777216) (i21_ : zclC T a0_ u2_ u15_ u9_ u16_), (ze Mz 81 20 - u16_).toNat < n → zW l m_M_closed (zn Mz + 0, zw Mz + 0) Mz 28 [some (.ref 81), some (.int (Int32.ofInt a0_)), some (.int (Int32.ofInt u15_)), some (.int (Int32.ofInt u2_)), some (.int (Int32.ofInt u9_)), some (.int (Int32.ofInt u16_))] [] (zpI [] [] Mz (fun v N => gLC T (a0_).toNat (v).toNat ∧ 0 ≤ v ∧ v < 16777216)) := by
                intro n
                induction n with
                | zero =>
                  intro u15_ hu15_a hu15_b u16_ hu16_a hu16_b i17_ i18_ i19_ i20_ i21_ h0
                  exact absurd h0 (Nat.not_lt_zero _)
                | succ n ih_28 =>
                  intro u15_ hu15_a hu15_b u16_ hu16_a hu16_b i17_ i18_ i19_ i20_ i21_ hlt_28
                  refine zw_iload (pc := 28) (i := 5) (x := Int32.ofInt u16_) rfl (zdal_p dlC_M_closed_30 (i := 19) rfl) ?_
                  refine zw_aload_n (pc := 30) (n := 0) (x := 81) rfl (zdal_p dlC_M_closed_30 (i := 20) rfl) ?_
                  refine zr_getI0 hf hW (pc := 31) (by decide) f_M_196 rfl (zdal_p dlC_M_closed_30 (i := 21) rfl) ?_
                  refine zr_icmp_ge (pc := 34) (tgt := 74) ⟨hu16_a, hu16_b⟩ ⟨(ze_r Mz 81 20).1, (ze_r Mz 81 20).2⟩ (by decide) (zdal_p dlC_M_closed_30 (i := 22) rfl) (fun hc_34 => ?_) (fun hc_34 => ?_)
                  · skip
                    refine zr_iinc (pc := 74) (i := 4) (a := u9_) (n := 1) (L2 := [some (.ref 81), some (.int (Int32.ofInt a0_)), some (.int (Int32.ofInt u15_)), some (.int (Int32.ofInt u2_)), some (.int (Int32.ofInt (u9_ + 1))), some (.int (Int32.ofInt u16_))]) rfl (by decide) rfl (zdal_p dlC_M_closed_31 (i := 18) rfl) ?_
                    refine zw_goto (pc := 77) (tgt := 16) (by decide) (zdal_p dlC_M_closed_31 (i := 19) rfl) ?_
                    have hB : zclB T a0_ u2_ u15_ (u9_ + 1) := by first | exact zclC_e2 (by first | with_reducible assumption | assumption) (by first | with_reducible assumption | assumption) | exact zclC_e1 (by first | with_reducible assumption | assumption) (by omega)
                    refine zW_le [some (.ref 81), some (.int (Int32.ofInt a0_)), some (.int (Int32.ofInt u15_)), some (.int (Int32.ofInt u2_)), some (.int (Int32.ofInt (u9_ + 1))), none] (⟨rfl, rfl, rfl, rfl, rfl, trivial⟩) ?_
                    exact ih_16 u15_ hu15_a hu15_b (u9_ + 1) (by omega) (by omega) (show 0 ≤ (u9_ + 1) by first | with_reducible assumption | assumption | omega) (show 0 ≤ u15_ by first | with_reducible assumption | assumption | omega) (show u2_ ≤ u15_ by first | with_reducible assumption | assumption | omega) (show u15_ < 16777216 by first | with_reducible assumption | assumption | omega) (show zclB T a0_ u2_ u15_ (u9_ + 1) by first | with_reducible assumption | assumption | omega) (by omega)
                  · skip
                    refine zw_iload_n (pc := 37) (n := 2) (x := Int32.ofInt u15_) rfl (zdal_p dlC_M_closed_30 (i := 23) rfl) ?_
                    refine zw_iload (pc := 38) (i := 4) (x := Int32.ofInt u9_) rfl (zdal_p dlC_M_closed_31 (i := 0) rfl) ?_
                    refine zr_callS hf.x (pc := 40) [.int (Int32.ofInt u15_), .int (Int32.ofInt u9_)] [] l_M_213 (c_M_holds l Mz (hf.w hW) u15_ hu15_a hu15_b u9_ hu9_a hu9_b (show 0 ≤ u15_ by first | with_reducible assumption | assumption | omega) (show 0 ≤ u9_ by first | with_reducible assumption | assumption | omega) (show u9_ < 32 by first | with_reducible assumption | assumption | omega)) rfl rfl (by decide) (Nat.le_of_ble_eq_true rfl) (zdal_p dlC_M_closed_31 (i := 1) rfl) ?_
                    rintro _ N22_ ⟨v23_, rfl, ⟨hv23_a, hv23_b⟩, hsN22_, hp0_N22_⟩
                    obtain rfl := hsN22_.eq.symm
                    replace hp0_N22_ : ((v23_ = 1 ∧ zbt u15_ u9_) ∨ (v23_ = 0 ∧ ¬ zbt u15_ u9_)) := hp0_N22_
                    rcases hp0_N22_ with ⟨rfl, ha40_0_hp0_N22_⟩ | ⟨rfl, ha40_0_hp0_N22_⟩
                    · skip
                      show zW l m_M_closed (zn Mz + 0, zw Mz + 0) Mz 43 [some (.ref 81), some (.int (Int32.ofInt a0_)), some (.int (Int32.ofInt u15_)), some (.int (Int32.ofInt u2_)), some (.int (Int32.ofInt u9_)), some (.int (Int32.ofInt u16_))] [.int (Int32.ofInt 1)] _
                      refine zr_if_eq (pc := 43) (tgt := 74) ⟨(by decide), (by decide)⟩ (by decide) (zdal_p dlC_M_closed_31 (i := 2) rfl) (fun hc_43 => ?_) (fun hc_43 => ?_)
                      · skip
                        exact absurd hc_43 (by decide)
                      · skip
                        refine zw_iload_n (pc := 46) (n := 2) (x := Int32.ofInt u15_) rfl (zdal_p dlC_M_closed_31 (i := 3) rfl) ?_
                        refine zw_iload (pc := 47) (i := 5) (x := Int32.ofInt u16_) rfl (zdal_p dlC_M_closed_31 (i := 4) rfl) ?_
                        refine zr_callS hf.x (pc := 49) [.int (Int32.ofInt u15_), .int (Int32.ofInt u16_)] [] l_M_213 (c_M_holds l Mz (hf.w hW) u15_ hu15_a hu15_b u16_ hu16_a hu16_b (show 0 ≤ u15_ by first | with_reducible assumption | assumption | omega) (show 0 ≤ u16_ by first | with_reducible assumption | assumption | omega) (show u16_ < 32 by first | with_reducible assumption | assumption | omega)) rfl rfl (by decide) (Nat.le_of_ble_eq_true rfl) (zdal_p dlC_M_closed_31 (i := 5) rfl) ?_
                        rintro _ N24_ ⟨v25_, rfl, ⟨hv25_a, hv25_b⟩, hsN24_, hp0_N24_⟩
                        obtain rfl := hsN24_.eq.symm
                        replace hp0_N24_ : ((v25_ = 1 ∧ zbt u15_ u16_) ∨ (v25_ = 0 ∧ ¬ zbt u15_ u16_)) := hp0_N24_
                        rcases hp0_N24_ with ⟨rfl, ha49_0_hp0_N24_⟩ | ⟨rfl, ha49_0_hp0_N24_⟩
                        · skip
                          show zW l m_M_closed (zn Mz + 0, zw Mz + 0) Mz 52 [some (.ref 81), some (.int (Int32.ofInt a0_)), some (.int (Int32.ofInt u15_)), some (.int (Int32.ofInt u2_)), some (.int (Int32.ofInt u9_)), some (.int (Int32.ofInt u16_))] [.int (Int32.ofInt 1)] _
                          refine zr_if_eq (pc := 52) (tgt := 68) ⟨(by decide), (by decide)⟩ (by decide) (zdal_p dlC_M_closed_31 (i := 6) rfl) (fun hc_52 => ?_) (fun hc_52 => ?_)
                          · skip
                            exact absurd hc_52 (by decide)
                          · skip
                            refine zw_iload_n (pc := 55) (n := 2) (x := Int32.ofInt u15_) rfl (zdal_p dlC_M_closed_31 (i := 7) rfl) ?_
                            refine zw_iconst (pc := 56) (v := Int32.ofInt 1) (by decide) (zdal_p dlC_M_closed_31 (i := 8) rfl) ?_
                            refine zw_aload_n (pc := 57) (n := 0) (x := 81) rfl (zdal_p dlC_M_closed_31 (i := 9) rfl) ?_
                            refine zw_iload (pc := 58) (i := 4) (x := Int32.ofInt u9_) rfl (zdal_p dlC_M_closed_31 (i := 10) rfl) ?_
                            refine zw_iload (pc := 60) (i := 5) (x := Int32.ofInt u16_) rfl (zdal_p dlC_M_closed_31 (i := 11) rfl) ?_
                            refine zr_callV (hf.w hW) hf.x (pc := 62) [.int (Int32.ofInt u9_), .int (Int32.ofInt u16_)] [.int (Int32.ofInt 1), .int (Int32.ofInt u15_)] l_M_216 (c_M_by l Mz (hf.w hW) u9_ hu9_a hu9_b u16_ hu16_a hu16_b T hG p0_ (show 0 ≤ u9_ by first | with_reducible assumption | assumption | omega) (show u9_ < ze Mz 81 20 by first | with_reducible assumption | assumption | omega) (show 0 ≤ u16_ by first | with_reducible assumption | assumption | omega) (show u16_ < ze Mz 81 20 by first | with_reducible assumption | assumption | omega)) rfl rfl rfl (by decide) (Nat.le_of_ble_eq_true rfl) (zdal_p dlC_M_closed_31 (i := 12) rfl) ?_
                            rintro _ N26_ ⟨v27_, rfl, ⟨hv27_a, hv27_b⟩, hsN26_, ⟨hp0_N26_, hp1_N26_, hp2_N26_⟩⟩
                            obtain rfl := hsN26_.eq.symm
                            show zW l m_M_closed (zn Mz + 0, zw Mz + 0) Mz 65 [some (.ref 81), some (.int (Int32.ofInt a0_)), some (.int (Int32.ofInt u15_)), some (.int (Int32.ofInt u2_)), some (.int (Int32.ofInt u9_)), some (.int (Int32.ofInt u16_))] [.int (Int32.ofInt v27_), .int (Int32.ofInt 1), .int (Int32.ofInt u15_)] _
                            refine zr_ishl (pc := 65) (zdal_p dlC_M_closed_31 (i := 13) rfl) ?_
                            have hr28_ := zshl_r 1 v27_
                            refine zr_ior (pc := 66) (zdal_p dlC_M_closed_31 (i := 14) rfl) ?_
                            have hr29_ := zor_r u15_ (zshl 1 v27_)
                            refine zw_istore_n (pc := 67) (i := 2) (L2 := [some (.ref 81), some (.int (Int32.ofInt a0_)), some (.int (Int32.ofInt (zor u15_ (zshl 1 v27_)))), some (.int (Int32.ofInt u2_)), some (.int (Int32.ofInt u9_)), some (.int (Int32.ofInt u16_))]) rfl (by decide) rfl (zdal_p dlC_M_closed_31 (i := 15) rfl) ?_
                            refine zr_iinc (pc := 68) (i := 5) (a := u16_) (n := 1) (L2 := [some (.ref 81), some (.int (Int32.ofInt a0_)), some (.int (Int32.ofInt (zor u15_ (zshl 1 v27_)))), some (.int (Int32.ofInt u2_)), some (.int (Int32.ofInt u9_)), some (.int (Int32.ofInt (u16_ + 1)))]) rfl (by decide) rfl (zdal_p dlC_M_closed_31 (i := 16) rfl) ?_
                            refine zw_goto (pc := 71) (tgt := 28) (by decide) (zdal_p dlC_M_closed_31 (i := 17) rfl) ?_
                            have hC : zclC T a0_ u2_ (zor u15_ (zshl 1 v27_)) u9_ (u16_ + 1) := by first | exact zclC_s1 (by first | with_reducible assumption | assumption) (by first | with_reducible assumption | assumption) | exact zclC_s2 g24 hG.2.2.2 (by first | with_reducible assumption | assumption) (by first | with_reducible assumption | assumption) (by first | with_reducible assumption | assumption) (by omega) (by omega) (by first | with_reducible assumption | assumption)
                            have hl := zclB_l g24 hC.1
                            exact ih_28 (zor u15_ (zshl 1 v27_)) (by omega) (by omega) (u16_ + 1) (by omega) (by omega) (show 0 ≤ (u16_ + 1) by first | with_reducible assumption | assumption | omega) (show 0 ≤ (zor u15_ (zshl 1 v27_)) by first | with_reducible assumption | assumption | omega) (show u2_ ≤ (zor u15_ (zshl 1 v27_)) by first | with_reducible assumption | assumption | omega) (show (zor u15_ (zshl 1 v27_)) < 16777216 by first | with_reducible assumption | assumption | omega) (show zclC T a0_ u2_ (zor u15_ (zshl 1 v27_)) u9_ (u16_ + 1) by first | with_reducible assumption | assumption | omega) (by omega)
                        · skip
                          show zW l m_M_closed (zn Mz + 0, zw Mz + 0) Mz 52 [some (.ref 81), some (.int (Int32.ofInt a0_)), some (.int (Int32.ofInt u15_)), some (.int (Int32.ofInt u2_)), some (.int (Int32.ofInt u9_)), some (.int (Int32.ofInt u16_))] [.int (Int32.ofInt 0)] _
                          refine zr_if_eq (pc := 52) (tgt := 68) ⟨(by decide), (by decide)⟩ (by decide) (zdal_p dlC_M_closed_31 (i := 6) rfl) (fun hc_52 => ?_) (fun hc_52 => ?_)
                          · skip
                            refine zr_iinc (pc := 68) (i := 5) (a := u16_) (n := 1) (L2 := [some (.ref 81), some (.int (Int32.ofInt a0_)), some (.int (Int32.ofInt u15_)), some (.int (Int32.ofInt u2_)), some (.int (Int32.ofInt u9_)), some (.int (Int32.ofInt (u16_ + 1)))]) rfl (by decide) rfl (zdal_p dlC_M_closed_31 (i := 16) rfl) ?_
                            refine zw_goto (pc := 71) (tgt := 28) (by decide) (zdal_p dlC_M_closed_31 (i := 17) rfl) ?_
                            have hC : zclC T a0_ u2_ u15_ u9_ (u16_ + 1) := by first | exact zclC_s1 (by first | with_reducible assumption | assumption) (by first | with_reducible assumption | assumption) | exact zclC_s2 g24 hG.2.2.2 (by first | with_reducible assumption | assumption) (by first | with_reducible assumption | assumption) (by first | with_reducible assumption | assumption) (by omega) (by omega) (by first | with_reducible assumption | assumption)
                            have hl := zclB_l g24 hC.1
                            exact ih_28 u15_ hu15_a hu15_b (u16_ + 1) (by omega) (by omega) (show 0 ≤ (u16_ + 1) by first | with_reducible assumption | assumption | omega) (show 0 ≤ u15_ by first | with_reducible assumption | assumption | omega) (show u2_ ≤ u15_ by first | with_reducible assumption | assumption | omega) (show u15_ < 16777216 by first | with_reducible assumption | assumption | omega) (show zclC T a0_ u2_ u15_ u9_ (u16_ + 1) by first | with_reducible assumption | assumption | omega) (by omega)
                          · skip
                            exact absurd hc_52 (by decide)
                    · skip
                      show zW l m_M_closed (zn Mz + 0, zw Mz + 0) Mz 43 [some (.ref 81), some (.int (Int32.ofInt a0_)), some (.int (Int32.ofInt u15_)), some (.int (Int32.ofInt u2_)), some (.int (Int32.ofInt u9_)), some (.int (Int32.ofInt u16_))] [.int (Int32.ofInt 0)] _
                      refine zr_if_eq (pc := 43) (tgt := 74) ⟨(by decide), (by decide)⟩ (by decide) (zdal_p dlC_M_closed_31 (i := 2) rfl) (fun hc_43 => ?_) (fun hc_43 => ?_)
                      · skip
                        refine zr_iinc (pc := 74) (i := 4) (a := u9_) (n := 1) (L2 := [some (.ref 81), some (.int (Int32.ofInt a0_)), some (.int (Int32.ofInt u15_)), some (.int (Int32.ofInt u2_)), some (.int (Int32.ofInt (u9_ + 1))), some (.int (Int32.ofInt u16_))]) rfl (by decide) rfl (zdal_p dlC_M_closed_31 (i := 18) rfl) ?_
                        refine zw_goto (pc := 77) (tgt := 16) (by decide) (zdal_p dlC_M_closed_31 (i := 19) rfl) ?_
                        have hB : zclB T a0_ u2_ u15_ (u9_ + 1) := by first | exact zclC_e2 (by first | with_reducible assumption | assumption) (by first | with_reducible assumption | assumption) | exact zclC_e1 (by first | with_reducible assumption | assumption) (by omega)
                        refine zW_le [some (.ref 81), some (.int (Int32.ofInt a0_)), some (.int (Int32.ofInt u15_)), some (.int (Int32.ofInt u2_)), some (.int (Int32.ofInt (u9_ + 1))), none] (⟨rfl, rfl, rfl, rfl, rfl, trivial⟩) ?_
                        exact ih_16 u15_ hu15_a hu15_b (u9_ + 1) (by omega) (by omega) (show 0 ≤ (u9_ + 1) by first | with_reducible assumption | assumption | omega) (show 0 ≤ u15_ by first | with_reducible assumption | assumption | omega) (show u2_ ≤ u15_ by first | with_reducible assumption | assumption | omega) (show u15_ < 16777216 by first | with_reducible assumption | assumption | omega) (show zclB T a0_ u2_ u15_ (u9_ + 1) by first | with_reducible assumption | assumption | omega) (by omega)
                      · skip
                        exact absurd hc_43 (by decide)
              exact lp_28 _ u8_ hu8_a hu8_b 0 (by decide) (by decide) (show 0 ≤ (0 : Int) by first | with_reducible assumption | assumption | omega) (show 0 ≤ u8_ by first | with_reducible assumption | assumption | omega) (show u2_ ≤ u8_ by first | with_reducible assumption | assumption | omega) (show u8_ < 16777216 by first | with_reducible assumption | assumption | omega) (show zclC T a0_ u2_ u8_ u9_ (0 : Int) by first | with_reducible assumption | assumption | omega) (Nat.lt_succ_self _)
        exact lp_16 _ u2_ hu2_a hu2_b 0 (by decide) (by decide) (show 0 ≤ (0 : Int) by first | with_reducible assumption | assumption | omega) (show 0 ≤ u2_ by first | with_reducible assumption | assumption | omega) (show u2_ ≤ u2_ by first | with_reducible assumption | assumption | omega) (show u2_ < 16777216 by first | with_reducible assumption | assumption | omega) (show zclB T a0_ u2_ u2_ (0 : Int) by first | with_reducible assumption | assumption | omega) (Nat.lt_succ_self _)
  exact lp_6 _ (zor a0_ 1) (by omega) (by omega) 0 (by decide) (by decide) (show 0 ≤ (0 : Int) by first | with_reducible assumption | assumption | omega) (show (0 : Int) ≤ (zor a0_ 1) by first | with_reducible assumption | assumption | omega) (show (zor a0_ 1) < 16777216 by first | with_reducible assumption | assumption | omega) (show zclA T a0_ (zor a0_ 1) (0 : Int) by first | with_reducible assumption | assumption | omega) (Nat.lt_succ_self _)
theorem zall_0 {P : Nat → Prop} : ∀ k : Nat, (k : Int) < 0 → P k := fun k h => absurd h (by omega)
theorem zall_s {P : Nat → Prop} {u : Int} (h0 : 0 ≤ u) (h : ∀ k : Nat, (k : Int) < u → P k) (hu : P u.toNat) : ∀ k : Nat, (k : Int) < u + 1 → P k := by
  intro k hk
  by_cases e : k = u.toNat
  · rw [e]; exact hu
  · exact h k (by omega)
theorem gup_s {α : Type} (f : Nat → α → α) (a : α) {u : Int} (h : 0 ≤ u) : gup f a (u + 1).toNat = f u.toNat (gup f a u.toNat) := by
  rw [show (u + 1).toNat = u.toNat + 1 by omega]
  rfl
def gtrF (T : zGT) (S g : Nat) : Nat → Nat → Nat := fun x r => if S.testBit x then r ||| 2 ^ gm T (gm T (gi T g) x) g else r
theorem gtr_e (T : zGT) (S g : Nat) : gtr T S g = gup (gtrF T S g) 0 (gN T) := rfl
theorem gtr_b {T : zGT} (hG : gGd T) {S g : Nat} (hg : g < gN T) : ∀ k, k ≤ gN T → gup (gtrF T S g) 0 k < 2 ^ gN T
  | 0, _ => Nat.two_pow_pos _
  | k + 1, h => by
    have ih := gtr_b hG (S := S) hg k (by omega)
    show gtrF T S g k _ < _
    unfold gtrF
    split
    · exact Nat.or_lt_two_pow ih (Nat.pow_lt_pow_right (by omega) (hG.2.2.2 _ _ (hG.2.2.2 _ _ (hG.2.2.1 g hg) (by omega)) hg))
    · exact ih
theorem gtr_lt {T : zGT} (hG : gGd T) {S g : Nat} (hg : g < gN T) : gtr T S g < 2 ^ gN T := gtr_b hG hg _ (Nat.le_refl _)
theorem gtr_s0 {T : zGT} {S g : Nat} {s x r : Int} (hS : S = s.toNat) (hx : 0 ≤ x) (h : r = ((gup (gtrF T S g) 0 x.toNat : Nat) : Int)) (hb : ¬ zbt s x) : r = ((gup (gtrF T S g) 0 (x + 1).toNat : Nat) : Int) := by
  rw [gup_s _ _ hx]
  unfold gtrF at h ⊢
  unfold zbt at hb
  rw [hS] at h ⊢
  rw [if_neg (by simpa using hb)]
  exact h
theorem gtr_s1 {T : zGT} (hG : gGd T) {S g : Nat} (hg : g < gN T) {s x r v w : Int} (hS : S = s.toNat) (hx : 0 ≤ x) (hxn : x.toNat < gN T) (h : r = ((gup (gtrF T S g) 0 x.toNat : Nat) : Int)) (hb : zbt s x) (hw : w = ((gm T (gi T g) x.toNat : Nat) : Int)) (hv : v = ((gm T w.toNat g : Nat) : Int)) : zor r (zshl 1 v) = ((gup (gtrF T S g) 0 (x + 1).toNat : Nat) : Int) := by
  have h2 := gtr_b hG (S := S) hg x.toNat (by omega)
  have h3 : (2 : Nat) ^ gN T ≤ 2 ^ 24 := Nat.pow_le_pow_right (by omega) hG.2.1
  have h4 : (2 : Nat) ^ 24 = 16777216 := rfl
  have hwn : w.toNat = gm T (gi T g) x.toNat := by omega
  have hgm := hG.2.2.2 _ g (hG.2.2.2 _ _ (hG.2.2.1 g hg) hxn) hg
  rw [hwn] at hv
  have h24 := hG.2.1
  rw [zorb (by omega) (by omega) (by omega) (by omega), gup_s _ _ hx]
  have e : v.toNat = gm T (gm T (gi T g) x.toNat) g := by omega
  rw [e, h]
  show _ = ((gtrF T S g x.toNat _ : Nat) : Int)
  unfold zbt at hb
  rw [← hS] at hb
  generalize gup (gtrF T S g) 0 x.toNat = q
  unfold gtrF
  rw [if_pos hb]
  rfl
def gltF (T : zGT) (S : Nat) : Nat → Nat → Nat := fun g r => if gtr T S g < r then gtr T S g else r
theorem glt_e (T : zGT) (S : Nat) : glt T S = gup (gltF T S) S (gN T) := rfl
theorem glt_s1 {T : zGT} {S : Nat} {r t g : Int} (hg : 0 ≤ g) (h : r = ((gup (gltF T S) S g.toNat : Nat) : Int)) (ht : t = ((gtr T S g.toNat : Nat) : Int)) (hc : t < r) : t = ((gup (gltF T S) S (g + 1).toNat : Nat) : Int) := by
  rw [gup_s _ _ hg]
  generalize gup (gltF T S) S g.toNat = q at h ⊢
  unfold gltF
  rw [if_pos (by omega), ht]
theorem glt_s0 {T : zGT} {S : Nat} {r t g : Int} (hg : 0 ≤ g) (h : r = ((gup (gltF T S) S g.toNat : Nat) : Int)) (ht : t = ((gtr T S g.toNat : Nat) : Int)) (hc : r ≤ t) : r = ((gup (gltF T S) S (g + 1).toNat : Nat) : Int) := by
  rw [gup_s _ _ hg]
  generalize gup (gltF T S) S g.toNat = q at h ⊢
  unfold gltF
  rw [if_neg (by omega), h]
def gcoF (T : zGT) (S x : Nat) : Nat → Nat → Nat := fun h r => if S.testBit h && decide (gm T h x < r) then gm T h x else r
theorem gcos_e (T : zGT) (S x : Nat) : gcos T S x = gup (gcoF T S x) x (gN T) := rfl
theorem gcos_b {T : zGT} (hG : gGd T) {S x : Nat} (hx : x < gN T) : ∀ k, k ≤ gN T → gup (gcoF T S x) x k ≤ x
  | 0, _ => Nat.le_refl _
  | k + 1, h => by
    have ih := gcos_b hG (S := S) hx k (by omega)
    show gcoF T S x k _ ≤ _
    generalize gup (gcoF T S x) x k = q at ih ⊢
    unfold gcoF
    split
    · rename_i h2
      simp only [Bool.and_eq_true, decide_eq_true_eq] at h2
      omega
    · exact ih
theorem gco_s1 {T : zGT} {S x : Nat} {s h r v : Int} (hS : S = s.toNat) (h0 : 0 ≤ h) (hr : r = ((gup (gcoF T S x) x h.toNat : Nat) : Int)) (hb : zbt s h) (hv : v = ((gm T h.toNat x : Nat) : Int)) (hc : v < r) : v = ((gup (gcoF T S x) x (h + 1).toNat : Nat) : Int) := by
  rw [gup_s _ _ h0]
  generalize gup (gcoF T S x) x h.toNat = q at hr ⊢
  unfold zbt at hb
  rw [← hS] at hb
  unfold gcoF
  rw [if_pos (by rw [hb, Bool.true_and, decide_eq_true_eq]; omega), hv]
theorem gco_s0 {T : zGT} {S x : Nat} {s h r v : Int} (hS : S = s.toNat) (h0 : 0 ≤ h) (hr : r = ((gup (gcoF T S x) x h.toNat : Nat) : Int)) (hc : ¬ zbt s h ∨ (v = ((gm T h.toNat x : Nat) : Int) ∧ r ≤ v)) : r = ((gup (gcoF T S x) x (h + 1).toNat : Nat) : Int) := by
  rw [gup_s _ _ h0]
  generalize gup (gcoF T S x) x h.toNat = q at hr ⊢
  unfold gcoF
  rw [if_neg, hr]
  rw [Bool.and_eq_true, decide_eq_true_eq]
  rintro ⟨h1, h2⟩
  rcases hc with hc | ⟨hc, hd⟩
  · unfold zbt at hc
    rw [← hS] at hc
    exact hc h1
  · omega
set_option maxHeartbeats 4000000 in
theorem c_M_subIndex (l : Launch) (Mz : zMem) (hW : zMt Mz) (a0_ : Int) (ha0_a : -2147483648 ≤ a0_) (ha0_b : a0_ < 2147483648) (p0_ : 0 ≤ ze Mz 81 25) (p1_ : ze Mz 81 25 ≤ 128) : zC l m_M_subIndex 0 0 [.ref 81, .int (Int32.ofInt a0_)] Mz (zpI [] [] Mz (fun v N => (((0 ≤ v ∧ v < ze Mz 81 25 ∧ ze Mz 89 (v).toNat = a0_) ∨ (v = -1 ∧ ∀ k : Nat, (k : Int) < ze Mz 81 25 → ze Mz 89 k ≠ a0_))))) := by
  refine zC_of (L0 := [some (.ref 81), some (.int (Int32.ofInt a0_)), none]) md_M_subIndex (Nat.le_of_ble_eq_true rfl) rfl ?_ zQ0
  have hf : zFr [] [] Mz Mz := zFr.rf
  have r_25 := ze_r Mz 81 25
  refine zw_iconst (pc := 0) (v := Int32.ofInt 0) (by decide) (zdal_p dlC_M_subIndex_33 (i := 0) rfl) ?_
  refine zw_istore_n (pc := 1) (i := 2) (L2 := [some (.ref 81), some (.int (Int32.ofInt a0_)), some (.int (Int32.ofInt 0))]) rfl (by decide) rfl (zdal_p dlC_M_subIndex_33 (i := 1) rfl) ?_
  have lp_2 : ∀ (n : Nat) (u1_ : Int) (hu1_a : -2147483648 ≤ u1_) (hu1_b : u1_ < 2147483648) (i2_ : 0 ≤ u1_) (i3_ : ∀ k : Nat, (k : Int) < u1_ → ze Mz 89 k ≠ a0_), (ze Mz 81 25 - u1_).toNat < n → zW l m_M_subIndex (zn Mz + 0, zw Mz + 0) Mz 2 [some (.ref 81), some (.int (Int32.ofInt a0_)), some (.int (Int32.ofInt u1_))] [] (zpI [] [] Mz (fun v N => (((0 ≤ v ∧ v < ze Mz 81 25 ∧ ze Mz 89 (v).toNat = a0_) ∨ (v = -1 ∧ ∀ k : Nat, (k : Int) < ze Mz 81 25 → ze Mz 89 k ≠ a0_))))) := by
    intro n
    induction n with
    | zero =>
      intro u1_ hu1_a hu1_b i2_ i3_ h0
      exact absurd h0 (Nat.not_lt_zero _)
    | succ n ih_2 =>
      intro u1_ hu1_a hu1_b i2_ i3_ hlt_2
      refine zw_iload_n (pc := 2) (n := 2) (x := Int32.ofInt u1_) rfl (zdal_p dlC_M_subIndex_33 (i := 2) rfl) ?_
      refine zw_aload_n (pc := 3) (n := 0) (x := 81) rfl (zdal_p dlC_M_subIndex_33 (i := 3) rfl) ?_
      refine zr_getI0 hf hW (pc := 4) (by decide) f_M_220 rfl (zdal_p dlC_M_subIndex_33 (i := 4) rfl) ?_
      refine zr_icmp_ge (pc := 7) (tgt := 28) ⟨hu1_a, hu1_b⟩ ⟨(ze_r Mz 81 25).1, (ze_r Mz 81 25).2⟩ (by decide) (zdal_p dlC_M_subIndex_33 (i := 5) rfl) (fun hc_7 => ?_) (fun hc_7 => ?_)
      · skip
        refine zw_iconst (pc := 28) (v := Int32.ofInt (-1)) (by decide) (zdal_p dlC_M_subIndex_33 (i := 16) rfl) ?_
        exact zr_iret (pc := 29) (ty := .int) rfl rfl ⟨by omega, by omega⟩ hf (show ((0 ≤ ((-1)) ∧ ((-1)) < ze Mz 81 25 ∧ ze Mz 89 (((-1))).toNat = a0_) ∨ (((-1)) = -1 ∧ ∀ k : Nat, (k : Int) < ze Mz 81 25 → ze Mz 89 k ≠ a0_)) from Or.inr (⟨(show ((-1)) = -1 by first | omega | (intro k hk; exact (show ∀ k : Nat, (k : Int) < u1_ → ze Mz 89 k ≠ a0_ by first | with_reducible assumption | assumption) k (by omega))), (show ∀ k : Nat, (k : Int) < ze Mz 81 25 → ze Mz 89 k ≠ a0_ by first | omega | (intro k hk; exact (show ∀ k : Nat, (k : Int) < u1_ → ze Mz 89 k ≠ a0_ by first | with_reducible assumption | assumption) k (by omega)))⟩)) (zdal_p dlC_M_subIndex_33 (i := 17) rfl)
      · skip
        refine zw_aload_n (pc := 10) (n := 0) (x := 81) rfl (zdal_p dlC_M_subIndex_33 (i := 6) rfl) ?_
        refine zr_getF (r := 89) (hf.w hW) (pc := 11) f_M_38 rfl (zh_89 (hf.w hW)).1 (zdal_p dlC_M_subIndex_33 (i := 7) rfl) ?_
        refine zw_iload_n (pc := 14) (n := 2) (x := Int32.ofInt u1_) rfl (zdal_p dlC_M_subIndex_33 (i := 8) rfl) ?_
        refine zr_ialdn (pc := 15) (zh_89 (hf.w hW)).2 (by decide) (by omega) (by omega) (zdal_p dlC_M_subIndex_33 (i := 9) rfl) (fun v4_ hv4_ hv4_a hv4_b => ?_)
        refine zw_iload_n (pc := 16) (n := 1) (x := Int32.ofInt a0_) rfl (zdal_p dlC_M_subIndex_33 (i := 10) rfl) ?_
        refine zr_icmp_ne (pc := 17) (tgt := 22) ⟨hv4_a, hv4_b⟩ ⟨ha0_a, ha0_b⟩ (by decide) (zdal_p dlC_M_subIndex_33 (i := 11) rfl) (fun hc_17 => ?_) (fun hc_17 => ?_)
        · skip
          refine zr_iinc (pc := 22) (i := 2) (a := u1_) (n := 1) (L2 := [some (.ref 81), some (.int (Int32.ofInt a0_)), some (.int (Int32.ofInt (u1_ + 1)))]) rfl (by decide) rfl (zdal_p dlC_M_subIndex_33 (i := 14) rfl) ?_
          refine zw_goto (pc := 25) (tgt := 2) (by decide) (zdal_p dlC_M_subIndex_33 (i := 15) rfl) ?_
          exact ih_2 (u1_ + 1) (by omega) (by omega) (show 0 ≤ (u1_ + 1) by first | with_reducible assumption | assumption | omega) (show ∀ k : Nat, (k : Int) < (u1_ + 1) → ze Mz 89 k ≠ a0_ by exact zall_s (by omega) (by first | with_reducible assumption | assumption) (by omega)) (by omega)
        · skip
          refine zw_iload_n (pc := 20) (n := 2) (x := Int32.ofInt u1_) rfl (zdal_p dlC_M_subIndex_33 (i := 12) rfl) ?_
          exact zr_iret (pc := 21) (ty := .int) rfl rfl ⟨by omega, by omega⟩ hf (show ((0 ≤ u1_ ∧ u1_ < ze Mz 81 25 ∧ ze Mz 89 (u1_).toNat = a0_) ∨ (u1_ = -1 ∧ ∀ k : Nat, (k : Int) < ze Mz 81 25 → ze Mz 89 k ≠ a0_)) from Or.inl (⟨(show 0 ≤ u1_ by first | with_reducible assumption | assumption | omega), (show u1_ < ze Mz 81 25 by first | with_reducible assumption | assumption | omega), (show ze Mz 89 (u1_).toNat = a0_ by first | with_reducible assumption | assumption | omega)⟩)) (zdal_p dlC_M_subIndex_33 (i := 13) rfl)
  exact lp_2 _ 0 (by decide) (by decide) (show 0 ≤ (0 : Int) by first | with_reducible assumption | assumption | omega) (show ∀ k : Nat, (k : Int) < (0 : Int) → ze Mz 89 k ≠ a0_ by exact zall_0) (Nat.lt_succ_self _)
set_option maxHeartbeats 4000000 in
theorem c_M_sortOfFirst (l : Launch) (Mz : zMem) (hW : zMt Mz) (a0_ : Int) (ha0_a : -2147483648 ≤ a0_) (ha0_b : a0_ < 2147483648) (p0_ : 0 ≤ ze Mz 81 26) (p1_ : ze Mz 81 26 ≤ 64) : zC l m_M_sortOfFirst 0 0 [.ref 81, .int (Int32.ofInt a0_)] Mz (zpI [] [] Mz (fun v N => (((0 ≤ v ∧ v < ze Mz 81 26 ∧ ze Mz 91 (v).toNat = a0_) ∨ (v = -1 ∧ ∀ k : Nat, (k : Int) < ze Mz 81 26 → ze Mz 91 k ≠ a0_))))) := by
  refine zC_of (L0 := [some (.ref 81), some (.int (Int32.ofInt a0_)), none]) md_M_sortOfFirst (Nat.le_of_ble_eq_true rfl) rfl ?_ zQ0
  have hf : zFr [] [] Mz Mz := zFr.rf
  have r_26 := ze_r Mz 81 26
  refine zw_iconst (pc := 0) (v := Int32.ofInt 0) (by decide) (zdal_p dlC_M_sortOfFirst_41 (i := 0) rfl) ?_
  refine zw_istore_n (pc := 1) (i := 2) (L2 := [some (.ref 81), some (.int (Int32.ofInt a0_)), some (.int (Int32.ofInt 0))]) rfl (by decide) rfl (zdal_p dlC_M_sortOfFirst_41 (i := 1) rfl) ?_
  have lp_2 : ∀ (n : Nat) (u1_ : Int) (hu1_a : -2147483648 ≤ u1_) (hu1_b : u1_ < 2147483648) (i2_ : 0 ≤ u1_) (i3_ : ∀ k : Nat, (k : Int) < u1_ → ze Mz 91 k ≠ a0_), (ze Mz 81 26 - u1_).toNat < n → zW l m_M_sortOfFirst (zn Mz + 0, zw Mz + 0) Mz 2 [some (.ref 81), some (.int (Int32.ofInt a0_)), some (.int (Int32.ofInt u1_))] [] (zpI [] [] Mz (fun v N => (((0 ≤ v ∧ v < ze Mz 81 26 ∧ ze Mz 91 (v).toNat = a0_) ∨ (v = -1 ∧ ∀ k : Nat, (k : Int) < ze Mz 81 26 → ze Mz 91 k ≠ a0_))))) := by
    intro n
    induction n with
    | zero =>
      intro u1_ hu1_a hu1_b i2_ i3_ h0
      exact absurd h0 (Nat.not_lt_zero _)
    | succ n ih_2 =>
      intro u1_ hu1_a hu1_b i2_ i3_ hlt_2
      refine zw_iload_n (pc := 2) (n := 2) (x := Int32.ofInt u1_) rfl (zdal_p dlC_M_sortOfFirst_41 (i := 2) rfl) ?_
      refine zw_aload_n (pc := 3) (n := 0) (x := 81) rfl (zdal_p dlC_M_sortOfFirst_41 (i := 3) rfl) ?_
      refine zr_getI0 hf hW (pc := 4) (by decide) f_M_235 rfl (zdal_p dlC_M_sortOfFirst_41 (i := 4) rfl) ?_
      refine zr_icmp_ge (pc := 7) (tgt := 28) ⟨hu1_a, hu1_b⟩ ⟨(ze_r Mz 81 26).1, (ze_r Mz 81 26).2⟩ (by decide) (zdal_p dlC_M_sortOfFirst_41 (i := 5) rfl) (fun hc_7 => ?_) (fun hc_7 => ?_)
      · skip
        refine zw_iconst (pc := 28) (v := Int32.ofInt (-1)) (by decide) (zdal_p dlC_M_sortOfFirst_41 (i := 16) rfl) ?_
        exact zr_iret (pc := 29) (ty := .int) rfl rfl ⟨by omega, by omega⟩ hf (show ((0 ≤ ((-1)) ∧ ((-1)) < ze Mz 81 26 ∧ ze Mz 91 (((-1))).toNat = a0_) ∨ (((-1)) = -1 ∧ ∀ k : Nat, (k : Int) < ze Mz 81 26 → ze Mz 91 k ≠ a0_)) from Or.inr (⟨(show ((-1)) = -1 by first | omega | (intro k hk; exact (show ∀ k : Nat, (k : Int) < u1_ → ze Mz 91 k ≠ a0_ by first | with_reducible assumption | assumption) k (by omega))), (show ∀ k : Nat, (k : Int) < ze Mz 81 26 → ze Mz 91 k ≠ a0_ by first | omega | (intro k hk; exact (show ∀ k : Nat, (k : Int) < u1_ → ze Mz 91 k ≠ a0_ by first | with_reducible assumption | assumption) k (by omega)))⟩)) (zdal_p dlC_M_sortOfFirst_41 (i := 17) rfl)
      · skip
        refine zw_aload_n (pc := 10) (n := 0) (x := 81) rfl (zdal_p dlC_M_sortOfFirst_41 (i := 6) rfl) ?_
        refine zr_getF (r := 91) (hf.w hW) (pc := 11) f_M_44 rfl (zh_91 (hf.w hW)).1 (zdal_p dlC_M_sortOfFirst_41 (i := 7) rfl) ?_
        refine zw_iload_n (pc := 14) (n := 2) (x := Int32.ofInt u1_) rfl (zdal_p dlC_M_sortOfFirst_41 (i := 8) rfl) ?_
        refine zr_ialdn (pc := 15) (zh_91 (hf.w hW)).2 (by decide) (by omega) (by omega) (zdal_p dlC_M_sortOfFirst_41 (i := 9) rfl) (fun v4_ hv4_ hv4_a hv4_b => ?_)
        refine zw_iload_n (pc := 16) (n := 1) (x := Int32.ofInt a0_) rfl (zdal_p dlC_M_sortOfFirst_41 (i := 10) rfl) ?_
        refine zr_icmp_ne (pc := 17) (tgt := 22) ⟨hv4_a, hv4_b⟩ ⟨ha0_a, ha0_b⟩ (by decide) (zdal_p dlC_M_sortOfFirst_41 (i := 11) rfl) (fun hc_17 => ?_) (fun hc_17 => ?_)
        · skip
          refine zr_iinc (pc := 22) (i := 2) (a := u1_) (n := 1) (L2 := [some (.ref 81), some (.int (Int32.ofInt a0_)), some (.int (Int32.ofInt (u1_ + 1)))]) rfl (by decide) rfl (zdal_p dlC_M_sortOfFirst_41 (i := 14) rfl) ?_
          refine zw_goto (pc := 25) (tgt := 2) (by decide) (zdal_p dlC_M_sortOfFirst_41 (i := 15) rfl) ?_
          exact ih_2 (u1_ + 1) (by omega) (by omega) (show 0 ≤ (u1_ + 1) by first | with_reducible assumption | assumption | omega) (show ∀ k : Nat, (k : Int) < (u1_ + 1) → ze Mz 91 k ≠ a0_ by exact zall_s (by omega) (by first | with_reducible assumption | assumption) (by omega)) (by omega)
        · skip
          refine zw_iload_n (pc := 20) (n := 2) (x := Int32.ofInt u1_) rfl (zdal_p dlC_M_sortOfFirst_41 (i := 12) rfl) ?_
          exact zr_iret (pc := 21) (ty := .int) rfl rfl ⟨by omega, by omega⟩ hf (show ((0 ≤ u1_ ∧ u1_ < ze Mz 81 26 ∧ ze Mz 91 (u1_).toNat = a0_) ∨ (u1_ = -1 ∧ ∀ k : Nat, (k : Int) < ze Mz 81 26 → ze Mz 91 k ≠ a0_)) from Or.inl (⟨(show 0 ≤ u1_ by first | with_reducible assumption | assumption | omega), (show u1_ < ze Mz 81 26 by first | with_reducible assumption | assumption | omega), (show ze Mz 91 (u1_).toNat = a0_ by first | with_reducible assumption | assumption | omega)⟩)) (zdal_p dlC_M_sortOfFirst_41 (i := 13) rfl)
  exact lp_2 _ 0 (by decide) (by decide) (show 0 ≤ (0 : Int) by first | with_reducible assumption | assumption | omega) (show ∀ k : Nat, (k : Int) < (0 : Int) → ze Mz 91 k ≠ a0_ by exact zall_0) (Nat.lt_succ_self _)
set_option maxHeartbeats 4000000 in
theorem c_M_turned (l : Launch) (Mz : zMem) (hW : zMt Mz) (a0_ : Int) (ha0_a : -2147483648 ≤ a0_) (ha0_b : a0_ < 2147483648) (a1_ : Int) (ha1_a : -2147483648 ≤ a1_) (ha1_b : a1_ < 2147483648) (T : zGT) (hG : gGd T) (p0_ : zTab T Mz) (p1_ : 0 ≤ a0_) (p2_ : 0 ≤ a1_) (p3_ : a1_ < ze Mz 81 20) : zC l m_M_turned 0 0 [.ref 81, .int (Int32.ofInt a0_), .int (Int32.ofInt a1_)] Mz (zpI [] [] Mz (fun v N => v = ((gtr T (a0_).toNat (a1_).toNat : Nat) : Int) ∧ 0 ≤ v ∧ v < 16777216)) := by
  refine zC_of (L0 := [some (.ref 81), some (.int (Int32.ofInt a0_)), some (.int (Int32.ofInt a1_)), none, none]) md_M_turned (Nat.le_of_ble_eq_true rfl) rfl ?_ zQ0
  have hf : zFr [] [] Mz Mz := zFr.rf
  have r_20 := ze_r Mz 81 20
  have gn := p0_.1
  have g1 := hG.1
  have g24 := hG.2.1
  have hg : (a1_).toNat < gN T := by omega
  have hu := hG.2.2.1 _ hg
  have hui := p0_.u (a := a1_) (by omega) (by omega)
  refine zw_iconst (pc := 0) (v := Int32.ofInt 0) (by decide) (zdal_p dlC_M_turned_35 (i := 0) rfl) ?_
  refine zw_istore_n (pc := 1) (i := 3) (L2 := [some (.ref 81), some (.int (Int32.ofInt a0_)), some (.int (Int32.ofInt a1_)), some (.int (Int32.ofInt 0)), none]) rfl (by decide) rfl (zdal_p dlC_M_turned_35 (i := 1) rfl) ?_
  refine zw_iconst (pc := 2) (v := Int32.ofInt 0) (by decide) (zdal_p dlC_M_turned_35 (i := 2) rfl) ?_
  refine zw_istore (pc := 3) (i := 4) (L2 := [some (.ref 81), some (.int (Int32.ofInt a0_)), some (.int (Int32.ofInt a1_)), some (.int (Int32.ofInt 0)), some (.int (Int32.ofInt 0))]) (by decide) rfl (zdal_p dlC_M_turned_35 (i := 3) rfl) ?_
  have lp_5 : ∀ (n : Nat) (u1_ : Int) (hu1_a : -2147483648 ≤ u1_) (hu1_b : u1_ < 2147483648) (u2_ : Int) (hu2_a : -2147483648 ≤ u2_) (hu2_b : u2_ < 2147483648) (i3_ : 0 ≤ u2_) (i4_ : 0 ≤ u1_) (i5_ : u1_ < 16777216) (i6_ : u1_ = ((gup (gtrF T (a0_).toNat (a1_).toNat) 0 (u2_).toNat : Nat) : Int)) (i7_ : u2_ ≤ ze Mz 81 20), (ze Mz 81 20 - u2_).toNat < n → zW l m_M_turned (zn Mz + 0, zw Mz + 0) Mz 5 [some (.ref 81), some (.int (Int32.ofInt a0_)), some (.int (Int32.ofInt a1_)), some (.int (Int32.ofInt u1_)), some (.int (Int32.ofInt u2_))] [] (zpI [] [] Mz (fun v N => v = ((gtr T (a0_).toNat (a1_).toNat : Nat) : Int) ∧ 0 ≤ v ∧ v < 16777216)) := by
    intro n
    induction n with
    | zero =>
      intro u1_ hu1_a hu1_b u2_ hu2_a hu2_b i3_ i4_ i5_ i6_ i7_ h0
      exact absurd h0 (Nat.not_lt_zero _)
    | succ n ih_5 =>
      intro u1_ hu1_a hu1_b u2_ hu2_a hu2_b i3_ i4_ i5_ i6_ i7_ hlt_5
      refine zw_iload (pc := 5) (i := 4) (x := Int32.ofInt u2_) rfl (zdal_p dlC_M_turned_35 (i := 4) rfl) ?_
      refine zw_aload_n (pc := 7) (n := 0) (x := 81) rfl (zdal_p dlC_M_turned_35 (i := 5) rfl) ?_
      refine zr_getI0 hf hW (pc := 8) (by decide) f_M_196 rfl (zdal_p dlC_M_turned_35 (i := 6) rfl) ?_
      refine zr_icmp_ge (pc := 11) (tgt := 51) ⟨hu2_a, hu2_b⟩ ⟨(ze_r Mz 81 20).1, (ze_r Mz 81 20).2⟩ (by decide) (zdal_p dlC_M_turned_35 (i := 7) rfl) (fun hc_11 => ?_) (fun hc_11 => ?_)
      · skip
        refine zw_iload_n (pc := 51) (n := 3) (x := Int32.ofInt u1_) rfl (zdal_p dlC_M_turned_36 (i := 5) rfl) ?_
        have he : (u2_).toNat = gN T := by omega
        exact zr_iret (pc := 52) (ty := .int) rfl rfl ⟨by omega, by omega⟩ hf ⟨(show u1_ = ((gtr T (a0_).toNat (a1_).toNat : Nat) : Int) by rw [gtr_e, ← he]; assumption), (show 0 ≤ u1_ by first | with_reducible assumption | assumption | omega), (show u1_ < 16777216 by first | with_reducible assumption | assumption | omega)⟩ (zdal_p dlC_M_turned_36 (i := 6) rfl)
      · skip
        refine zw_iload_n (pc := 14) (n := 1) (x := Int32.ofInt a0_) rfl (zdal_p dlC_M_turned_35 (i := 8) rfl) ?_
        refine zw_iload (pc := 15) (i := 4) (x := Int32.ofInt u2_) rfl (zdal_p dlC_M_turned_35 (i := 9) rfl) ?_
        refine zr_callS hf.x (pc := 17) [.int (Int32.ofInt a0_), .int (Int32.ofInt u2_)] [] l_M_213 (c_M_holds l Mz (hf.w hW) a0_ ha0_a ha0_b u2_ hu2_a hu2_b (show 0 ≤ a0_ by first | with_reducible assumption | assumption | omega) (show 0 ≤ u2_ by first | with_reducible assumption | assumption | omega) (show u2_ < 32 by first | with_reducible assumption | assumption | omega)) rfl rfl (by decide) (Nat.le_of_ble_eq_true rfl) (zdal_p dlC_M_turned_35 (i := 10) rfl) ?_
        rintro _ N8_ ⟨v9_, rfl, ⟨hv9_a, hv9_b⟩, hsN8_, hp0_N8_⟩
        obtain rfl := hsN8_.eq.symm
        replace hp0_N8_ : ((v9_ = 1 ∧ zbt a0_ u2_) ∨ (v9_ = 0 ∧ ¬ zbt a0_ u2_)) := hp0_N8_
        rcases hp0_N8_ with ⟨rfl, ha17_0_hp0_N8_⟩ | ⟨rfl, ha17_0_hp0_N8_⟩
        · skip
          show zW l m_M_turned (zn Mz + 0, zw Mz + 0) Mz 20 [some (.ref 81), some (.int (Int32.ofInt a0_)), some (.int (Int32.ofInt a1_)), some (.int (Int32.ofInt u1_)), some (.int (Int32.ofInt u2_))] [.int (Int32.ofInt 1)] _
          refine zr_if_eq (pc := 20) (tgt := 45) ⟨(by decide), (by decide)⟩ (by decide) (zdal_p dlC_M_turned_35 (i := 11) rfl) (fun hc_20 => ?_) (fun hc_20 => ?_)
          · skip
            exact absurd hc_20 (by decide)
          · skip
            refine zw_iload_n (pc := 23) (n := 3) (x := Int32.ofInt u1_) rfl (zdal_p dlC_M_turned_35 (i := 12) rfl) ?_
            refine zw_iconst (pc := 24) (v := Int32.ofInt 1) (by decide) (zdal_p dlC_M_turned_35 (i := 13) rfl) ?_
            refine zw_aload_n (pc := 25) (n := 0) (x := 81) rfl (zdal_p dlC_M_turned_35 (i := 14) rfl) ?_
            refine zw_aload_n (pc := 26) (n := 0) (x := 81) rfl (zdal_p dlC_M_turned_35 (i := 15) rfl) ?_
            refine zw_aload_n (pc := 27) (n := 0) (x := 81) rfl (zdal_p dlC_M_turned_35 (i := 16) rfl) ?_
            refine zr_getF (r := 88) (hf.w hW) (pc := 28) f_M_35 rfl (zh_88 (hf.w hW)).1 (zdal_p dlC_M_turned_35 (i := 17) rfl) ?_
            refine zw_iload_n (pc := 31) (n := 2) (x := Int32.ofInt a1_) rfl (zdal_p dlC_M_turned_35 (i := 18) rfl) ?_
            refine zr_ialdn (pc := 32) (zh_88 (hf.w hW)).2 (by decide) (by omega) (by omega) (zdal_p dlC_M_turned_35 (i := 19) rfl) (fun v10_ hv10_ hv10_a hv10_b => ?_)
            have hu5 : (v10_).toNat = gi T (a1_).toNat := by omega
            refine zw_iload (pc := 33) (i := 4) (x := Int32.ofInt u2_) rfl (zdal_p dlC_M_turned_35 (i := 20) rfl) ?_
            refine zr_callV (hf.w hW) hf.x (pc := 35) [.int (Int32.ofInt v10_), .int (Int32.ofInt u2_)] [.ref 81, .int (Int32.ofInt 1), .int (Int32.ofInt u1_)] l_M_216 (c_M_by l Mz (hf.w hW) v10_ hv10_a hv10_b u2_ hu2_a hu2_b T hG p0_ (show 0 ≤ v10_ by first | with_reducible assumption | assumption | omega) (show v10_ < ze Mz 81 20 by first | with_reducible assumption | assumption | omega) (show 0 ≤ u2_ by first | with_reducible assumption | assumption | omega) (show u2_ < ze Mz 81 20 by first | with_reducible assumption | assumption | omega)) rfl rfl rfl (by decide) (Nat.le_of_ble_eq_true rfl) (zdal_p dlC_M_turned_35 (i := 21) rfl) ?_
            rintro _ N11_ ⟨v12_, rfl, ⟨hv12_a, hv12_b⟩, hsN11_, ⟨hp0_N11_, hp1_N11_, hp2_N11_⟩⟩
            obtain rfl := hsN11_.eq.symm
            show zW l m_M_turned (zn Mz + 0, zw Mz + 0) Mz 38 [some (.ref 81), some (.int (Int32.ofInt a0_)), some (.int (Int32.ofInt a1_)), some (.int (Int32.ofInt u1_)), some (.int (Int32.ofInt u2_))] [.int (Int32.ofInt v12_), .ref 81, .int (Int32.ofInt 1), .int (Int32.ofInt u1_)] _
            have hw1 : v12_ = ((gm T (gi T (a1_).toNat) (u2_).toNat : Nat) : Int) := by rw [← hu5]; assumption
            refine zw_iload_n (pc := 38) (n := 2) (x := Int32.ofInt a1_) rfl (zdal_p dlC_M_turned_35 (i := 22) rfl) ?_
            refine zr_callV (hf.w hW) hf.x (pc := 39) [.int (Int32.ofInt v12_), .int (Int32.ofInt a1_)] [.int (Int32.ofInt 1), .int (Int32.ofInt u1_)] l_M_216 (c_M_by l Mz (hf.w hW) v12_ hv12_a hv12_b a1_ ha1_a ha1_b T hG p0_ (show 0 ≤ v12_ by first | with_reducible assumption | assumption | omega) (show v12_ < ze Mz 81 20 by first | with_reducible assumption | assumption | omega) (show 0 ≤ a1_ by first | with_reducible assumption | assumption | omega) (show a1_ < ze Mz 81 20 by first | with_reducible assumption | assumption | omega)) rfl rfl rfl (by decide) (Nat.le_of_ble_eq_true rfl) (zdal_p dlC_M_turned_35 (i := 23) rfl) ?_
            rintro _ N13_ ⟨v14_, rfl, ⟨hv14_a, hv14_b⟩, hsN13_, ⟨hp0_N13_, hp1_N13_, hp2_N13_⟩⟩
            obtain rfl := hsN13_.eq.symm
            show zW l m_M_turned (zn Mz + 0, zw Mz + 0) Mz 42 [some (.ref 81), some (.int (Int32.ofInt a0_)), some (.int (Int32.ofInt a1_)), some (.int (Int32.ofInt u1_)), some (.int (Int32.ofInt u2_))] [.int (Int32.ofInt v14_), .int (Int32.ofInt 1), .int (Int32.ofInt u1_)] _
            refine zr_ishl (pc := 42) (zdal_p dlC_M_turned_36 (i := 0) rfl) ?_
            have hr15_ := zshl_r 1 v14_
            refine zr_ior (pc := 43) (zdal_p dlC_M_turned_36 (i := 1) rfl) ?_
            have hr16_ := zor_r u1_ (zshl 1 v14_)
            refine zw_istore_n (pc := 44) (i := 3) (L2 := [some (.ref 81), some (.int (Int32.ofInt a0_)), some (.int (Int32.ofInt a1_)), some (.int (Int32.ofInt (zor u1_ (zshl 1 v14_)))), some (.int (Int32.ofInt u2_))]) rfl (by decide) rfl (zdal_p dlC_M_turned_36 (i := 2) rfl) ?_
            refine zr_iinc (pc := 45) (i := 4) (a := u2_) (n := 1) (L2 := [some (.ref 81), some (.int (Int32.ofInt a0_)), some (.int (Int32.ofInt a1_)), some (.int (Int32.ofInt (zor u1_ (zshl 1 v14_)))), some (.int (Int32.ofInt (u2_ + 1)))]) rfl (by decide) rfl (zdal_p dlC_M_turned_36 (i := 3) rfl) ?_
            refine zw_goto (pc := 48) (tgt := 5) (by decide) (zdal_p dlC_M_turned_36 (i := 4) rfl) ?_
            have hv : (zor u1_ (zshl 1 v14_)) = ((gup (gtrF T (a0_).toNat (a1_).toNat) 0 ((u2_ + 1)).toNat : Nat) : Int) := by first | exact gtr_s0 rfl (by omega) (by first | with_reducible assumption | assumption) (by first | with_reducible assumption | assumption) | exact gtr_s1 hG hg rfl (by omega) (by omega) (by first | with_reducible assumption | assumption) (by first | with_reducible assumption | assumption) hw1 (by first | with_reducible assumption | assumption)
            have hb := gtr_b hG (S := (a0_).toNat) hg ((u2_ + 1)).toNat (by omega)
            have hb2 : (2 : Nat) ^ gN T ≤ 2 ^ 24 := Nat.pow_le_pow_right (by omega) g24
            have hb3 : (2 : Nat) ^ 24 = 16777216 := rfl
            exact ih_5 (zor u1_ (zshl 1 v14_)) (by omega) (by omega) (u2_ + 1) (by omega) (by omega) (show 0 ≤ (u2_ + 1) by first | with_reducible assumption | assumption | omega) (show 0 ≤ (zor u1_ (zshl 1 v14_)) by first | with_reducible assumption | assumption | omega) (show (zor u1_ (zshl 1 v14_)) < 16777216 by first | with_reducible assumption | assumption | omega) (show (zor u1_ (zshl 1 v14_)) = ((gup (gtrF T (a0_).toNat (a1_).toNat) 0 ((u2_ + 1)).toNat : Nat) : Int) by first | with_reducible assumption | assumption | omega) (show (u2_ + 1) ≤ ze Mz 81 20 by first | with_reducible assumption | assumption | omega) (by omega)
        · skip
          show zW l m_M_turned (zn Mz + 0, zw Mz + 0) Mz 20 [some (.ref 81), some (.int (Int32.ofInt a0_)), some (.int (Int32.ofInt a1_)), some (.int (Int32.ofInt u1_)), some (.int (Int32.ofInt u2_))] [.int (Int32.ofInt 0)] _
          refine zr_if_eq (pc := 20) (tgt := 45) ⟨(by decide), (by decide)⟩ (by decide) (zdal_p dlC_M_turned_35 (i := 11) rfl) (fun hc_20 => ?_) (fun hc_20 => ?_)
          · skip
            refine zr_iinc (pc := 45) (i := 4) (a := u2_) (n := 1) (L2 := [some (.ref 81), some (.int (Int32.ofInt a0_)), some (.int (Int32.ofInt a1_)), some (.int (Int32.ofInt u1_)), some (.int (Int32.ofInt (u2_ + 1)))]) rfl (by decide) rfl (zdal_p dlC_M_turned_36 (i := 3) rfl) ?_
            refine zw_goto (pc := 48) (tgt := 5) (by decide) (zdal_p dlC_M_turned_36 (i := 4) rfl) ?_
            have hv : u1_ = ((gup (gtrF T (a0_).toNat (a1_).toNat) 0 ((u2_ + 1)).toNat : Nat) : Int) := by first | exact gtr_s0 rfl (by omega) (by first | with_reducible assumption | assumption) (by first | with_reducible assumption | assumption) | exact gtr_s1 hG hg rfl (by omega) (by omega) (by first | with_reducible assumption | assumption) (by first | with_reducible assumption | assumption) hw1 (by first | with_reducible assumption | assumption)
            have hb := gtr_b hG (S := (a0_).toNat) hg ((u2_ + 1)).toNat (by omega)
            have hb2 : (2 : Nat) ^ gN T ≤ 2 ^ 24 := Nat.pow_le_pow_right (by omega) g24
            have hb3 : (2 : Nat) ^ 24 = 16777216 := rfl
            exact ih_5 u1_ hu1_a hu1_b (u2_ + 1) (by omega) (by omega) (show 0 ≤ (u2_ + 1) by first | with_reducible assumption | assumption | omega) (show 0 ≤ u1_ by first | with_reducible assumption | assumption | omega) (show u1_ < 16777216 by first | with_reducible assumption | assumption | omega) (show u1_ = ((gup (gtrF T (a0_).toNat (a1_).toNat) 0 ((u2_ + 1)).toNat : Nat) : Int) by first | with_reducible assumption | assumption | omega) (show (u2_ + 1) ≤ ze Mz 81 20 by first | with_reducible assumption | assumption | omega) (by omega)
          · skip
            exact absurd hc_20 (by decide)
  exact lp_5 _ 0 (by decide) (by decide) 0 (by decide) (by decide) (show 0 ≤ (0 : Int) by first | with_reducible assumption | assumption | omega) (show 0 ≤ (0 : Int) by first | with_reducible assumption | assumption | omega) (show (0 : Int) < 16777216 by first | with_reducible assumption | assumption | omega) (show (0 : Int) = ((gup (gtrF T (a0_).toNat (a1_).toNat) 0 ((0 : Int)).toNat : Nat) : Int) by rfl) (show (0 : Int) ≤ ze Mz 81 20 by first | with_reducible assumption | assumption | omega) (Nat.lt_succ_self _)
set_option maxHeartbeats 4000000 in
theorem c_M_leastTurned (l : Launch) (Mz : zMem) (hW : zMt Mz) (a0_ : Int) (ha0_a : -2147483648 ≤ a0_) (ha0_b : a0_ < 2147483648) (T : zGT) (hG : gGd T) (p0_ : zTab T Mz) (p1_ : 0 ≤ a0_) (p2_ : a0_ < 16777216) : zC l m_M_leastTurned 0 0 [.ref 81, .int (Int32.ofInt a0_)] Mz (zpI [] [] Mz (fun v N => v = ((glt T (a0_).toNat : Nat) : Int) ∧ 0 ≤ v ∧ v < 16777216)) := by
  refine zC_of (L0 := [some (.ref 81), some (.int (Int32.ofInt a0_)), none, none, none]) md_M_leastTurned (Nat.le_of_ble_eq_true rfl) rfl ?_ zQ0
  have hf : zFr [] [] Mz Mz := zFr.rf
  have r_20 := ze_r Mz 81 20
  have gn := p0_.1
  have g1 := hG.1
  have g24 := hG.2.1
  refine zw_iload_n (pc := 0) (n := 1) (x := Int32.ofInt a0_) rfl (zdal_p dlC_M_leastTurned_34 (i := 0) rfl) ?_
  refine zw_istore_n (pc := 1) (i := 2) (L2 := [some (.ref 81), some (.int (Int32.ofInt a0_)), some (.int (Int32.ofInt a0_)), none, none]) rfl (by decide) rfl (zdal_p dlC_M_leastTurned_34 (i := 1) rfl) ?_
  refine zw_iconst (pc := 2) (v := Int32.ofInt 0) (by decide) (zdal_p dlC_M_leastTurned_34 (i := 2) rfl) ?_
  refine zw_istore_n (pc := 3) (i := 3) (L2 := [some (.ref 81), some (.int (Int32.ofInt a0_)), some (.int (Int32.ofInt a0_)), some (.int (Int32.ofInt 0)), none]) rfl (by decide) rfl (zdal_p dlC_M_leastTurned_34 (i := 3) rfl) ?_
  have lp_4 : ∀ (n : Nat) (u1_ : Int) (hu1_a : -2147483648 ≤ u1_) (hu1_b : u1_ < 2147483648) (u2_ : Int) (hu2_a : -2147483648 ≤ u2_) (hu2_b : u2_ < 2147483648) (i3_ : 0 ≤ u2_) (i4_ : 0 ≤ u1_) (i5_ : u1_ < 16777216) (i6_ : u1_ = ((gup (gltF T (a0_).toNat) (a0_).toNat (u2_).toNat : Nat) : Int)) (i7_ : u2_ ≤ ze Mz 81 20), (ze Mz 81 20 - u2_).toNat < n → zW l m_M_leastTurned (zn Mz + 0, zw Mz + 0) Mz 4 [some (.ref 81), some (.int (Int32.ofInt a0_)), some (.int (Int32.ofInt u1_)), some (.int (Int32.ofInt u2_)), none] [] (zpI [] [] Mz (fun v N => v = ((glt T (a0_).toNat : Nat) : Int) ∧ 0 ≤ v ∧ v < 16777216)) := by
    intro n
    induction n with
    | zero =>
      intro u1_ hu1_a hu1_b u2_ hu2_a hu2_b i3_ i4_ i5_ i6_ i7_ h0
      exact absurd h0 (Nat.not_lt_zero _)
    | succ n ih_4 =>
      intro u1_ hu1_a hu1_b u2_ hu2_a hu2_b i3_ i4_ i5_ i6_ i7_ hlt_4
      refine zw_iload_n (pc := 4) (n := 3) (x := Int32.ofInt u2_) rfl (zdal_p dlC_M_leastTurned_34 (i := 4) rfl) ?_
      refine zw_aload_n (pc := 5) (n := 0) (x := 81) rfl (zdal_p dlC_M_leastTurned_34 (i := 5) rfl) ?_
      refine zr_getI0 hf hW (pc := 6) (by decide) f_M_196 rfl (zdal_p dlC_M_leastTurned_34 (i := 6) rfl) ?_
      refine zr_icmp_ge (pc := 9) (tgt := 39) ⟨hu2_a, hu2_b⟩ ⟨(ze_r Mz 81 20).1, (ze_r Mz 81 20).2⟩ (by decide) (zdal_p dlC_M_leastTurned_34 (i := 7) rfl) (fun hc_9 => ?_) (fun hc_9 => ?_)
      · skip
        refine zw_iload_n (pc := 39) (n := 2) (x := Int32.ofInt u1_) rfl (zdal_p dlC_M_leastTurned_34 (i := 22) rfl) ?_
        have he : (u2_).toNat = gN T := by omega
        exact zr_iret (pc := 40) (ty := .int) rfl rfl ⟨by omega, by omega⟩ hf ⟨(show u1_ = ((glt T (a0_).toNat : Nat) : Int) by rw [glt_e, ← he]; assumption), (show 0 ≤ u1_ by first | with_reducible assumption | assumption | omega), (show u1_ < 16777216 by first | with_reducible assumption | assumption | omega)⟩ (zdal_p dlC_M_leastTurned_34 (i := 23) rfl)
      · skip
        refine zw_aload_n (pc := 12) (n := 0) (x := 81) rfl (zdal_p dlC_M_leastTurned_34 (i := 8) rfl) ?_
        refine zw_iload_n (pc := 13) (n := 1) (x := Int32.ofInt a0_) rfl (zdal_p dlC_M_leastTurned_34 (i := 9) rfl) ?_
        refine zw_iload_n (pc := 14) (n := 3) (x := Int32.ofInt u2_) rfl (zdal_p dlC_M_leastTurned_34 (i := 10) rfl) ?_
        refine zr_callV (hf.w hW) hf.x (pc := 15) [.int (Int32.ofInt a0_), .int (Int32.ofInt u2_)] [] l_M_223 (c_M_turned l Mz (hf.w hW) a0_ ha0_a ha0_b u2_ hu2_a hu2_b T hG p0_ (show 0 ≤ a0_ by first | with_reducible assumption | assumption | omega) (show 0 ≤ u2_ by first | with_reducible assumption | assumption | omega) (show u2_ < ze Mz 81 20 by first | with_reducible assumption | assumption | omega)) rfl rfl rfl (by decide) (Nat.le_of_ble_eq_true rfl) (zdal_p dlC_M_leastTurned_34 (i := 11) rfl) ?_
        rintro _ N8_ ⟨v9_, rfl, ⟨hv9_a, hv9_b⟩, hsN8_, ⟨hp0_N8_, hp1_N8_, hp2_N8_⟩⟩
        obtain rfl := hsN8_.eq.symm
        show zW l m_M_leastTurned (zn Mz + 0, zw Mz + 0) Mz 18 [some (.ref 81), some (.int (Int32.ofInt a0_)), some (.int (Int32.ofInt u1_)), some (.int (Int32.ofInt u2_)), none] [.int (Int32.ofInt v9_)] _
        refine zw_istore (pc := 18) (i := 4) (L2 := [some (.ref 81), some (.int (Int32.ofInt a0_)), some (.int (Int32.ofInt u1_)), some (.int (Int32.ofInt u2_)), some (.int (Int32.ofInt v9_))]) (by decide) rfl (zdal_p dlC_M_leastTurned_34 (i := 12) rfl) ?_
        refine zw_iload (pc := 20) (i := 4) (x := Int32.ofInt v9_) rfl (zdal_p dlC_M_leastTurned_34 (i := 13) rfl) ?_
        refine zw_iload_n (pc := 22) (n := 2) (x := Int32.ofInt u1_) rfl (zdal_p dlC_M_leastTurned_34 (i := 14) rfl) ?_
        refine zr_icmp_ge (pc := 23) (tgt := 31) ⟨hv9_a, hv9_b⟩ ⟨hu1_a, hu1_b⟩ (by decide) (zdal_p dlC_M_leastTurned_34 (i := 15) rfl) (fun hc_23 => ?_) (fun hc_23 => ?_)
        · skip
          refine zw_iload_n (pc := 31) (n := 2) (x := Int32.ofInt u1_) rfl (zdal_p dlC_M_leastTurned_34 (i := 18) rfl) ?_
          refine zw_istore_n (pc := 32) (i := 2) (L2 := [some (.ref 81), some (.int (Int32.ofInt a0_)), some (.int (Int32.ofInt u1_)), some (.int (Int32.ofInt u2_)), some (.int (Int32.ofInt v9_))]) rfl (by decide) rfl (zdal_p dlC_M_leastTurned_34 (i := 19) rfl) ?_
          refine zr_iinc (pc := 33) (i := 3) (a := u2_) (n := 1) (L2 := [some (.ref 81), some (.int (Int32.ofInt a0_)), some (.int (Int32.ofInt u1_)), some (.int (Int32.ofInt (u2_ + 1))), some (.int (Int32.ofInt v9_))]) rfl (by decide) rfl (zdal_p dlC_M_leastTurned_34 (i := 20) rfl) ?_
          refine zw_goto (pc := 36) (tgt := 4) (by decide) (zdal_p dlC_M_leastTurned_34 (i := 21) rfl) ?_
          have hv : u1_ = ((gup (gltF T (a0_).toNat) (a0_).toNat ((u2_ + 1)).toNat : Nat) : Int) := by first | exact glt_s1 (by omega) (by first | with_reducible assumption | assumption) (by first | with_reducible assumption | assumption) (by omega) | exact glt_s0 (by omega) (by first | with_reducible assumption | assumption) (by first | with_reducible assumption | assumption) (by omega)
          refine zW_le [some (.ref 81), some (.int (Int32.ofInt a0_)), some (.int (Int32.ofInt u1_)), some (.int (Int32.ofInt (u2_ + 1))), none] (⟨rfl, rfl, rfl, rfl, trivial⟩) ?_
          exact ih_4 u1_ hu1_a hu1_b (u2_ + 1) (by omega) (by omega) (show 0 ≤ (u2_ + 1) by first | with_reducible assumption | assumption | omega) (show 0 ≤ u1_ by first | with_reducible assumption | assumption | omega) (show u1_ < 16777216 by first | with_reducible assumption | assumption | omega) (show u1_ = ((gup (gltF T (a0_).toNat) (a0_).toNat ((u2_ + 1)).toNat : Nat) : Int) by first | with_reducible assumption | assumption | omega) (show (u2_ + 1) ≤ ze Mz 81 20 by first | with_reducible assumption | assumption | omega) (by omega)
        · skip
          refine zw_iload (pc := 26) (i := 4) (x := Int32.ofInt v9_) rfl (zdal_p dlC_M_leastTurned_34 (i := 16) rfl) ?_
          refine zw_goto (pc := 28) (tgt := 32) (by decide) (zdal_p dlC_M_leastTurned_34 (i := 17) rfl) ?_
          refine zw_istore_n (pc := 32) (i := 2) (L2 := [some (.ref 81), some (.int (Int32.ofInt a0_)), some (.int (Int32.ofInt v9_)), some (.int (Int32.ofInt u2_)), some (.int (Int32.ofInt v9_))]) rfl (by decide) rfl (zdal_p dlC_M_leastTurned_34 (i := 19) rfl) ?_
          refine zr_iinc (pc := 33) (i := 3) (a := u2_) (n := 1) (L2 := [some (.ref 81), some (.int (Int32.ofInt a0_)), some (.int (Int32.ofInt v9_)), some (.int (Int32.ofInt (u2_ + 1))), some (.int (Int32.ofInt v9_))]) rfl (by decide) rfl (zdal_p dlC_M_leastTurned_34 (i := 20) rfl) ?_
          refine zw_goto (pc := 36) (tgt := 4) (by decide) (zdal_p dlC_M_leastTurned_34 (i := 21) rfl) ?_
          have hv : v9_ = ((gup (gltF T (a0_).toNat) (a0_).toNat ((u2_ + 1)).toNat : Nat) : Int) := by first | exact glt_s1 (by omega) (by first | with_reducible assumption | assumption) (by first | with_reducible assumption | assumption) (by omega) | exact glt_s0 (by omega) (by first | with_reducible assumption | assumption) (by first | with_reducible assumption | assumption) (by omega)
          refine zW_le [some (.ref 81), some (.int (Int32.ofInt a0_)), some (.int (Int32.ofInt v9_)), some (.int (Int32.ofInt (u2_ + 1))), none] (⟨rfl, rfl, rfl, rfl, trivial⟩) ?_
          exact ih_4 v9_ hv9_a hv9_b (u2_ + 1) (by omega) (by omega) (show 0 ≤ (u2_ + 1) by first | with_reducible assumption | assumption | omega) (show 0 ≤ v9_ by first | with_reducible assumption | assumption | omega) (show v9_ < 16777216 by first | with_reducible assumption | assumption | omega) (show v9_ = ((gup (gltF T (a0_).toNat) (a0_).toNat ((u2_ + 1)).toNat : Nat) : Int) by first | with_reducible assumption | assumption | omega) (show (u2_ + 1) ≤ ze Mz 81 20 by first | with_reducible assumption | assumption | omega) (by omega)
  exact lp_4 _ a0_ ha0_a ha0_b 0 (by decide) (by decide) (show 0 ≤ (0 : Int) by first | with_reducible assumption | assumption | omega) (show 0 ≤ a0_ by first | with_reducible assumption | assumption | omega) (show a0_ < 16777216 by first | with_reducible assumption | assumption | omega) (show a0_ = ((gup (gltF T (a0_).toNat) (a0_).toNat ((0 : Int)).toNat : Nat) : Int) by show a0_ = (((a0_).toNat : Nat) : Int); omega) (show (0 : Int) ≤ ze Mz 81 20 by first | with_reducible assumption | assumption | omega) (Nat.lt_succ_self _)
set_option maxHeartbeats 4000000 in
theorem c_M_leastOf (l : Launch) (Mz : zMem) (hW : zMt Mz) (a0_ : Int) (ha0_a : -2147483648 ≤ a0_) (ha0_b : a0_ < 2147483648) (a1_ : Int) (ha1_a : -2147483648 ≤ a1_) (ha1_b : a1_ < 2147483648) (T : zGT) (hG : gGd T) (p0_ : zTab T Mz) (p1_ : 0 ≤ a0_) (p2_ : 0 ≤ a1_) (p3_ : a1_ < ze Mz 81 20) : zC l m_M_leastOf 0 0 [.ref 81, .int (Int32.ofInt a0_), .int (Int32.ofInt a1_)] Mz (zpI [] [] Mz (fun v N => v = ((gcos T (a0_).toNat (a1_).toNat : Nat) : Int) ∧ 0 ≤ v ∧ v ≤ a1_)) := by
  refine zC_of (L0 := [some (.ref 81), some (.int (Int32.ofInt a0_)), some (.int (Int32.ofInt a1_)), none, none]) md_M_leastOf (Nat.le_of_ble_eq_true rfl) rfl ?_ zQ0
  have hf : zFr [] [] Mz Mz := zFr.rf
  have r_20 := ze_r Mz 81 20
  have gn := p0_.1
  have g1 := hG.1
  have g24 := hG.2.1
  refine zw_iload_n (pc := 0) (n := 2) (x := Int32.ofInt a1_) rfl (zdal_p dlC_M_leastOf_42 (i := 0) rfl) ?_
  refine zw_istore_n (pc := 1) (i := 3) (L2 := [some (.ref 81), some (.int (Int32.ofInt a0_)), some (.int (Int32.ofInt a1_)), some (.int (Int32.ofInt a1_)), none]) rfl (by decide) rfl (zdal_p dlC_M_leastOf_42 (i := 1) rfl) ?_
  refine zw_iconst (pc := 2) (v := Int32.ofInt 0) (by decide) (zdal_p dlC_M_leastOf_42 (i := 2) rfl) ?_
  refine zw_istore (pc := 3) (i := 4) (L2 := [some (.ref 81), some (.int (Int32.ofInt a0_)), some (.int (Int32.ofInt a1_)), some (.int (Int32.ofInt a1_)), some (.int (Int32.ofInt 0))]) (by decide) rfl (zdal_p dlC_M_leastOf_42 (i := 3) rfl) ?_
  have lp_5 : ∀ (n : Nat) (u1_ : Int) (hu1_a : -2147483648 ≤ u1_) (hu1_b : u1_ < 2147483648) (u2_ : Int) (hu2_a : -2147483648 ≤ u2_) (hu2_b : u2_ < 2147483648) (i3_ : 0 ≤ u2_) (i4_ : 0 ≤ u1_) (i5_ : u1_ ≤ a1_) (i6_ : u1_ = ((gup (gcoF T (a0_).toNat (a1_).toNat) (a1_).toNat (u2_).toNat : Nat) : Int)) (i7_ : u2_ ≤ ze Mz 81 20), (ze Mz 81 20 - u2_).toNat < n → zW l m_M_leastOf (zn Mz + 0, zw Mz + 0) Mz 5 [some (.ref 81), some (.int (Int32.ofInt a0_)), some (.int (Int32.ofInt a1_)), some (.int (Int32.ofInt u1_)), some (.int (Int32.ofInt u2_))] [] (zpI [] [] Mz (fun v N => v = ((gcos T (a0_).toNat (a1_).toNat : Nat) : Int) ∧ 0 ≤ v ∧ v ≤ a1_)) := by
    intro n
    induction n with
    | zero =>
      intro u1_ hu1_a hu1_b u2_ hu2_a hu2_b i3_ i4_ i5_ i6_ i7_ h0
      exact absurd h0 (Nat.not_lt_zero _)
    | succ n ih_5 =>
      intro u1_ hu1_a hu1_b u2_ hu2_a hu2_b i3_ i4_ i5_ i6_ i7_ hlt_5
      refine zw_iload (pc := 5) (i := 4) (x := Int32.ofInt u2_) rfl (zdal_p dlC_M_leastOf_42 (i := 4) rfl) ?_
      refine zw_aload_n (pc := 7) (n := 0) (x := 81) rfl (zdal_p dlC_M_leastOf_42 (i := 5) rfl) ?_
      refine zr_getI0 hf hW (pc := 8) (by decide) f_M_196 rfl (zdal_p dlC_M_leastOf_42 (i := 6) rfl) ?_
      refine zr_icmp_ge (pc := 11) (tgt := 48) ⟨hu2_a, hu2_b⟩ ⟨(ze_r Mz 81 20).1, (ze_r Mz 81 20).2⟩ (by decide) (zdal_p dlC_M_leastOf_42 (i := 7) rfl) (fun hc_11 => ?_) (fun hc_11 => ?_)
      · skip
        refine zw_iload_n (pc := 48) (n := 3) (x := Int32.ofInt u1_) rfl (zdal_p dlC_M_leastOf_43 (i := 1) rfl) ?_
        have he : (u2_).toNat = gN T := by omega
        exact zr_iret (pc := 49) (ty := .int) rfl rfl ⟨by omega, by omega⟩ hf ⟨(show u1_ = ((gcos T (a0_).toNat (a1_).toNat : Nat) : Int) by rw [gcos_e, ← he]; assumption), (show 0 ≤ u1_ by first | with_reducible assumption | assumption | omega), (show u1_ ≤ a1_ by first | with_reducible assumption | assumption | omega)⟩ (zdal_p dlC_M_leastOf_43 (i := 2) rfl)
      · skip
        refine zw_iload_n (pc := 14) (n := 1) (x := Int32.ofInt a0_) rfl (zdal_p dlC_M_leastOf_42 (i := 8) rfl) ?_
        refine zw_iload (pc := 15) (i := 4) (x := Int32.ofInt u2_) rfl (zdal_p dlC_M_leastOf_42 (i := 9) rfl) ?_
        refine zr_callS hf.x (pc := 17) [.int (Int32.ofInt a0_), .int (Int32.ofInt u2_)] [] l_M_213 (c_M_holds l Mz (hf.w hW) a0_ ha0_a ha0_b u2_ hu2_a hu2_b (show 0 ≤ a0_ by first | with_reducible assumption | assumption | omega) (show 0 ≤ u2_ by first | with_reducible assumption | assumption | omega) (show u2_ < 32 by first | with_reducible assumption | assumption | omega)) rfl rfl (by decide) (Nat.le_of_ble_eq_true rfl) (zdal_p dlC_M_leastOf_42 (i := 10) rfl) ?_
        rintro _ N8_ ⟨v9_, rfl, ⟨hv9_a, hv9_b⟩, hsN8_, hp0_N8_⟩
        obtain rfl := hsN8_.eq.symm
        replace hp0_N8_ : ((v9_ = 1 ∧ zbt a0_ u2_) ∨ (v9_ = 0 ∧ ¬ zbt a0_ u2_)) := hp0_N8_
        rcases hp0_N8_ with ⟨rfl, ha17_0_hp0_N8_⟩ | ⟨rfl, ha17_0_hp0_N8_⟩
        · skip
          show zW l m_M_leastOf (zn Mz + 0, zw Mz + 0) Mz 20 [some (.ref 81), some (.int (Int32.ofInt a0_)), some (.int (Int32.ofInt a1_)), some (.int (Int32.ofInt u1_)), some (.int (Int32.ofInt u2_))] [.int (Int32.ofInt 1)] _
          refine zr_if_eq (pc := 20) (tgt := 42) ⟨(by decide), (by decide)⟩ (by decide) (zdal_p dlC_M_leastOf_42 (i := 11) rfl) (fun hc_20 => ?_) (fun hc_20 => ?_)
          · skip
            exact absurd hc_20 (by decide)
          · skip
            refine zw_aload_n (pc := 23) (n := 0) (x := 81) rfl (zdal_p dlC_M_leastOf_42 (i := 12) rfl) ?_
            refine zw_iload (pc := 24) (i := 4) (x := Int32.ofInt u2_) rfl (zdal_p dlC_M_leastOf_42 (i := 13) rfl) ?_
            refine zw_iload_n (pc := 26) (n := 2) (x := Int32.ofInt a1_) rfl (zdal_p dlC_M_leastOf_42 (i := 14) rfl) ?_
            refine zr_callV (hf.w hW) hf.x (pc := 27) [.int (Int32.ofInt u2_), .int (Int32.ofInt a1_)] [] l_M_216 (c_M_by l Mz (hf.w hW) u2_ hu2_a hu2_b a1_ ha1_a ha1_b T hG p0_ (show 0 ≤ u2_ by first | with_reducible assumption | assumption | omega) (show u2_ < ze Mz 81 20 by first | with_reducible assumption | assumption | omega) (show 0 ≤ a1_ by first | with_reducible assumption | assumption | omega) (show a1_ < ze Mz 81 20 by first | with_reducible assumption | assumption | omega)) rfl rfl rfl (by decide) (Nat.le_of_ble_eq_true rfl) (zdal_p dlC_M_leastOf_42 (i := 15) rfl) ?_
            rintro _ N10_ ⟨v11_, rfl, ⟨hv11_a, hv11_b⟩, hsN10_, ⟨hp0_N10_, hp1_N10_, hp2_N10_⟩⟩
            obtain rfl := hsN10_.eq.symm
            show zW l m_M_leastOf (zn Mz + 0, zw Mz + 0) Mz 30 [some (.ref 81), some (.int (Int32.ofInt a0_)), some (.int (Int32.ofInt a1_)), some (.int (Int32.ofInt u1_)), some (.int (Int32.ofInt u2_))] [.int (Int32.ofInt v11_)] _
            refine zw_iload_n (pc := 30) (n := 3) (x := Int32.ofInt u1_) rfl (zdal_p dlC_M_leastOf_42 (i := 16) rfl) ?_
            refine zr_icmp_ge (pc := 31) (tgt := 42) ⟨hv11_a, hv11_b⟩ ⟨hu1_a, hu1_b⟩ (by decide) (zdal_p dlC_M_leastOf_42 (i := 17) rfl) (fun hc_31 => ?_) (fun hc_31 => ?_)
            · skip
              refine zr_iinc (pc := 42) (i := 4) (a := u2_) (n := 1) (L2 := [some (.ref 81), some (.int (Int32.ofInt a0_)), some (.int (Int32.ofInt a1_)), some (.int (Int32.ofInt u1_)), some (.int (Int32.ofInt (u2_ + 1)))]) rfl (by decide) rfl (zdal_p dlC_M_leastOf_42 (i := 23) rfl) ?_
              refine zw_goto (pc := 45) (tgt := 5) (by decide) (zdal_p dlC_M_leastOf_43 (i := 0) rfl) ?_
              have hv : u1_ = ((gup (gcoF T (a0_).toNat (a1_).toNat) (a1_).toNat ((u2_ + 1)).toNat : Nat) : Int) := by first | exact gco_s0 (v := 0) rfl (by omega) (by first | with_reducible assumption | assumption) (Or.inl (by first | with_reducible assumption | assumption)) | exact gco_s0 rfl (by omega) (by first | with_reducible assumption | assumption) (Or.inr ⟨by assumption, by omega⟩) | exact gco_s1 rfl (by omega) (by first | with_reducible assumption | assumption) (by first | with_reducible assumption | assumption) (by first | with_reducible assumption | assumption) (by omega)
              exact ih_5 u1_ hu1_a hu1_b (u2_ + 1) (by omega) (by omega) (show 0 ≤ (u2_ + 1) by first | with_reducible assumption | assumption | omega) (show 0 ≤ u1_ by first | with_reducible assumption | assumption | omega) (show u1_ ≤ a1_ by first | with_reducible assumption | assumption | omega) (show u1_ = ((gup (gcoF T (a0_).toNat (a1_).toNat) (a1_).toNat ((u2_ + 1)).toNat : Nat) : Int) by first | with_reducible assumption | assumption | omega) (show (u2_ + 1) ≤ ze Mz 81 20 by first | with_reducible assumption | assumption | omega) (by omega)
            · skip
              refine zw_aload_n (pc := 34) (n := 0) (x := 81) rfl (zdal_p dlC_M_leastOf_42 (i := 18) rfl) ?_
              refine zw_iload (pc := 35) (i := 4) (x := Int32.ofInt u2_) rfl (zdal_p dlC_M_leastOf_42 (i := 19) rfl) ?_
              refine zw_iload_n (pc := 37) (n := 2) (x := Int32.ofInt a1_) rfl (zdal_p dlC_M_leastOf_42 (i := 20) rfl) ?_
              refine zr_callV (hf.w hW) hf.x (pc := 38) [.int (Int32.ofInt u2_), .int (Int32.ofInt a1_)] [] l_M_216 (c_M_by l Mz (hf.w hW) u2_ hu2_a hu2_b a1_ ha1_a ha1_b T hG p0_ (show 0 ≤ u2_ by first | with_reducible assumption | assumption | omega) (show u2_ < ze Mz 81 20 by first | with_reducible assumption | assumption | omega) (show 0 ≤ a1_ by first | with_reducible assumption | assumption | omega) (show a1_ < ze Mz 81 20 by first | with_reducible assumption | assumption | omega)) rfl rfl rfl (by decide) (Nat.le_of_ble_eq_true rfl) (zdal_p dlC_M_leastOf_42 (i := 21) rfl) ?_
              rintro _ N12_ ⟨v13_, rfl, ⟨hv13_a, hv13_b⟩, hsN12_, ⟨hp0_N12_, hp1_N12_, hp2_N12_⟩⟩
              obtain rfl := hsN12_.eq.symm
              show zW l m_M_leastOf (zn Mz + 0, zw Mz + 0) Mz 41 [some (.ref 81), some (.int (Int32.ofInt a0_)), some (.int (Int32.ofInt a1_)), some (.int (Int32.ofInt u1_)), some (.int (Int32.ofInt u2_))] [.int (Int32.ofInt v13_)] _
              refine zw_istore_n (pc := 41) (i := 3) (L2 := [some (.ref 81), some (.int (Int32.ofInt a0_)), some (.int (Int32.ofInt a1_)), some (.int (Int32.ofInt v13_)), some (.int (Int32.ofInt u2_))]) rfl (by decide) rfl (zdal_p dlC_M_leastOf_42 (i := 22) rfl) ?_
              refine zr_iinc (pc := 42) (i := 4) (a := u2_) (n := 1) (L2 := [some (.ref 81), some (.int (Int32.ofInt a0_)), some (.int (Int32.ofInt a1_)), some (.int (Int32.ofInt v13_)), some (.int (Int32.ofInt (u2_ + 1)))]) rfl (by decide) rfl (zdal_p dlC_M_leastOf_42 (i := 23) rfl) ?_
              refine zw_goto (pc := 45) (tgt := 5) (by decide) (zdal_p dlC_M_leastOf_43 (i := 0) rfl) ?_
              have hv : v13_ = ((gup (gcoF T (a0_).toNat (a1_).toNat) (a1_).toNat ((u2_ + 1)).toNat : Nat) : Int) := by first | exact gco_s0 (v := 0) rfl (by omega) (by first | with_reducible assumption | assumption) (Or.inl (by first | with_reducible assumption | assumption)) | exact gco_s0 rfl (by omega) (by first | with_reducible assumption | assumption) (Or.inr ⟨by assumption, by omega⟩) | exact gco_s1 rfl (by omega) (by first | with_reducible assumption | assumption) (by first | with_reducible assumption | assumption) (by first | with_reducible assumption | assumption) (by omega)
              exact ih_5 v13_ hv13_a hv13_b (u2_ + 1) (by omega) (by omega) (show 0 ≤ (u2_ + 1) by first | with_reducible assumption | assumption | omega) (show 0 ≤ v13_ by first | with_reducible assumption | assumption | omega) (show v13_ ≤ a1_ by first | with_reducible assumption | assumption | omega) (show v13_ = ((gup (gcoF T (a0_).toNat (a1_).toNat) (a1_).toNat ((u2_ + 1)).toNat : Nat) : Int) by first | with_reducible assumption | assumption | omega) (show (u2_ + 1) ≤ ze Mz 81 20 by first | with_reducible assumption | assumption | omega) (by omega)
        · skip
          show zW l m_M_leastOf (zn Mz + 0, zw Mz + 0) Mz 20 [some (.ref 81), some (.int (Int32.ofInt a0_)), some (.int (Int32.ofInt a1_)), some (.int (Int32.ofInt u1_)), some (.int (Int32.ofInt u2_))] [.int (Int32.ofInt 0)] _
          refine zr_if_eq (pc := 20) (tgt := 42) ⟨(by decide), (by decide)⟩ (by decide) (zdal_p dlC_M_leastOf_42 (i := 11) rfl) (fun hc_20 => ?_) (fun hc_20 => ?_)
          · skip
            refine zr_iinc (pc := 42) (i := 4) (a := u2_) (n := 1) (L2 := [some (.ref 81), some (.int (Int32.ofInt a0_)), some (.int (Int32.ofInt a1_)), some (.int (Int32.ofInt u1_)), some (.int (Int32.ofInt (u2_ + 1)))]) rfl (by decide) rfl (zdal_p dlC_M_leastOf_42 (i := 23) rfl) ?_
            refine zw_goto (pc := 45) (tgt := 5) (by decide) (zdal_p dlC_M_leastOf_43 (i := 0) rfl) ?_
            have hv : u1_ = ((gup (gcoF T (a0_).toNat (a1_).toNat) (a1_).toNat ((u2_ + 1)).toNat : Nat) : Int) := by first | exact gco_s0 (v := 0) rfl (by omega) (by first | with_reducible assumption | assumption) (Or.inl (by first | with_reducible assumption | assumption)) | exact gco_s0 rfl (by omega) (by first | with_reducible assumption | assumption) (Or.inr ⟨by assumption, by omega⟩) | exact gco_s1 rfl (by omega) (by first | with_reducible assumption | assumption) (by first | with_reducible assumption | assumption) (by first | with_reducible assumption | assumption) (by omega)
            exact ih_5 u1_ hu1_a hu1_b (u2_ + 1) (by omega) (by omega) (show 0 ≤ (u2_ + 1) by first | with_reducible assumption | assumption | omega) (show 0 ≤ u1_ by first | with_reducible assumption | assumption | omega) (show u1_ ≤ a1_ by first | with_reducible assumption | assumption | omega) (show u1_ = ((gup (gcoF T (a0_).toNat (a1_).toNat) (a1_).toNat ((u2_ + 1)).toNat : Nat) : Int) by first | with_reducible assumption | assumption | omega) (show (u2_ + 1) ≤ ze Mz 81 20 by first | with_reducible assumption | assumption | omega) (by omega)
          · skip
            exact absurd hc_20 (by decide)
  exact lp_5 _ a1_ ha1_a ha1_b 0 (by decide) (by decide) (show 0 ≤ (0 : Int) by first | with_reducible assumption | assumption | omega) (show 0 ≤ a1_ by first | with_reducible assumption | assumption | omega) (show a1_ ≤ a1_ by first | with_reducible assumption | assumption | omega) (show a1_ = ((gup (gcoF T (a0_).toNat (a1_).toNat) (a1_).toNat ((0 : Int)).toNat : Nat) : Int) by show a1_ = (((a1_).toNat : Nat) : Int); omega) (show (0 : Int) ≤ ze Mz 81 20 by first | with_reducible assumption | assumption | omega) (Nat.lt_succ_self _)
def zCos (T : zGT) (i F : Nat) (M : zMem) : Prop := ∀ x, x < gN T → ze M 94 (24 * i + x) = ((gcos T F x : Nat) : Int)
theorem zCos.g {T : zGT} {i F : Nat} {M : zMem} (h : zCos T i F M) {a x : Int} (ha : a.toNat = i) (a0 : 0 ≤ a) (x0 : 0 ≤ x) (x1 : x.toNat < gN T) : ze M 94 (24 * a + x).toNat = ((gcos T F x.toNat : Nat) : Int) := by
  rw [show (24 * a + x).toNat = 24 * i + x.toNat by omega]
  exact h _ x1
def gfxF (T : zGT) (F H : Nat) : Nat → Nat → Nat := fun x r => r + (gfx T F H x).toNat
theorem gmk_e (T : zGT) (F H : Nat) : gmk T F H = gup (gfxF T F H) 0 (gN T) := rfl
theorem gfx_t {T : zGT} {F H x : Nat} : gfx T F H x = true ↔ gcos T F x = x ∧ ∀ k, k < gN T → H.testBit k = true → gcos T F (gm T x k) = x := by
  unfold gfx
  rw [Bool.and_eq_true, beq_iff_eq, List.all_eq_true]
  constructor
  · rintro ⟨h1, h2⟩
    exact ⟨h1, fun k hk hb => by simpa using h2 k (gel_m.mpr ⟨hk, hb⟩)⟩
  · rintro ⟨h1, h2⟩
    exact ⟨h1, fun k hk => by simpa using h2 k (gel_m.mp hk).1 (gel_m.mp hk).2⟩
def zfxI (T : zGT) (F H x k : Nat) (is : Int) : Prop := (is = 1 ∧ gcos T F x = x ∧ ∀ k', k' < k → k' < gN T → H.testBit k' = true → gcos T F (gm T x k') = x) ∨ (is = 0 ∧ gfx T F H x = false)
theorem zfx_0t {T : zGT} {F H x : Nat} (h : gcos T F x = x) : zfxI T F H x 0 1 := Or.inl ⟨rfl, h, fun k' h1 => absurd h1 (by omega)⟩
theorem zfx_0f {T : zGT} {F H x k : Nat} (h : gcos T F x ≠ x) : zfxI T F H x k 0 := Or.inr ⟨rfl, by
  cases hg : gfx T F H x with
  | false => rfl
  | true => exact absurd (gfx_t.mp hg).1 h⟩
theorem zfx_s1 {T : zGT} {F H x : Nat} {s k is : Int} (hs : s.toNat = H) (hk : 0 ≤ k) (h : zfxI T F H x k.toNat is) (h1 : is ≠ 0) (hb : ¬ zbt s k ∨ gcos T F (gm T x k.toNat) = x) : zfxI T F H x (k + 1).toNat 1 := by
  rcases h with ⟨-, h2, h3⟩ | ⟨h2, -⟩
  · refine Or.inl ⟨rfl, h2, fun k' g1 g2 g3 => ?_⟩
    by_cases e : k' = k.toNat
    · subst e
      rcases hb with hb | hb
      · unfold zbt at hb
        rw [hs] at hb
        exact absurd g3 hb
      · exact hb
    · exact h3 k' (by omega) g2 g3
  · exact absurd h2 h1
theorem zfx_s0 {T : zGT} {F H x : Nat} {s k : Int} (hs : s.toNat = H) (hk : k.toNat < gN T) (hb : zbt s k) (hc : gcos T F (gm T x k.toNat) ≠ x) : zfxI T F H x (k + 1).toNat 0 := Or.inr ⟨rfl, by
  cases hg : gfx T F H x with
  | false => rfl
  | true =>
    unfold zbt at hb
    rw [hs] at hb
    exact absurd ((gfx_t.mp hg).2 _ hk hb) hc⟩
theorem zfx_e {T : zGT} {F H x k : Nat} {is : Int} (h : zfxI T F H x k is) (he : gN T ≤ k ∨ is = 0) : is = (((gfx T F H x).toNat : Nat) : Int) := by
  rcases h with ⟨h1, h2, h3⟩ | ⟨h1, h2⟩
  · rcases he with he | he
    · rw [gfx_t.mpr ⟨h2, fun k' g1 g2 => h3 k' (by omega) g1 g2⟩, h1]; rfl
    · omega
  · rw [h2, h1]; rfl
theorem gfx_s {T : zGT} {F H : Nat} {x r v : Int} (hx : 0 ≤ x) (hr : r = ((gup (gfxF T F H) 0 x.toNat : Nat) : Int)) (hv : v = (((gfx T F H x.toNat).toNat : Nat) : Int)) : r + v = ((gup (gfxF T F H) 0 (x + 1).toNat : Nat) : Int) := by
  rw [gup_s _ _ hx, hr, hv]
  rfl
def zky (a : Int) : Int := zcb a 31 * 16777216 + a
def zSo (M : zMem) (n : Int) : Prop := (∀ i j : Nat, i < j → (j : Int) < n → zky (ze M 91 i) < zky (ze M 91 j)) ∧ ∀ i : Nat, (i : Int) < n → 0 ≤ ze M 91 i ∧ ze M 91 i < 16777216
def zMv (M N : zMem) (n i a : Int) : Prop := (0 ≤ i ∧ i ≤ n) ∧ (∀ j : Nat, (j : Int) < i → ze N 91 j = ze M 91 j) ∧ (∀ j : Nat, i ≤ j → (j : Int) < n → ze N 91 (j + 1) = ze M 91 j) ∧ ∀ j : Nat, i ≤ j → (j : Int) < n → zky a < zky (ze M 91 j)
theorem zMv_0 {M : zMem} {n a : Int} (h : 0 ≤ n) : zMv M M n n a := ⟨⟨h, Int.le_refl _⟩, fun _ _ => rfl, fun j h1 h2 => by omega, fun j h1 h2 => by omega⟩
theorem zMv_s {M N P : zMem} {n i i' a v : Int} (h : zMv M N n i a) (hi : i' = i - 1) (h1 : 1 ≤ i) (hv : v = ze M 91 (i - 1).toNat) (hr : zn32 v) (hP : P = zsI N 91 i.toNat (Int32.ofInt v)) (hk : zky a < zky v) : zMv M P n i' a := by
  subst hi
  obtain ⟨⟨a1, a2⟩, a3, a4, a5⟩ := h
  refine ⟨⟨by (exact zo_132 h1), by omega⟩, fun j hj => ?_, fun j hj hj2 => ?_, fun j hj hj2 => ?_⟩
  · rw [zs_oth hP (by omega)]
    exact a3 j (by omega)
  · by_cases e : (j : Int) = i - 1
    · rw [show j + 1 = i.toNat by omega, zs_get hP hr, hv]
      congr 1
      omega
    · rw [zs_oth hP (by omega)]
      exact a4 j (by omega) hj2
  · by_cases e : (j : Int) = i - 1
    · rw [show j = (i - 1).toNat by omega, ← hv]
      exact hk
    · exact a5 j (by omega) hj2
theorem zMv_e {M N P : zMem} {n i a : Int} (hS : zSo M n) (h : zMv M N n i a) (ha : 0 ≤ a ∧ a < 16777216) (hl : i = 0 ∨ zky (ze M 91 (i - 1).toNat) < zky a) (hP : P = zsI N 91 i.toNat (Int32.ofInt a)) : zSo P (n + 1) ∧ ∀ y : Int, (∃ j : Nat, (j : Int) < n + 1 ∧ ze P 91 j = y) ↔ (y = a ∨ ∃ j : Nat, (j : Int) < n ∧ ze M 91 j = y) := by
  obtain ⟨⟨a1, a2⟩, a3, a4, a5⟩ := h
  have hr : zn32 a := ⟨by (exact zo_168 ha.1), by omega⟩
  have p1 : ∀ j : Nat, (j : Int) < i → ze P 91 j = ze M 91 j := fun j hj => by rw [zs_oth hP (by (exact zo_732 hj))]; exact a3 j hj
  have p2 : ze P 91 i.toNat = a := zs_get hP hr
  have p3 : ∀ j : Nat, i < (j : Int) → (j : Int) < n + 1 → ze P 91 j = ze M 91 (j - 1) := fun j hj hj2 => by
    rw [zs_oth hP (by omega)]
    have := a4 (j - 1) (by omega) (by omega)
    rw [show j - 1 + 1 = j by omega] at this
    exact this
  have lo : ∀ j : Nat, (j : Int) < i → zky (ze M 91 j) < zky a := fun j hj => by
    rcases hl with hl | hl
    · omega
    · by_cases e : (j : Int) = i - 1
      · rw [show j = (i - 1).toNat by omega]; exact hl
      · exact Int.lt_trans (hS.1 j (i - 1).toNat (by omega) (by omega)) hl
  refine ⟨⟨fun j k hjk hk => ?_, fun j hj => ?_⟩, fun y => ⟨?_, ?_⟩⟩
  · rcases Int.lt_trichotomy (j : Int) i with g | g | g
    · rw [p1 j g]
      rcases Int.lt_trichotomy (k : Int) i with g2 | g2 | g2
      · rw [p1 k g2]; exact hS.1 j k hjk (by (exact zo_2301 a2 g2 hk))
      · rw [show k = i.toNat by (exact zo_2180 a1 g2), p2]; exact lo j g
      · rw [p3 k g2 hk]; exact Int.lt_trans (lo j g) (a5 (k - 1) (by omega) (by omega))
    · rw [show j = i.toNat by (exact zo_2180 a1 g), p2, p3 k (by omega) hk]
      exact a5 (k - 1) (by omega) (by omega)
    · rw [p3 j g (by omega), p3 k (by omega) hk]
      exact hS.1 (j - 1) (k - 1) (by omega) (by omega)
  · rcases Int.lt_trichotomy (j : Int) i with g | g | g
    · rw [p1 j g]; exact hS.2 j (by (exact zo_2301 a2 g hj))
    · rw [show j = i.toNat by (exact zo_2180 a1 g), p2]; exact ha
    · rw [p3 j g hj]; exact hS.2 (j - 1) (by omega)
  · rintro ⟨j, hj, rfl⟩
    rcases Int.lt_trichotomy (j : Int) i with g | g | g
    · exact Or.inr ⟨j, by (exact zo_2301 a2 g hj), (p1 j g).symm⟩
    · exact Or.inl (by rw [show j = i.toNat by (exact zo_2180 a1 g), p2])
    · exact Or.inr ⟨j - 1, by omega, (p3 j g hj).symm⟩
  · rintro (rfl | ⟨j, hj, rfl⟩)
    · exact ⟨i.toNat, by omega, p2⟩
    · by_cases g : (j : Int) < i
      · exact ⟨j, by omega, p1 j g⟩
      · refine ⟨j + 1, by omega, ?_⟩
        have := p3 (j + 1) (by omega) (by omega)
        rwa [show j + 1 - 1 = j by omega] at this
theorem zky_lt {a b oa ob : Int} (ha : 0 ≤ a ∧ a < 16777216) (hb : 0 ≤ b ∧ b < 16777216) (ea : oa = zcb a 31) (eb : ob = zcb b 31) (h : oa < ob ∨ (oa = ob ∧ a < b)) : zky a < zky b := by
  unfold zky
  rw [← ea, ← eb]
  omega
theorem zSo_f {S C : List Nat} {M N : zMem} {n : Int} (h : zFr S C M N) (hc : 91 ∉ C) (hS : zSo M n) : zSo N n := by
  have e : ∀ k, ze N 91 k = ze M 91 k := fun k => h.ie (by decide) hc k
  refine ⟨fun i j h1 h2 => ?_, fun i h1 => ?_⟩
  · rw [e, e]; exact hS.1 i j h1 h2
  · rw [e]; exact hS.2 i h1
theorem zmem_f {S C : List Nat} {M N : zMem} {n y : Int} (h : zFr S C M N) (hc : 91 ∉ C) : (∃ j : Nat, (j : Int) < n ∧ ze N 91 j = y) ↔ (∃ j : Nat, (j : Int) < n ∧ ze M 91 j = y) := by
  have e : ∀ k, ze N 91 k = ze M 91 k := fun k => h.ie (by decide) hc k
  constructor
  · rintro ⟨j, h1, h2⟩
    exact ⟨j, h1, by rw [← e]; exact h2⟩
  · rintro ⟨j, h1, h2⟩
    exact ⟨j, h1, by rw [e]; exact h2⟩
set_option maxHeartbeats 4000000 in
theorem c_M_fixedOf (l : Launch) (Mz : zMem) (hW : zMt Mz) (a0_ : Int) (ha0_a : -2147483648 ≤ a0_) (ha0_b : a0_ < 2147483648) (a1_ : Int) (ha1_a : -2147483648 ≤ a1_) (ha1_b : a1_ < 2147483648) (T : zGT) (hG : gGd T) (F : Nat) (p0_ : zTab T Mz) (p1_ : 0 ≤ a0_) (p2_ : a0_ ≤ 63) (p3_ : 0 ≤ a1_) (p4_ : zCos T (a0_).toNat F Mz) : zC l m_M_fixedOf 0 0 [.ref 81, .int (Int32.ofInt a0_), .int (Int32.ofInt a1_)] Mz (zpI [] [] Mz (fun v N => v = ((gmk T F (a1_).toNat : Nat) : Int) ∧ 0 ≤ v ∧ v ≤ 24)) := by
  refine zC_of (L0 := [some (.ref 81), some (.int (Int32.ofInt a0_)), some (.int (Int32.ofInt a1_)), none, none, none, none]) md_M_fixedOf (Nat.le_of_ble_eq_true rfl) rfl ?_ zQ0
  have hf : zFr [] [] Mz Mz := zFr.rf
  have r_20 := ze_r Mz 81 20
  have gn := p0_.1
  have g1 := hG.1
  have g24 := hG.2.1
  refine zw_iconst (pc := 0) (v := Int32.ofInt 0) (by decide) (zdal_p dlC_M_fixedOf_44 (i := 0) rfl) ?_
  refine zw_istore_n (pc := 1) (i := 3) (L2 := [some (.ref 81), some (.int (Int32.ofInt a0_)), some (.int (Int32.ofInt a1_)), some (.int (Int32.ofInt 0)), none, none, none]) rfl (by decide) rfl (zdal_p dlC_M_fixedOf_44 (i := 1) rfl) ?_
  refine zw_iconst (pc := 2) (v := Int32.ofInt 0) (by decide) (zdal_p dlC_M_fixedOf_44 (i := 2) rfl) ?_
  refine zw_istore (pc := 3) (i := 4) (L2 := [some (.ref 81), some (.int (Int32.ofInt a0_)), some (.int (Int32.ofInt a1_)), some (.int (Int32.ofInt 0)), some (.int (Int32.ofInt 0)), none, none]) (by decide) rfl (zdal_p dlC_M_fixedOf_44 (i := 3) rfl) ?_
  have lp_5 : ∀ (n : Nat) (u1_ : Int) (hu1_a : -2147483648 ≤ u1_) (hu1_b : u1_ < 2147483648) (u2_ : Int) (hu2_a : -2147483648 ≤ u2_) (hu2_b : u2_ < 2147483648) (i3_ : 0 ≤ u2_) (i4_ : 0 ≤ u1_) (i5_ : u1_ ≤ u2_) (i6_ : u2_ ≤ ze Mz 81 20) (i7_ : u1_ = ((gup (gfxF T F (a1_).toNat) 0 (u2_).toNat : Nat) : Int)), (ze Mz 81 20 - u2_).toNat < n → zW l m_M_fixedOf (zn Mz + 0, zw Mz + 0) Mz 5 [some (.ref 81), some (.int (Int32.ofInt a0_)), some (.int (Int32.ofInt a1_)), some (.int (Int32.ofInt u1_)), some (.int (Int32.ofInt u2_)), none, none] [] (zpI [] [] Mz (fun v N => v = ((gmk T F (a1_).toNat : Nat) : Int) ∧ 0 ≤ v ∧ v ≤ 24)) := by
    intro n
    induction n with
    | zero =>
      intro u1_ hu1_a hu1_b u2_ hu2_a hu2_b i3_ i4_ i5_ i6_ i7_ h0
      exact absurd h0 (Nat.not_lt_zero _)
    | succ n ih_5 =>
      intro u1_ hu1_a hu1_b u2_ hu2_a hu2_b i3_ i4_ i5_ i6_ i7_ hlt_5
      refine zw_iload (pc := 5) (i := 4) (x := Int32.ofInt u2_) rfl (zdal_p dlC_M_fixedOf_44 (i := 4) rfl) ?_
      refine zw_aload_n (pc := 7) (n := 0) (x := 81) rfl (zdal_p dlC_M_fixedOf_44 (i := 5) rfl) ?_
      refine zr_getI0 hf hW (pc := 8) (by decide) f_M_196 rfl (zdal_p dlC_M_fixedOf_44 (i := 6) rfl) ?_
      refine zr_icmp_ge (pc := 11) (tgt := 114) ⟨hu2_a, hu2_b⟩ ⟨(ze_r Mz 81 20).1, (ze_r Mz 81 20).2⟩ (by decide) (zdal_p dlC_M_fixedOf_44 (i := 7) rfl) (fun hc_11 => ?_) (fun hc_11 => ?_)
      · skip
        refine zw_iload_n (pc := 114) (n := 3) (x := Int32.ofInt u1_) rfl (zdal_p dlC_M_fixedOf_46 (i := 12) rfl) ?_
        have he : (u2_).toNat = gN T := by omega
        exact zr_iret (pc := 115) (ty := .int) rfl rfl ⟨by (exact hu1_a), by (exact hu1_b)⟩ hf ⟨(show u1_ = ((gmk T F (a1_).toNat : Nat) : Int) by rw [gmk_e, ← he]; assumption), (show 0 ≤ u1_ by first | with_reducible assumption | assumption | omega), (show u1_ ≤ 24 by first | with_reducible assumption | assumption | omega)⟩ (zdal_p dlC_M_fixedOf_46 (i := 13) rfl)
      · skip
        refine zw_aload_n (pc := 14) (n := 0) (x := 81) rfl (zdal_p dlC_M_fixedOf_44 (i := 8) rfl) ?_
        refine zr_getF (r := 94) (hf.w hW) (pc := 15) f_M_53 rfl (zh_94 (hf.w hW)).1 (zdal_p dlC_M_fixedOf_44 (i := 9) rfl) ?_
        refine zw_bipush (pc := 18) (v := Int32.ofInt 24) (by decide) (zdal_p dlC_M_fixedOf_44 (i := 10) rfl) ?_
        refine zw_iload_n (pc := 20) (n := 1) (x := Int32.ofInt a0_) rfl (zdal_p dlC_M_fixedOf_44 (i := 11) rfl) ?_
        refine zr_imul (pc := 21) (zdal_p dlC_M_fixedOf_44 (i := 12) rfl) ?_
        refine zw_iload (pc := 22) (i := 4) (x := Int32.ofInt u2_) rfl (zdal_p dlC_M_fixedOf_44 (i := 13) rfl) ?_
        refine zr_iadd (pc := 24) (zdal_p dlC_M_fixedOf_44 (i := 14) rfl) ?_
        refine zr_ialdn (pc := 25) (zh_94 (hf.w hW)).2 (by decide) (by omega) (by omega) (zdal_p dlC_M_fixedOf_44 (i := 15) rfl) (fun v8_ hv8_ hv8_a hv8_b => ?_)
        have hcv := p4_.g (a := a0_) (x := u2_) rfl (by (exact p1_)) (by (exact i3_)) (by (exact zo_925 gn hc_11 i3_))
        refine zw_iload (pc := 26) (i := 4) (x := Int32.ofInt u2_) rfl (zdal_p dlC_M_fixedOf_44 (i := 16) rfl) ?_
        refine zr_icmp_ne (pc := 28) (tgt := 35) ⟨hv8_a, hv8_b⟩ ⟨hu2_a, hu2_b⟩ (by decide) (zdal_p dlC_M_fixedOf_44 (i := 17) rfl) (fun hc_28 => ?_) (fun hc_28 => ?_)
        · skip
          refine zw_iconst (pc := 35) (v := Int32.ofInt 0) (by decide) (zdal_p dlC_M_fixedOf_44 (i := 20) rfl) ?_
          refine zw_istore (pc := 36) (i := 5) (L2 := [some (.ref 81), some (.int (Int32.ofInt a0_)), some (.int (Int32.ofInt a1_)), some (.int (Int32.ofInt u1_)), some (.int (Int32.ofInt u2_)), some (.int (Int32.ofInt 0)), none]) (by decide) rfl (zdal_p dlC_M_fixedOf_44 (i := 21) rfl) ?_
          refine zw_iconst (pc := 38) (v := Int32.ofInt 0) (by decide) (zdal_p dlC_M_fixedOf_44 (i := 22) rfl) ?_
          refine zw_istore (pc := 39) (i := 6) (L2 := [some (.ref 81), some (.int (Int32.ofInt a0_)), some (.int (Int32.ofInt a1_)), some (.int (Int32.ofInt u1_)), some (.int (Int32.ofInt u2_)), some (.int (Int32.ofInt 0)), some (.int (Int32.ofInt 0))]) (by decide) rfl (zdal_p dlC_M_fixedOf_44 (i := 23) rfl) ?_
          have hI : zfxI T F (a1_).toNat (u2_).toNat ((0 : Int)).toNat (0 : Int) := by first | exact zfx_0t (by omega) | exact zfx_0f (by (exact zo_2317 hcv hv8_ i3_ hc_28))
          have lp_41 : ∀ (n : Nat) (u9_ : Int) (hu9_a : -2147483648 ≤ u9_) (hu9_b : u9_ < 2147483648) (hu9_z : u9_ = 0 ∨ u9_ = 1) (u10_ : Int) (hu10_a : -2147483648 ≤ u10_) (hu10_b : u10_ < 2147483648) (i11_ : 0 ≤ u10_) (i12_ : u10_ ≤ ze Mz 81 20) (i13_ : zfxI T F (a1_).toNat (u2_).toNat (u10_).toNat u9_), (ze Mz 81 20 - u10_).toNat < n → zW l m_M_fixedOf (zn Mz + 0, zw Mz + 0) Mz 41 [some (.ref 81), some (.int (Int32.ofInt a0_)), some (.int (Int32.ofInt a1_)), some (.int (Int32.ofInt u1_)), some (.int (Int32.ofInt u2_)), some (.int (Int32.ofInt u9_)), some (.int (Int32.ofInt u10_))] [] (zpI [] [] Mz (fun v N => v = ((gmk T F (a1_).toNat : Nat) : Int) ∧ 0 ≤ v ∧ v ≤ 24)) := by
            intro n
            induction n with
            | zero =>
              intro u9_ hu9_a hu9_b hu9_z u10_ hu10_a hu10_b i11_ i12_ i13_ h0
              exact absurd h0 (Nat.not_lt_zero _)
            | succ n ih_41 =>
              intro u9_ hu9_a hu9_b hu9_z u10_ hu10_a hu10_b i11_ i12_ i13_ hlt_41
              refine zw_iload (pc := 41) (i := 6) (x := Int32.ofInt u10_) rfl (zdal_p dlC_M_fixedOf_45 (i := 0) rfl) ?_
              refine zw_aload_n (pc := 43) (n := 0) (x := 81) rfl (zdal_p dlC_M_fixedOf_45 (i := 1) rfl) ?_
              refine zr_getI0 hf hW (pc := 44) (by decide) f_M_196 rfl (zdal_p dlC_M_fixedOf_45 (i := 2) rfl) ?_
              refine zr_icmp_ge (pc := 47) (tgt := 100) ⟨hu10_a, hu10_b⟩ ⟨(ze_r Mz 81 20).1, (ze_r Mz 81 20).2⟩ (by decide) (zdal_p dlC_M_fixedOf_45 (i := 3) rfl) (fun hc_47 => ?_) (fun hc_47 => ?_)
              · skip
                refine zw_iload_n (pc := 100) (n := 3) (x := Int32.ofInt u1_) rfl (zdal_p dlC_M_fixedOf_46 (i := 5) rfl) ?_
                refine zw_iload (pc := 101) (i := 5) (x := Int32.ofInt u9_) rfl (zdal_p dlC_M_fixedOf_46 (i := 6) rfl) ?_
                refine zr_callS hf.x (pc := 103) [.int (Int32.ofInt u9_)] [.int (Int32.ofInt u1_)] l_M_256 (c_M_truth l Mz (hf.w hW) u9_ hu9_a hu9_b (by (exact hu9_z))) rfl rfl (by decide) (Nat.le_of_ble_eq_true rfl) (zdal_p dlC_M_fixedOf_46 (i := 7) rfl) ?_
                rintro _ N14_ ⟨v15_, rfl, ⟨hv15_a, hv15_b⟩, hsN14_, hp0_N14_⟩
                obtain rfl := hsN14_.eq.symm
                replace hp0_N14_ : v15_ = u9_ := hp0_N14_
                show zW l m_M_fixedOf (zn Mz + 0, zw Mz + 0) Mz 106 [some (.ref 81), some (.int (Int32.ofInt a0_)), some (.int (Int32.ofInt a1_)), some (.int (Int32.ofInt u1_)), some (.int (Int32.ofInt u2_)), some (.int (Int32.ofInt u9_)), some (.int (Int32.ofInt u10_))] [.int (Int32.ofInt v15_), .int (Int32.ofInt u1_)] _
                have hE := zfx_e (show zfxI T F (a1_).toNat (u2_).toNat _ _ by first | with_reducible assumption | assumption) (by omega)
                have hs := gfx_s (by (exact i3_)) (show u1_ = ((gup (gfxF T F (a1_).toNat) 0 (u2_).toNat : Nat) : Int) by first | with_reducible assumption | assumption) (v := v15_) (by omega)
                refine zr_iadd (pc := 106) (zdal_p dlC_M_fixedOf_46 (i := 8) rfl) ?_
                refine zw_istore_n (pc := 107) (i := 3) (L2 := [some (.ref 81), some (.int (Int32.ofInt a0_)), some (.int (Int32.ofInt a1_)), some (.int (Int32.ofInt (u1_ + v15_))), some (.int (Int32.ofInt u2_)), some (.int (Int32.ofInt u9_)), some (.int (Int32.ofInt u10_))]) rfl (by decide) rfl (zdal_p dlC_M_fixedOf_46 (i := 9) rfl) ?_
                refine zr_iinc (pc := 108) (i := 4) (a := u2_) (n := 1) (L2 := [some (.ref 81), some (.int (Int32.ofInt a0_)), some (.int (Int32.ofInt a1_)), some (.int (Int32.ofInt (u1_ + v15_))), some (.int (Int32.ofInt (u2_ + 1))), some (.int (Int32.ofInt u9_)), some (.int (Int32.ofInt u10_))]) rfl (by decide) rfl (zdal_p dlC_M_fixedOf_46 (i := 10) rfl) ?_
                refine zw_goto (pc := 111) (tgt := 5) (by decide) (zdal_p dlC_M_fixedOf_46 (i := 11) rfl) ?_
                refine zW_le [some (.ref 81), some (.int (Int32.ofInt a0_)), some (.int (Int32.ofInt a1_)), some (.int (Int32.ofInt (u1_ + v15_))), some (.int (Int32.ofInt (u2_ + 1))), none, none] (⟨rfl, rfl, rfl, rfl, rfl, trivial⟩) ?_
                exact ih_5 (u1_ + v15_) (by (exact zo_2320 hs)) (by omega) (u2_ + 1) (by (exact zo_74 i3_)) (by (exact zo_2322 g24 gn hc_11 hu2_b)) (show 0 ≤ (u2_ + 1) by first | with_reducible assumption | (exact zo_76 i3_) | assumption) (show 0 ≤ (u1_ + v15_) by first | with_reducible assumption | (exact zo_2323 hs) | assumption) (show (u1_ + v15_) ≤ (u2_ + 1) by first | with_reducible assumption | assumption | omega) (show (u2_ + 1) ≤ ze Mz 81 20 by first | with_reducible assumption | assumption | omega) (show (u1_ + v15_) = ((gup (gfxF T F (a1_).toNat) 0 ((u2_ + 1)).toNat : Nat) : Int) by first | with_reducible assumption | assumption | omega) (by (exact zo_147 hc_11 hlt_5))
              · skip
                refine zw_iload (pc := 50) (i := 5) (x := Int32.ofInt u9_) rfl (zdal_p dlC_M_fixedOf_45 (i := 4) rfl) ?_
                refine zr_if_eq (pc := 52) (tgt := 100) ⟨hu9_a, hu9_b⟩ (by decide) (zdal_p dlC_M_fixedOf_45 (i := 5) rfl) (fun hc_52 => ?_) (fun hc_52 => ?_)
                · skip
                  refine zw_iload_n (pc := 100) (n := 3) (x := Int32.ofInt u1_) rfl (zdal_p dlC_M_fixedOf_46 (i := 5) rfl) ?_
                  refine zw_iload (pc := 101) (i := 5) (x := Int32.ofInt u9_) rfl (zdal_p dlC_M_fixedOf_46 (i := 6) rfl) ?_
                  refine zr_callS hf.x (pc := 103) [.int (Int32.ofInt u9_)] [.int (Int32.ofInt u1_)] l_M_256 (c_M_truth l Mz (hf.w hW) u9_ hu9_a hu9_b (by (exact hu9_z))) rfl rfl (by decide) (Nat.le_of_ble_eq_true rfl) (zdal_p dlC_M_fixedOf_46 (i := 7) rfl) ?_
                  rintro _ N16_ ⟨v17_, rfl, ⟨hv17_a, hv17_b⟩, hsN16_, hp0_N16_⟩
                  obtain rfl := hsN16_.eq.symm
                  replace hp0_N16_ : v17_ = u9_ := hp0_N16_
                  show zW l m_M_fixedOf (zn Mz + 0, zw Mz + 0) Mz 106 [some (.ref 81), some (.int (Int32.ofInt a0_)), some (.int (Int32.ofInt a1_)), some (.int (Int32.ofInt u1_)), some (.int (Int32.ofInt u2_)), some (.int (Int32.ofInt u9_)), some (.int (Int32.ofInt u10_))] [.int (Int32.ofInt v17_), .int (Int32.ofInt u1_)] _
                  have hE := zfx_e (show zfxI T F (a1_).toNat (u2_).toNat _ _ by first | with_reducible assumption | assumption) (by omega)
                  have hs := gfx_s (by (exact i3_)) (show u1_ = ((gup (gfxF T F (a1_).toNat) 0 (u2_).toNat : Nat) : Int) by first | with_reducible assumption | assumption) (v := v17_) (by omega)
                  refine zr_iadd (pc := 106) (zdal_p dlC_M_fixedOf_46 (i := 8) rfl) ?_
                  refine zw_istore_n (pc := 107) (i := 3) (L2 := [some (.ref 81), some (.int (Int32.ofInt a0_)), some (.int (Int32.ofInt a1_)), some (.int (Int32.ofInt (u1_ + v17_))), some (.int (Int32.ofInt u2_)), some (.int (Int32.ofInt u9_)), some (.int (Int32.ofInt u10_))]) rfl (by decide) rfl (zdal_p dlC_M_fixedOf_46 (i := 9) rfl) ?_
                  refine zr_iinc (pc := 108) (i := 4) (a := u2_) (n := 1) (L2 := [some (.ref 81), some (.int (Int32.ofInt a0_)), some (.int (Int32.ofInt a1_)), some (.int (Int32.ofInt (u1_ + v17_))), some (.int (Int32.ofInt (u2_ + 1))), some (.int (Int32.ofInt u9_)), some (.int (Int32.ofInt u10_))]) rfl (by decide) rfl (zdal_p dlC_M_fixedOf_46 (i := 10) rfl) ?_
                  refine zw_goto (pc := 111) (tgt := 5) (by decide) (zdal_p dlC_M_fixedOf_46 (i := 11) rfl) ?_
                  refine zW_le [some (.ref 81), some (.int (Int32.ofInt a0_)), some (.int (Int32.ofInt a1_)), some (.int (Int32.ofInt (u1_ + v17_))), some (.int (Int32.ofInt (u2_ + 1))), none, none] (⟨rfl, rfl, rfl, rfl, rfl, trivial⟩) ?_
                  exact ih_5 (u1_ + v17_) (by (exact zo_2320 hs)) (by omega) (u2_ + 1) (by (exact zo_74 i3_)) (by (exact zo_2322 g24 gn hc_11 hu2_b)) (show 0 ≤ (u2_ + 1) by first | with_reducible assumption | (exact zo_76 i3_) | assumption) (show 0 ≤ (u1_ + v17_) by first | with_reducible assumption | (exact zo_2323 hs) | assumption) (show (u1_ + v17_) ≤ (u2_ + 1) by first | with_reducible assumption | assumption | omega) (show (u2_ + 1) ≤ ze Mz 81 20 by first | with_reducible assumption | assumption | omega) (show (u1_ + v17_) = ((gup (gfxF T F (a1_).toNat) 0 ((u2_ + 1)).toNat : Nat) : Int) by first | with_reducible assumption | assumption | omega) (by (exact zo_147 hc_11 hlt_5))
                · skip
                  refine zw_iload_n (pc := 55) (n := 2) (x := Int32.ofInt a1_) rfl (zdal_p dlC_M_fixedOf_45 (i := 6) rfl) ?_
                  refine zw_iload (pc := 56) (i := 6) (x := Int32.ofInt u10_) rfl (zdal_p dlC_M_fixedOf_45 (i := 7) rfl) ?_
                  refine zr_callS hf.x (pc := 58) [.int (Int32.ofInt a1_), .int (Int32.ofInt u10_)] [] l_M_213 (c_M_holds l Mz (hf.w hW) a1_ ha1_a ha1_b u10_ hu10_a hu10_b (show 0 ≤ a1_ by first | with_reducible assumption | assumption | omega) (show 0 ≤ u10_ by first | with_reducible assumption | assumption | omega) (show u10_ < 32 by first | with_reducible assumption | assumption | omega)) rfl rfl (by decide) (Nat.le_of_ble_eq_true rfl) (zdal_p dlC_M_fixedOf_45 (i := 8) rfl) ?_
                  rintro _ N18_ ⟨v19_, rfl, ⟨hv19_a, hv19_b⟩, hsN18_, hp0_N18_⟩
                  obtain rfl := hsN18_.eq.symm
                  replace hp0_N18_ : ((v19_ = 1 ∧ zbt a1_ u10_) ∨ (v19_ = 0 ∧ ¬ zbt a1_ u10_)) := hp0_N18_
                  rcases hp0_N18_ with ⟨rfl, ha58_0_hp0_N18_⟩ | ⟨rfl, ha58_0_hp0_N18_⟩
                  · skip
                    show zW l m_M_fixedOf (zn Mz + 0, zw Mz + 0) Mz 61 [some (.ref 81), some (.int (Int32.ofInt a0_)), some (.int (Int32.ofInt a1_)), some (.int (Int32.ofInt u1_)), some (.int (Int32.ofInt u2_)), some (.int (Int32.ofInt u9_)), some (.int (Int32.ofInt u10_))] [.int (Int32.ofInt 1)] _
                    refine zr_if_eq (pc := 61) (tgt := 87) ⟨(by decide), (by decide)⟩ (by decide) (zdal_p dlC_M_fixedOf_45 (i := 9) rfl) (fun hc_61 => ?_) (fun hc_61 => ?_)
                    · skip
                      exact absurd hc_61 (by decide)
                    · skip
                      refine zw_aload_n (pc := 64) (n := 0) (x := 81) rfl (zdal_p dlC_M_fixedOf_45 (i := 10) rfl) ?_
                      refine zr_getF (r := 94) (hf.w hW) (pc := 65) f_M_53 rfl (zh_94 (hf.w hW)).1 (zdal_p dlC_M_fixedOf_45 (i := 11) rfl) ?_
                      refine zw_bipush (pc := 68) (v := Int32.ofInt 24) (by decide) (zdal_p dlC_M_fixedOf_45 (i := 12) rfl) ?_
                      refine zw_iload_n (pc := 70) (n := 1) (x := Int32.ofInt a0_) rfl (zdal_p dlC_M_fixedOf_45 (i := 13) rfl) ?_
                      refine zr_imul (pc := 71) (zdal_p dlC_M_fixedOf_45 (i := 14) rfl) ?_
                      refine zw_aload_n (pc := 72) (n := 0) (x := 81) rfl (zdal_p dlC_M_fixedOf_45 (i := 15) rfl) ?_
                      refine zw_iload (pc := 73) (i := 4) (x := Int32.ofInt u2_) rfl (zdal_p dlC_M_fixedOf_45 (i := 16) rfl) ?_
                      refine zw_iload (pc := 75) (i := 6) (x := Int32.ofInt u10_) rfl (zdal_p dlC_M_fixedOf_45 (i := 17) rfl) ?_
                      refine zr_callV (hf.w hW) hf.x (pc := 77) [.int (Int32.ofInt u2_), .int (Int32.ofInt u10_)] [.int (Int32.ofInt (24 * a0_)), .ref 94] l_M_216 (c_M_by l Mz (hf.w hW) u2_ hu2_a hu2_b u10_ hu10_a hu10_b T hG p0_ (show 0 ≤ u2_ by first | with_reducible assumption | assumption | omega) (show u2_ < ze Mz 81 20 by first | with_reducible assumption | assumption | omega) (show 0 ≤ u10_ by first | with_reducible assumption | assumption | omega) (show u10_ < ze Mz 81 20 by first | with_reducible assumption | assumption | omega)) rfl rfl rfl (by decide) (Nat.le_of_ble_eq_true rfl) (zdal_p dlC_M_fixedOf_45 (i := 18) rfl) ?_
                      rintro _ N20_ ⟨v21_, rfl, ⟨hv21_a, hv21_b⟩, hsN20_, ⟨hp0_N20_, hp1_N20_, hp2_N20_⟩⟩
                      obtain rfl := hsN20_.eq.symm
                      show zW l m_M_fixedOf (zn Mz + 0, zw Mz + 0) Mz 80 [some (.ref 81), some (.int (Int32.ofInt a0_)), some (.int (Int32.ofInt a1_)), some (.int (Int32.ofInt u1_)), some (.int (Int32.ofInt u2_)), some (.int (Int32.ofInt u9_)), some (.int (Int32.ofInt u10_))] [.int (Int32.ofInt v21_), .int (Int32.ofInt (24 * a0_)), .ref 94] _
                      refine zr_toI (show v21_ = ((gm T (u2_).toNat (u10_).toNat : Nat) : Int) by first | with_reducible assumption | assumption) ?_
                      refine zr_iadd (pc := 80) (zdal_p dlC_M_fixedOf_45 (i := 19) rfl) ?_
                      refine zr_ialdn (pc := 81) (zh_94 (hf.w hW)).2 (by decide) (by omega) (by omega) (zdal_p dlC_M_fixedOf_45 (i := 20) rfl) (fun v22_ hv22_ hv22_a hv22_b => ?_)
                      have hcw := p4_.g (a := a0_) (x := ((gm T (u2_).toNat (u10_).toNat : Nat) : Int)) rfl (by (exact p1_)) (by (exact zo_85)) (by rw [Int.toNat_natCast]; exact hG.2.2.2 _ _ (by (exact zo_925 gn hc_11 i3_)) (by (exact zo_925 gn hc_47 i11_)))
                      rw [Int.toNat_natCast] at hcw
                      refine zw_iload (pc := 82) (i := 4) (x := Int32.ofInt u2_) rfl (zdal_p dlC_M_fixedOf_45 (i := 21) rfl) ?_
                      refine zr_icmp_ne (pc := 84) (tgt := 91) ⟨hv22_a, hv22_b⟩ ⟨hu2_a, hu2_b⟩ (by decide) (zdal_p dlC_M_fixedOf_45 (i := 22) rfl) (fun hc_84 => ?_) (fun hc_84 => ?_)
                      · skip
                        refine zw_iconst (pc := 91) (v := Int32.ofInt 0) (by decide) (zdal_p dlC_M_fixedOf_46 (i := 1) rfl) ?_
                        refine zw_istore (pc := 92) (i := 5) (L2 := [some (.ref 81), some (.int (Int32.ofInt a0_)), some (.int (Int32.ofInt a1_)), some (.int (Int32.ofInt u1_)), some (.int (Int32.ofInt u2_)), some (.int (Int32.ofInt 0)), some (.int (Int32.ofInt u10_))]) (by decide) rfl d_M_fixedOf_92 ?_
                        refine zr_iinc (pc := 94) (i := 6) (a := u10_) (n := 1) (L2 := [some (.ref 81), some (.int (Int32.ofInt a0_)), some (.int (Int32.ofInt a1_)), some (.int (Int32.ofInt u1_)), some (.int (Int32.ofInt u2_)), some (.int (Int32.ofInt 0)), some (.int (Int32.ofInt (u10_ + 1)))]) rfl (by decide) rfl d_M_fixedOf_94 ?_
                        refine zw_goto (pc := 97) (tgt := 41) (by decide) d_M_fixedOf_97 ?_
                        have hJ : zfxI T F (a1_).toNat (u2_).toNat ((u10_ + 1)).toNat (0 : Int) := by first | exact zfx_s1 rfl (by omega) (by first | with_reducible assumption | assumption) (by omega) (Or.inl (by first | with_reducible assumption | assumption)) | exact zfx_s1 rfl (by omega) (by first | with_reducible assumption | assumption) (by omega) (Or.inr (by omega)) | exact zfx_s0 rfl (by (exact zo_925 gn hc_47 i11_)) (by first | with_reducible assumption | assumption) (by (exact zo_2317 hcw hv22_ i3_ hc_84))
                        exact ih_41 0 (by decide) (by decide) (by (decide)) (u10_ + 1) (by (exact zo_74 i11_)) (by (exact zo_2332 g24 gn hc_47 r_20.2)) (show 0 ≤ (u10_ + 1) by first | with_reducible assumption | (exact zo_76 i11_) | assumption) (show (u10_ + 1) ≤ ze Mz 81 20 by first | with_reducible assumption | assumption | omega) (show zfxI T F (a1_).toNat (u2_).toNat ((u10_ + 1)).toNat (0 : Int) by first | with_reducible assumption | assumption | omega) (by (exact zo_147 hc_47 hlt_41))
                      · skip
                        refine zw_iconst (pc := 87) (v := Int32.ofInt 1) (by decide) (zdal_p dlC_M_fixedOf_45 (i := 23) rfl) ?_
                        refine zw_goto (pc := 88) (tgt := 92) (by decide) (zdal_p dlC_M_fixedOf_46 (i := 0) rfl) ?_
                        refine zw_istore (pc := 92) (i := 5) (L2 := [some (.ref 81), some (.int (Int32.ofInt a0_)), some (.int (Int32.ofInt a1_)), some (.int (Int32.ofInt u1_)), some (.int (Int32.ofInt u2_)), some (.int (Int32.ofInt 1)), some (.int (Int32.ofInt u10_))]) (by decide) rfl d_M_fixedOf_92 ?_
                        refine zr_iinc (pc := 94) (i := 6) (a := u10_) (n := 1) (L2 := [some (.ref 81), some (.int (Int32.ofInt a0_)), some (.int (Int32.ofInt a1_)), some (.int (Int32.ofInt u1_)), some (.int (Int32.ofInt u2_)), some (.int (Int32.ofInt 1)), some (.int (Int32.ofInt (u10_ + 1)))]) rfl (by decide) rfl d_M_fixedOf_94 ?_
                        refine zw_goto (pc := 97) (tgt := 41) (by decide) d_M_fixedOf_97 ?_
                        have hJ : zfxI T F (a1_).toNat (u2_).toNat ((u10_ + 1)).toNat (1 : Int) := by first | exact zfx_s1 rfl (by (exact i11_)) (by first | with_reducible assumption | assumption) (by (exact hc_52)) (Or.inl (by first | with_reducible assumption | assumption)) | exact zfx_s1 rfl (by (exact i11_)) (by first | with_reducible assumption | assumption) (by (exact hc_52)) (Or.inr (by (exact zo_2333 g24 gn hc_11 hc_84 hcw hv22_ hv22_b i3_))) | exact zfx_s0 rfl (by omega) (by first | with_reducible assumption | assumption) (by omega)
                        exact ih_41 1 (by decide) (by decide) (by (decide)) (u10_ + 1) (by (exact zo_74 i11_)) (by (exact zo_2322 g24 gn hc_47 hu10_b)) (show 0 ≤ (u10_ + 1) by first | with_reducible assumption | (exact zo_76 i11_) | assumption) (show (u10_ + 1) ≤ ze Mz 81 20 by first | with_reducible assumption | assumption | omega) (show zfxI T F (a1_).toNat (u2_).toNat ((u10_ + 1)).toNat (1 : Int) by first | with_reducible assumption | assumption | omega) (by (exact zo_147 hc_47 hlt_41))
                  · skip
                    show zW l m_M_fixedOf (zn Mz + 0, zw Mz + 0) Mz 61 [some (.ref 81), some (.int (Int32.ofInt a0_)), some (.int (Int32.ofInt a1_)), some (.int (Int32.ofInt u1_)), some (.int (Int32.ofInt u2_)), some (.int (Int32.ofInt u9_)), some (.int (Int32.ofInt u10_))] [.int (Int32.ofInt 0)] _
                    refine zr_if_eq (pc := 61) (tgt := 87) ⟨(by decide), (by decide)⟩ (by decide) (zdal_p dlC_M_fixedOf_45 (i := 9) rfl) (fun hc_61 => ?_) (fun hc_61 => ?_)
                    · skip
                      refine zw_iconst (pc := 87) (v := Int32.ofInt 1) (by decide) (zdal_p dlC_M_fixedOf_45 (i := 23) rfl) ?_
                      refine zw_goto (pc := 88) (tgt := 92) (by decide) (zdal_p dlC_M_fixedOf_46 (i := 0) rfl) ?_
                      refine zw_istore (pc := 92) (i := 5) (L2 := [some (.ref 81), some (.int (Int32.ofInt a0_)), some (.int (Int32.ofInt a1_)), some (.int (Int32.ofInt u1_)), some (.int (Int32.ofInt u2_)), some (.int (Int32.ofInt 1)), some (.int (Int32.ofInt u10_))]) (by decide) rfl d_M_fixedOf_92 ?_
                      refine zr_iinc (pc := 94) (i := 6) (a := u10_) (n := 1) (L2 := [some (.ref 81), some (.int (Int32.ofInt a0_)), some (.int (Int32.ofInt a1_)), some (.int (Int32.ofInt u1_)), some (.int (Int32.ofInt u2_)), some (.int (Int32.ofInt 1)), some (.int (Int32.ofInt (u10_ + 1)))]) rfl (by decide) rfl d_M_fixedOf_94 ?_
                      refine zw_goto (pc := 97) (tgt := 41) (by decide) d_M_fixedOf_97 ?_
                      have hJ : zfxI T F (a1_).toNat (u2_).toNat ((u10_ + 1)).toNat (1 : Int) := by first | exact zfx_s1 rfl (by (exact i11_)) (by first | with_reducible assumption | assumption) (by (exact hc_52)) (Or.inl (by first | with_reducible assumption | assumption)) | exact zfx_s1 rfl (by omega) (by first | with_reducible assumption | assumption) (by omega) (Or.inr (by omega)) | exact zfx_s0 rfl (by omega) (by first | with_reducible assumption | assumption) (by omega)
                      exact ih_41 1 (by decide) (by decide) (by (decide)) (u10_ + 1) (by (exact zo_74 i11_)) (by (exact zo_2332 g24 gn hc_47 r_20.2)) (show 0 ≤ (u10_ + 1) by first | with_reducible assumption | (exact zo_76 i11_) | assumption) (show (u10_ + 1) ≤ ze Mz 81 20 by first | with_reducible assumption | assumption | omega) (show zfxI T F (a1_).toNat (u2_).toNat ((u10_ + 1)).toNat (1 : Int) by first | with_reducible assumption | assumption | omega) (by (exact zo_147 hc_47 hlt_41))
                    · skip
                      exact absurd hc_61 (by decide)
          exact lp_41 _ 0 (by decide) (by decide) (by (decide)) 0 (by decide) (by decide) (show 0 ≤ (0 : Int) by first | with_reducible assumption | (decide) | assumption) (show (0 : Int) ≤ ze Mz 81 20 by first | with_reducible assumption | assumption | omega) (show zfxI T F (a1_).toNat (u2_).toNat ((0 : Int)).toNat (0 : Int) by first | with_reducible assumption | assumption | omega) (Nat.lt_succ_self _)
        · skip
          refine zw_iconst (pc := 31) (v := Int32.ofInt 1) (by decide) (zdal_p dlC_M_fixedOf_44 (i := 18) rfl) ?_
          refine zw_goto (pc := 32) (tgt := 36) (by decide) (zdal_p dlC_M_fixedOf_44 (i := 19) rfl) ?_
          refine zw_istore (pc := 36) (i := 5) (L2 := [some (.ref 81), some (.int (Int32.ofInt a0_)), some (.int (Int32.ofInt a1_)), some (.int (Int32.ofInt u1_)), some (.int (Int32.ofInt u2_)), some (.int (Int32.ofInt 1)), none]) (by decide) rfl (zdal_p dlC_M_fixedOf_44 (i := 21) rfl) ?_
          refine zw_iconst (pc := 38) (v := Int32.ofInt 0) (by decide) (zdal_p dlC_M_fixedOf_44 (i := 22) rfl) ?_
          refine zw_istore (pc := 39) (i := 6) (L2 := [some (.ref 81), some (.int (Int32.ofInt a0_)), some (.int (Int32.ofInt a1_)), some (.int (Int32.ofInt u1_)), some (.int (Int32.ofInt u2_)), some (.int (Int32.ofInt 1)), some (.int (Int32.ofInt 0))]) (by decide) rfl (zdal_p dlC_M_fixedOf_44 (i := 23) rfl) ?_
          have hI : zfxI T F (a1_).toNat (u2_).toNat ((0 : Int)).toNat (1 : Int) := by first | exact zfx_0t (by (exact zo_2333 g24 gn hc_11 hc_28 hcv hv8_ hv8_b i3_)) | exact zfx_0f (by omega)
          have lp_41 : ∀ (n : Nat) (u23_ : Int) (hu23_a : -2147483648 ≤ u23_) (hu23_b : u23_ < 2147483648) (hu23_z : u23_ = 0 ∨ u23_ = 1) (u24_ : Int) (hu24_a : -2147483648 ≤ u24_) (hu24_b : u24_ < 2147483648) (i25_ : 0 ≤ u24_) (i26_ : u24_ ≤ ze Mz 81 20) (i27_ : zfxI T F (a1_).toNat (u2_).toNat (u24_).toNat u23_), (ze Mz 81 20 - u24_).toNat < n → zW l m_M_fixedOf (zn Mz + 0, zw Mz + 0) Mz 41 [some (.ref 81), some (.int (Int32.ofInt a0_)), some (.int (Int32.ofInt a1_)), some (.int (Int32.ofInt u1_)), some (.int (Int32.ofInt u2_)), some (.int (Int32.ofInt u23_)), some (.int (Int32.ofInt u24_))] [] (zpI [] [] Mz (fun v N => v = ((gmk T F (a1_).toNat : Nat) : Int) ∧ 0 ≤ v ∧ v ≤ 24)) := by
            intro n
            induction n with
            | zero =>
              intro u23_ hu23_a hu23_b hu23_z u24_ hu24_a hu24_b i25_ i26_ i27_ h0
              exact absurd h0 (Nat.not_lt_zero _)
            | succ n ih_41 =>
              intro u23_ hu23_a hu23_b hu23_z u24_ hu24_a hu24_b i25_ i26_ i27_ hlt_41
              refine zw_iload (pc := 41) (i := 6) (x := Int32.ofInt u24_) rfl (zdal_p dlC_M_fixedOf_45 (i := 0) rfl) ?_
              refine zw_aload_n (pc := 43) (n := 0) (x := 81) rfl (zdal_p dlC_M_fixedOf_45 (i := 1) rfl) ?_
              refine zr_getI0 hf hW (pc := 44) (by decide) f_M_196 rfl (zdal_p dlC_M_fixedOf_45 (i := 2) rfl) ?_
              refine zr_icmp_ge (pc := 47) (tgt := 100) ⟨hu24_a, hu24_b⟩ ⟨(ze_r Mz 81 20).1, (ze_r Mz 81 20).2⟩ (by decide) (zdal_p dlC_M_fixedOf_45 (i := 3) rfl) (fun hc_47 => ?_) (fun hc_47 => ?_)
              · skip
                refine zw_iload_n (pc := 100) (n := 3) (x := Int32.ofInt u1_) rfl (zdal_p dlC_M_fixedOf_46 (i := 5) rfl) ?_
                refine zw_iload (pc := 101) (i := 5) (x := Int32.ofInt u23_) rfl (zdal_p dlC_M_fixedOf_46 (i := 6) rfl) ?_
                refine zr_callS hf.x (pc := 103) [.int (Int32.ofInt u23_)] [.int (Int32.ofInt u1_)] l_M_256 (c_M_truth l Mz (hf.w hW) u23_ hu23_a hu23_b (by (exact hu23_z))) rfl rfl (by decide) (Nat.le_of_ble_eq_true rfl) (zdal_p dlC_M_fixedOf_46 (i := 7) rfl) ?_
                rintro _ N28_ ⟨v29_, rfl, ⟨hv29_a, hv29_b⟩, hsN28_, hp0_N28_⟩
                obtain rfl := hsN28_.eq.symm
                replace hp0_N28_ : v29_ = u23_ := hp0_N28_
                show zW l m_M_fixedOf (zn Mz + 0, zw Mz + 0) Mz 106 [some (.ref 81), some (.int (Int32.ofInt a0_)), some (.int (Int32.ofInt a1_)), some (.int (Int32.ofInt u1_)), some (.int (Int32.ofInt u2_)), some (.int (Int32.ofInt u23_)), some (.int (Int32.ofInt u24_))] [.int (Int32.ofInt v29_), .int (Int32.ofInt u1_)] _
                have hE := zfx_e (show zfxI T F (a1_).toNat (u2_).toNat _ _ by first | with_reducible assumption | assumption) (by omega)
                have hs := gfx_s (by (exact i3_)) (show u1_ = ((gup (gfxF T F (a1_).toNat) 0 (u2_).toNat : Nat) : Int) by first | with_reducible assumption | assumption) (v := v29_) (by omega)
                refine zr_iadd (pc := 106) (zdal_p dlC_M_fixedOf_46 (i := 8) rfl) ?_
                refine zw_istore_n (pc := 107) (i := 3) (L2 := [some (.ref 81), some (.int (Int32.ofInt a0_)), some (.int (Int32.ofInt a1_)), some (.int (Int32.ofInt (u1_ + v29_))), some (.int (Int32.ofInt u2_)), some (.int (Int32.ofInt u23_)), some (.int (Int32.ofInt u24_))]) rfl (by decide) rfl (zdal_p dlC_M_fixedOf_46 (i := 9) rfl) ?_
                refine zr_iinc (pc := 108) (i := 4) (a := u2_) (n := 1) (L2 := [some (.ref 81), some (.int (Int32.ofInt a0_)), some (.int (Int32.ofInt a1_)), some (.int (Int32.ofInt (u1_ + v29_))), some (.int (Int32.ofInt (u2_ + 1))), some (.int (Int32.ofInt u23_)), some (.int (Int32.ofInt u24_))]) rfl (by decide) rfl (zdal_p dlC_M_fixedOf_46 (i := 10) rfl) ?_
                refine zw_goto (pc := 111) (tgt := 5) (by decide) (zdal_p dlC_M_fixedOf_46 (i := 11) rfl) ?_
                refine zW_le [some (.ref 81), some (.int (Int32.ofInt a0_)), some (.int (Int32.ofInt a1_)), some (.int (Int32.ofInt (u1_ + v29_))), some (.int (Int32.ofInt (u2_ + 1))), none, none] (⟨rfl, rfl, rfl, rfl, rfl, trivial⟩) ?_
                exact ih_5 (u1_ + v29_) (by (exact zo_2320 hs)) (by omega) (u2_ + 1) (by (exact zo_74 i3_)) (by (exact zo_2332 g24 gn hc_11 r_20.2)) (show 0 ≤ (u2_ + 1) by first | with_reducible assumption | (exact zo_76 i3_) | assumption) (show 0 ≤ (u1_ + v29_) by first | with_reducible assumption | (exact zo_2323 hs) | assumption) (show (u1_ + v29_) ≤ (u2_ + 1) by first | with_reducible assumption | assumption | omega) (show (u2_ + 1) ≤ ze Mz 81 20 by first | with_reducible assumption | assumption | omega) (show (u1_ + v29_) = ((gup (gfxF T F (a1_).toNat) 0 ((u2_ + 1)).toNat : Nat) : Int) by first | with_reducible assumption | assumption | omega) (by (exact zo_147 hc_11 hlt_5))
              · skip
                refine zw_iload (pc := 50) (i := 5) (x := Int32.ofInt u23_) rfl (zdal_p dlC_M_fixedOf_45 (i := 4) rfl) ?_
                refine zr_if_eq (pc := 52) (tgt := 100) ⟨hu23_a, hu23_b⟩ (by decide) (zdal_p dlC_M_fixedOf_45 (i := 5) rfl) (fun hc_52 => ?_) (fun hc_52 => ?_)
                · skip
                  refine zw_iload_n (pc := 100) (n := 3) (x := Int32.ofInt u1_) rfl (zdal_p dlC_M_fixedOf_46 (i := 5) rfl) ?_
                  refine zw_iload (pc := 101) (i := 5) (x := Int32.ofInt u23_) rfl (zdal_p dlC_M_fixedOf_46 (i := 6) rfl) ?_
                  refine zr_callS hf.x (pc := 103) [.int (Int32.ofInt u23_)] [.int (Int32.ofInt u1_)] l_M_256 (c_M_truth l Mz (hf.w hW) u23_ hu23_a hu23_b (by (exact hu23_z))) rfl rfl (by decide) (Nat.le_of_ble_eq_true rfl) (zdal_p dlC_M_fixedOf_46 (i := 7) rfl) ?_
                  rintro _ N30_ ⟨v31_, rfl, ⟨hv31_a, hv31_b⟩, hsN30_, hp0_N30_⟩
                  obtain rfl := hsN30_.eq.symm
                  replace hp0_N30_ : v31_ = u23_ := hp0_N30_
                  show zW l m_M_fixedOf (zn Mz + 0, zw Mz + 0) Mz 106 [some (.ref 81), some (.int (Int32.ofInt a0_)), some (.int (Int32.ofInt a1_)), some (.int (Int32.ofInt u1_)), some (.int (Int32.ofInt u2_)), some (.int (Int32.ofInt u23_)), some (.int (Int32.ofInt u24_))] [.int (Int32.ofInt v31_), .int (Int32.ofInt u1_)] _
                  have hE := zfx_e (show zfxI T F (a1_).toNat (u2_).toNat _ _ by first | with_reducible assumption | assumption) (by omega)
                  have hs := gfx_s (by (exact i3_)) (show u1_ = ((gup (gfxF T F (a1_).toNat) 0 (u2_).toNat : Nat) : Int) by first | with_reducible assumption | assumption) (v := v31_) (by omega)
                  refine zr_iadd (pc := 106) (zdal_p dlC_M_fixedOf_46 (i := 8) rfl) ?_
                  refine zw_istore_n (pc := 107) (i := 3) (L2 := [some (.ref 81), some (.int (Int32.ofInt a0_)), some (.int (Int32.ofInt a1_)), some (.int (Int32.ofInt (u1_ + v31_))), some (.int (Int32.ofInt u2_)), some (.int (Int32.ofInt u23_)), some (.int (Int32.ofInt u24_))]) rfl (by decide) rfl (zdal_p dlC_M_fixedOf_46 (i := 9) rfl) ?_
                  refine zr_iinc (pc := 108) (i := 4) (a := u2_) (n := 1) (L2 := [some (.ref 81), some (.int (Int32.ofInt a0_)), some (.int (Int32.ofInt a1_)), some (.int (Int32.ofInt (u1_ + v31_))), some (.int (Int32.ofInt (u2_ + 1))), some (.int (Int32.ofInt u23_)), some (.int (Int32.ofInt u24_))]) rfl (by decide) rfl (zdal_p dlC_M_fixedOf_46 (i := 10) rfl) ?_
                  refine zw_goto (pc := 111) (tgt := 5) (by decide) (zdal_p dlC_M_fixedOf_46 (i := 11) rfl) ?_
                  refine zW_le [some (.ref 81), some (.int (Int32.ofInt a0_)), some (.int (Int32.ofInt a1_)), some (.int (Int32.ofInt (u1_ + v31_))), some (.int (Int32.ofInt (u2_ + 1))), none, none] (⟨rfl, rfl, rfl, rfl, rfl, trivial⟩) ?_
                  exact ih_5 (u1_ + v31_) (by (exact zo_2320 hs)) (by omega) (u2_ + 1) (by (exact zo_74 i3_)) (by (exact zo_2332 g24 gn hc_11 r_20.2)) (show 0 ≤ (u2_ + 1) by first | with_reducible assumption | (exact zo_76 i3_) | assumption) (show 0 ≤ (u1_ + v31_) by first | with_reducible assumption | (exact zo_2323 hs) | assumption) (show (u1_ + v31_) ≤ (u2_ + 1) by first | with_reducible assumption | assumption | omega) (show (u2_ + 1) ≤ ze Mz 81 20 by first | with_reducible assumption | assumption | omega) (show (u1_ + v31_) = ((gup (gfxF T F (a1_).toNat) 0 ((u2_ + 1)).toNat : Nat) : Int) by first | with_reducible assumption | assumption | omega) (by (exact zo_147 hc_11 hlt_5))
                · skip
                  refine zw_iload_n (pc := 55) (n := 2) (x := Int32.ofInt a1_) rfl (zdal_p dlC_M_fixedOf_45 (i := 6) rfl) ?_
                  refine zw_iload (pc := 56) (i := 6) (x := Int32.ofInt u24_) rfl (zdal_p dlC_M_fixedOf_45 (i := 7) rfl) ?_
                  refine zr_callS hf.x (pc := 58) [.int (Int32.ofInt a1_), .int (Int32.ofInt u24_)] [] l_M_213 (c_M_holds l Mz (hf.w hW) a1_ ha1_a ha1_b u24_ hu24_a hu24_b (show 0 ≤ a1_ by first | with_reducible assumption | assumption | omega) (show 0 ≤ u24_ by first | with_reducible assumption | assumption | omega) (show u24_ < 32 by first | with_reducible assumption | assumption | omega)) rfl rfl (by decide) (Nat.le_of_ble_eq_true rfl) (zdal_p dlC_M_fixedOf_45 (i := 8) rfl) ?_
                  rintro _ N32_ ⟨v33_, rfl, ⟨hv33_a, hv33_b⟩, hsN32_, hp0_N32_⟩
                  obtain rfl := hsN32_.eq.symm
                  replace hp0_N32_ : ((v33_ = 1 ∧ zbt a1_ u24_) ∨ (v33_ = 0 ∧ ¬ zbt a1_ u24_)) := hp0_N32_
                  rcases hp0_N32_ with ⟨rfl, ha58_0_hp0_N32_⟩ | ⟨rfl, ha58_0_hp0_N32_⟩
                  · skip
                    show zW l m_M_fixedOf (zn Mz + 0, zw Mz + 0) Mz 61 [some (.ref 81), some (.int (Int32.ofInt a0_)), some (.int (Int32.ofInt a1_)), some (.int (Int32.ofInt u1_)), some (.int (Int32.ofInt u2_)), some (.int (Int32.ofInt u23_)), some (.int (Int32.ofInt u24_))] [.int (Int32.ofInt 1)] _
                    refine zr_if_eq (pc := 61) (tgt := 87) ⟨(by decide), (by decide)⟩ (by decide) (zdal_p dlC_M_fixedOf_45 (i := 9) rfl) (fun hc_61 => ?_) (fun hc_61 => ?_)
                    · skip
                      exact absurd hc_61 (by decide)
                    · skip
                      refine zw_aload_n (pc := 64) (n := 0) (x := 81) rfl (zdal_p dlC_M_fixedOf_45 (i := 10) rfl) ?_
                      refine zr_getF (r := 94) (hf.w hW) (pc := 65) f_M_53 rfl (zh_94 (hf.w hW)).1 (zdal_p dlC_M_fixedOf_45 (i := 11) rfl) ?_
                      refine zw_bipush (pc := 68) (v := Int32.ofInt 24) (by decide) (zdal_p dlC_M_fixedOf_45 (i := 12) rfl) ?_
                      refine zw_iload_n (pc := 70) (n := 1) (x := Int32.ofInt a0_) rfl (zdal_p dlC_M_fixedOf_45 (i := 13) rfl) ?_
                      refine zr_imul (pc := 71) (zdal_p dlC_M_fixedOf_45 (i := 14) rfl) ?_
                      refine zw_aload_n (pc := 72) (n := 0) (x := 81) rfl (zdal_p dlC_M_fixedOf_45 (i := 15) rfl) ?_
                      refine zw_iload (pc := 73) (i := 4) (x := Int32.ofInt u2_) rfl (zdal_p dlC_M_fixedOf_45 (i := 16) rfl) ?_
                      refine zw_iload (pc := 75) (i := 6) (x := Int32.ofInt u24_) rfl (zdal_p dlC_M_fixedOf_45 (i := 17) rfl) ?_
                      refine zr_callV (hf.w hW) hf.x (pc := 77) [.int (Int32.ofInt u2_), .int (Int32.ofInt u24_)] [.int (Int32.ofInt (24 * a0_)), .ref 94] l_M_216 (c_M_by l Mz (hf.w hW) u2_ hu2_a hu2_b u24_ hu24_a hu24_b T hG p0_ (show 0 ≤ u2_ by first | with_reducible assumption | assumption | omega) (show u2_ < ze Mz 81 20 by first | with_reducible assumption | assumption | omega) (show 0 ≤ u24_ by first | with_reducible assumption | assumption | omega) (show u24_ < ze Mz 81 20 by first | with_reducible assumption | assumption | omega)) rfl rfl rfl (by decide) (Nat.le_of_ble_eq_true rfl) (zdal_p dlC_M_fixedOf_45 (i := 18) rfl) ?_
                      rintro _ N34_ ⟨v35_, rfl, ⟨hv35_a, hv35_b⟩, hsN34_, ⟨hp0_N34_, hp1_N34_, hp2_N34_⟩⟩
                      obtain rfl := hsN34_.eq.symm
                      show zW l m_M_fixedOf (zn Mz + 0, zw Mz + 0) Mz 80 [some (.ref 81), some (.int (Int32.ofInt a0_)), some (.int (Int32.ofInt a1_)), some (.int (Int32.ofInt u1_)), some (.int (Int32.ofInt u2_)), some (.int (Int32.ofInt u23_)), some (.int (Int32.ofInt u24_))] [.int (Int32.ofInt v35_), .int (Int32.ofInt (24 * a0_)), .ref 94] _
                      refine zr_toI (show v35_ = ((gm T (u2_).toNat (u24_).toNat : Nat) : Int) by first | with_reducible assumption | assumption) ?_
                      refine zr_iadd (pc := 80) (zdal_p dlC_M_fixedOf_45 (i := 19) rfl) ?_
                      refine zr_ialdn (pc := 81) (zh_94 (hf.w hW)).2 (by decide) (by omega) (by omega) (zdal_p dlC_M_fixedOf_45 (i := 20) rfl) (fun v36_ hv36_ hv36_a hv36_b => ?_)
                      have hcw := p4_.g (a := a0_) (x := ((gm T (u2_).toNat (u24_).toNat : Nat) : Int)) rfl (by (exact p1_)) (by (exact zo_85)) (by rw [Int.toNat_natCast]; exact hG.2.2.2 _ _ (by (exact zo_925 gn hc_11 i3_)) (by (exact zo_925 gn hc_47 i25_)))
                      rw [Int.toNat_natCast] at hcw
                      refine zw_iload (pc := 82) (i := 4) (x := Int32.ofInt u2_) rfl (zdal_p dlC_M_fixedOf_45 (i := 21) rfl) ?_
                      refine zr_icmp_ne (pc := 84) (tgt := 91) ⟨hv36_a, hv36_b⟩ ⟨hu2_a, hu2_b⟩ (by decide) (zdal_p dlC_M_fixedOf_45 (i := 22) rfl) (fun hc_84 => ?_) (fun hc_84 => ?_)
                      · skip
                        refine zw_iconst (pc := 91) (v := Int32.ofInt 0) (by decide) (zdal_p dlC_M_fixedOf_46 (i := 1) rfl) ?_
                        refine zw_istore (pc := 92) (i := 5) (L2 := [some (.ref 81), some (.int (Int32.ofInt a0_)), some (.int (Int32.ofInt a1_)), some (.int (Int32.ofInt u1_)), some (.int (Int32.ofInt u2_)), some (.int (Int32.ofInt 0)), some (.int (Int32.ofInt u24_))]) (by decide) rfl d_M_fixedOf_92 ?_
                        refine zr_iinc (pc := 94) (i := 6) (a := u24_) (n := 1) (L2 := [some (.ref 81), some (.int (Int32.ofInt a0_)), some (.int (Int32.ofInt a1_)), some (.int (Int32.ofInt u1_)), some (.int (Int32.ofInt u2_)), some (.int (Int32.ofInt 0)), some (.int (Int32.ofInt (u24_ + 1)))]) rfl (by decide) rfl d_M_fixedOf_94 ?_
                        refine zw_goto (pc := 97) (tgt := 41) (by decide) d_M_fixedOf_97 ?_
                        have hJ : zfxI T F (a1_).toNat (u2_).toNat ((u24_ + 1)).toNat (0 : Int) := by first | exact zfx_s1 rfl (by omega) (by first | with_reducible assumption | assumption) (by omega) (Or.inl (by first | with_reducible assumption | assumption)) | exact zfx_s1 rfl (by omega) (by first | with_reducible assumption | assumption) (by omega) (Or.inr (by omega)) | exact zfx_s0 rfl (by (exact zo_925 gn hc_47 i25_)) (by first | with_reducible assumption | assumption) (by (exact zo_2317 hcw hv36_ i3_ hc_84))
                        exact ih_41 0 (by decide) (by decide) (by (decide)) (u24_ + 1) (by (exact zo_74 i25_)) (by (exact zo_2322 g24 gn hc_47 hu24_b)) (show 0 ≤ (u24_ + 1) by first | with_reducible assumption | (exact zo_76 i25_) | assumption) (show (u24_ + 1) ≤ ze Mz 81 20 by first | with_reducible assumption | assumption | omega) (show zfxI T F (a1_).toNat (u2_).toNat ((u24_ + 1)).toNat (0 : Int) by first | with_reducible assumption | assumption | omega) (by (exact zo_147 hc_47 hlt_41))
                      · skip
                        refine zw_iconst (pc := 87) (v := Int32.ofInt 1) (by decide) (zdal_p dlC_M_fixedOf_45 (i := 23) rfl) ?_
                        refine zw_goto (pc := 88) (tgt := 92) (by decide) (zdal_p dlC_M_fixedOf_46 (i := 0) rfl) ?_
                        refine zw_istore (pc := 92) (i := 5) (L2 := [some (.ref 81), some (.int (Int32.ofInt a0_)), some (.int (Int32.ofInt a1_)), some (.int (Int32.ofInt u1_)), some (.int (Int32.ofInt u2_)), some (.int (Int32.ofInt 1)), some (.int (Int32.ofInt u24_))]) (by decide) rfl d_M_fixedOf_92 ?_
                        refine zr_iinc (pc := 94) (i := 6) (a := u24_) (n := 1) (L2 := [some (.ref 81), some (.int (Int32.ofInt a0_)), some (.int (Int32.ofInt a1_)), some (.int (Int32.ofInt u1_)), some (.int (Int32.ofInt u2_)), some (.int (Int32.ofInt 1)), some (.int (Int32.ofInt (u24_ + 1)))]) rfl (by decide) rfl d_M_fixedOf_94 ?_
                        refine zw_goto (pc := 97) (tgt := 41) (by decide) d_M_fixedOf_97 ?_
                        have hJ : zfxI T F (a1_).toNat (u2_).toNat ((u24_ + 1)).toNat (1 : Int) := by first | exact zfx_s1 rfl (by (exact i25_)) (by first | with_reducible assumption | assumption) (by (exact hc_52)) (Or.inl (by first | with_reducible assumption | assumption)) | exact zfx_s1 rfl (by (exact i25_)) (by first | with_reducible assumption | assumption) (by (exact hc_52)) (Or.inr (by (exact zo_2333 g24 gn hc_11 hc_84 hcw hv36_ hv36_b i3_))) | exact zfx_s0 rfl (by omega) (by first | with_reducible assumption | assumption) (by omega)
                        exact ih_41 1 (by decide) (by decide) (by (decide)) (u24_ + 1) (by (exact zo_74 i25_)) (by (exact zo_2332 g24 gn hc_47 r_20.2)) (show 0 ≤ (u24_ + 1) by first | with_reducible assumption | (exact zo_76 i25_) | assumption) (show (u24_ + 1) ≤ ze Mz 81 20 by first | with_reducible assumption | assumption | omega) (show zfxI T F (a1_).toNat (u2_).toNat ((u24_ + 1)).toNat (1 : Int) by first | with_reducible assumption | assumption | omega) (by (exact zo_147 hc_47 hlt_41))
                  · skip
                    show zW l m_M_fixedOf (zn Mz + 0, zw Mz + 0) Mz 61 [some (.ref 81), some (.int (Int32.ofInt a0_)), some (.int (Int32.ofInt a1_)), some (.int (Int32.ofInt u1_)), some (.int (Int32.ofInt u2_)), some (.int (Int32.ofInt u23_)), some (.int (Int32.ofInt u24_))] [.int (Int32.ofInt 0)] _
                    refine zr_if_eq (pc := 61) (tgt := 87) ⟨(by decide), (by decide)⟩ (by decide) (zdal_p dlC_M_fixedOf_45 (i := 9) rfl) (fun hc_61 => ?_) (fun hc_61 => ?_)
                    · skip
                      refine zw_iconst (pc := 87) (v := Int32.ofInt 1) (by decide) (zdal_p dlC_M_fixedOf_45 (i := 23) rfl) ?_
                      refine zw_goto (pc := 88) (tgt := 92) (by decide) (zdal_p dlC_M_fixedOf_46 (i := 0) rfl) ?_
                      refine zw_istore (pc := 92) (i := 5) (L2 := [some (.ref 81), some (.int (Int32.ofInt a0_)), some (.int (Int32.ofInt a1_)), some (.int (Int32.ofInt u1_)), some (.int (Int32.ofInt u2_)), some (.int (Int32.ofInt 1)), some (.int (Int32.ofInt u24_))]) (by decide) rfl d_M_fixedOf_92 ?_
                      refine zr_iinc (pc := 94) (i := 6) (a := u24_) (n := 1) (L2 := [some (.ref 81), some (.int (Int32.ofInt a0_)), some (.int (Int32.ofInt a1_)), some (.int (Int32.ofInt u1_)), some (.int (Int32.ofInt u2_)), some (.int (Int32.ofInt 1)), some (.int (Int32.ofInt (u24_ + 1)))]) rfl (by decide) rfl d_M_fixedOf_94 ?_
                      refine zw_goto (pc := 97) (tgt := 41) (by decide) d_M_fixedOf_97 ?_
                      have hJ : zfxI T F (a1_).toNat (u2_).toNat ((u24_ + 1)).toNat (1 : Int) := by first | exact zfx_s1 rfl (by (exact i25_)) (by first | with_reducible assumption | assumption) (by (exact hc_52)) (Or.inl (by first | with_reducible assumption | assumption)) | exact zfx_s1 rfl (by omega) (by first | with_reducible assumption | assumption) (by omega) (Or.inr (by omega)) | exact zfx_s0 rfl (by omega) (by first | with_reducible assumption | assumption) (by omega)
                      exact ih_41 1 (by decide) (by decide) (by (decide)) (u24_ + 1) (by (exact zo_74 i25_)) (by (exact zo_2322 g24 gn hc_47 hu24_b)) (show 0 ≤ (u24_ + 1) by first | with_reducible assumption | (exact zo_76 i25_) | assumption) (show (u24_ + 1) ≤ ze Mz 81 20 by first | with_reducible assumption | assumption | omega) (show zfxI T F (a1_).toNat (u2_).toNat ((u24_ + 1)).toNat (1 : Int) by first | with_reducible assumption | assumption | omega) (by (exact zo_147 hc_47 hlt_41))
                    · skip
                      exact absurd hc_61 (by decide)
          exact lp_41 _ 1 (by decide) (by decide) (by (decide)) 0 (by decide) (by decide) (show 0 ≤ (0 : Int) by first | with_reducible assumption | (decide) | assumption) (show (0 : Int) ≤ ze Mz 81 20 by first | with_reducible assumption | assumption | omega) (show zfxI T F (a1_).toNat (u2_).toNat ((0 : Int)).toNat (1 : Int) by first | with_reducible assumption | assumption | omega) (Nat.lt_succ_self _)
  exact lp_5 _ 0 (by decide) (by decide) 0 (by decide) (by decide) (show 0 ≤ (0 : Int) by first | with_reducible assumption | (decide) | assumption) (show 0 ≤ (0 : Int) by first | with_reducible assumption | (decide) | assumption) (show (0 : Int) ≤ (0 : Int) by first | with_reducible assumption | (decide) | assumption) (show (0 : Int) ≤ ze Mz 81 20 by first | with_reducible assumption | (exact zo_2336 gn r_20.1) | assumption) (show (0 : Int) = ((gup (gfxF T F (a1_).toNat) 0 ((0 : Int)).toNat : Nat) : Int) by rfl) (Nat.lt_succ_self _)
set_option maxHeartbeats 4000000 in
theorem c_M_comesSort (l : Launch) (Mz : zMem) (hW : zMt Mz) (a0_ : Int) (ha0_a : -2147483648 ≤ a0_) (ha0_b : a0_ < 2147483648) (p0_ : 0 ≤ ze Mz 81 26) (p1_ : ze Mz 81 26 ≤ 63) (p2_ : 0 ≤ a0_) (p3_ : a0_ < 16777216) (p4_ : zSo Mz (ze Mz 81 26)) (p5_ : ∀ i : Nat, (i : Int) < ze Mz 81 26 → ze Mz 91 i ≠ a0_) : zC l m_M_comesSort 0 0 [.ref 81, .int (Int32.ofInt a0_)] Mz (zpV [26] [91] Mz (fun N => ze N 81 26 = ze Mz 81 26 + 1 ∧ zSo N (ze N 81 26) ∧ (∀ y : Int, (∃ j : Nat, (j : Int) < ze N 81 26 ∧ ze N 91 j = y) ↔ (y = a0_ ∨ ∃ j : Nat, (j : Int) < ze Mz 81 26 ∧ ze Mz 91 j = y)))) := by
  refine zC_of (L0 := [some (.ref 81), some (.int (Int32.ofInt a0_)), none]) md_M_comesSort (Nat.le_of_ble_eq_true rfl) rfl ?_ zQ0
  have hf : zFr [26] [91] Mz Mz := zFr.rf
  have r_26 := ze_r Mz 81 26
  refine zw_aload_n (pc := 0) (n := 0) (x := 81) rfl (zdal_p dlC_M_comesSort_37 (i := 0) rfl) ?_
  refine zr_getI (hf.w hW) (pc := 1) f_M_235 rfl (zdal_p dlC_M_comesSort_37 (i := 1) rfl) ?_
  refine zw_istore_n (pc := 4) (i := 2) (L2 := [some (.ref 81), some (.int (Int32.ofInt a0_)), some (.int (Int32.ofInt (ze Mz 81 26)))]) rfl (by decide) rfl (zdal_p dlC_M_comesSort_37 (i := 2) rfl) ?_
  have hm0 := zMv_0 (M := Mz) (n := ze Mz 81 26) (a := a0_) (by (exact p0_))
  have lp_5 : ∀ (n : Nat) (u1_ : Int) (hu1_a : -2147483648 ≤ u1_) (hu1_b : u1_ < 2147483648) (N2_ : zMem) (hs3_ : zFr [] [91] Mz N2_) (i4_ : 0 ≤ u1_) (i5_ : u1_ ≤ ze Mz 81 26) (i6_ : zMv Mz N2_ (ze Mz 81 26) u1_ a0_), (u1_).toNat < n → zW l m_M_comesSort (zn Mz + 0, zw Mz + 0) N2_ 5 [some (.ref 81), some (.int (Int32.ofInt a0_)), some (.int (Int32.ofInt u1_))] [] (zpV [26] [91] Mz (fun N => ze N 81 26 = ze Mz 81 26 + 1 ∧ zSo N (ze N 81 26) ∧ (∀ y : Int, (∃ j : Nat, (j : Int) < ze N 81 26 ∧ ze N 91 j = y) ↔ (y = a0_ ∨ ∃ j : Nat, (j : Int) < ze Mz 81 26 ∧ ze Mz 91 j = y)))) := by
    intro n
    induction n with
    | zero =>
      intro u1_ hu1_a hu1_b N2_ hs3_ i4_ i5_ i6_ h0
      exact absurd h0 (Nat.not_lt_zero _)
    | succ n ih_5 =>
      intro u1_ hu1_a hu1_b N2_ hs3_ i4_ i5_ i6_ hlt_5
      have hf_N2_ : zFr [26] [91] Mz N2_ := hf.tr hs3_ (by decide) (by decide)
      have e26_N2_ : ze N2_ 81 26 = ze Mz 81 26 := hs3_.e (by decide)
      refine zw_iload_n (pc := 5) (n := 2) (x := Int32.ofInt u1_) rfl (zdal_p dlC_M_comesSort_37 (i := 3) rfl) ?_
      refine zr_if_le (pc := 6) (tgt := 77) ⟨hu1_a, hu1_b⟩ (by decide) (zdal_p dlC_M_comesSort_37 (i := 4) rfl) (fun hc_6 => ?_) (fun hc_6 => ?_)
      · skip
        have hl : u1_ = 0 ∨ zky (ze Mz 91 (u1_ - 1).toNat) < zky a0_ := by first | exact Or.inl (by omega) | exact Or.inr (zky_lt (oa := zcb (ze Mz 91 (u1_ - 1).toNat) 31) (ob := zcb a0_ 31) hb_x ⟨p2_, p3_⟩ rfl rfl (by omega))
        refine zw_aload_n (pc := 77) (n := 0) (x := 81) rfl (zdal_p dlC_M_comesSort_38 (i := 21) rfl) ?_
        refine zr_getF (r := 91) (hf_N2_.w hW) (pc := 78) f_M_44 rfl (zh_91 (hf_N2_.w hW)).1 (zdal_p dlC_M_comesSort_38 (i := 22) rfl) ?_
        refine zw_iload_n (pc := 81) (n := 2) (x := Int32.ofInt u1_) rfl (zdal_p dlC_M_comesSort_38 (i := 23) rfl) ?_
        refine zw_iload_n (pc := 82) (n := 1) (x := Int32.ofInt a0_) rfl (zdal_p dlC_M_comesSort_39 (i := 0) rfl) ?_
        refine zr_iast (pc := 83) (zh_91 (hf_N2_.w hW)).2 (by decide) (by decide) (by (exact i4_)) (by omega) (zdal_p dlC_M_comesSort_39 (i := 1) rfl) (fun N7_ hN7_ hsN7_ => ?_)
        have hf_N7_ : zFr [26] [91] Mz N7_ := hf_N2_.tr hsN7_ (by decide) (by decide)
        have e26_N7_ : ze N7_ 81 26 = ze N2_ 81 26 := hsN7_.e (by decide)
        refine zw_aload_n (pc := 84) (n := 0) (x := 81) rfl (zdal_p dlC_M_comesSort_39 (i := 2) rfl) ?_
        refine zw_dup (pc := 85) rfl (zdal_p dlC_M_comesSort_39 (i := 3) rfl) ?_
        refine zr_getI (hf_N7_.w hW) (pc := 86) f_M_235 rfl (zdal_p dlC_M_comesSort_39 (i := 4) rfl) ?_
        refine zw_iconst (pc := 89) (v := Int32.ofInt 1) (by decide) (zdal_p dlC_M_comesSort_39 (i := 5) rfl) ?_
        refine zr_iadd (pc := 90) (zdal_p dlC_M_comesSort_39 (i := 6) rfl) ?_
        refine zr_putI (hf_N7_.w hW) (pc := 91) f_M_235 rfl rfl ⟨by (exact zo_743 e26_N2_ e26_N7_ p0_), by omega⟩ rfl rfl (zdal_p dlC_M_comesSort_39 (i := 7) rfl) (fun N8_ hsN8_ hvN8_ => ?_)
        have hf_N8_ : zFr [26] [91] Mz N8_ := hf_N7_.tr hsN8_ (by decide) (by decide)
        have r26_N8_ := ze_r N8_ 81 26
        have hE := zMv_e p4_ (show zMv Mz N2_ (ze Mz 81 26) u1_ a0_ by first | with_reducible assumption | assumption) ⟨p2_, p3_⟩ hl hN7_
        have hS2 := zSo_f hsN8_ (by decide) hE.1
        have hE2 := hE.2
        rw [show ze Mz 81 26 + 1 = ze N8_ 81 26 by omega] at hS2 hE2
        exact zr_vret (pc := 94) rfl hf_N8_ ⟨(show ze N8_ 81 26 = ze Mz 81 26 + 1 by first | with_reducible assumption | assumption | omega), (show zSo N8_ (ze N8_ 81 26) by first | with_reducible assumption | assumption), (show ∀ y : Int, (∃ j : Nat, (j : Int) < ze N8_ 81 26 ∧ ze N8_ 91 j = y) ↔ (y = a0_ ∨ ∃ j : Nat, (j : Int) < ze Mz 81 26 ∧ ze Mz 91 j = y) by intro y; rw [zmem_f hsN8_ (by decide)]; exact hE2 y)⟩ (zdal_p dlC_M_comesSort_39 (i := 8) rfl)
      · skip
        refine zw_aload_n (pc := 9) (n := 0) (x := 81) rfl (zdal_p dlC_M_comesSort_37 (i := 5) rfl) ?_
        refine zr_getF (r := 91) (hf_N2_.w hW) (pc := 10) f_M_44 rfl (zh_91 (hf_N2_.w hW)).1 (zdal_p dlC_M_comesSort_37 (i := 6) rfl) ?_
        refine zw_iload_n (pc := 13) (n := 2) (x := Int32.ofInt u1_) rfl (zdal_p dlC_M_comesSort_37 (i := 7) rfl) ?_
        refine zw_iconst (pc := 14) (v := Int32.ofInt 1) (by decide) (zdal_p dlC_M_comesSort_37 (i := 8) rfl) ?_
        refine zr_isub (pc := 15) (zdal_p dlC_M_comesSort_37 (i := 9) rfl) ?_
        refine zr_ialdn (pc := 16) (zh_91 (hf_N2_.w hW)).2 (by decide) (by (exact zo_1265 hc_6)) (by (exact zo_2341 hu1_b i5_ p1_)) (zdal_p dlC_M_comesSort_37 (i := 10) rfl) (fun v9_ hv9_ hv9_a hv9_b => ?_)
        have ha_x := (show zMv Mz N2_ (ze Mz 81 26) u1_ a0_ by first | with_reducible assumption | assumption).2.1 (u1_ - 1).toNat (by (exact zo_2 hc_6))
        have hb_x := p4_.2 (u1_ - 1).toNat (by omega)
        have hn_x := p5_ (u1_ - 1).toNat (by omega)
        refine zr_toI (show v9_ = ze Mz 91 (u1_ - 1).toNat by (exact zo_2343 ha_x hb_x.1 hv9_ hv9_b)) ?_
        refine zr_callS hf_N2_.x (pc := 17) [.int (Int32.ofInt (ze Mz 91 (u1_ - 1).toNat))] [] l_M_253 (c_M_ones l N2_ (hf_N2_.w hW) (ze Mz 91 (u1_ - 1).toNat) (by (exact zo_168 hb_x.1)) (by (exact zo_2344 ha_x hv9_ hv9_b)) (show 0 ≤ (ze Mz 91 (u1_ - 1).toNat) by first | with_reducible assumption | (exact zo_57 hb_x.1) | assumption)) rfl rfl (by decide) (Nat.le_of_ble_eq_true rfl) (zdal_p dlC_M_comesSort_37 (i := 11) rfl) ?_
        rintro _ N10_ ⟨v11_, rfl, ⟨hv11_a, hv11_b⟩, hsN10_, ⟨hp0_N10_, hp1_N10_, hp2_N10_⟩⟩
        obtain rfl := hsN10_.eq.symm
        show zW l m_M_comesSort (zn Mz + 0, zw Mz + 0) N2_ 20 [some (.ref 81), some (.int (Int32.ofInt a0_)), some (.int (Int32.ofInt u1_))] [.int (Int32.ofInt v11_)] _
        refine zw_iload_n (pc := 20) (n := 1) (x := Int32.ofInt a0_) rfl (zdal_p dlC_M_comesSort_37 (i := 12) rfl) ?_
        refine zr_callS hf_N2_.x (pc := 21) [.int (Int32.ofInt a0_)] [.int (Int32.ofInt v11_)] l_M_253 (c_M_ones l N2_ (hf_N2_.w hW) a0_ ha0_a ha0_b (show 0 ≤ a0_ by first | with_reducible assumption | assumption | omega)) rfl rfl (by decide) (Nat.le_of_ble_eq_true rfl) (zdal_p dlC_M_comesSort_37 (i := 13) rfl) ?_
        rintro _ N12_ ⟨v13_, rfl, ⟨hv13_a, hv13_b⟩, hsN12_, ⟨hp0_N12_, hp1_N12_, hp2_N12_⟩⟩
        obtain rfl := hsN12_.eq.symm
        show zW l m_M_comesSort (zn Mz + 0, zw Mz + 0) N2_ 24 [some (.ref 81), some (.int (Int32.ofInt a0_)), some (.int (Int32.ofInt u1_))] [.int (Int32.ofInt v13_), .int (Int32.ofInt v11_)] _
        refine zr_icmp_gt (pc := 24) (tgt := 57) ⟨hv11_a, hv11_b⟩ ⟨hv13_a, hv13_b⟩ (by decide) (zdal_p dlC_M_comesSort_37 (i := 14) rfl) (fun hc_24 => ?_) (fun hc_24 => ?_)
        · skip
          refine zw_aload_n (pc := 57) (n := 0) (x := 81) rfl (zdal_p dlC_M_comesSort_38 (i := 9) rfl) ?_
          refine zr_getF (r := 91) (hf_N2_.w hW) (pc := 58) f_M_44 rfl (zh_91 (hf_N2_.w hW)).1 (zdal_p dlC_M_comesSort_38 (i := 10) rfl) ?_
          refine zw_iload_n (pc := 61) (n := 2) (x := Int32.ofInt u1_) rfl (zdal_p dlC_M_comesSort_38 (i := 11) rfl) ?_
          refine zw_aload_n (pc := 62) (n := 0) (x := 81) rfl (zdal_p dlC_M_comesSort_38 (i := 12) rfl) ?_
          refine zr_getF (r := 91) (hf_N2_.w hW) (pc := 63) f_M_44 rfl (zh_91 (hf_N2_.w hW)).1 (zdal_p dlC_M_comesSort_38 (i := 13) rfl) ?_
          refine zw_iload_n (pc := 66) (n := 2) (x := Int32.ofInt u1_) rfl (zdal_p dlC_M_comesSort_38 (i := 14) rfl) ?_
          refine zw_iconst (pc := 67) (v := Int32.ofInt 1) (by decide) (zdal_p dlC_M_comesSort_38 (i := 15) rfl) ?_
          refine zr_isub (pc := 68) (zdal_p dlC_M_comesSort_38 (i := 16) rfl) ?_
          refine zr_ialdn (pc := 69) (zh_91 (hf_N2_.w hW)).2 (by decide) (by (exact zo_1265 hc_6)) (by (exact zo_2341 hu1_b i5_ p1_)) (zdal_p dlC_M_comesSort_38 (i := 17) rfl) (fun v14_ hv14_ hv14_a hv14_b => ?_)
          refine zr_toI (show v14_ = ze Mz 91 (u1_ - 1).toNat by (exact zo_2343 ha_x hb_x.1 hv14_ hv14_b)) ?_
          refine zr_iast (pc := 70) (zh_91 (hf_N2_.w hW)).2 (by decide) (by decide) (by (exact i4_)) (by (exact zo_2345 hu1_b i5_ p1_)) (zdal_p dlC_M_comesSort_38 (i := 18) rfl) (fun N15_ hN15_ hsN15_ => ?_)
          have hf_N15_ : zFr [26] [91] Mz N15_ := hf_N2_.tr hsN15_ (by decide) (by decide)
          have hb0_N15_ : zFr [] [91] Mz N15_ := hs3_.tr hsN15_ (by decide) (by decide)
          have e26_N15_ : ze N15_ 81 26 = ze N2_ 81 26 := hsN15_.e (by decide)
          refine zr_iinc (pc := 71) (i := 2) (a := u1_) (n := -1) (L2 := [some (.ref 81), some (.int (Int32.ofInt a0_)), some (.int (Int32.ofInt (u1_ + (-1))))]) rfl (by decide) rfl (zdal_p dlC_M_comesSort_38 (i := 19) rfl) ?_
          refine zw_goto (pc := 74) (tgt := 5) (by decide) (zdal_p dlC_M_comesSort_38 (i := 20) rfl) ?_
          have hz : zMv Mz N15_ (ze Mz 81 26) (u1_ + (-1)) a0_ := zMv_s (show zMv Mz N2_ (ze Mz 81 26) _ a0_ by first | with_reducible assumption | assumption) (by omega) (by (exact zo_1 hc_6)) rfl ⟨by (exact zo_168 hb_x.1), by (exact zo_2344 ha_x hv14_ hv14_b)⟩ hN15_ (zky_lt (oa := zcb a0_ 31) ⟨p2_, p3_⟩ hb_x rfl rfl (by omega))
          exact ih_5 (u1_ + (-1)) (by (exact zo_992 hc_6)) (by (exact zo_893 hu1_b)) N15_ hb0_N15_ (show 0 ≤ (u1_ + (-1)) by first | with_reducible assumption | (exact zo_1402 hc_6) | assumption) (show (u1_ + (-1)) ≤ ze Mz 81 26 by first | with_reducible assumption | (exact zo_993 i5_) | assumption) (show zMv Mz N15_ (ze Mz 81 26) (u1_ + (-1)) a0_ by first | with_reducible assumption | assumption | omega) (by (exact zo_995 hc_6 hlt_5 hu1_b))
        · skip
          refine zw_aload_n (pc := 27) (n := 0) (x := 81) rfl (zdal_p dlC_M_comesSort_37 (i := 15) rfl) ?_
          refine zr_getF (r := 91) (hf_N2_.w hW) (pc := 28) f_M_44 rfl (zh_91 (hf_N2_.w hW)).1 (zdal_p dlC_M_comesSort_37 (i := 16) rfl) ?_
          refine zw_iload_n (pc := 31) (n := 2) (x := Int32.ofInt u1_) rfl (zdal_p dlC_M_comesSort_37 (i := 17) rfl) ?_
          refine zw_iconst (pc := 32) (v := Int32.ofInt 1) (by decide) (zdal_p dlC_M_comesSort_37 (i := 18) rfl) ?_
          refine zr_isub (pc := 33) (zdal_p dlC_M_comesSort_37 (i := 19) rfl) ?_
          refine zr_ialdn (pc := 34) (zh_91 (hf_N2_.w hW)).2 (by decide) (by (exact zo_1265 hc_6)) (by (exact zo_2341 hu1_b i5_ p1_)) (zdal_p dlC_M_comesSort_37 (i := 20) rfl) (fun v16_ hv16_ hv16_a hv16_b => ?_)
          refine zr_toI (show v16_ = ze Mz 91 (u1_ - 1).toNat by (exact zo_2343 ha_x hb_x.1 hv16_ hv16_b)) ?_
          refine zr_callS hf_N2_.x (pc := 35) [.int (Int32.ofInt (ze Mz 91 (u1_ - 1).toNat))] [] l_M_253 (c_M_ones l N2_ (hf_N2_.w hW) (ze Mz 91 (u1_ - 1).toNat) (by (exact zo_168 hb_x.1)) (by (exact zo_2344 ha_x hv16_ hv16_b)) (show 0 ≤ (ze Mz 91 (u1_ - 1).toNat) by first | with_reducible assumption | (exact zo_57 hb_x.1) | assumption)) rfl rfl (by decide) (Nat.le_of_ble_eq_true rfl) (zdal_p dlC_M_comesSort_37 (i := 21) rfl) ?_
          rintro _ N17_ ⟨v18_, rfl, ⟨hv18_a, hv18_b⟩, hsN17_, ⟨hp0_N17_, hp1_N17_, hp2_N17_⟩⟩
          obtain rfl := hsN17_.eq.symm
          show zW l m_M_comesSort (zn Mz + 0, zw Mz + 0) N2_ 38 [some (.ref 81), some (.int (Int32.ofInt a0_)), some (.int (Int32.ofInt u1_))] [.int (Int32.ofInt v18_)] _
          refine zw_iload_n (pc := 38) (n := 1) (x := Int32.ofInt a0_) rfl (zdal_p dlC_M_comesSort_37 (i := 22) rfl) ?_
          refine zr_callS hf_N2_.x (pc := 39) [.int (Int32.ofInt a0_)] [.int (Int32.ofInt v18_)] l_M_253 (c_M_ones l N2_ (hf_N2_.w hW) a0_ ha0_a ha0_b (show 0 ≤ a0_ by first | with_reducible assumption | assumption | omega)) rfl rfl (by decide) (Nat.le_of_ble_eq_true rfl) (zdal_p dlC_M_comesSort_37 (i := 23) rfl) ?_
          rintro _ N19_ ⟨v20_, rfl, ⟨hv20_a, hv20_b⟩, hsN19_, ⟨hp0_N19_, hp1_N19_, hp2_N19_⟩⟩
          obtain rfl := hsN19_.eq.symm
          show zW l m_M_comesSort (zn Mz + 0, zw Mz + 0) N2_ 42 [some (.ref 81), some (.int (Int32.ofInt a0_)), some (.int (Int32.ofInt u1_))] [.int (Int32.ofInt v20_), .int (Int32.ofInt v18_)] _
          refine zr_icmp_ne (pc := 42) (tgt := 77) ⟨hv18_a, hv18_b⟩ ⟨hv20_a, hv20_b⟩ (by decide) (zdal_p dlC_M_comesSort_38 (i := 0) rfl) (fun hc_42 => ?_) (fun hc_42 => ?_)
          · skip
            have hl : u1_ = 0 ∨ zky (ze Mz 91 (u1_ - 1).toNat) < zky a0_ := by first | exact Or.inl (by omega) | exact Or.inr (zky_lt (oa := zcb (ze Mz 91 (u1_ - 1).toNat) 31) (ob := zcb a0_ 31) hb_x ⟨p2_, p3_⟩ rfl rfl (by omega))
            refine zw_aload_n (pc := 77) (n := 0) (x := 81) rfl (zdal_p dlC_M_comesSort_38 (i := 21) rfl) ?_
            refine zr_getF (r := 91) (hf_N2_.w hW) (pc := 78) f_M_44 rfl (zh_91 (hf_N2_.w hW)).1 (zdal_p dlC_M_comesSort_38 (i := 22) rfl) ?_
            refine zw_iload_n (pc := 81) (n := 2) (x := Int32.ofInt u1_) rfl (zdal_p dlC_M_comesSort_38 (i := 23) rfl) ?_
            refine zw_iload_n (pc := 82) (n := 1) (x := Int32.ofInt a0_) rfl (zdal_p dlC_M_comesSort_39 (i := 0) rfl) ?_
            refine zr_iast (pc := 83) (zh_91 (hf_N2_.w hW)).2 (by decide) (by decide) (by (exact i4_)) (by (exact zo_2345 hu1_b i5_ p1_)) (zdal_p dlC_M_comesSort_39 (i := 1) rfl) (fun N21_ hN21_ hsN21_ => ?_)
            have hf_N21_ : zFr [26] [91] Mz N21_ := hf_N2_.tr hsN21_ (by decide) (by decide)
            have e26_N21_ : ze N21_ 81 26 = ze N2_ 81 26 := hsN21_.e (by decide)
            refine zw_aload_n (pc := 84) (n := 0) (x := 81) rfl (zdal_p dlC_M_comesSort_39 (i := 2) rfl) ?_
            refine zw_dup (pc := 85) rfl (zdal_p dlC_M_comesSort_39 (i := 3) rfl) ?_
            refine zr_getI (hf_N21_.w hW) (pc := 86) f_M_235 rfl (zdal_p dlC_M_comesSort_39 (i := 4) rfl) ?_
            refine zw_iconst (pc := 89) (v := Int32.ofInt 1) (by decide) (zdal_p dlC_M_comesSort_39 (i := 5) rfl) ?_
            refine zr_iadd (pc := 90) (zdal_p dlC_M_comesSort_39 (i := 6) rfl) ?_
            refine zr_putI (hf_N21_.w hW) (pc := 91) f_M_235 rfl rfl ⟨by (exact zo_722 e26_N21_ e26_N2_ p0_), by omega⟩ rfl rfl (zdal_p dlC_M_comesSort_39 (i := 7) rfl) (fun N22_ hsN22_ hvN22_ => ?_)
            have hf_N22_ : zFr [26] [91] Mz N22_ := hf_N21_.tr hsN22_ (by decide) (by decide)
            have r26_N22_ := ze_r N22_ 81 26
            have hE := zMv_e p4_ (show zMv Mz N2_ (ze Mz 81 26) u1_ a0_ by first | with_reducible assumption | assumption) ⟨p2_, p3_⟩ hl hN21_
            have hS2 := zSo_f hsN22_ (by decide) hE.1
            have hE2 := hE.2
            rw [show ze Mz 81 26 + 1 = ze N22_ 81 26 by omega] at hS2 hE2
            exact zr_vret (pc := 94) rfl hf_N22_ ⟨(show ze N22_ 81 26 = ze Mz 81 26 + 1 by first | with_reducible assumption | assumption | omega), (show zSo N22_ (ze N22_ 81 26) by first | with_reducible assumption | assumption), (show ∀ y : Int, (∃ j : Nat, (j : Int) < ze N22_ 81 26 ∧ ze N22_ 91 j = y) ↔ (y = a0_ ∨ ∃ j : Nat, (j : Int) < ze Mz 81 26 ∧ ze Mz 91 j = y) by intro y; rw [zmem_f hsN22_ (by decide)]; exact hE2 y)⟩ (zdal_p dlC_M_comesSort_39 (i := 8) rfl)
          · skip
            refine zw_aload_n (pc := 45) (n := 0) (x := 81) rfl (zdal_p dlC_M_comesSort_38 (i := 1) rfl) ?_
            refine zr_getF (r := 91) (hf_N2_.w hW) (pc := 46) f_M_44 rfl (zh_91 (hf_N2_.w hW)).1 (zdal_p dlC_M_comesSort_38 (i := 2) rfl) ?_
            refine zw_iload_n (pc := 49) (n := 2) (x := Int32.ofInt u1_) rfl (zdal_p dlC_M_comesSort_38 (i := 3) rfl) ?_
            refine zw_iconst (pc := 50) (v := Int32.ofInt 1) (by decide) (zdal_p dlC_M_comesSort_38 (i := 4) rfl) ?_
            refine zr_isub (pc := 51) (zdal_p dlC_M_comesSort_38 (i := 5) rfl) ?_
            refine zr_ialdn (pc := 52) (zh_91 (hf_N2_.w hW)).2 (by decide) (by (exact zo_1265 hc_6)) (by (exact zo_2341 hu1_b i5_ p1_)) (zdal_p dlC_M_comesSort_38 (i := 6) rfl) (fun v23_ hv23_ hv23_a hv23_b => ?_)
            refine zr_toI (show v23_ = ze Mz 91 (u1_ - 1).toNat by (exact zo_2343 ha_x hb_x.1 hv23_ hv23_b)) ?_
            refine zw_iload_n (pc := 53) (n := 1) (x := Int32.ofInt a0_) rfl (zdal_p dlC_M_comesSort_38 (i := 7) rfl) ?_
            refine zr_icmp_le (pc := 54) (tgt := 77) ⟨(by (exact zo_168 hb_x.1)), (by (exact zo_2344 ha_x hv9_ hv9_b))⟩ ⟨ha0_a, ha0_b⟩ (by decide) (zdal_p dlC_M_comesSort_38 (i := 8) rfl) (fun hc_54 => ?_) (fun hc_54 => ?_)
            · skip
              have hl : u1_ = 0 ∨ zky (ze Mz 91 (u1_ - 1).toNat) < zky a0_ := by first | exact Or.inl (by omega) | exact Or.inr (zky_lt (oa := zcb (ze Mz 91 (u1_ - 1).toNat) 31) (ob := zcb a0_ 31) hb_x ⟨p2_, p3_⟩ rfl rfl (by omega))
              refine zw_aload_n (pc := 77) (n := 0) (x := 81) rfl (zdal_p dlC_M_comesSort_38 (i := 21) rfl) ?_
              refine zr_getF (r := 91) (hf_N2_.w hW) (pc := 78) f_M_44 rfl (zh_91 (hf_N2_.w hW)).1 (zdal_p dlC_M_comesSort_38 (i := 22) rfl) ?_
              refine zw_iload_n (pc := 81) (n := 2) (x := Int32.ofInt u1_) rfl (zdal_p dlC_M_comesSort_38 (i := 23) rfl) ?_
              refine zw_iload_n (pc := 82) (n := 1) (x := Int32.ofInt a0_) rfl (zdal_p dlC_M_comesSort_39 (i := 0) rfl) ?_
              refine zr_iast (pc := 83) (zh_91 (hf_N2_.w hW)).2 (by decide) (by decide) (by (exact i4_)) (by (exact zo_2345 hu1_b i5_ p1_)) (zdal_p dlC_M_comesSort_39 (i := 1) rfl) (fun N24_ hN24_ hsN24_ => ?_)
              have hf_N24_ : zFr [26] [91] Mz N24_ := hf_N2_.tr hsN24_ (by decide) (by decide)
              have e26_N24_ : ze N24_ 81 26 = ze N2_ 81 26 := hsN24_.e (by decide)
              refine zw_aload_n (pc := 84) (n := 0) (x := 81) rfl (zdal_p dlC_M_comesSort_39 (i := 2) rfl) ?_
              refine zw_dup (pc := 85) rfl (zdal_p dlC_M_comesSort_39 (i := 3) rfl) ?_
              refine zr_getI (hf_N24_.w hW) (pc := 86) f_M_235 rfl (zdal_p dlC_M_comesSort_39 (i := 4) rfl) ?_
              refine zw_iconst (pc := 89) (v := Int32.ofInt 1) (by decide) (zdal_p dlC_M_comesSort_39 (i := 5) rfl) ?_
              refine zr_iadd (pc := 90) (zdal_p dlC_M_comesSort_39 (i := 6) rfl) ?_
              refine zr_putI (hf_N24_.w hW) (pc := 91) f_M_235 rfl rfl ⟨by (exact zo_722 e26_N24_ e26_N2_ p0_), by omega⟩ rfl rfl (zdal_p dlC_M_comesSort_39 (i := 7) rfl) (fun N25_ hsN25_ hvN25_ => ?_)
              have hf_N25_ : zFr [26] [91] Mz N25_ := hf_N24_.tr hsN25_ (by decide) (by decide)
              have r26_N25_ := ze_r N25_ 81 26
              have hE := zMv_e p4_ (show zMv Mz N2_ (ze Mz 81 26) u1_ a0_ by first | with_reducible assumption | assumption) ⟨p2_, p3_⟩ hl hN24_
              have hS2 := zSo_f hsN25_ (by decide) hE.1
              have hE2 := hE.2
              rw [show ze Mz 81 26 + 1 = ze N25_ 81 26 by omega] at hS2 hE2
              exact zr_vret (pc := 94) rfl hf_N25_ ⟨(show ze N25_ 81 26 = ze Mz 81 26 + 1 by first | with_reducible assumption | assumption | omega), (show zSo N25_ (ze N25_ 81 26) by first | with_reducible assumption | assumption), (show ∀ y : Int, (∃ j : Nat, (j : Int) < ze N25_ 81 26 ∧ ze N25_ 91 j = y) ↔ (y = a0_ ∨ ∃ j : Nat, (j : Int) < ze Mz 81 26 ∧ ze Mz 91 j = y) by intro y; rw [zmem_f hsN25_ (by decide)]; exact hE2 y)⟩ (zdal_p dlC_M_comesSort_39 (i := 8) rfl)
            · skip
              refine zw_aload_n (pc := 57) (n := 0) (x := 81) rfl (zdal_p dlC_M_comesSort_38 (i := 9) rfl) ?_
              refine zr_getF (r := 91) (hf_N2_.w hW) (pc := 58) f_M_44 rfl (zh_91 (hf_N2_.w hW)).1 (zdal_p dlC_M_comesSort_38 (i := 10) rfl) ?_
              refine zw_iload_n (pc := 61) (n := 2) (x := Int32.ofInt u1_) rfl (zdal_p dlC_M_comesSort_38 (i := 11) rfl) ?_
              refine zw_aload_n (pc := 62) (n := 0) (x := 81) rfl (zdal_p dlC_M_comesSort_38 (i := 12) rfl) ?_
              refine zr_getF (r := 91) (hf_N2_.w hW) (pc := 63) f_M_44 rfl (zh_91 (hf_N2_.w hW)).1 (zdal_p dlC_M_comesSort_38 (i := 13) rfl) ?_
              refine zw_iload_n (pc := 66) (n := 2) (x := Int32.ofInt u1_) rfl (zdal_p dlC_M_comesSort_38 (i := 14) rfl) ?_
              refine zw_iconst (pc := 67) (v := Int32.ofInt 1) (by decide) (zdal_p dlC_M_comesSort_38 (i := 15) rfl) ?_
              refine zr_isub (pc := 68) (zdal_p dlC_M_comesSort_38 (i := 16) rfl) ?_
              refine zr_ialdn (pc := 69) (zh_91 (hf_N2_.w hW)).2 (by decide) (by (exact zo_1265 hc_6)) (by (exact zo_2341 hu1_b i5_ p1_)) (zdal_p dlC_M_comesSort_38 (i := 17) rfl) (fun v26_ hv26_ hv26_a hv26_b => ?_)
              refine zr_toI (show v26_ = ze Mz 91 (u1_ - 1).toNat by (exact zo_2343 ha_x hb_x.1 hv26_ hv26_b)) ?_
              refine zr_iast (pc := 70) (zh_91 (hf_N2_.w hW)).2 (by decide) (by decide) (by (exact i4_)) (by (exact zo_2345 hu1_b i5_ p1_)) (zdal_p dlC_M_comesSort_38 (i := 18) rfl) (fun N27_ hN27_ hsN27_ => ?_)
              have hf_N27_ : zFr [26] [91] Mz N27_ := hf_N2_.tr hsN27_ (by decide) (by decide)
              have hb0_N27_ : zFr [] [91] Mz N27_ := hs3_.tr hsN27_ (by decide) (by decide)
              have e26_N27_ : ze N27_ 81 26 = ze N2_ 81 26 := hsN27_.e (by decide)
              refine zr_iinc (pc := 71) (i := 2) (a := u1_) (n := -1) (L2 := [some (.ref 81), some (.int (Int32.ofInt a0_)), some (.int (Int32.ofInt (u1_ + (-1))))]) rfl (by decide) rfl (zdal_p dlC_M_comesSort_38 (i := 19) rfl) ?_
              refine zw_goto (pc := 74) (tgt := 5) (by decide) (zdal_p dlC_M_comesSort_38 (i := 20) rfl) ?_
              have hz : zMv Mz N27_ (ze Mz 81 26) (u1_ + (-1)) a0_ := zMv_s (show zMv Mz N2_ (ze Mz 81 26) _ a0_ by first | with_reducible assumption | assumption) (by omega) (by (exact zo_1 hc_6)) rfl ⟨by (exact zo_168 hb_x.1), by (exact zo_2344 ha_x hv9_ hv9_b)⟩ hN27_ (zky_lt (oa := zcb a0_ 31) ⟨p2_, p3_⟩ hb_x rfl rfl (by omega))
              exact ih_5 (u1_ + (-1)) (by (exact zo_992 hc_6)) (by (exact zo_893 hu1_b)) N27_ hb0_N27_ (show 0 ≤ (u1_ + (-1)) by first | with_reducible assumption | (exact zo_1402 hc_6) | assumption) (show (u1_ + (-1)) ≤ ze Mz 81 26 by first | with_reducible assumption | (exact zo_993 i5_) | assumption) (show zMv Mz N27_ (ze Mz 81 26) (u1_ + (-1)) a0_ by first | with_reducible assumption | assumption | omega) (by (exact zo_995 hc_6 hlt_5 hu1_b))
  exact lp_5 _ (ze Mz 81 26) (ze_r Mz 81 26).1 (ze_r Mz 81 26).2 Mz zFr.rf (show 0 ≤ (ze Mz 81 26) by first | with_reducible assumption | assumption | omega) (show (ze Mz 81 26) ≤ ze Mz 81 26 by first | with_reducible assumption | (exact zo_628) | assumption) (show zMv Mz Mz (ze Mz 81 26) (ze Mz 81 26) a0_ by first | with_reducible assumption | assumption | omega) (Nat.lt_succ_self _)
def gdg (c p : Nat) : Nat := (c >>> (3 * (5 - p))) % 8
def gco (a b : Nat) : Nat := gdg b (gdg a 0) * 32768 + gdg b (gdg a 1) * 4096 + gdg b (gdg a 2) * 512 + gdg b (gdg a 3) * 64 + gdg b (gdg a 4) * 8 + gdg b (gdg a 5)
def gid : Nat := 5349
def gpm (c : Nat) : Prop := c < 262144 ∧ (∀ p, p < 6 → gdg c p < 6) ∧ ∀ p q, p < 6 → q < 6 → gdg c p = gdg c q → p = q
def zrd (M : zMem) (q m : Nat) (P : Int) (p : Nat) : Nat := if (p : Int) < P then (ze M q (6 * m + p)).toNat else p
def zrc (M : zMem) (q m : Nat) (P : Int) : Nat := zrd M q m P 0 * 32768 + zrd M q m P 1 * 4096 + zrd M q m P 2 * 512 + zrd M q m P 3 * 64 + zrd M q m P 4 * 8 + zrd M q m P 5
def zMvs (M : zMem) : List Nat := (List.range (ze M 81 13).toNat).map (fun k => zrc M 83 k (ze M 81 12))
def zPm (M : zMem) : Prop := ∀ g ∈ zMvs M, gpm g
def zFin (M : zMem) : Prop := ∃ C : List Nat, C.length ≤ 24 ∧ gid ∈ C ∧ ∀ c ∈ C, ∀ g ∈ zMvs M, gco c g ∈ C
theorem zrc_f {M N : zMem} {q : Nat} (h : ∀ k, ze N q k = ze M q k) (m : Nat) (P : Int) : zrc N q m P = zrc M q m P := by
  unfold zrc zrd
  simp only [h]
theorem zMvs_f {S C : List Nat} {M N : zMem} (h : zFr S C M N) (hs : 12 ∉ S ∧ 13 ∉ S) (hc : 83 ∉ C) : zMvs N = zMvs M := by
  unfold zMvs
  rw [h.e hs.1, h.e hs.2]
  apply List.map_congr_left
  intro k _
  exact zrc_f (fun j => h.ie (by decide) hc j) k _
theorem zPm.fr {S C : List Nat} {M N : zMem} (h : zFr S C M N) (hp : zPm M) (hs : 12 ∉ S ∧ 13 ∉ S) (hc : 83 ∉ C) : zPm N := by
  unfold zPm
  rw [zMvs_f h hs hc]
  exact hp
theorem zFin.fr {S C : List Nat} {M N : zMem} (h : zFr S C M N) (hp : zFin M) (hs : 12 ∉ S ∧ 13 ∉ S) (hc : 83 ∉ C) : zFin N := by
  unfold zFin
  rw [zMvs_f h hs hc]
  exact hp
def gcb (S : Nat) : Nat := gup (fun k r => r + (S >>> k) % 2) 0 31
def gky (S : Nat) : Nat := gcb S * 16777216 + S
def gOK (T : zGT) : Prop := gGd T ∧ ((gS T).length ≤ 64 ∧ 1 ∈ gS T ∧ ∀ S ∈ gS T, gSub T S ∧ ∀ g, g < gN T → ∃ R ∈ gS T, gLC T (S ||| 2 ^ g) R) ∧ ((∀ S ∈ gS T, glt T S ∈ gF T) ∧ (∀ S ∈ gF T, S ∈ gS T ∧ glt T S = S) ∧ ∀ i j, i < j → j < (gF T).length → gky ((gF T).getD i 0) < gky ((gF T).getD j 0)) ∧ ∀ i, i < (gF T).length → 1 ≤ gmk T ((gF T).getD i 0) ((gF T).getD i 0)
theorem gOK.mem {T : zGT} (h : gOK T) {X R : Nat} (hR : gLC T X R) : R ∈ gS T := by
  refine gcomp h.2.1.2.1 (fun S hS g hg _ => ?_) hR.1 hR.2.2.1
  obtain ⟨Q, hQ, hL⟩ := (h.2.1.2.2 S hS).2 g hg
  exact ⟨Q, hQ, hL⟩
theorem gOK.clm {T : zGT} (h : gOK T) {R : Nat} (h1 : R < 2 ^ gN T) (h2 : gCl T R) : R ∈ gS T := h.mem (X := R) ⟨h1, gSb.rf R, h2, fun _ _ hs => hs⟩
theorem gOK.sb {T : zGT} (h : gOK T) {S : Nat} (hS : S ∈ gS T) : S < 16777216 := by
  have h1 := (h.2.1.2.2 S hS).1.2.1
  have h2 : (2 : Nat) ^ gN T ≤ 2 ^ 24 := Nat.pow_le_pow_right (by omega) h.1.2.1
  have h3 : (2 : Nat) ^ 24 = 16777216 := rfl
  omega
def zJ (T : zGT) (M : zMem) (m : Int) : Prop := 1 ≤ m ∧ ze M 89 0 = 1 ∧ (∀ k : Nat, (k : Int) < m → 0 ≤ ze M 89 k ∧ (ze M 89 k).toNat ∈ gS T) ∧ ∀ i j : Nat, i < j → (j : Int) < m → ze M 89 i ≠ ze M 89 j
def zX (T : zGT) (M : zMem) (m k g : Int) : Prop := ∀ k' g' : Nat, g' < gN T → ((k' : Int) < k ∨ ((k' : Int) = k ∧ (g' : Int) < g)) → (k' : Int) < m → ¬ (ze M 89 k').toNat.testBit g' = true → ∃ j : Nat, (j : Int) < m ∧ gLC T ((ze M 89 k').toNat ||| 2 ^ g') (ze M 89 j).toNat
theorem zJ.e {T : zGT} {M N : zMem} {m : Int} (h : ∀ k, ze N 89 k = ze M 89 k) (hJ : zJ T M m) : zJ T N m := by
  unfold zJ
  simp only [h]
  exact hJ
theorem zX.e {T : zGT} {M N : zMem} {m k g : Int} (h : ∀ k, ze N 89 k = ze M 89 k) (hX : zX T M m k g) : zX T N m k g := by
  unfold zX
  simp only [h]
  exact hX
theorem zJ_0 {T : zGT} (hO : gOK T) {N : zMem} (h : ze N 89 0 = 1) : zJ T N 1 := ⟨Int.le_refl _, h, fun k hk => by
  rw [show k = 0 by omega, h]
  exact ⟨by omega, hO.2.1.2.1⟩, fun i j h1 h2 => by omega⟩
theorem zX_0 {T : zGT} {M : zMem} {m : Int} : zX T M m 0 0 := fun k' g' _ h => absurd h (by omega)
theorem zX_1 {T : zGT} (hO : gOK T) {M : zMem} {m k : Int} (hJ : zJ T M m) (h : zX T M m k 0) : zX T M m k 1 := by
  intro k' g' h1 h2 h3 h4
  by_cases e : g' = 0
  · subst e
    exact absurd ((hO.2.1.2.2 _ (hJ.2.2.1 k' h3).2).1.2.2.1) h4
  · exact h k' g' h1 (by omega) h3 h4
theorem zX_n {T : zGT} {M : zMem} {m k g : Int} (h : zX T M m k g) (hg : (gN T : Int) ≤ g) : zX T M m (k + 1) 0 := by
  intro k' g' h1 h2 h3 h4
  exact h k' g' h1 (by omega) h3 h4
theorem zX_b {T : zGT} {M : zMem} {m k g v : Int} (hk : 0 ≤ k) (hg : 0 ≤ g) (h : zX T M m k g) (hv : v = ze M 89 k.toNat) (hb : zbt v g) : zX T M m k (g + 1) := by
  intro k' g' h1 h2 h3 h4
  by_cases e : (k' : Int) = k ∧ (g' : Int) = g
  · obtain ⟨e1, e2⟩ := e
    unfold zbt at hb
    rw [hv, ← e1, ← e2] at hb
    exact absurd hb h4
  · exact h k' g' h1 (by omega) h3 h4
theorem zX_f {T : zGT} {M : zMem} {m k g v r : Int} (hk : 0 ≤ k) (hg : 0 ≤ g) (h : zX T M m k g) (hv : v = ze M 89 k.toNat) (hr : gLC T (v.toNat ||| 2 ^ g.toNat) r.toNat) {j : Nat} (hjr : ze M 89 j = r) (hj : (j : Int) < m) : zX T M m k (g + 1) := by
  intro k' g' h1 h2 h3 h4
  by_cases e : (k' : Int) = k ∧ (g' : Int) = g
  · obtain ⟨e1, e2⟩ := e
    refine ⟨j, hj, ?_⟩
    rw [hjr, show g' = g.toNat by omega]
    rw [hv, ← e1] at hr
    exact hr
  · exact h k' g' h1 (by omega) h3 h4
theorem zJ_a {T : zGT} (hO : gOK T) {M N : zMem} {m k g v r : Int} (hk : 0 ≤ k) (hkm : k < m) (hg : 0 ≤ g) (hJ : zJ T M m) (h : zX T M m k g) (hv : v = ze M 89 k.toNat) (hr0 : 0 ≤ r) (hr : gLC T (v.toNat ||| 2 ^ g.toNat) r.toNat) (hn : ∀ j : Nat, (j : Int) < m → ze M 89 j ≠ r) (hN : N = zsI M 89 m.toNat (Int32.ofInt r)) : zJ T N (m + 1) ∧ zX T N (m + 1) k (g + 1) := by
  have hm := hJ.1
  have hR := hO.mem hr
  have hRb := hO.sb hR
  have hrr : zn32 r := ⟨by omega, by omega⟩
  have e1 : ∀ j : Nat, (j : Int) < m → ze N 89 j = ze M 89 j := fun j hj => zs_oth hN (by omega)
  have e2 : ze N 89 m.toNat = r := zs_get hN hrr
  refine ⟨⟨by omega, by rw [e1 0 (by omega)]; exact hJ.2.1, fun j hj => ?_, fun i j h1 h2 => ?_⟩, fun k' g' h1 h2 h3 h4 => ?_⟩
  · by_cases e : (j : Int) = m
    · rw [show j = m.toNat by omega, e2]; exact ⟨hr0, hR⟩
    · rw [e1 j (by omega)]; exact hJ.2.2.1 j (by omega)
  · rw [e1 i (by omega)]
    by_cases e : (j : Int) = m
    · rw [show j = m.toNat by omega, e2]; exact hn i (by omega)
    · rw [e1 j (by omega)]; exact hJ.2.2.2 i j h1 (by omega)
  · have hk' : (k' : Int) < m := by omega
    rw [e1 k' hk'] at h4 ⊢
    by_cases e : (k' : Int) = k ∧ (g' : Int) = g
    · obtain ⟨d1, d2⟩ := e
      refine ⟨m.toNat, by omega, ?_⟩
      rw [e2, show g' = g.toNat by omega]
      rw [hv, ← d1] at hr
      exact hr
    · obtain ⟨j, hj, hL⟩ := h k' g' h1 (by omega) hk' h4
      exact ⟨j, by omega, by rw [e1 j hj]; exact hL⟩
theorem nodup_len : ∀ (l1 l2 : List Nat), l1.Nodup → (∀ x ∈ l1, x ∈ l2) → l1.length ≤ l2.length
  | [], _, _, _ => Nat.zero_le _
  | x :: l, l2, hn, hs => by
    have h1 := List.nodup_cons.mp hn
    have h2 := nodup_len l (l2.erase x) h1.2 (fun y hy => (List.mem_erase_of_ne (fun e : y = x => h1.1 (by rw [← e]; exact hy))).mpr (hs y (List.mem_cons_of_mem _ hy)))
    have hx := hs x List.mem_cons_self
    rw [List.length_erase_of_mem hx] at h2
    have := List.length_pos_of_mem hx
    simp only [List.length_cons]
    omega
theorem zJ_le {T : zGT} (hO : gOK T) {M : zMem} {m : Int} (hJ : zJ T M m) : m ≤ 64 := by
  have h := nodup_len ((List.range m.toNat).map (fun k => (ze M 89 k).toNat)) (gS T) (by
    rw [List.Nodup, List.pairwise_map]
    refine List.Pairwise.imp_of_mem ?_ (List.pairwise_lt_range (n := m.toNat))
    intro i j hi hj hij e
    rw [List.mem_range] at hi hj
    have a1 := hJ.2.2.1 i (by omega)
    have a2 := hJ.2.2.1 j (by omega)
    exact hJ.2.2.2 i j hij (by omega) (by omega)) (by
    intro x hx
    obtain ⟨k, hk, rfl⟩ := List.mem_map.mp hx
    rw [List.mem_range] at hk
    exact (hJ.2.2.1 k (by omega)).2)
  rw [List.length_map, List.length_range] at h
  have := hO.2.1.1
  omega
theorem zJ_all {T : zGT} {M : zMem} {m : Int} (hJ : zJ T M m) (hX : zX T M m m 0) {S : Nat} (h1 : S < 2 ^ gN T) (h2 : gCl T S) : ∃ k : Nat, (k : Int) < m ∧ ze M 89 k = (S : Int) := by
  have h := gcomp (T := T) (J := (List.range m.toNat).map (fun k => (ze M 89 k).toNat)) (by
    refine List.mem_map.mpr ⟨0, ?_, ?_⟩
    · rw [List.mem_range]; have := hJ.1; omega
    · rw [hJ.2.1]; rfl) (by
    intro Q hQ g hg hb
    obtain ⟨k, hk, rfl⟩ := List.mem_map.mp hQ
    rw [List.mem_range] at hk
    obtain ⟨j, hj, hL⟩ := hX k g hg (Or.inl (by omega)) (by omega) hb
    exact ⟨_, List.mem_map.mpr ⟨j, by rw [List.mem_range]; omega, rfl⟩, hL⟩) h1 h2
  obtain ⟨k, hk, e⟩ := List.mem_map.mp h
  rw [List.mem_range] at hk
  have := (hJ.2.2.1 k (by omega)).1
  exact ⟨k, by omega, by omega⟩
theorem zcb_n {m : Nat} (hm : m < 2147483648) : ∀ k, k ≤ 31 → zcb (m : Int) k = ((gup (fun k r => r + (m >>> k) % 2) 0 k : Nat) : Int)
  | 0, _ => rfl
  | k + 1, h => by
    have ih := zcb_n hm k (by omega)
    show zcb (m : Int) k + zand (zshr m k) 1 = ((gup _ 0 k + (m >>> k) % 2 : Nat) : Int)
    have e1 := zshr_n m k hm (by omega)
    have e2 := zand_n (m >>> k) 1 (Nat.lt_of_le_of_lt (Nat.shiftRight_le m k) hm) (by omega)
    have e3 : ((1 : Nat) : Int) = 1 := rfl
    rw [e3] at e2
    rw [ih, e1, e2, Nat.and_one_is_mod]
    rfl
theorem zky_n {m : Nat} (hm : m < 16777216) : zky (m : Int) = ((gky m : Nat) : Int) := by
  unfold zky gky gcb
  rw [zcb_n (by omega) 31 (Nat.le_refl _)]
  omega
theorem zsort_u {a b : Nat → Int} {n n' : Nat} (ha : ∀ i j, i < j → j < n → zky (a i) < zky (a j)) (hb : ∀ i j, i < j → j < n' → zky (b i) < zky (b j)) (h : ∀ y : Int, (∃ i, i < n ∧ a i = y) ↔ (∃ i, i < n' ∧ b i = y)) : ∀ i, i < n → i < n' ∧ a i = b i := by
  intro i
  induction i using Nat.strongRecOn with
  | ind i ih =>
    intro hi
    obtain ⟨p, hp, ep⟩ := (h (a i)).mp ⟨i, hi, rfl⟩
    have hpi : i ≤ p := by
      rcases Nat.lt_or_ge p i with g | g
      · have := (ih p g (by omega)).2
        have h2 := ha p i g hi
        rw [this, ep] at h2
        omega
      · exact g
    obtain ⟨q, hq, eq⟩ := (h (b i)).mpr ⟨i, by omega, rfl⟩
    have hqi : i ≤ q := by
      rcases Nat.lt_or_ge q i with g | g
      · have := (ih q g (by omega)).2
        have h2 := hb q i g (by omega)
        rw [← this, eq] at h2
        omega
      · exact g
    refine ⟨by omega, ?_⟩
    by_cases e1 : i = p
    · rw [e1] at ep ⊢
      exact ep.symm
    · by_cases e2 : i = q
      · rw [e2] at eq ⊢
        exact eq
      · have h1 := hb i p (by omega) hp
        have h2 := ha i q (by omega) hq
        rw [ep] at h1
        rw [eq] at h2
        omega
def zFl (T : zGT) (M : zMem) (k : Int) : Prop := (0 ≤ ze M 81 26 ∧ ze M 81 26 ≤ k) ∧ zSo M (ze M 81 26) ∧ ∀ y : Int, (∃ j : Nat, (j : Int) < ze M 81 26 ∧ ze M 91 j = y) ↔ ∃ k' : Nat, (k' : Int) < k ∧ ze M 89 k' = y ∧ ((glt T y.toNat : Nat) : Int) = y
theorem zFl_0 {T : zGT} {M : zMem} (h : ze M 81 26 = 0) : zFl T M 0 := by
  unfold zFl
  rw [h]
  refine ⟨⟨Int.le_refl _, Int.le_refl _⟩, ⟨fun i j _ h2 => by omega, fun i h2 => by omega⟩, fun y => ⟨?_, ?_⟩⟩
  · rintro ⟨j, h2, -⟩; omega
  · rintro ⟨j, h2, -⟩; omega
theorem zFl_n {T : zGT} {M : zMem} {k v t : Int} (hk : 0 ≤ k) (h : zFl T M k) (hv : v = ze M 89 k.toNat) (ht : t = ((glt T v.toNat : Nat) : Int)) (hn : t ≠ v) : zFl T M (k + 1) := by
  obtain ⟨h1, h2, h3⟩ := h
  refine ⟨⟨h1.1, by omega⟩, h2, fun y => (h3 y).trans ⟨?_, ?_⟩⟩
  · rintro ⟨k', a1, a2, a3⟩
    exact ⟨k', by omega, a2, a3⟩
  · rintro ⟨k', a1, a2, a3⟩
    refine ⟨k', ?_, a2, a3⟩
    by_cases e : (k' : Int) = k
    · rw [show k' = k.toNat by omega, ← hv] at a2
      subst a2
      omega
    · omega
theorem zFl_ne {T : zGT} {M : zMem} {m k v : Int} (hJ : zJ T M m) (hk : 0 ≤ k) (hkm : k < m) (h : zFl T M k) (hv : v = ze M 89 k.toNat) : ∀ i : Nat, (i : Int) < ze M 81 26 → ze M 91 i ≠ v := by
  intro i hi e
  obtain ⟨k', a1, a2, -⟩ := (h.2.2 v).mp ⟨i, hi, e⟩
  exact hJ.2.2.2 k' k.toNat (by omega) (by omega) (by rw [a2, hv])
theorem zFl_a {T : zGT} {M N : zMem} {k v t : Int} (hk : 0 ≤ k) (h : zFl T M k) (hv : v = ze M 89 k.toNat) (ht : t = ((glt T v.toNat : Nat) : Int)) (hn : t = v) (hs : ∀ j, ze N 89 j = ze M 89 j) (g1 : ze N 81 26 = ze M 81 26 + 1) (g2 : zSo N (ze N 81 26)) (g3 : ∀ y : Int, (∃ j : Nat, (j : Int) < ze N 81 26 ∧ ze N 91 j = y) ↔ (y = v ∨ ∃ j : Nat, (j : Int) < ze M 81 26 ∧ ze M 91 j = y)) : zFl T N (k + 1) := by
  obtain ⟨h1, h2, h3⟩ := h
  refine ⟨⟨by omega, by omega⟩, g2, fun y => (g3 y).trans ⟨?_, ?_⟩⟩
  · rintro (rfl | hy)
    · exact ⟨k.toNat, by omega, by rw [hs, hv], by rw [← ht]; exact hn⟩
    · obtain ⟨k', a1, a2, a3⟩ := (h3 y).mp hy
      exact ⟨k', by omega, by rw [hs]; exact a2, a3⟩
  · rintro ⟨k', a1, a2, a3⟩
    rw [hs] at a2
    by_cases e : (k' : Int) = k
    · rw [show k' = k.toNat by omega, ← hv] at a2
      exact Or.inl a2.symm
    · exact Or.inr ((h3 y).mpr ⟨k', by omega, a2, a3⟩)
def zFirs (T : zGT) (M : zMem) : Prop := ze M 81 26 = ((gF T).length : Int) ∧ ∀ i, i < (gF T).length → ze M 91 i = (((gF T).getD i 0 : Nat) : Int)
theorem gF_m {T : zGT} {i : Nat} (h : i < (gF T).length) : (gF T).getD i 0 ∈ gF T := by
  rw [List.getD_eq_getElem?_getD, List.getElem?_eq_getElem h]
  exact List.getElem_mem h
theorem zFl_e {T : zGT} (hO : gOK T) {M : zMem} {m : Int} (hJ : zJ T M m) (hX : zX T M m m 0) (h : zFl T M m) : zFirs T M := by
  obtain ⟨h1, h2, h3⟩ := h
  have hb : ∀ i, i < (gF T).length → (gF T).getD i 0 < 16777216 := fun i hi => hO.sb (hO.2.2.1.2.1 _ (gF_m hi)).1
  have hset : ∀ y : Int, (∃ i, i < (ze M 81 26).toNat ∧ ze M 91 i = y) ↔ (∃ i, i < (gF T).length ∧ (((gF T).getD i 0 : Nat) : Int) = y) := by
    intro y
    constructor
    · rintro ⟨i, hi, e⟩
      obtain ⟨k', a1, a2, a3⟩ := (h3 y).mp ⟨i, by omega, e⟩
      obtain ⟨c1, c2⟩ := hJ.2.2.1 k' a1
      rw [a2] at c1 c2
      have hm := hO.2.2.1.1 _ c2
      obtain ⟨j, hj, ej⟩ := List.mem_iff_getElem.mp hm
      refine ⟨j, hj, ?_⟩
      rw [List.getD_eq_getElem?_getD, List.getElem?_eq_getElem hj]
      show (((gF T)[j] : Nat) : Int) = y
      rw [ej]
      exact a3
    · rintro ⟨i, hi, e⟩
      have hm := gF_m hi
      obtain ⟨c1, c2⟩ := hO.2.2.1.2.1 _ hm
      obtain ⟨c3, c4, c5⟩ := (hO.2.1.2.2 _ c1).1
      obtain ⟨k, hk, ek⟩ := zJ_all hJ hX c4 c5
      obtain ⟨j, hj, ej⟩ := (h3 y).mpr ⟨k, hk, by rw [ek, e], by rw [← e, Int.toNat_natCast, c2]⟩
      exact ⟨j, by omega, ej⟩
  have ka : ∀ i j : Nat, i < j → j < (ze M 81 26).toNat → zky (ze M 91 i) < zky (ze M 91 j) := fun i j g1 g2 => h2.1 i j g1 (by omega)
  have kb : ∀ i j : Nat, i < j → j < (gF T).length → zky (((gF T).getD i 0 : Nat) : Int) < zky (((gF T).getD j 0 : Nat) : Int) := fun i j g1 g2 => by
    rw [zky_n (hb i (by omega)), zky_n (hb j g2)]
    have := hO.2.2.1.2.2 i j g1 g2
    omega
  have u1 := zsort_u (a := fun i => ze M 91 i) (b := fun i => (((gF T).getD i 0 : Nat) : Int)) ka kb hset
  have u2 := zsort_u (a := fun i => (((gF T).getD i 0 : Nat) : Int)) (b := fun i => ze M 91 i) kb ka (fun y => (hset y).symm)
  have hl : (ze M 81 26).toNat = (gF T).length := by
    refine Nat.le_antisymm ?_ ?_
    · rcases Nat.lt_or_ge (gF T).length (ze M 81 26).toNat with g | g
      · have := (u1 _ g).1; omega
      · exact g
    · rcases Nat.lt_or_ge (ze M 81 26).toNat (gF T).length with g | g
      · have := (u2 _ g).1; omega
      · exact g
  exact ⟨by omega, fun i hi => (u2 i hi).2.symm⟩
