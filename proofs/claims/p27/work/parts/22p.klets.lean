set_option maxHeartbeats 4000000 in
theorem u_Troupe_addName (l : Launch) (d_ : Nat) (Mz : zMem) (hW : zKW d_ Mz) (a0_ : Int) (ha0_a : -2147483648 ≤ a0_) (ha0_b : a0_ < 2147483648) (F_ : Nat) (K_ : Nat → Nat → Int) (hA_ : zTA F_ K_) (nm_ : List (Int × (Nat → Int))) (p0_ : zKm F_ K_ d_ Mz) (p1_ : zNm nm_ F_ K_ d_ Mz) (p2_ : ze Mz (d_ + 0) 6 ≤ 7) (p3_ : zfit F_ K_ (zvc F_ d_ Mz 21)) : zC l m_Troupe_addName 0 0 [.ref (d_ + 0), .int (Int32.ofInt a0_)] Mz (zqcV d_ [] [] [(0, 6)] [25, 37] Mz (fun N => zNm (nm_ ++ [(a0_, zvc F_ d_ Mz 21)]) F_ K_ d_ N ∧ ze N (d_ + 0) 6 = ze Mz (d_ + 0) 6 + 1)) := by
  refine zC_of (L0 := [some (.ref (d_ + 0)), some (.int (Int32.ofInt a0_))]) md_Troupe_addName (Nat.le_of_ble_eq_true rfl) rfl ?_ zQ0
  have hf : zFc d_ [] [] [(0, 6)] [25, 37] Mz Mz := zFc.rf
  have r_D0_6 := ze_r Mz (d_ + 0) 6
  obtain ⟨⟨hF1_, hF27_⟩, hAr_⟩ := id hA_
  obtain ⟨w1_, w2_, w3_⟩ := id p1_
  refine zw_aload_n (pc := 0) (n := 0) (x := (d_ + 0)) rfl (zdal_p dlA_Troupe_addName_161 (i := 0) rfl) ?_
  refine zk_getI (pc := 1) f_Troupe_64 rfl ((hf.w hW).kr (o := 0) (by decide)) (zdal_p dlA_Troupe_addName_161 (i := 1) rfl) ?_
  refine zw_bipush (pc := 4) (v := Int32.ofInt 8) (by decide) (zdal_p dlA_Troupe_addName_161 (i := 2) rfl) ?_
  refine zr_icmp_ge (pc := 6) (tgt := 46) ⟨(ze_r Mz (d_ + 0) 6).1, (ze_r Mz (d_ + 0) 6).2⟩ ⟨(by decide), (by decide)⟩ (by decide) (zdal_p dlA_Troupe_addName_161 (i := 3) rfl) (fun hc_6 => ?_) (fun hc_6 => ?_)
  · skip
    exact zk_vret (pc := 46) rfl hf ⟨(show zNm (nm_ ++ [(a0_, zvc F_ d_ Mz 21)]) F_ K_ d_ Mz by first | exact hfin_ | (exfalso; omega)), (show ze Mz (d_ + 0) 6 = ze Mz (d_ + 0) 6 + 1 by first | assumption | omega)⟩ (zdal_p dlA_Troupe_addName_162 (i := 0) rfl)
  · skip
    refine zw_aload_n (pc := 9) (n := 0) (x := (d_ + 0)) rfl (zdal_p dlA_Troupe_addName_161 (i := 4) rfl) ?_
    refine zw_getF (pc := 10) f_Troupe_57 rfl ((hf.w hW).kr (o := 0) (by decide)) ((hf.w hW).lr (o := 0) (s := 5) (r := 36) (by decide)) (zdal_p dlA_Troupe_addName_161 (i := 5) rfl) ?_
    refine zw_aload_n (pc := 13) (n := 0) (x := (d_ + 0)) rfl (zdal_p dlA_Troupe_addName_161 (i := 6) rfl) ?_
    refine zk_getI (pc := 14) f_Troupe_64 rfl ((hf.w hW).kr (o := 0) (by decide)) (zdal_p dlA_Troupe_addName_161 (i := 7) rfl) ?_
    refine zw_iload_n (pc := 17) (n := 1) (x := Int32.ofInt a0_) rfl (zdal_p dlA_Troupe_addName_161 (i := 8) rfl) ?_
    refine zk_st hf.x (pc := 18) (o := 37) (by decide) l_Troupe_89 ((hf.w hW).kr (o := 36) (by decide)) ((hf.w hW).lr (o := 36) (s := 0) (r := 37) (by decide)) ((hf.w hW).rr (o := 37) (t := 1) (n := 8) (by decide)) (by decide) (by omega) (by omega) (by decide) (Nat.le_of_ble_eq_true rfl) (zdal_p dlA_Troupe_addName_161 (i := 9) rfl) (fun N1_ hN1_ hsN1_ => ?_)
    have hf_N1_ : zFc d_ [] [] [(0, 6)] [25, 37] Mz N1_ := hf.tr hsN1_ (by decide) (by decide) (by decide) (by decide)
    have eD0_6_N1_ : ze N1_ (d_ + 0) 6 = ze Mz (d_ + 0) 6 := hsN1_.e (by decide)
    have c2_ : zKm F_ K_ d_ N1_ := zKm.fr (hf.w hW) hsN1_ p0_ (by decide)
    have hg_ := zs_get hN1_ ⟨by omega, by omega⟩
    have ho_ := fun (i : Nat) (hi : (i : Int) < ze Mz (d_ + 0) 6) => zs_oth hN1_ (j := i) (by omega)
    refine zw_aload_n (pc := 21) (n := 0) (x := (d_ + 0)) rfl (zdal_p dlA_Troupe_addName_161 (i := 10) rfl) ?_
    refine zw_getF (pc := 22) f_Troupe_32 rfl ((hf_N1_.w hW).kr (o := 0) (by decide)) ((hf_N1_.w hW).lr (o := 0) (s := 2) (r := 23) (by decide)) (zdal_p dlA_Troupe_addName_161 (i := 11) rfl) ?_
    refine zw_bipush (pc := 25) (v := Int32.ofInt 21) (by decide) (zdal_p dlA_Troupe_addName_161 (i := 12) rfl) ?_
    refine zw_iconst (pc := 27) (v := Int32.ofInt 1) (by decide) (zdal_p dlA_Troupe_addName_161 (i := 13) rfl) ?_
    refine zw_aload_n (pc := 28) (n := 0) (x := (d_ + 0)) rfl (zdal_p dlA_Troupe_addName_161 (i := 14) rfl) ?_
    refine zk_getI (pc := 29) f_Troupe_64 rfl ((hf_N1_.w hW).kr (o := 0) (by decide)) (zdal_p dlA_Troupe_addName_161 (i := 15) rfl) ?_
    refine zr_iadd (pc := 32) (zdal_p dlA_Troupe_addName_161 (i := 16) rfl) ?_
    refine zk_callV hf_N1_.x (pc := 33) [.int (Int32.ofInt 21), .int (Int32.ofInt (1 + (ze N1_ (d_ + 0) 6)))] [] l_Troupe_93 (u_Sums_copy l d_ N1_ (hf_N1_.w hW) 21 (by decide) (by decide) (1 + (ze N1_ (d_ + 0) 6)) (by omega) (by omega) F_ K_ hA_ c2_ (show 0 ≤ 21 by first | assumption | omega) (show 21 ≤ 39 by first | assumption | omega) (show 0 ≤ (1 + (ze N1_ (d_ + 0) 6)) by first | assumption | omega) (show (1 + (ze N1_ (d_ + 0) 6)) ≤ 39 by first | assumption | omega)) rfl rfl ((hf_N1_.w hW).kr (o := 23) (by decide)) (by decide) (by decide) (Nat.le_of_ble_eq_true rfl) (zdal_p dlA_Troupe_addName_161 (i := 17) rfl) ?_
    rintro _ N3_ ⟨rfl, hsN3_, hp0_N3_⟩
    replace hp0_N3_ : zSh F_ d_ N1_ N3_ (1 + (ze N1_ (d_ + 0) 6)) (zvc F_ d_ N1_ 21) := hp0_N3_
    have hf_N3_ : zFc d_ [] [] [(0, 6)] [25, 37] Mz N3_ := hf_N1_.tr hsN3_ (by decide) (by decide) (by decide) (by decide)
    have eD0_6_N3_ : ze N3_ (d_ + 0) 6 = ze N1_ (d_ + 0) 6 := hsN3_.e (by decide)
    have c5_ : zKm F_ K_ d_ N3_ := zKm.fr (hf_N1_.w hW) hsN3_ c2_ (by decide)
    show zW l m_Troupe_addName (zn Mz + 0, zw Mz + 0) N3_ 36 [some (.ref (d_ + 0)), some (.int (Int32.ofInt a0_))] [] _
    have hc_ := hp0_N3_
    rw [zvc_f (F := F_) hsN1_ (by decide) 21] at hc_
    have hcv_ := (zSh_n (F := F_) (by omega) hc_).trans (zvc_i _)
    have hco_ := fun (k : Nat) (hk : (k : Int) < ze Mz (d_ + 0) 6) => (zSh_o (t := 1 + k) hF27_ (by omega) (by omega) (by omega) hc_).trans (zvc_f hsN1_ (by decide) _)
    have hg2_ := (hsN3_.r (by decide) _).trans hg_
    have ho2_ := fun (i : Nat) (hi : (i : Int) < ze Mz (d_ + 0) 6) => (hsN3_.r (by decide) i).trans (ho_ i hi)
    refine zw_aload_n (pc := 36) (n := 0) (x := (d_ + 0)) rfl (zdal_p dlA_Troupe_addName_161 (i := 18) rfl) ?_
    refine zw_dup (pc := 37) rfl (zdal_p dlA_Troupe_addName_161 (i := 19) rfl) ?_
    refine zk_getI (pc := 38) f_Troupe_64 rfl ((hf_N3_.w hW).kr (o := 0) (by decide)) (zdal_p dlA_Troupe_addName_161 (i := 20) rfl) ?_
    refine zw_iconst (pc := 41) (v := Int32.ofInt 1) (by decide) (zdal_p dlA_Troupe_addName_161 (i := 21) rfl) ?_
    refine zr_iadd (pc := 42) (zdal_p dlA_Troupe_addName_161 (i := 22) rfl) ?_
    refine zk_putR (pc := 43) (o := 0) (by decide) f_Troupe_64 rfl rfl ((hf_N3_.w hW).kr (o := 0) (by decide)) ⟨by omega, by omega⟩ rfl rfl (zdal_p dlA_Troupe_addName_161 (i := 23) rfl) (fun N6_ hsN6_ hvN6_ => ?_)
    have hf_N6_ : zFc d_ [] [] [(0, 6)] [25, 37] Mz N6_ := hf_N3_.tr hsN6_ (by decide) (by decide) (by decide) (by decide)
    have rD0_6_N6_ := ze_r N6_ (d_ + 0) 6
    have c7_ : zKm F_ K_ d_ N6_ := zKm.fr (hf_N3_.w hW) hsN6_ c5_ (by decide)
    have hfin_ := p1_.u (Nz := N6_) (w := a0_) (by omega) (by omega) ((hsN6_.r (by decide) _).trans hg2_) (fun k hk => (hsN6_.r (by decide) k).trans (ho2_ k hk)) ((zvc_f hsN6_ (by decide) _).trans (by rw [show (1 : Int) + ze Mz (d_ + 0) 6 = 1 + ze N1_ (d_ + 0) 6 by omega]; exact hcv_)) (fun k hk => (zvc_f hsN6_ (by decide) _).trans (hco_ k hk)) p3_
    exact zk_vret (pc := 46) rfl hf_N6_ ⟨(show zNm (nm_ ++ [(a0_, zvc F_ d_ Mz 21)]) F_ K_ d_ N6_ by first | exact hfin_ | (exfalso; omega)), (show ze N6_ (d_ + 0) 6 = ze Mz (d_ + 0) 6 + 1 by first | assumption | omega)⟩ (zdal_p dlA_Troupe_addName_162 (i := 0) rfl)
set_option maxHeartbeats 4000000 in
theorem u_Reader_readLets (l : Launch) (d_ : Nat) (Mz : zMem) (hW : zKW d_ Mz) (b_ : Nat → Int) (n_ : Nat) (F_ : Nat) (K_ : Nat → Nat → Int) (hA_ : zTA F_ K_) (nm0_ : List (Int × (Nat → Int))) (p0_ : zYb b_ n_ Mz) (p1_ : zYt b_ n_ Mz) (p2_ : zKm F_ K_ d_ Mz) (p3_ : zNm nm0_ F_ K_ d_ Mz) : zC l m_Reader_readLets 0 0 [.ref 4, .ref (d_ + 0)] Mz (zqcI d_ [(1, 2), (1, 3), (1, 4), (1, 5), (4, 1), (4, 2), (4, 3)] [] [(0, 6), (33, 2), (33, 3), (33, 4), (33, 5), (33, 6)] [25, 27, 35, 37] Mz (fun v N => (((v = 1 ∧ (∃ q nm, zRg (zls b_ n_ F_ K_) (0, (ze Mz 1 2).toNat, nm0_) (1, q, nm))) ∨ (v = 0 ∧ zRg (zls b_ n_ F_ K_) (0, (ze Mz 1 2).toNat, nm0_) zLf))))) := by
  refine zC_of (L0 := [some (.ref 4), some (.ref (d_ + 0)), none, none, none]) md_Reader_readLets (Nat.le_of_ble_eq_true rfl) rfl ?_ zQ0
  have hf : zFc d_ [(1, 2), (1, 3), (1, 4), (1, 5), (4, 1), (4, 2), (4, 3)] [] [(0, 6), (33, 2), (33, 3), (33, 4), (33, 5), (33, 6)] [25, 27, 35, 37] Mz Mz := zFc.rf
  have r_A1_2 := ze_r Mz 1 2
  have r_A1_3 := ze_r Mz 1 3
  have r_A1_4 := ze_r Mz 1 4
  have r_A1_5 := ze_r Mz 1 5
  have r_D0_6 := ze_r Mz (d_ + 0) 6
  have r_D33_2 := ze_r Mz (d_ + 33) 2
  have r_D33_3 := ze_r Mz (d_ + 33) 3
  have r_D33_4 := ze_r Mz (d_ + 33) 4
  have r_D33_5 := ze_r Mz (d_ + 33) 5
  have r_D33_6 := ze_r Mz (d_ + 33) 6
  obtain ⟨⟨hF1_, hF27_⟩, hAr_⟩ := id hA_
  obtain ⟨y1_, y2_, y3_⟩ := id p3_
  refine zw_iconst (pc := 0) (v := Int32.ofInt 0) (by decide) (zdal_p dlA_Reader_readLets_103 (i := 0) rfl) ?_
  refine zw_istore_n (pc := 1) (i := 2) (L2 := [some (.ref 4), some (.ref (d_ + 0)), some (.int (Int32.ofInt 0)), none, none]) rfl (by decide) rfl (zdal_p dlA_Reader_readLets_103 (i := 1) rfl) ?_
  have lp_2 : ∀ (n : Nat) (u1_ : Int) (hu1_a : -2147483648 ≤ u1_) (hu1_b : u1_ < 2147483648) (N2_ : zMem) (hs3_ : zFc d_ [(1, 2), (1, 3), (1, 4), (1, 5), (4, 1), (4, 2), (4, 3)] [] [(0, 6), (33, 2), (33, 3), (33, 4), (33, 5), (33, 6)] [25, 27, 35, 37] Mz N2_) (i4_ : 0 ≤ u1_) (i5_ : u1_ ≤ ze N2_ (d_ + 0) 6) (i6_ : zYt b_ n_ N2_) (i7_ : ∃ nm, zNm nm F_ K_ d_ N2_ ∧ zRg (zls b_ n_ F_ K_) (0, (ze Mz 1 2).toNat, nm0_) (0, (ze N2_ 1 2).toNat, nm)), (9 - u1_).toNat < n → zW l m_Reader_readLets (zn Mz + 0, zw Mz + 0) N2_ 2 [some (.ref 4), some (.ref (d_ + 0)), some (.int (Int32.ofInt u1_)), none, none] [] (zqcI d_ [(1, 2), (1, 3), (1, 4), (1, 5), (4, 1), (4, 2), (4, 3)] [] [(0, 6), (33, 2), (33, 3), (33, 4), (33, 5), (33, 6)] [25, 27, 35, 37] Mz (fun v N => (((v = 1 ∧ (∃ q nm, zRg (zls b_ n_ F_ K_) (0, (ze Mz 1 2).toNat, nm0_) (1, q, nm))) ∨ (v = 0 ∧ zRg (zls b_ n_ F_ K_) (0, (ze Mz 1 2).toNat, nm0_) zLf))))) := by
    intro n
    induction n with
    | zero =>
      intro u1_ hu1_a hu1_b N2_ hs3_ i4_ i5_ i6_ i7_ h0
      exact absurd h0 (Nat.not_lt_zero _)
    | succ n ih_2 =>
      intro u1_ hu1_a hu1_b N2_ hs3_ i4_ i5_ i6_ i7_ hlt_2
      have hf_N2_ : zFc d_ [(1, 2), (1, 3), (1, 4), (1, 5), (4, 1), (4, 2), (4, 3)] [] [(0, 6), (33, 2), (33, 3), (33, 4), (33, 5), (33, 6)] [25, 27, 35, 37] Mz N2_ := hf.tr hs3_ (by decide) (by decide) (by decide) (by decide)
      have rA1_2_N2_ := ze_r N2_ 1 2
      have rA1_3_N2_ := ze_r N2_ 1 3
      have rA1_4_N2_ := ze_r N2_ 1 4
      have rA1_5_N2_ := ze_r N2_ 1 5
      have rD0_6_N2_ := ze_r N2_ (d_ + 0) 6
      have rD33_2_N2_ := ze_r N2_ (d_ + 33) 2
      have rD33_3_N2_ := ze_r N2_ (d_ + 33) 3
      have rD33_4_N2_ := ze_r N2_ (d_ + 33) 4
      have rD33_5_N2_ := ze_r N2_ (d_ + 33) 5
      have rD33_6_N2_ := ze_r N2_ (d_ + 33) 6
      have c8_ : zYb b_ n_ N2_ := zYb.fr (hf.w hW) hs3_ p0_ (by decide)
      have c9_ : zKm F_ K_ d_ N2_ := zKm.fr (hf.w hW) hs3_ p2_ (by decide)
      obtain ⟨nm_, hnm_, hre_⟩ := (show ∃ nm, zNm nm F_ K_ d_ N2_ ∧ zRg (zls b_ n_ F_ K_) (0, (ze Mz 1 2).toNat, nm0_) (0, (ze N2_ 1 2).toNat, nm) by assumption)
      have hlen_ := hnm_.len
      obtain ⟨w1_, w2_, w3_⟩ := id hnm_
      refine zw_iload_n (pc := 2) (n := 2) (x := Int32.ofInt u1_) rfl (zdal_p dlA_Reader_readLets_103 (i := 2) rfl) ?_
      refine zw_bipush (pc := 3) (v := Int32.ofInt 8) (by decide) (zdal_p dlA_Reader_readLets_103 (i := 3) rfl) ?_
      refine zr_icmp_gt (pc := 5) (tgt := 156) ⟨hu1_a, hu1_b⟩ ⟨(by decide), (by decide)⟩ (by decide) (zdal_p dlA_Reader_readLets_103 (i := 4) rfl) (fun hc_5 => ?_) (fun hc_5 => ?_)
      · skip
        first | (have ht4_ : ze N2_ 1 4 = zkd b_ n_ (ze N2_ 1 2).toNat := i6_.2.2.1) | skip
        refine zw_aload_n (pc := 156) (n := 0) (x := 4) rfl (zdal_p dlA_Reader_readLets_106 (i := 5) rfl) ?_
        refine zw_getF (pc := 157) f_Reader_15 rfl ((hf_N2_.w hW).ka (o := 4) (by decide)) ((hf_N2_.w hW).la (o := 4) (s := 0) (r := 1) (by decide)) (zdal_p dlA_Reader_readLets_106 (i := 6) rfl) ?_
        refine zk_getI (pc := 160) f_Reader_27 rfl ((hf_N2_.w hW).ka (o := 1) (by decide)) (zdal_p dlA_Reader_readLets_106 (i := 7) rfl) ?_
        refine zr_if_eq (pc := 163) (tgt := 174) ⟨(ze_r N2_ 1 4).1, (ze_r N2_ 1 4).2⟩ (by decide) (zdal_p dlA_Reader_readLets_106 (i := 8) rfl) (fun hc_163 => ?_) (fun hc_163 => ?_)
        · skip
          refine zw_iconst (pc := 174) (v := Int32.ofInt 1) (by decide) (zdal_p dlA_Reader_readLets_106 (i := 13) rfl) ?_
          refine zw_goto (pc := 175) (tgt := 179) (by decide) (zdal_p dlA_Reader_readLets_106 (i := 14) rfl) ?_
          exact zk_iret (pc := 179) (ty := .boolean) rfl (z_narB (by omega)) ⟨by omega, by omega⟩ hf_N2_ (show ((1 = 1 ∧ (∃ q nm, zRg (zls b_ n_ F_ K_) (0, (ze Mz 1 2).toNat, nm0_) (1, q, nm))) ∨ (1 = 0 ∧ zRg (zls b_ n_ F_ K_) (0, (ze Mz 1 2).toNat, nm0_) zLf)) from Or.inl (⟨(show 1 = 1 by first | rfl | exact ⟨_, _, hre_.tr (zRg.st (zls_e hl1_ (by omega)))⟩ | (exfalso; omega)), (show (∃ q nm, zRg (zls b_ n_ F_ K_) (0, (ze Mz 1 2).toNat, nm0_) (1, q, nm)) by first | rfl | exact ⟨_, _, hre_.tr (zRg.st (zls_e hl1_ (by omega)))⟩ | (exfalso; omega))⟩)) (zdal_p dlA_Reader_readLets_106 (i := 16) rfl)
        · skip
          refine zw_aload_n (pc := 166) (n := 0) (x := 4) rfl (zdal_p dlA_Reader_readLets_106 (i := 9) rfl) ?_
          refine zw_iconst (pc := 167) (v := Int32.ofInt 2) (by decide) (zdal_p dlA_Reader_readLets_106 (i := 10) rfl) ?_
          refine zk_callV hf_N2_.x (pc := 168) [.int (Int32.ofInt 2)] [] l_Reader_41 (u_Reader_refuse l d_ N2_ (hf_N2_.w hW) 2 (by decide) (by decide)) rfl rfl ((hf_N2_.w hW).ka (o := 4) (by decide)) (by decide) (by decide) (Nat.le_of_ble_eq_true rfl) (zdal_p dlA_Reader_readLets_106 (i := 11) rfl) ?_
          rintro _ N10_ ⟨v11_, rfl, ⟨hv11_a, hv11_b⟩, hsN10_, hp0_N10_⟩
          replace hp0_N10_ : ((v11_ = 0)) := hp0_N10_
          have hf_N10_ : zFc d_ [(1, 2), (1, 3), (1, 4), (1, 5), (4, 1), (4, 2), (4, 3)] [] [(0, 6), (33, 2), (33, 3), (33, 4), (33, 5), (33, 6)] [25, 27, 35, 37] Mz N10_ := hf_N2_.tr hsN10_ (by decide) (by decide) (by decide) (by decide)
          have eA1_2_N10_ : ze N10_ 1 2 = ze N2_ 1 2 := hsN10_.ea (hf_N2_.w hW) (by decide)
          have eA1_3_N10_ : ze N10_ 1 3 = ze N2_ 1 3 := hsN10_.ea (hf_N2_.w hW) (by decide)
          have eA1_4_N10_ : ze N10_ 1 4 = ze N2_ 1 4 := hsN10_.ea (hf_N2_.w hW) (by decide)
          have eA1_5_N10_ : ze N10_ 1 5 = ze N2_ 1 5 := hsN10_.ea (hf_N2_.w hW) (by decide)
          have eD0_6_N10_ : ze N10_ (d_ + 0) 6 = ze N2_ (d_ + 0) 6 := hsN10_.e (by decide)
          have eD33_2_N10_ : ze N10_ (d_ + 33) 2 = ze N2_ (d_ + 33) 2 := hsN10_.e (by decide)
          have eD33_3_N10_ : ze N10_ (d_ + 33) 3 = ze N2_ (d_ + 33) 3 := hsN10_.e (by decide)
          have eD33_4_N10_ : ze N10_ (d_ + 33) 4 = ze N2_ (d_ + 33) 4 := hsN10_.e (by decide)
          have eD33_5_N10_ : ze N10_ (d_ + 33) 5 = ze N2_ (d_ + 33) 5 := hsN10_.e (by decide)
          have eD33_6_N10_ : ze N10_ (d_ + 33) 6 = ze N2_ (d_ + 33) 6 := hsN10_.e (by decide)
          have qzkS_N10_ : zkS d_ N10_ = zkS d_ N2_ := zkS_q hsN10_ (by decide)
          have qzkG_N10_ : zkG d_ N10_ = zkG d_ N2_ := zkG_q hsN10_ (by decide)
          have qzkW_N10_ : zkW F_ d_ N10_ = zkW F_ d_ N2_ := zkW_q hsN10_ (by decide)
          have c12_ : zYb b_ n_ N10_ := zYb.fr (hf_N2_.w hW) hsN10_ c8_ (by decide)
          have c13_ : zKm F_ K_ d_ N10_ := zKm.fr (hf_N2_.w hW) hsN10_ c9_ (by decide)
          have c14_ : zYt b_ n_ N10_ := zYt.fr (hf_N2_.w hW) hsN10_ i6_ (by decide)
          have c15_ : zNm nm_ F_ K_ d_ N10_ := zNm.fr (hf_N2_.w hW) hsN10_ hnm_ (by decide)
          rcases hp0_N10_ with rfl
          · skip
            show zW l m_Reader_readLets (zn Mz + 0, zw Mz + 0) N10_ 171 [some (.ref 4), some (.ref (d_ + 0)), some (.int (Int32.ofInt u1_)), none, none] [.int (Int32.ofInt 0)] _
            refine zr_if_eq (pc := 171) (tgt := 178) ⟨(by decide), (by decide)⟩ (by decide) (zdal_p dlA_Reader_readLets_106 (i := 12) rfl) (fun hc_171 => ?_) (fun hc_171 => ?_)
            · skip
              refine zw_iconst (pc := 178) (v := Int32.ofInt 0) (by decide) (zdal_p dlA_Reader_readLets_106 (i := 15) rfl) ?_
              exact zk_iret (pc := 179) (ty := .boolean) rfl (z_narB (by omega)) ⟨by omega, by omega⟩ hf_N10_ (show ((0 = 1 ∧ (∃ q nm, zRg (zls b_ n_ F_ K_) (0, (ze Mz 1 2).toNat, nm0_) (1, q, nm))) ∨ (0 = 0 ∧ zRg (zls b_ n_ F_ K_) (0, (ze Mz 1 2).toNat, nm0_) zLf)) from Or.inr (⟨(show 0 = 0 by first | rfl | exact hrt_ | exact hre_.tr (zRg.st (zls_f (F := F_) (K := K_) hl0_ (fun q_ => by have := q_.1; omega))) | exact hre_.tr (zRg.st (zls_ef (F := F_) (K := K_) hl1_ (by omega))) | exact hre_.tr (zRg.st (hsm_.trans (by rcases j3_ with ⟨g_, e_⟩ | ⟨g_, e_⟩; exfalso; omega; rw [e_]; exact zle_b))) | (exfalso; omega)), (show zRg (zls b_ n_ F_ K_) (0, (ze Mz 1 2).toNat, nm0_) zLf by first | rfl | exact hrt_ | exact hre_.tr (zRg.st (zls_f (F := F_) (K := K_) hl0_ (fun q_ => by have := q_.1; omega))) | exact hre_.tr (zRg.st (zls_ef (F := F_) (K := K_) hl1_ (by omega))) | exact hre_.tr (zRg.st (hsm_.trans (by rcases j3_ with ⟨g_, e_⟩ | ⟨g_, e_⟩; exfalso; omega; rw [e_]; exact zle_b))) | (exfalso; omega))⟩)) (zdal_p dlA_Reader_readLets_106 (i := 16) rfl)
            · skip
              exact absurd hc_171 (by decide)
      · skip
        refine zw_aload_n (pc := 8) (n := 0) (x := 4) rfl (zdal_p dlA_Reader_readLets_103 (i := 5) rfl) ?_
        refine zw_getF (pc := 9) f_Reader_15 rfl ((hf_N2_.w hW).ka (o := 4) (by decide)) ((hf_N2_.w hW).la (o := 4) (s := 0) (r := 1) (by decide)) (zdal_p dlA_Reader_readLets_103 (i := 6) rfl) ?_
        refine zw_ldcs (pc := 12) (i := 2) (List.mem_of_getElem? (i := 2) rfl) (zdal_p dlA_Reader_readLets_103 (i := 7) rfl) ?_
        refine zk_callV hf_N2_.x (pc := 14) [.ref (zK 2)] [] l_Reader_49 (u_Tokens_isWord l d_ N2_ (hf_N2_.w hW) 2 (by decide) b_ n_ c8_ i6_) rfl rfl ((hf_N2_.w hW).ka (o := 1) (by decide)) (by decide) (by decide) (Nat.le_of_ble_eq_true rfl) (zdal_p dlA_Reader_readLets_103 (i := 8) rfl) ?_
        rintro _ N16_ ⟨v17_, rfl, ⟨hv17_a, hv17_b⟩, hsN16_, hp0_N16_⟩
        obtain rfl := hsN16_.eq.symm
        replace hp0_N16_ : ((v17_ = 1 ∧ zkd b_ n_ (ze N2_ 1 2).toNat = 1 ∧ zkey b_ n_ (ze N2_ 1 2).toNat = zkw 2) ∨ (v17_ = 0 ∧ ¬ (zkd b_ n_ (ze N2_ 1 2).toNat = 1 ∧ zkey b_ n_ (ze N2_ 1 2).toNat = zkw 2))) := hp0_N16_
        rcases hp0_N16_ with ⟨rfl, ha14_0_hp0_N16_, ha14_1_hp0_N16_⟩ | ⟨rfl, ha14_0_hp0_N16_⟩
        · skip
          have hl0_ : zkd b_ n_ (ze N2_ 1 2).toNat = 1 ∧ zkey b_ n_ (ze N2_ 1 2).toNat = zkw 2 := ⟨ha14_0_hp0_N16_, ha14_1_hp0_N16_⟩
          show zW l m_Reader_readLets (zn Mz + 0, zw Mz + 0) N2_ 17 [some (.ref 4), some (.ref (d_ + 0)), some (.int (Int32.ofInt u1_)), none, none] [.int (Int32.ofInt 1)] _
          refine zr_if_eq (pc := 17) (tgt := 156) ⟨(by decide), (by decide)⟩ (by decide) (zdal_p dlA_Reader_readLets_103 (i := 9) rfl) (fun hc_17 => ?_) (fun hc_17 => ?_)
          · skip
            exact absurd hc_17 (by decide)
          · skip
            refine zw_aload_n (pc := 20) (n := 0) (x := 4) rfl (zdal_p dlA_Reader_readLets_103 (i := 10) rfl) ?_
            refine zw_getF (pc := 21) f_Reader_15 rfl ((hf_N2_.w hW).ka (o := 4) (by decide)) ((hf_N2_.w hW).la (o := 4) (s := 0) (r := 1) (by decide)) (zdal_p dlA_Reader_readLets_103 (i := 11) rfl) ?_
            refine zk_getI (pc := 24) f_Reader_30 rfl ((hf_N2_.w hW).ka (o := 1) (by decide)) (zdal_p dlA_Reader_readLets_103 (i := 12) rfl) ?_
            refine zw_istore_n (pc := 27) (i := 3) (L2 := [some (.ref 4), some (.ref (d_ + 0)), some (.int (Int32.ofInt u1_)), some (.int (Int32.ofInt (ze N2_ 1 2))), none]) rfl (by decide) rfl (zdal_p dlA_Reader_readLets_103 (i := 13) rfl) ?_
            refine zw_aload_n (pc := 28) (n := 1) (x := (d_ + 0)) rfl (zdal_p dlA_Reader_readLets_103 (i := 14) rfl) ?_
            refine zk_getI (pc := 29) f_Reader_98 rfl ((hf_N2_.w hW).kr (o := 0) (by decide)) (zdal_p dlA_Reader_readLets_103 (i := 15) rfl) ?_
            refine zw_bipush (pc := 32) (v := Int32.ofInt 8) (by decide) (zdal_p dlA_Reader_readLets_103 (i := 16) rfl) ?_
            refine zr_icmp_lt (pc := 34) (tgt := 43) ⟨(ze_r N2_ (d_ + 0) 6).1, (ze_r N2_ (d_ + 0) 6).2⟩ ⟨(by decide), (by decide)⟩ (by decide) (zdal_p dlA_Reader_readLets_103 (i := 17) rfl) (fun hc_34 => ?_) (fun hc_34 => ?_)
            · skip
              have hyt_ := i6_
              have hyx_ := hyt_.x
              refine zw_aload_n (pc := 43) (n := 0) (x := 4) rfl (zdal_p dlA_Reader_readLets_103 (i := 22) rfl) ?_
              refine zw_getF (pc := 44) f_Reader_15 rfl ((hf_N2_.w hW).ka (o := 4) (by decide)) ((hf_N2_.w hW).la (o := 4) (s := 0) (r := 1) (by decide)) (zdal_p dlA_Reader_readLets_103 (i := 23) rfl) ?_
              refine zk_callV hf_N2_.x (pc := 47) [] [] l_Reader_44 (u_Tokens_step l d_ N2_ (hf_N2_.w hW) b_ n_ c8_ (show 0 ≤ ze N2_ 1 3 by first | assumption | omega) (show ze N2_ 1 3 ≤ n_ by first | assumption | omega)) rfl rfl ((hf_N2_.w hW).ka (o := 1) (by decide)) (by decide) (by decide) (Nat.le_of_ble_eq_true rfl) (zdal_p dlA_Reader_readLets_104 (i := 0) rfl) ?_
              rintro _ N18_ ⟨rfl, hsN18_, ⟨hp0_N18_, hp1_N18_⟩⟩
              have hf_N18_ : zFc d_ [(1, 2), (1, 3), (1, 4), (1, 5), (4, 1), (4, 2), (4, 3)] [] [(0, 6), (33, 2), (33, 3), (33, 4), (33, 5), (33, 6)] [25, 27, 35, 37] Mz N18_ := hf_N2_.tr hsN18_ (by decide) (by decide) (by decide) (by decide)
              have hb0_N18_ : zFc d_ [(1, 2), (1, 3), (1, 4), (1, 5), (4, 1), (4, 2), (4, 3)] [] [(0, 6), (33, 2), (33, 3), (33, 4), (33, 5), (33, 6)] [25, 27, 35, 37] Mz N18_ := hs3_.tr hsN18_ (by decide) (by decide) (by decide) (by decide)
              have rA1_2_N18_ := ze_r N18_ 1 2
              have rA1_3_N18_ := ze_r N18_ 1 3
              have rA1_4_N18_ := ze_r N18_ 1 4
              have rA1_5_N18_ := ze_r N18_ 1 5
              have eD0_6_N18_ : ze N18_ (d_ + 0) 6 = ze N2_ (d_ + 0) 6 := hsN18_.e (by decide)
              have eD33_2_N18_ : ze N18_ (d_ + 33) 2 = ze N2_ (d_ + 33) 2 := hsN18_.e (by decide)
              have eD33_3_N18_ : ze N18_ (d_ + 33) 3 = ze N2_ (d_ + 33) 3 := hsN18_.e (by decide)
              have eD33_4_N18_ : ze N18_ (d_ + 33) 4 = ze N2_ (d_ + 33) 4 := hsN18_.e (by decide)
              have eD33_5_N18_ : ze N18_ (d_ + 33) 5 = ze N2_ (d_ + 33) 5 := hsN18_.e (by decide)
              have eD33_6_N18_ : ze N18_ (d_ + 33) 6 = ze N2_ (d_ + 33) 6 := hsN18_.e (by decide)
              have qzkS_N18_ : zkS d_ N18_ = zkS d_ N2_ := zkS_q hsN18_ (by decide)
              have qzkG_N18_ : zkG d_ N18_ = zkG d_ N2_ := zkG_q hsN18_ (by decide)
              have qzkW_N18_ : zkW F_ d_ N18_ = zkW F_ d_ N2_ := zkW_q hsN18_ (by decide)
              have c20_ : zYb b_ n_ N18_ := zYb.fr (hf_N2_.w hW) hsN18_ c8_ (by decide)
              have c21_ : zKm F_ K_ d_ N18_ := zKm.fr (hf_N2_.w hW) hsN18_ c9_ (by decide)
              have c22_ : zNm nm_ F_ K_ d_ N18_ := zNm.fr (hf_N2_.w hW) hsN18_ hnm_ (by decide)
              show zW l m_Reader_readLets (zn Mz + 0, zw Mz + 0) N18_ 50 [some (.ref 4), some (.ref (d_ + 0)), some (.int (Int32.ofInt u1_)), some (.int (Int32.ofInt (ze N2_ 1 2))), none] [] _
              have hnn_ := hyt_.n hp0_N18_
              have hx1_ : (ze N18_ 1 2).toNat = znx b_ n_ (ze N2_ 1 2).toNat := hnn_.2.trans (by rw [show ze N2_ 1 2 = ze N2_ 1 2 by omega])
              refine zw_aload_n (pc := 50) (n := 0) (x := 4) rfl (zdal_p dlA_Reader_readLets_104 (i := 1) rfl) ?_
              refine zw_getF (pc := 51) f_Reader_15 rfl ((hf_N18_.w hW).ka (o := 4) (by decide)) ((hf_N18_.w hW).la (o := 4) (s := 0) (r := 1) (by decide)) (zdal_p dlA_Reader_readLets_104 (i := 2) rfl) ?_
              refine zk_callV hf_N18_.x (pc := 54) [] [] l_Reader_101 (u_Tokens_isName l d_ N18_ (hf_N18_.w hW) b_ n_ c20_ hp1_N18_) rfl rfl ((hf_N18_.w hW).ka (o := 1) (by decide)) (by decide) (by decide) (Nat.le_of_ble_eq_true rfl) (zdal_p dlA_Reader_readLets_104 (i := 3) rfl) ?_
              rintro _ N23_ ⟨v24_, rfl, ⟨hv24_a, hv24_b⟩, hsN23_, hp0_N23_⟩
              obtain rfl := hsN23_.eq.symm
              replace hp0_N23_ : ((v24_ = 1 ∧ zisn b_ n_ (ze N18_ 1 2).toNat) ∨ (v24_ = 0 ∧ ¬ zisn b_ n_ (ze N18_ 1 2).toNat)) := hp0_N23_
              rcases hp0_N23_ with ⟨rfl, ha54_0_hp0_N23_⟩ | ⟨rfl, ha54_0_hp0_N23_⟩
              · skip
                have hn1_ := ha54_0_hp0_N23_
                have hky_ := hp1_N18_.v1 hn1_.1
                rw [hx1_] at hn1_ hky_
                show zW l m_Reader_readLets (zn Mz + 0, zw Mz + 0) N18_ 57 [some (.ref 4), some (.ref (d_ + 0)), some (.int (Int32.ofInt u1_)), some (.int (Int32.ofInt (ze N2_ 1 2))), none] [.int (Int32.ofInt 1)] _
                refine zr_if_ne (pc := 57) (tgt := 66) ⟨(by decide), (by decide)⟩ (by decide) (zdal_p dlA_Reader_readLets_104 (i := 4) rfl) (fun hc_57 => ?_) (fun hc_57 => ?_)
                · skip
                  refine zw_aload_n (pc := 66) (n := 0) (x := 4) rfl (zdal_p dlA_Reader_readLets_104 (i := 9) rfl) ?_
                  refine zw_getF (pc := 67) f_Reader_15 rfl ((hf_N18_.w hW).ka (o := 4) (by decide)) ((hf_N18_.w hW).la (o := 4) (s := 0) (r := 1) (by decide)) (zdal_p dlA_Reader_readLets_104 (i := 10) rfl) ?_
                  refine zk_getI (pc := 70) f_Reader_57 rfl ((hf_N18_.w hW).ka (o := 1) (by decide)) (zdal_p dlA_Reader_readLets_104 (i := 11) rfl) ?_
                  refine zw_istore (pc := 73) (i := 4) (L2 := [some (.ref 4), some (.ref (d_ + 0)), some (.int (Int32.ofInt u1_)), some (.int (Int32.ofInt (ze N2_ 1 2))), some (.int (Int32.ofInt (ze N18_ 1 5)))]) (by decide) rfl (zdal_p dlA_Reader_readLets_104 (i := 12) rfl) ?_
                  refine zw_aload_n (pc := 75) (n := 1) (x := (d_ + 0)) rfl (zdal_p dlA_Reader_readLets_104 (i := 13) rfl) ?_
                  refine zw_iload (pc := 76) (i := 4) (x := Int32.ofInt (ze N18_ 1 5)) rfl (zdal_p dlA_Reader_readLets_104 (i := 14) rfl) ?_
                  refine zk_callV hf_N18_.x (pc := 78) [.int (Int32.ofInt (ze N18_ 1 5))] [] l_Reader_104 (u_Troupe_nameOf l d_ N18_ (hf_N18_.w hW) (ze N18_ 1 5) (ze_r N18_ 1 5).1 (ze_r N18_ 1 5).2 F_ K_ hA_ nm_ c22_) rfl rfl ((hf_N18_.w hW).kr (o := 0) (by decide)) (by decide) (by decide) (Nat.le_of_ble_eq_true rfl) (zdal_p dlA_Reader_readLets_104 (i := 15) rfl) ?_
                  rintro _ N25_ ⟨v26_, rfl, ⟨hv26_a, hv26_b⟩, hsN25_, hp0_N25_⟩
                  obtain rfl := hsN25_.eq.symm
                  replace hp0_N25_ : ((v26_ = -1 ∧ zfd nm_ (ze N18_ 1 5) = none) ∨ (0 ≤ v26_ ∧ v26_ ≤ 7 ∧ zfd nm_ (ze N18_ 1 5) = some (zvc F_ d_ N18_ (1 + v26_)) ∧ zfit F_ K_ (zvc F_ d_ N18_ (1 + v26_)))) := hp0_N25_
                  rcases hp0_N25_ with ⟨rfl, ha78_0_hp0_N25_⟩ | ⟨ha78_0_hp0_N25_, ha78_1_hp0_N25_, ha78_2_hp0_N25_, ha78_3_hp0_N25_⟩
                  · skip
                    have hf1_ := ha78_0_hp0_N25_
                    rw [show (ze N18_ 1 5) = zkey b_ n_ (znx b_ n_ (ze N2_ 1 2).toNat) from hky_] at hf1_
                    show zW l m_Reader_readLets (zn Mz + 0, zw Mz + 0) N18_ 81 [some (.ref 4), some (.ref (d_ + 0)), some (.int (Int32.ofInt u1_)), some (.int (Int32.ofInt (ze N2_ 1 2))), some (.int (Int32.ofInt (ze N18_ 1 5)))] [.int (Int32.ofInt ((-1)))] _
                    refine zw_iconst (pc := 81) (v := Int32.ofInt (-1)) (by decide) (zdal_p dlA_Reader_readLets_104 (i := 16) rfl) ?_
                    refine zr_icmp_eq (pc := 82) (tgt := 91) ⟨(by decide), (by decide)⟩ ⟨(by decide), (by decide)⟩ (by decide) (zdal_p dlA_Reader_readLets_104 (i := 17) rfl) (fun hc_82 => ?_) (fun hc_82 => ?_)
                    · skip
                      have hyt_ := hp1_N18_
                      have hyx_ := hyt_.x
                      refine zw_aload_n (pc := 91) (n := 0) (x := 4) rfl (zdal_p dlA_Reader_readLets_104 (i := 22) rfl) ?_
                      refine zw_getF (pc := 92) f_Reader_15 rfl ((hf_N18_.w hW).ka (o := 4) (by decide)) ((hf_N18_.w hW).la (o := 4) (s := 0) (r := 1) (by decide)) (zdal_p dlA_Reader_readLets_104 (i := 23) rfl) ?_
                      refine zk_callV hf_N18_.x (pc := 95) [] [] l_Reader_44 (u_Tokens_step l d_ N18_ (hf_N18_.w hW) b_ n_ c20_ (show 0 ≤ ze N18_ 1 3 by first | assumption | omega) (show ze N18_ 1 3 ≤ n_ by first | assumption | omega)) rfl rfl ((hf_N18_.w hW).ka (o := 1) (by decide)) (by decide) (by decide) (Nat.le_of_ble_eq_true rfl) (zdal_p dlA_Reader_readLets_105 (i := 0) rfl) ?_
                      rintro _ N27_ ⟨rfl, hsN27_, ⟨hp0_N27_, hp1_N27_⟩⟩
                      have hf_N27_ : zFc d_ [(1, 2), (1, 3), (1, 4), (1, 5), (4, 1), (4, 2), (4, 3)] [] [(0, 6), (33, 2), (33, 3), (33, 4), (33, 5), (33, 6)] [25, 27, 35, 37] Mz N27_ := hf_N18_.tr hsN27_ (by decide) (by decide) (by decide) (by decide)
                      have hb0_N27_ : zFc d_ [(1, 2), (1, 3), (1, 4), (1, 5), (4, 1), (4, 2), (4, 3)] [] [(0, 6), (33, 2), (33, 3), (33, 4), (33, 5), (33, 6)] [25, 27, 35, 37] Mz N27_ := hb0_N18_.tr hsN27_ (by decide) (by decide) (by decide) (by decide)
                      have rA1_2_N27_ := ze_r N27_ 1 2
                      have rA1_3_N27_ := ze_r N27_ 1 3
                      have rA1_4_N27_ := ze_r N27_ 1 4
                      have rA1_5_N27_ := ze_r N27_ 1 5
                      have eD0_6_N27_ : ze N27_ (d_ + 0) 6 = ze N18_ (d_ + 0) 6 := hsN27_.e (by decide)
                      have eD33_2_N27_ : ze N27_ (d_ + 33) 2 = ze N18_ (d_ + 33) 2 := hsN27_.e (by decide)
                      have eD33_3_N27_ : ze N27_ (d_ + 33) 3 = ze N18_ (d_ + 33) 3 := hsN27_.e (by decide)
                      have eD33_4_N27_ : ze N27_ (d_ + 33) 4 = ze N18_ (d_ + 33) 4 := hsN27_.e (by decide)
                      have eD33_5_N27_ : ze N27_ (d_ + 33) 5 = ze N18_ (d_ + 33) 5 := hsN27_.e (by decide)
                      have eD33_6_N27_ : ze N27_ (d_ + 33) 6 = ze N18_ (d_ + 33) 6 := hsN27_.e (by decide)
                      have qzkS_N27_ : zkS d_ N27_ = zkS d_ N18_ := zkS_q hsN27_ (by decide)
                      have qzkG_N27_ : zkG d_ N27_ = zkG d_ N18_ := zkG_q hsN27_ (by decide)
                      have qzkW_N27_ : zkW F_ d_ N27_ = zkW F_ d_ N18_ := zkW_q hsN27_ (by decide)
                      have c29_ : zYb b_ n_ N27_ := zYb.fr (hf_N18_.w hW) hsN27_ c20_ (by decide)
                      have c30_ : zKm F_ K_ d_ N27_ := zKm.fr (hf_N18_.w hW) hsN27_ c21_ (by decide)
                      have c31_ : zNm nm_ F_ K_ d_ N27_ := zNm.fr (hf_N18_.w hW) hsN27_ c22_ (by decide)
                      show zW l m_Reader_readLets (zn Mz + 0, zw Mz + 0) N27_ 98 [some (.ref 4), some (.ref (d_ + 0)), some (.int (Int32.ofInt u1_)), some (.int (Int32.ofInt (ze N2_ 1 2))), some (.int (Int32.ofInt (ze N18_ 1 5)))] [] _
                      have hnn_ := hyt_.n hp0_N27_
                      have hx2_ : (ze N27_ 1 2).toNat = znx b_ n_ (znx b_ n_ (ze N2_ 1 2).toNat) := hnn_.2.trans (by rw [hx1_])
                      refine zw_aload_n (pc := 98) (n := 0) (x := 4) rfl (zdal_p dlA_Reader_readLets_105 (i := 1) rfl) ?_
                      refine zw_bipush (pc := 99) (v := Int32.ofInt 61) (by decide) (zdal_p dlA_Reader_readLets_105 (i := 2) rfl) ?_
                      refine zk_callV hf_N27_.x (pc := 101) [.int (Int32.ofInt 61)] [] l_Reader_66 (u_Reader_passSign l d_ N27_ (hf_N27_.w hW) 61 (by decide) (by decide) b_ n_ c29_ hp1_N27_) rfl rfl ((hf_N27_.w hW).ka (o := 4) (by decide)) (by decide) (by decide) (Nat.le_of_ble_eq_true rfl) (zdal_p dlA_Reader_readLets_105 (i := 3) rfl) ?_
                      rintro _ N32_ ⟨v33_, rfl, ⟨hv33_a, hv33_b⟩, hsN32_, ⟨hp0_N32_, hp1_N32_⟩⟩
                      have hf_N32_ : zFc d_ [(1, 2), (1, 3), (1, 4), (1, 5), (4, 1), (4, 2), (4, 3)] [] [(0, 6), (33, 2), (33, 3), (33, 4), (33, 5), (33, 6)] [25, 27, 35, 37] Mz N32_ := hf_N27_.tr hsN32_ (by decide) (by decide) (by decide) (by decide)
                      have hb0_N32_ : zFc d_ [(1, 2), (1, 3), (1, 4), (1, 5), (4, 1), (4, 2), (4, 3)] [] [(0, 6), (33, 2), (33, 3), (33, 4), (33, 5), (33, 6)] [25, 27, 35, 37] Mz N32_ := hb0_N27_.tr hsN32_ (by decide) (by decide) (by decide) (by decide)
                      have rA1_2_N32_ := ze_r N32_ 1 2
                      have rA1_3_N32_ := ze_r N32_ 1 3
                      have rA1_4_N32_ := ze_r N32_ 1 4
                      have rA1_5_N32_ := ze_r N32_ 1 5
                      have eD0_6_N32_ : ze N32_ (d_ + 0) 6 = ze N27_ (d_ + 0) 6 := hsN32_.e (by decide)
                      have eD33_2_N32_ : ze N32_ (d_ + 33) 2 = ze N27_ (d_ + 33) 2 := hsN32_.e (by decide)
                      have eD33_3_N32_ : ze N32_ (d_ + 33) 3 = ze N27_ (d_ + 33) 3 := hsN32_.e (by decide)
                      have eD33_4_N32_ : ze N32_ (d_ + 33) 4 = ze N27_ (d_ + 33) 4 := hsN32_.e (by decide)
                      have eD33_5_N32_ : ze N32_ (d_ + 33) 5 = ze N27_ (d_ + 33) 5 := hsN32_.e (by decide)
                      have eD33_6_N32_ : ze N32_ (d_ + 33) 6 = ze N27_ (d_ + 33) 6 := hsN32_.e (by decide)
                      have qzkS_N32_ : zkS d_ N32_ = zkS d_ N27_ := zkS_q hsN32_ (by decide)
                      have qzkG_N32_ : zkG d_ N32_ = zkG d_ N27_ := zkG_q hsN32_ (by decide)
                      have qzkW_N32_ : zkW F_ d_ N32_ = zkW F_ d_ N27_ := zkW_q hsN32_ (by decide)
                      have c34_ : zYb b_ n_ N32_ := zYb.fr (hf_N27_.w hW) hsN32_ c29_ (by decide)
                      have c35_ : zKm F_ K_ d_ N32_ := zKm.fr (hf_N27_.w hW) hsN32_ c30_ (by decide)
                      have c36_ : zNm nm_ F_ K_ d_ N32_ := zNm.fr (hf_N27_.w hW) hsN32_ c31_ (by decide)
                      rcases hp1_N32_ with ⟨rfl, ha101_0_hp1_N32_, ha101_1_hp1_N32_⟩ | ⟨rfl, ha101_0_hp1_N32_⟩
                      · skip
                        have hs1_ := ha101_0_hp1_N32_
                        have hx3_ := ha101_1_hp1_N32_
                        rw [hx2_] at hs1_ hx3_
                        have hle_ : nm_.length < 8 := by omega
                        have hall_ := And.intro hle_ (And.intro hn1_ (And.intro hf1_ hs1_))
                        show zW l m_Reader_readLets (zn Mz + 0, zw Mz + 0) N32_ 104 [some (.ref 4), some (.ref (d_ + 0)), some (.int (Int32.ofInt u1_)), some (.int (Int32.ofInt (ze N2_ 1 2))), some (.int (Int32.ofInt (ze N18_ 1 5)))] [.int (Int32.ofInt 1)] _
                        refine zr_if_eq (pc := 104) (tgt := 124) ⟨(by decide), (by decide)⟩ (by decide) (zdal_p dlA_Reader_readLets_105 (i := 4) rfl) (fun hc_104 => ?_) (fun hc_104 => ?_)
                        · skip
                          exact absurd hc_104 (by decide)
                        · skip
                          have hnmb_ := c36_
                          refine zw_aload_n (pc := 107) (n := 0) (x := 4) rfl (zdal_p dlA_Reader_readLets_105 (i := 5) rfl) ?_
                          refine zw_aload_n (pc := 108) (n := 1) (x := (d_ + 0)) rfl (zdal_p dlA_Reader_readLets_105 (i := 6) rfl) ?_
                          refine zk_callV hf_N32_.x (pc := 109) [.ref (d_ + 0)] [] l_Reader_107 (u_Reader_readSum l d_ N32_ (hf_N32_.w hW) b_ n_ F_ K_ hA_ nm_ c34_ hp0_N32_ c35_ c36_) rfl rfl ((hf_N32_.w hW).ka (o := 4) (by decide)) (by decide) (by decide) (Nat.le_of_ble_eq_true rfl) (zdal_p dlA_Reader_readLets_105 (i := 7) rfl) ?_
                          rintro _ N37_ ⟨v38_, rfl, ⟨hv38_a, hv38_b⟩, hsN37_, ⟨hp0_N37_, hp1_N37_⟩⟩
                          have hf_N37_ : zFc d_ [(1, 2), (1, 3), (1, 4), (1, 5), (4, 1), (4, 2), (4, 3)] [] [(0, 6), (33, 2), (33, 3), (33, 4), (33, 5), (33, 6)] [25, 27, 35, 37] Mz N37_ := hf_N32_.tr hsN37_ (by decide) (by decide) (by decide) (by decide)
                          have hb0_N37_ : zFc d_ [(1, 2), (1, 3), (1, 4), (1, 5), (4, 1), (4, 2), (4, 3)] [] [(0, 6), (33, 2), (33, 3), (33, 4), (33, 5), (33, 6)] [25, 27, 35, 37] Mz N37_ := hb0_N32_.tr hsN37_ (by decide) (by decide) (by decide) (by decide)
                          have rA1_2_N37_ := ze_r N37_ 1 2
                          have rA1_3_N37_ := ze_r N37_ 1 3
                          have rA1_4_N37_ := ze_r N37_ 1 4
                          have rA1_5_N37_ := ze_r N37_ 1 5
                          have eD0_6_N37_ : ze N37_ (d_ + 0) 6 = ze N32_ (d_ + 0) 6 := hsN37_.e (by decide)
                          have rD33_2_N37_ := ze_r N37_ (d_ + 33) 2
                          have rD33_3_N37_ := ze_r N37_ (d_ + 33) 3
                          have rD33_4_N37_ := ze_r N37_ (d_ + 33) 4
                          have rD33_5_N37_ := ze_r N37_ (d_ + 33) 5
                          have rD33_6_N37_ := ze_r N37_ (d_ + 33) 6
                          have c39_ : zYb b_ n_ N37_ := zYb.fr (hf_N32_.w hW) hsN37_ c34_ (by decide)
                          have c40_ : zKm F_ K_ d_ N37_ := zKm.fr (hf_N32_.w hW) hsN37_ c35_ (by decide)
                          rcases hp1_N37_ with ⟨rfl, ha109_0_hp1_N37_, ha109_1_hp1_N37_, ha109_2_hp1_N37_, ha109_3_hp1_N37_⟩ | ⟨rfl, ha109_0_hp1_N37_⟩
                          · skip
                            have hm0_ := ha109_0_hp1_N37_
                            have hm1_ := ha109_1_hp1_N37_
                            have hm2_ := ha109_2_hp1_N37_
                            have hm3_ := ha109_3_hp1_N37_
                            have hnm2_ := hnmb_.l hsN37_ hm2_ hF27_ (by decide)
                            rw [hx3_] at hm0_
                            obtain ⟨j1_, j2_, j3_⟩ := zKst_3 hm3_ hm1_
                            have hsm_ := zls_g hl0_ hall_ hm0_ (show zfs b_ n_ F_ K_ nm_ (zKst 3 F_ d_ N37_) = zKst 3 F_ d_ N37_ from rfl)
                            show zW l m_Reader_readLets (zn Mz + 0, zw Mz + 0) N37_ 112 [some (.ref 4), some (.ref (d_ + 0)), some (.int (Int32.ofInt u1_)), some (.int (Int32.ofInt (ze N2_ 1 2))), some (.int (Int32.ofInt (ze N18_ 1 5)))] [.int (Int32.ofInt 1)] _
                            refine zr_if_eq (pc := 112) (tgt := 124) ⟨(by decide), (by decide)⟩ (by decide) (zdal_p dlA_Reader_readLets_105 (i := 8) rfl) (fun hc_112 => ?_) (fun hc_112 => ?_)
                            · skip
                              exact absurd hc_112 (by decide)
                            · skip
                              refine zw_aload_n (pc := 115) (n := 0) (x := 4) rfl (zdal_p dlA_Reader_readLets_105 (i := 9) rfl) ?_
                              refine zw_bipush (pc := 116) (v := Int32.ofInt 59) (by decide) (zdal_p dlA_Reader_readLets_105 (i := 10) rfl) ?_
                              refine zk_callV hf_N37_.x (pc := 118) [.int (Int32.ofInt 59)] [] l_Reader_66 (u_Reader_passSign l d_ N37_ (hf_N37_.w hW) 59 (by decide) (by decide) b_ n_ c39_ hp0_N37_) rfl rfl ((hf_N37_.w hW).ka (o := 4) (by decide)) (by decide) (by decide) (Nat.le_of_ble_eq_true rfl) (zdal_p dlA_Reader_readLets_105 (i := 11) rfl) ?_
                              rintro _ N41_ ⟨v42_, rfl, ⟨hv42_a, hv42_b⟩, hsN41_, ⟨hp0_N41_, hp1_N41_⟩⟩
                              have hf_N41_ : zFc d_ [(1, 2), (1, 3), (1, 4), (1, 5), (4, 1), (4, 2), (4, 3)] [] [(0, 6), (33, 2), (33, 3), (33, 4), (33, 5), (33, 6)] [25, 27, 35, 37] Mz N41_ := hf_N37_.tr hsN41_ (by decide) (by decide) (by decide) (by decide)
                              have hb0_N41_ : zFc d_ [(1, 2), (1, 3), (1, 4), (1, 5), (4, 1), (4, 2), (4, 3)] [] [(0, 6), (33, 2), (33, 3), (33, 4), (33, 5), (33, 6)] [25, 27, 35, 37] Mz N41_ := hb0_N37_.tr hsN41_ (by decide) (by decide) (by decide) (by decide)
                              have rA1_2_N41_ := ze_r N41_ 1 2
                              have rA1_3_N41_ := ze_r N41_ 1 3
                              have rA1_4_N41_ := ze_r N41_ 1 4
                              have rA1_5_N41_ := ze_r N41_ 1 5
                              have eD0_6_N41_ : ze N41_ (d_ + 0) 6 = ze N37_ (d_ + 0) 6 := hsN41_.e (by decide)
                              have eD33_2_N41_ : ze N41_ (d_ + 33) 2 = ze N37_ (d_ + 33) 2 := hsN41_.e (by decide)
                              have eD33_3_N41_ : ze N41_ (d_ + 33) 3 = ze N37_ (d_ + 33) 3 := hsN41_.e (by decide)
                              have eD33_4_N41_ : ze N41_ (d_ + 33) 4 = ze N37_ (d_ + 33) 4 := hsN41_.e (by decide)
                              have eD33_5_N41_ : ze N41_ (d_ + 33) 5 = ze N37_ (d_ + 33) 5 := hsN41_.e (by decide)
                              have eD33_6_N41_ : ze N41_ (d_ + 33) 6 = ze N37_ (d_ + 33) 6 := hsN41_.e (by decide)
                              have qzkS_N41_ : zkS d_ N41_ = zkS d_ N37_ := zkS_q hsN41_ (by decide)
                              have qzkG_N41_ : zkG d_ N41_ = zkG d_ N37_ := zkG_q hsN41_ (by decide)
                              have qzkW_N41_ : zkW F_ d_ N41_ = zkW F_ d_ N37_ := zkW_q hsN41_ (by decide)
                              have c43_ : zYb b_ n_ N41_ := zYb.fr (hf_N37_.w hW) hsN41_ c39_ (by decide)
                              have c44_ : zKm F_ K_ d_ N41_ := zKm.fr (hf_N37_.w hW) hsN41_ c40_ (by decide)
                              have c45_ : zCI F_ K_ d_ 1 N41_ := zCI.fr (hf_N37_.w hW) hsN41_ hm1_ (by decide)
                              have c46_ : zNm nm_ F_ K_ d_ N41_ := zNm.fr (hf_N37_.w hW) hsN41_ hnm2_ (by decide)
                              rcases hp1_N41_ with ⟨rfl, ha118_0_hp1_N41_, ha118_1_hp1_N41_⟩ | ⟨rfl, ha118_0_hp1_N41_⟩
                              · skip
                                have hs4_ := ha118_0_hp1_N41_
                                have hx4_ := ha118_1_hp1_N41_
                                have hv21_ := zvc_f (F := F_) hsN41_ (by decide) 21
                                show zW l m_Reader_readLets (zn Mz + 0, zw Mz + 0) N41_ 121 [some (.ref 4), some (.ref (d_ + 0)), some (.int (Int32.ofInt u1_)), some (.int (Int32.ofInt (ze N2_ 1 2))), some (.int (Int32.ofInt (ze N18_ 1 5)))] [.int (Int32.ofInt 1)] _
                                refine zr_if_ne (pc := 121) (tgt := 126) ⟨(by decide), (by decide)⟩ (by decide) (zdal_p dlA_Reader_readLets_105 (i := 12) rfl) (fun hc_121 => ?_) (fun hc_121 => ?_)
                                · skip
                                  refine zw_aload_n (pc := 126) (n := 1) (x := (d_ + 0)) rfl (zdal_p dlA_Reader_readLets_105 (i := 15) rfl) ?_
                                  refine zw_getF (pc := 127) f_Reader_111 rfl ((hf_N41_.w hW).kr (o := 0) (by decide)) ((hf_N41_.w hW).lr (o := 0) (s := 4) (r := 33) (by decide)) (zdal_p dlA_Reader_readLets_105 (i := 16) rfl) ?_
                                  refine zk_getI (pc := 130) f_Reader_115 rfl ((hf_N41_.w hW).kr (o := 33) (by decide)) (zdal_p dlA_Reader_readLets_105 (i := 17) rfl) ?_
                                  refine zr_if_eq (pc := 133) (tgt := 144) ⟨(ze_r N41_ (d_ + 33) 6).1, (ze_r N41_ (d_ + 33) 6).2⟩ (by decide) (zdal_p dlA_Reader_readLets_105 (i := 18) rfl) (fun hc_133 => ?_) (fun hc_133 => ?_)
                                  · skip
                                    refine zw_aload_n (pc := 144) (n := 1) (x := (d_ + 0)) rfl (zdal_p dlA_Reader_readLets_106 (i := 0) rfl) ?_
                                    refine zw_iload (pc := 145) (i := 4) (x := Int32.ofInt (ze N18_ 1 5)) rfl (zdal_p dlA_Reader_readLets_106 (i := 1) rfl) ?_
                                    refine zk_callV hf_N41_.x (pc := 147) [.int (Int32.ofInt (ze N18_ 1 5))] [] l_Reader_121 (u_Troupe_addName l d_ N41_ (hf_N41_.w hW) (ze N18_ 1 5) (ze_r N18_ 1 5).1 (ze_r N18_ 1 5).2 F_ K_ hA_ nm_ c44_ c46_ (show ze N41_ (d_ + 0) 6 ≤ 7 by first | assumption | omega) (show zfit F_ K_ (zvc F_ d_ N41_ 21) by rw [hv21_]; exact j2_)) rfl rfl ((hf_N41_.w hW).kr (o := 0) (by decide)) (by decide) (by decide) (Nat.le_of_ble_eq_true rfl) (zdal_p dlA_Reader_readLets_106 (i := 2) rfl) ?_
                                    rintro _ N47_ ⟨rfl, hsN47_, ⟨hp0_N47_, hp1_N47_⟩⟩
                                    have hf_N47_ : zFc d_ [(1, 2), (1, 3), (1, 4), (1, 5), (4, 1), (4, 2), (4, 3)] [] [(0, 6), (33, 2), (33, 3), (33, 4), (33, 5), (33, 6)] [25, 27, 35, 37] Mz N47_ := hf_N41_.tr hsN47_ (by decide) (by decide) (by decide) (by decide)
                                    have hb0_N47_ : zFc d_ [(1, 2), (1, 3), (1, 4), (1, 5), (4, 1), (4, 2), (4, 3)] [] [(0, 6), (33, 2), (33, 3), (33, 4), (33, 5), (33, 6)] [25, 27, 35, 37] Mz N47_ := hb0_N41_.tr hsN47_ (by decide) (by decide) (by decide) (by decide)
                                    have eA1_2_N47_ : ze N47_ 1 2 = ze N41_ 1 2 := hsN47_.ea (hf_N41_.w hW) (by decide)
                                    have eA1_3_N47_ : ze N47_ 1 3 = ze N41_ 1 3 := hsN47_.ea (hf_N41_.w hW) (by decide)
                                    have eA1_4_N47_ : ze N47_ 1 4 = ze N41_ 1 4 := hsN47_.ea (hf_N41_.w hW) (by decide)
                                    have eA1_5_N47_ : ze N47_ 1 5 = ze N41_ 1 5 := hsN47_.ea (hf_N41_.w hW) (by decide)
                                    have rD0_6_N47_ := ze_r N47_ (d_ + 0) 6
                                    have eD33_2_N47_ : ze N47_ (d_ + 33) 2 = ze N41_ (d_ + 33) 2 := hsN47_.e (by decide)
                                    have eD33_3_N47_ : ze N47_ (d_ + 33) 3 = ze N41_ (d_ + 33) 3 := hsN47_.e (by decide)
                                    have eD33_4_N47_ : ze N47_ (d_ + 33) 4 = ze N41_ (d_ + 33) 4 := hsN47_.e (by decide)
                                    have eD33_5_N47_ : ze N47_ (d_ + 33) 5 = ze N41_ (d_ + 33) 5 := hsN47_.e (by decide)
                                    have eD33_6_N47_ : ze N47_ (d_ + 33) 6 = ze N41_ (d_ + 33) 6 := hsN47_.e (by decide)
                                    have qzkS_N47_ : zkS d_ N47_ = zkS d_ N41_ := zkS_q hsN47_ (by decide)
                                    have qzkG_N47_ : zkG d_ N47_ = zkG d_ N41_ := zkG_q hsN47_ (by decide)
                                    have c49_ : zYb b_ n_ N47_ := zYb.fr (hf_N41_.w hW) hsN47_ c43_ (by decide)
                                    have c50_ : zKm F_ K_ d_ N47_ := zKm.fr (hf_N41_.w hW) hsN47_ c44_ (by decide)
                                    have c51_ : zYt b_ n_ N47_ := zYt.fr (hf_N41_.w hW) hsN47_ hp0_N41_ (by decide)
                                    show zW l m_Reader_readLets (zn Mz + 0, zw Mz + 0) N47_ 150 [some (.ref 4), some (.ref (d_ + 0)), some (.int (Int32.ofInt u1_)), some (.int (Int32.ofInt (ze N2_ 1 2))), some (.int (Int32.ofInt (ze N18_ 1 5)))] [] _
                                    have ha_ := hp0_N47_
                                    rw [hv21_, show (ze N18_ 1 5) = zkey b_ n_ (znx b_ n_ (ze N2_ 1 2).toNat) from hky_] at ha_
                                    refine zr_iinc (pc := 150) (i := 2) (a := u1_) (n := 1) (L2 := [some (.ref 4), some (.ref (d_ + 0)), some (.int (Int32.ofInt (u1_ + 1))), some (.int (Int32.ofInt (ze N2_ 1 2))), some (.int (Int32.ofInt (ze N18_ 1 5)))]) rfl (by decide) rfl (zdal_p dlA_Reader_readLets_106 (i := 3) rfl) ?_
                                    refine zw_goto (pc := 153) (tgt := 2) (by decide) (zdal_p dlA_Reader_readLets_106 (i := 4) rfl) ?_
                                    have hst_ : zRg (zls b_ n_ F_ K_) (0, (ze Mz 1 2).toNat, nm0_) (0, (ze N47_ 1 2).toNat, nm_ ++ [(zkey b_ n_ (znx b_ n_ (ze N2_ 1 2).toNat), zvc F_ d_ N37_ 21)]) := hre_.tr (zRg.st (hsm_.trans (by rcases j3_ with ⟨g_, e_⟩ | ⟨g_, e_⟩; rw [e_, zle_t hs4_, show (ze N47_ 1 2).toNat = znx b_ n_ (ze N37_ 1 2).toNat by rw [show ze N47_ 1 2 = ze N41_ 1 2 by omega, hx4_]]; exfalso; omega)))
                                    refine zW_le [some (.ref 4), some (.ref (d_ + 0)), some (.int (Int32.ofInt (u1_ + 1))), none, none] (⟨rfl, rfl, rfl, trivial⟩) ?_
                                    exact ih_2 (u1_ + 1) (by omega) (by omega) N47_ hb0_N47_ (show 0 ≤ (u1_ + 1) by first | assumption | omega) (show (u1_ + 1) ≤ ze N47_ (d_ + 0) 6 by first | assumption | omega) c51_ (show ∃ nm, zNm nm F_ K_ d_ N47_ ∧ zRg (zls b_ n_ F_ K_) (0, (ze Mz 1 2).toNat, nm0_) (0, (ze N47_ 1 2).toNat, nm) by exact ⟨_, ha_, hst_⟩) (by omega)
                                  · skip
                                    refine zw_aload_n (pc := 136) (n := 0) (x := 4) rfl (zdal_p dlA_Reader_readLets_105 (i := 19) rfl) ?_
                                    refine zw_bipush (pc := 137) (v := Int32.ofInt 6) (by decide) (zdal_p dlA_Reader_readLets_105 (i := 20) rfl) ?_
                                    refine zw_iload_n (pc := 139) (n := 3) (x := Int32.ofInt (ze N2_ 1 2)) rfl (zdal_p dlA_Reader_readLets_105 (i := 21) rfl) ?_
                                    refine zk_callV hf_N41_.x (pc := 140) [.int (Int32.ofInt 6), .int (Int32.ofInt (ze N2_ 1 2))] [] l_Reader_33 (u_Reader_refuseAt l d_ N41_ (hf_N41_.w hW) 6 (by decide) (by decide) (ze N2_ 1 2) (ze_r N2_ 1 2).1 (ze_r N2_ 1 2).2) rfl rfl ((hf_N41_.w hW).ka (o := 4) (by decide)) (by decide) (by decide) (Nat.le_of_ble_eq_true rfl) (zdal_p dlA_Reader_readLets_105 (i := 22) rfl) ?_
                                    rintro _ N52_ ⟨v53_, rfl, ⟨hv53_a, hv53_b⟩, hsN52_, hp0_N52_⟩
                                    replace hp0_N52_ : ((v53_ = 0)) := hp0_N52_
                                    have hf_N52_ : zFc d_ [(1, 2), (1, 3), (1, 4), (1, 5), (4, 1), (4, 2), (4, 3)] [] [(0, 6), (33, 2), (33, 3), (33, 4), (33, 5), (33, 6)] [25, 27, 35, 37] Mz N52_ := hf_N41_.tr hsN52_ (by decide) (by decide) (by decide) (by decide)
                                    have eA1_2_N52_ : ze N52_ 1 2 = ze N41_ 1 2 := hsN52_.ea (hf_N41_.w hW) (by decide)
                                    have eA1_3_N52_ : ze N52_ 1 3 = ze N41_ 1 3 := hsN52_.ea (hf_N41_.w hW) (by decide)
                                    have eA1_4_N52_ : ze N52_ 1 4 = ze N41_ 1 4 := hsN52_.ea (hf_N41_.w hW) (by decide)
                                    have eA1_5_N52_ : ze N52_ 1 5 = ze N41_ 1 5 := hsN52_.ea (hf_N41_.w hW) (by decide)
                                    have eD0_6_N52_ : ze N52_ (d_ + 0) 6 = ze N41_ (d_ + 0) 6 := hsN52_.e (by decide)
                                    have eD33_2_N52_ : ze N52_ (d_ + 33) 2 = ze N41_ (d_ + 33) 2 := hsN52_.e (by decide)
                                    have eD33_3_N52_ : ze N52_ (d_ + 33) 3 = ze N41_ (d_ + 33) 3 := hsN52_.e (by decide)
                                    have eD33_4_N52_ : ze N52_ (d_ + 33) 4 = ze N41_ (d_ + 33) 4 := hsN52_.e (by decide)
                                    have eD33_5_N52_ : ze N52_ (d_ + 33) 5 = ze N41_ (d_ + 33) 5 := hsN52_.e (by decide)
                                    have eD33_6_N52_ : ze N52_ (d_ + 33) 6 = ze N41_ (d_ + 33) 6 := hsN52_.e (by decide)
                                    have qzkS_N52_ : zkS d_ N52_ = zkS d_ N41_ := zkS_q hsN52_ (by decide)
                                    have qzkG_N52_ : zkG d_ N52_ = zkG d_ N41_ := zkG_q hsN52_ (by decide)
                                    have qzkW_N52_ : zkW F_ d_ N52_ = zkW F_ d_ N41_ := zkW_q hsN52_ (by decide)
                                    have c54_ : zYb b_ n_ N52_ := zYb.fr (hf_N41_.w hW) hsN52_ c43_ (by decide)
                                    have c55_ : zKm F_ K_ d_ N52_ := zKm.fr (hf_N41_.w hW) hsN52_ c44_ (by decide)
                                    have c56_ : zCI F_ K_ d_ 1 N52_ := zCI.fr (hf_N41_.w hW) hsN52_ c45_ (by decide)
                                    have c57_ : zNm nm_ F_ K_ d_ N52_ := zNm.fr (hf_N41_.w hW) hsN52_ c46_ (by decide)
                                    have c58_ : zYt b_ n_ N52_ := zYt.fr (hf_N41_.w hW) hsN52_ hp0_N41_ (by decide)
                                    rcases hp0_N52_ with rfl
                                    · skip
                                      show zW l m_Reader_readLets (zn Mz + 0, zw Mz + 0) N52_ 143 [some (.ref 4), some (.ref (d_ + 0)), some (.int (Int32.ofInt u1_)), some (.int (Int32.ofInt (ze N2_ 1 2))), some (.int (Int32.ofInt (ze N18_ 1 5)))] [.int (Int32.ofInt 0)] _
                                      exact zk_iret (pc := 143) (ty := .boolean) rfl (z_narB (by omega)) ⟨by omega, by omega⟩ hf_N52_ (show ((0 = 1 ∧ (∃ q nm, zRg (zls b_ n_ F_ K_) (0, (ze Mz 1 2).toNat, nm0_) (1, q, nm))) ∨ (0 = 0 ∧ zRg (zls b_ n_ F_ K_) (0, (ze Mz 1 2).toNat, nm0_) zLf)) from Or.inr (⟨(show 0 = 0 by first | rfl | exact hrt_ | exact hre_.tr (zRg.st (zls_f (F := F_) (K := K_) hl0_ (fun q_ => by have := q_.1; omega))) | exact hre_.tr (zRg.st (zls_ef (F := F_) (K := K_) hl1_ (by omega))) | exact hre_.tr (zRg.st (hsm_.trans (by rcases j3_ with ⟨g_, e_⟩ | ⟨g_, e_⟩; exfalso; omega; rw [e_]; exact zle_b))) | (exfalso; omega)), (show zRg (zls b_ n_ F_ K_) (0, (ze Mz 1 2).toNat, nm0_) zLf by first | rfl | exact hrt_ | exact hre_.tr (zRg.st (zls_f (F := F_) (K := K_) hl0_ (fun q_ => by have := q_.1; omega))) | exact hre_.tr (zRg.st (zls_ef (F := F_) (K := K_) hl1_ (by omega))) | exact hre_.tr (zRg.st (hsm_.trans (by rcases j3_ with ⟨g_, e_⟩ | ⟨g_, e_⟩; exfalso; omega; rw [e_]; exact zle_b))) | (exfalso; omega))⟩)) (zdal_p dlA_Reader_readLets_105 (i := 23) rfl)
                                · skip
                                  exact absurd hc_121 (by decide)
                              · skip
                                have hrt_ := hre_.tr (zRg.st (hsm_.trans (zle_n ha118_0_hp1_N41_)))
                                show zW l m_Reader_readLets (zn Mz + 0, zw Mz + 0) N41_ 121 [some (.ref 4), some (.ref (d_ + 0)), some (.int (Int32.ofInt u1_)), some (.int (Int32.ofInt (ze N2_ 1 2))), some (.int (Int32.ofInt (ze N18_ 1 5)))] [.int (Int32.ofInt 0)] _
                                refine zr_if_ne (pc := 121) (tgt := 126) ⟨(by decide), (by decide)⟩ (by decide) (zdal_p dlA_Reader_readLets_105 (i := 12) rfl) (fun hc_121 => ?_) (fun hc_121 => ?_)
                                · skip
                                  exact absurd hc_121 (by decide)
                                · skip
                                  refine zw_iconst (pc := 124) (v := Int32.ofInt 0) (by decide) (zdal_p dlA_Reader_readLets_105 (i := 13) rfl) ?_
                                  exact zk_iret (pc := 125) (ty := .boolean) rfl (z_narB (by omega)) ⟨by omega, by omega⟩ hf_N41_ (show ((0 = 1 ∧ (∃ q nm, zRg (zls b_ n_ F_ K_) (0, (ze Mz 1 2).toNat, nm0_) (1, q, nm))) ∨ (0 = 0 ∧ zRg (zls b_ n_ F_ K_) (0, (ze Mz 1 2).toNat, nm0_) zLf)) from Or.inr (⟨(show 0 = 0 by first | rfl | exact hrt_ | exact hre_.tr (zRg.st (zls_f (F := F_) (K := K_) hl0_ (fun q_ => by have := q_.1; omega))) | exact hre_.tr (zRg.st (zls_ef (F := F_) (K := K_) hl1_ (by omega))) | exact hre_.tr (zRg.st (hsm_.trans (by rcases j3_ with ⟨g_, e_⟩ | ⟨g_, e_⟩; exfalso; omega; rw [e_]; exact zle_b))) | (exfalso; omega)), (show zRg (zls b_ n_ F_ K_) (0, (ze Mz 1 2).toNat, nm0_) zLf by first | rfl | exact hrt_ | exact hre_.tr (zRg.st (zls_f (F := F_) (K := K_) hl0_ (fun q_ => by have := q_.1; omega))) | exact hre_.tr (zRg.st (zls_ef (F := F_) (K := K_) hl1_ (by omega))) | exact hre_.tr (zRg.st (hsm_.trans (by rcases j3_ with ⟨g_, e_⟩ | ⟨g_, e_⟩; exfalso; omega; rw [e_]; exact zle_b))) | (exfalso; omega))⟩)) (zdal_p dlA_Reader_readLets_105 (i := 14) rfl)
                          · skip
                            have hm0_ := ha109_0_hp1_N37_
                            rw [hx3_] at hm0_
                            have hrt_ := hre_.tr (zRg.st ((zls_g hl0_ hall_ hm0_ zfs_F).trans zle_f))
                            show zW l m_Reader_readLets (zn Mz + 0, zw Mz + 0) N37_ 112 [some (.ref 4), some (.ref (d_ + 0)), some (.int (Int32.ofInt u1_)), some (.int (Int32.ofInt (ze N2_ 1 2))), some (.int (Int32.ofInt (ze N18_ 1 5)))] [.int (Int32.ofInt 0)] _
                            refine zr_if_eq (pc := 112) (tgt := 124) ⟨(by decide), (by decide)⟩ (by decide) (zdal_p dlA_Reader_readLets_105 (i := 8) rfl) (fun hc_112 => ?_) (fun hc_112 => ?_)
                            · skip
                              refine zw_iconst (pc := 124) (v := Int32.ofInt 0) (by decide) (zdal_p dlA_Reader_readLets_105 (i := 13) rfl) ?_
                              exact zk_iret (pc := 125) (ty := .boolean) rfl (z_narB (by omega)) ⟨by omega, by omega⟩ hf_N37_ (show ((0 = 1 ∧ (∃ q nm, zRg (zls b_ n_ F_ K_) (0, (ze Mz 1 2).toNat, nm0_) (1, q, nm))) ∨ (0 = 0 ∧ zRg (zls b_ n_ F_ K_) (0, (ze Mz 1 2).toNat, nm0_) zLf)) from Or.inr (⟨(show 0 = 0 by first | rfl | exact hrt_ | exact hre_.tr (zRg.st (zls_f (F := F_) (K := K_) hl0_ (fun q_ => by have := q_.1; omega))) | exact hre_.tr (zRg.st (zls_ef (F := F_) (K := K_) hl1_ (by omega))) | exact hre_.tr (zRg.st (hsm_.trans (by rcases j3_ with ⟨g_, e_⟩ | ⟨g_, e_⟩; exfalso; omega; rw [e_]; exact zle_b))) | (exfalso; omega)), (show zRg (zls b_ n_ F_ K_) (0, (ze Mz 1 2).toNat, nm0_) zLf by first | rfl | exact hrt_ | exact hre_.tr (zRg.st (zls_f (F := F_) (K := K_) hl0_ (fun q_ => by have := q_.1; omega))) | exact hre_.tr (zRg.st (zls_ef (F := F_) (K := K_) hl1_ (by omega))) | exact hre_.tr (zRg.st (hsm_.trans (by rcases j3_ with ⟨g_, e_⟩ | ⟨g_, e_⟩; exfalso; omega; rw [e_]; exact zle_b))) | (exfalso; omega))⟩)) (zdal_p dlA_Reader_readLets_105 (i := 14) rfl)
                            · skip
                              exact absurd hc_112 (by decide)
                      · skip
                        have hs1_ := ha101_0_hp1_N32_
                        rw [hx2_] at hs1_
                        have hrt_ := hre_.tr (zRg.st (zls_f (F := F_) (K := K_) hl0_ (fun q_ => hs1_ q_.2.2.2)))
                        show zW l m_Reader_readLets (zn Mz + 0, zw Mz + 0) N32_ 104 [some (.ref 4), some (.ref (d_ + 0)), some (.int (Int32.ofInt u1_)), some (.int (Int32.ofInt (ze N2_ 1 2))), some (.int (Int32.ofInt (ze N18_ 1 5)))] [.int (Int32.ofInt 0)] _
                        refine zr_if_eq (pc := 104) (tgt := 124) ⟨(by decide), (by decide)⟩ (by decide) (zdal_p dlA_Reader_readLets_105 (i := 4) rfl) (fun hc_104 => ?_) (fun hc_104 => ?_)
                        · skip
                          refine zw_iconst (pc := 124) (v := Int32.ofInt 0) (by decide) (zdal_p dlA_Reader_readLets_105 (i := 13) rfl) ?_
                          exact zk_iret (pc := 125) (ty := .boolean) rfl (z_narB (by omega)) ⟨by omega, by omega⟩ hf_N32_ (show ((0 = 1 ∧ (∃ q nm, zRg (zls b_ n_ F_ K_) (0, (ze Mz 1 2).toNat, nm0_) (1, q, nm))) ∨ (0 = 0 ∧ zRg (zls b_ n_ F_ K_) (0, (ze Mz 1 2).toNat, nm0_) zLf)) from Or.inr (⟨(show 0 = 0 by first | rfl | exact hrt_ | exact hre_.tr (zRg.st (zls_f (F := F_) (K := K_) hl0_ (fun q_ => by have := q_.1; omega))) | exact hre_.tr (zRg.st (zls_ef (F := F_) (K := K_) hl1_ (by omega))) | exact hre_.tr (zRg.st (hsm_.trans (by rcases j3_ with ⟨g_, e_⟩ | ⟨g_, e_⟩; exfalso; omega; rw [e_]; exact zle_b))) | (exfalso; omega)), (show zRg (zls b_ n_ F_ K_) (0, (ze Mz 1 2).toNat, nm0_) zLf by first | rfl | exact hrt_ | exact hre_.tr (zRg.st (zls_f (F := F_) (K := K_) hl0_ (fun q_ => by have := q_.1; omega))) | exact hre_.tr (zRg.st (zls_ef (F := F_) (K := K_) hl1_ (by omega))) | exact hre_.tr (zRg.st (hsm_.trans (by rcases j3_ with ⟨g_, e_⟩ | ⟨g_, e_⟩; exfalso; omega; rw [e_]; exact zle_b))) | (exfalso; omega))⟩)) (zdal_p dlA_Reader_readLets_105 (i := 14) rfl)
                        · skip
                          exact absurd hc_104 (by decide)
                    · skip
                      exact absurd hc_82 (by decide)
                  · skip
                    have hf1_ := ha78_2_hp0_N25_
                    rw [show (ze N18_ 1 5) = zkey b_ n_ (znx b_ n_ (ze N2_ 1 2).toNat) from hky_] at hf1_
                    have hrt_ := hre_.tr (zRg.st (zls_f (F := F_) (K := K_) hl0_ (fun q_ => by rw [hf1_] at q_; exact absurd q_.2.2.1 (fun z => by cases z))))
                    show zW l m_Reader_readLets (zn Mz + 0, zw Mz + 0) N18_ 81 [some (.ref 4), some (.ref (d_ + 0)), some (.int (Int32.ofInt u1_)), some (.int (Int32.ofInt (ze N2_ 1 2))), some (.int (Int32.ofInt (ze N18_ 1 5)))] [.int (Int32.ofInt v26_)] _
                    refine zw_iconst (pc := 81) (v := Int32.ofInt (-1)) (by decide) (zdal_p dlA_Reader_readLets_104 (i := 16) rfl) ?_
                    refine zr_icmp_eq (pc := 82) (tgt := 91) ⟨hv26_a, hv26_b⟩ ⟨(by decide), (by decide)⟩ (by decide) (zdal_p dlA_Reader_readLets_104 (i := 17) rfl) (fun hc_82 => ?_) (fun hc_82 => ?_)
                    · skip
                      exfalso; omega
                    · skip
                      refine zw_aload_n (pc := 85) (n := 0) (x := 4) rfl (zdal_p dlA_Reader_readLets_104 (i := 18) rfl) ?_
                      refine zw_iconst (pc := 86) (v := Int32.ofInt 3) (by decide) (zdal_p dlA_Reader_readLets_104 (i := 19) rfl) ?_
                      refine zk_callV hf_N18_.x (pc := 87) [.int (Int32.ofInt 3)] [] l_Reader_41 (u_Reader_refuse l d_ N18_ (hf_N18_.w hW) 3 (by decide) (by decide)) rfl rfl ((hf_N18_.w hW).ka (o := 4) (by decide)) (by decide) (by decide) (Nat.le_of_ble_eq_true rfl) (zdal_p dlA_Reader_readLets_104 (i := 20) rfl) ?_
                      rintro _ N59_ ⟨v60_, rfl, ⟨hv60_a, hv60_b⟩, hsN59_, hp0_N59_⟩
                      replace hp0_N59_ : ((v60_ = 0)) := hp0_N59_
                      have hf_N59_ : zFc d_ [(1, 2), (1, 3), (1, 4), (1, 5), (4, 1), (4, 2), (4, 3)] [] [(0, 6), (33, 2), (33, 3), (33, 4), (33, 5), (33, 6)] [25, 27, 35, 37] Mz N59_ := hf_N18_.tr hsN59_ (by decide) (by decide) (by decide) (by decide)
                      have eA1_2_N59_ : ze N59_ 1 2 = ze N18_ 1 2 := hsN59_.ea (hf_N18_.w hW) (by decide)
                      have eA1_3_N59_ : ze N59_ 1 3 = ze N18_ 1 3 := hsN59_.ea (hf_N18_.w hW) (by decide)
                      have eA1_4_N59_ : ze N59_ 1 4 = ze N18_ 1 4 := hsN59_.ea (hf_N18_.w hW) (by decide)
                      have eA1_5_N59_ : ze N59_ 1 5 = ze N18_ 1 5 := hsN59_.ea (hf_N18_.w hW) (by decide)
                      have eD0_6_N59_ : ze N59_ (d_ + 0) 6 = ze N18_ (d_ + 0) 6 := hsN59_.e (by decide)
                      have eD33_2_N59_ : ze N59_ (d_ + 33) 2 = ze N18_ (d_ + 33) 2 := hsN59_.e (by decide)
                      have eD33_3_N59_ : ze N59_ (d_ + 33) 3 = ze N18_ (d_ + 33) 3 := hsN59_.e (by decide)
                      have eD33_4_N59_ : ze N59_ (d_ + 33) 4 = ze N18_ (d_ + 33) 4 := hsN59_.e (by decide)
                      have eD33_5_N59_ : ze N59_ (d_ + 33) 5 = ze N18_ (d_ + 33) 5 := hsN59_.e (by decide)
                      have eD33_6_N59_ : ze N59_ (d_ + 33) 6 = ze N18_ (d_ + 33) 6 := hsN59_.e (by decide)
                      have qzkS_N59_ : zkS d_ N59_ = zkS d_ N18_ := zkS_q hsN59_ (by decide)
                      have qzkG_N59_ : zkG d_ N59_ = zkG d_ N18_ := zkG_q hsN59_ (by decide)
                      have qzkW_N59_ : zkW F_ d_ N59_ = zkW F_ d_ N18_ := zkW_q hsN59_ (by decide)
                      have c61_ : zYb b_ n_ N59_ := zYb.fr (hf_N18_.w hW) hsN59_ c20_ (by decide)
                      have c62_ : zKm F_ K_ d_ N59_ := zKm.fr (hf_N18_.w hW) hsN59_ c21_ (by decide)
                      have c63_ : zNm nm_ F_ K_ d_ N59_ := zNm.fr (hf_N18_.w hW) hsN59_ c22_ (by decide)
                      have c64_ : zYt b_ n_ N59_ := zYt.fr (hf_N18_.w hW) hsN59_ hp1_N18_ (by decide)
                      rcases hp0_N59_ with rfl
                      · skip
                        show zW l m_Reader_readLets (zn Mz + 0, zw Mz + 0) N59_ 90 [some (.ref 4), some (.ref (d_ + 0)), some (.int (Int32.ofInt u1_)), some (.int (Int32.ofInt (ze N2_ 1 2))), some (.int (Int32.ofInt (ze N18_ 1 5)))] [.int (Int32.ofInt 0)] _
                        exact zk_iret (pc := 90) (ty := .boolean) rfl (z_narB (by omega)) ⟨by omega, by omega⟩ hf_N59_ (show ((0 = 1 ∧ (∃ q nm, zRg (zls b_ n_ F_ K_) (0, (ze Mz 1 2).toNat, nm0_) (1, q, nm))) ∨ (0 = 0 ∧ zRg (zls b_ n_ F_ K_) (0, (ze Mz 1 2).toNat, nm0_) zLf)) from Or.inr (⟨(show 0 = 0 by first | rfl | exact hrt_ | exact hre_.tr (zRg.st (zls_f (F := F_) (K := K_) hl0_ (fun q_ => by have := q_.1; omega))) | exact hre_.tr (zRg.st (zls_ef (F := F_) (K := K_) hl1_ (by omega))) | exact hre_.tr (zRg.st (hsm_.trans (by rcases j3_ with ⟨g_, e_⟩ | ⟨g_, e_⟩; exfalso; omega; rw [e_]; exact zle_b))) | (exfalso; omega)), (show zRg (zls b_ n_ F_ K_) (0, (ze Mz 1 2).toNat, nm0_) zLf by first | rfl | exact hrt_ | exact hre_.tr (zRg.st (zls_f (F := F_) (K := K_) hl0_ (fun q_ => by have := q_.1; omega))) | exact hre_.tr (zRg.st (zls_ef (F := F_) (K := K_) hl1_ (by omega))) | exact hre_.tr (zRg.st (hsm_.trans (by rcases j3_ with ⟨g_, e_⟩ | ⟨g_, e_⟩; exfalso; omega; rw [e_]; exact zle_b))) | (exfalso; omega))⟩)) (zdal_p dlA_Reader_readLets_104 (i := 21) rfl)
                · skip
                  exact absurd hc_57 (by decide)
              · skip
                have hn1_ := ha54_0_hp0_N23_
                rw [hx1_] at hn1_
                have hrt_ := hre_.tr (zRg.st (zls_f (F := F_) (K := K_) hl0_ (fun q_ => hn1_ q_.2.1)))
                show zW l m_Reader_readLets (zn Mz + 0, zw Mz + 0) N18_ 57 [some (.ref 4), some (.ref (d_ + 0)), some (.int (Int32.ofInt u1_)), some (.int (Int32.ofInt (ze N2_ 1 2))), none] [.int (Int32.ofInt 0)] _
                refine zr_if_ne (pc := 57) (tgt := 66) ⟨(by decide), (by decide)⟩ (by decide) (zdal_p dlA_Reader_readLets_104 (i := 4) rfl) (fun hc_57 => ?_) (fun hc_57 => ?_)
                · skip
                  exact absurd hc_57 (by decide)
                · skip
                  refine zw_aload_n (pc := 60) (n := 0) (x := 4) rfl (zdal_p dlA_Reader_readLets_104 (i := 5) rfl) ?_
                  refine zw_iconst (pc := 61) (v := Int32.ofInt 2) (by decide) (zdal_p dlA_Reader_readLets_104 (i := 6) rfl) ?_
                  refine zk_callV hf_N18_.x (pc := 62) [.int (Int32.ofInt 2)] [] l_Reader_41 (u_Reader_refuse l d_ N18_ (hf_N18_.w hW) 2 (by decide) (by decide)) rfl rfl ((hf_N18_.w hW).ka (o := 4) (by decide)) (by decide) (by decide) (Nat.le_of_ble_eq_true rfl) (zdal_p dlA_Reader_readLets_104 (i := 7) rfl) ?_
                  rintro _ N65_ ⟨v66_, rfl, ⟨hv66_a, hv66_b⟩, hsN65_, hp0_N65_⟩
                  replace hp0_N65_ : ((v66_ = 0)) := hp0_N65_
                  have hf_N65_ : zFc d_ [(1, 2), (1, 3), (1, 4), (1, 5), (4, 1), (4, 2), (4, 3)] [] [(0, 6), (33, 2), (33, 3), (33, 4), (33, 5), (33, 6)] [25, 27, 35, 37] Mz N65_ := hf_N18_.tr hsN65_ (by decide) (by decide) (by decide) (by decide)
                  have eA1_2_N65_ : ze N65_ 1 2 = ze N18_ 1 2 := hsN65_.ea (hf_N18_.w hW) (by decide)
                  have eA1_3_N65_ : ze N65_ 1 3 = ze N18_ 1 3 := hsN65_.ea (hf_N18_.w hW) (by decide)
                  have eA1_4_N65_ : ze N65_ 1 4 = ze N18_ 1 4 := hsN65_.ea (hf_N18_.w hW) (by decide)
                  have eA1_5_N65_ : ze N65_ 1 5 = ze N18_ 1 5 := hsN65_.ea (hf_N18_.w hW) (by decide)
                  have eD0_6_N65_ : ze N65_ (d_ + 0) 6 = ze N18_ (d_ + 0) 6 := hsN65_.e (by decide)
                  have eD33_2_N65_ : ze N65_ (d_ + 33) 2 = ze N18_ (d_ + 33) 2 := hsN65_.e (by decide)
                  have eD33_3_N65_ : ze N65_ (d_ + 33) 3 = ze N18_ (d_ + 33) 3 := hsN65_.e (by decide)
                  have eD33_4_N65_ : ze N65_ (d_ + 33) 4 = ze N18_ (d_ + 33) 4 := hsN65_.e (by decide)
                  have eD33_5_N65_ : ze N65_ (d_ + 33) 5 = ze N18_ (d_ + 33) 5 := hsN65_.e (by decide)
                  have eD33_6_N65_ : ze N65_ (d_ + 33) 6 = ze N18_ (d_ + 33) 6 := hsN65_.e (by decide)
                  have qzkS_N65_ : zkS d_ N65_ = zkS d_ N18_ := zkS_q hsN65_ (by decide)
                  have qzkG_N65_ : zkG d_ N65_ = zkG d_ N18_ := zkG_q hsN65_ (by decide)
                  have qzkW_N65_ : zkW F_ d_ N65_ = zkW F_ d_ N18_ := zkW_q hsN65_ (by decide)
                  have c67_ : zYb b_ n_ N65_ := zYb.fr (hf_N18_.w hW) hsN65_ c20_ (by decide)
                  have c68_ : zKm F_ K_ d_ N65_ := zKm.fr (hf_N18_.w hW) hsN65_ c21_ (by decide)
                  have c69_ : zNm nm_ F_ K_ d_ N65_ := zNm.fr (hf_N18_.w hW) hsN65_ c22_ (by decide)
                  have c70_ : zYt b_ n_ N65_ := zYt.fr (hf_N18_.w hW) hsN65_ hp1_N18_ (by decide)
                  rcases hp0_N65_ with rfl
                  · skip
                    show zW l m_Reader_readLets (zn Mz + 0, zw Mz + 0) N65_ 65 [some (.ref 4), some (.ref (d_ + 0)), some (.int (Int32.ofInt u1_)), some (.int (Int32.ofInt (ze N2_ 1 2))), none] [.int (Int32.ofInt 0)] _
                    exact zk_iret (pc := 65) (ty := .boolean) rfl (z_narB (by omega)) ⟨by omega, by omega⟩ hf_N65_ (show ((0 = 1 ∧ (∃ q nm, zRg (zls b_ n_ F_ K_) (0, (ze Mz 1 2).toNat, nm0_) (1, q, nm))) ∨ (0 = 0 ∧ zRg (zls b_ n_ F_ K_) (0, (ze Mz 1 2).toNat, nm0_) zLf)) from Or.inr (⟨(show 0 = 0 by first | rfl | exact hrt_ | exact hre_.tr (zRg.st (zls_f (F := F_) (K := K_) hl0_ (fun q_ => by have := q_.1; omega))) | exact hre_.tr (zRg.st (zls_ef (F := F_) (K := K_) hl1_ (by omega))) | exact hre_.tr (zRg.st (hsm_.trans (by rcases j3_ with ⟨g_, e_⟩ | ⟨g_, e_⟩; exfalso; omega; rw [e_]; exact zle_b))) | (exfalso; omega)), (show zRg (zls b_ n_ F_ K_) (0, (ze Mz 1 2).toNat, nm0_) zLf by first | rfl | exact hrt_ | exact hre_.tr (zRg.st (zls_f (F := F_) (K := K_) hl0_ (fun q_ => by have := q_.1; omega))) | exact hre_.tr (zRg.st (zls_ef (F := F_) (K := K_) hl1_ (by omega))) | exact hre_.tr (zRg.st (hsm_.trans (by rcases j3_ with ⟨g_, e_⟩ | ⟨g_, e_⟩; exfalso; omega; rw [e_]; exact zle_b))) | (exfalso; omega))⟩)) (zdal_p dlA_Reader_readLets_104 (i := 8) rfl)
            · skip
              refine zw_aload_n (pc := 37) (n := 0) (x := 4) rfl (zdal_p dlA_Reader_readLets_103 (i := 18) rfl) ?_
              refine zw_iconst (pc := 38) (v := Int32.ofInt 5) (by decide) (zdal_p dlA_Reader_readLets_103 (i := 19) rfl) ?_
              refine zk_callV hf_N2_.x (pc := 39) [.int (Int32.ofInt 5)] [] l_Reader_41 (u_Reader_refuse l d_ N2_ (hf_N2_.w hW) 5 (by decide) (by decide)) rfl rfl ((hf_N2_.w hW).ka (o := 4) (by decide)) (by decide) (by decide) (Nat.le_of_ble_eq_true rfl) (zdal_p dlA_Reader_readLets_103 (i := 20) rfl) ?_
              rintro _ N71_ ⟨v72_, rfl, ⟨hv72_a, hv72_b⟩, hsN71_, hp0_N71_⟩
              replace hp0_N71_ : ((v72_ = 0)) := hp0_N71_
              have hf_N71_ : zFc d_ [(1, 2), (1, 3), (1, 4), (1, 5), (4, 1), (4, 2), (4, 3)] [] [(0, 6), (33, 2), (33, 3), (33, 4), (33, 5), (33, 6)] [25, 27, 35, 37] Mz N71_ := hf_N2_.tr hsN71_ (by decide) (by decide) (by decide) (by decide)
              have eA1_2_N71_ : ze N71_ 1 2 = ze N2_ 1 2 := hsN71_.ea (hf_N2_.w hW) (by decide)
              have eA1_3_N71_ : ze N71_ 1 3 = ze N2_ 1 3 := hsN71_.ea (hf_N2_.w hW) (by decide)
              have eA1_4_N71_ : ze N71_ 1 4 = ze N2_ 1 4 := hsN71_.ea (hf_N2_.w hW) (by decide)
              have eA1_5_N71_ : ze N71_ 1 5 = ze N2_ 1 5 := hsN71_.ea (hf_N2_.w hW) (by decide)
              have eD0_6_N71_ : ze N71_ (d_ + 0) 6 = ze N2_ (d_ + 0) 6 := hsN71_.e (by decide)
              have eD33_2_N71_ : ze N71_ (d_ + 33) 2 = ze N2_ (d_ + 33) 2 := hsN71_.e (by decide)
              have eD33_3_N71_ : ze N71_ (d_ + 33) 3 = ze N2_ (d_ + 33) 3 := hsN71_.e (by decide)
              have eD33_4_N71_ : ze N71_ (d_ + 33) 4 = ze N2_ (d_ + 33) 4 := hsN71_.e (by decide)
              have eD33_5_N71_ : ze N71_ (d_ + 33) 5 = ze N2_ (d_ + 33) 5 := hsN71_.e (by decide)
              have eD33_6_N71_ : ze N71_ (d_ + 33) 6 = ze N2_ (d_ + 33) 6 := hsN71_.e (by decide)
              have qzkS_N71_ : zkS d_ N71_ = zkS d_ N2_ := zkS_q hsN71_ (by decide)
              have qzkG_N71_ : zkG d_ N71_ = zkG d_ N2_ := zkG_q hsN71_ (by decide)
              have qzkW_N71_ : zkW F_ d_ N71_ = zkW F_ d_ N2_ := zkW_q hsN71_ (by decide)
              have c73_ : zYb b_ n_ N71_ := zYb.fr (hf_N2_.w hW) hsN71_ c8_ (by decide)
              have c74_ : zKm F_ K_ d_ N71_ := zKm.fr (hf_N2_.w hW) hsN71_ c9_ (by decide)
              have c75_ : zYt b_ n_ N71_ := zYt.fr (hf_N2_.w hW) hsN71_ i6_ (by decide)
              have c76_ : zNm nm_ F_ K_ d_ N71_ := zNm.fr (hf_N2_.w hW) hsN71_ hnm_ (by decide)
              rcases hp0_N71_ with rfl
              · skip
                show zW l m_Reader_readLets (zn Mz + 0, zw Mz + 0) N71_ 42 [some (.ref 4), some (.ref (d_ + 0)), some (.int (Int32.ofInt u1_)), some (.int (Int32.ofInt (ze N2_ 1 2))), none] [.int (Int32.ofInt 0)] _
                exact zk_iret (pc := 42) (ty := .boolean) rfl (z_narB (by omega)) ⟨by omega, by omega⟩ hf_N71_ (show ((0 = 1 ∧ (∃ q nm, zRg (zls b_ n_ F_ K_) (0, (ze Mz 1 2).toNat, nm0_) (1, q, nm))) ∨ (0 = 0 ∧ zRg (zls b_ n_ F_ K_) (0, (ze Mz 1 2).toNat, nm0_) zLf)) from Or.inr (⟨(show 0 = 0 by first | rfl | exact hrt_ | exact hre_.tr (zRg.st (zls_f (F := F_) (K := K_) hl0_ (fun q_ => by have := q_.1; omega))) | exact hre_.tr (zRg.st (zls_ef (F := F_) (K := K_) hl1_ (by omega))) | exact hre_.tr (zRg.st (hsm_.trans (by rcases j3_ with ⟨g_, e_⟩ | ⟨g_, e_⟩; exfalso; omega; rw [e_]; exact zle_b))) | (exfalso; omega)), (show zRg (zls b_ n_ F_ K_) (0, (ze Mz 1 2).toNat, nm0_) zLf by first | rfl | exact hrt_ | exact hre_.tr (zRg.st (zls_f (F := F_) (K := K_) hl0_ (fun q_ => by have := q_.1; omega))) | exact hre_.tr (zRg.st (zls_ef (F := F_) (K := K_) hl1_ (by omega))) | exact hre_.tr (zRg.st (hsm_.trans (by rcases j3_ with ⟨g_, e_⟩ | ⟨g_, e_⟩; exfalso; omega; rw [e_]; exact zle_b))) | (exfalso; omega))⟩)) (zdal_p dlA_Reader_readLets_103 (i := 21) rfl)
        · skip
          have hl1_ := ha14_0_hp0_N16_
          show zW l m_Reader_readLets (zn Mz + 0, zw Mz + 0) N2_ 17 [some (.ref 4), some (.ref (d_ + 0)), some (.int (Int32.ofInt u1_)), none, none] [.int (Int32.ofInt 0)] _
          refine zr_if_eq (pc := 17) (tgt := 156) ⟨(by decide), (by decide)⟩ (by decide) (zdal_p dlA_Reader_readLets_103 (i := 9) rfl) (fun hc_17 => ?_) (fun hc_17 => ?_)
          · skip
            first | (have ht4_ : ze N2_ 1 4 = zkd b_ n_ (ze N2_ 1 2).toNat := i6_.2.2.1) | skip
            refine zw_aload_n (pc := 156) (n := 0) (x := 4) rfl (zdal_p dlA_Reader_readLets_106 (i := 5) rfl) ?_
            refine zw_getF (pc := 157) f_Reader_15 rfl ((hf_N2_.w hW).ka (o := 4) (by decide)) ((hf_N2_.w hW).la (o := 4) (s := 0) (r := 1) (by decide)) (zdal_p dlA_Reader_readLets_106 (i := 6) rfl) ?_
            refine zk_getI (pc := 160) f_Reader_27 rfl ((hf_N2_.w hW).ka (o := 1) (by decide)) (zdal_p dlA_Reader_readLets_106 (i := 7) rfl) ?_
            refine zr_if_eq (pc := 163) (tgt := 174) ⟨(ze_r N2_ 1 4).1, (ze_r N2_ 1 4).2⟩ (by decide) (zdal_p dlA_Reader_readLets_106 (i := 8) rfl) (fun hc_163 => ?_) (fun hc_163 => ?_)
            · skip
              refine zw_iconst (pc := 174) (v := Int32.ofInt 1) (by decide) (zdal_p dlA_Reader_readLets_106 (i := 13) rfl) ?_
              refine zw_goto (pc := 175) (tgt := 179) (by decide) (zdal_p dlA_Reader_readLets_106 (i := 14) rfl) ?_
              exact zk_iret (pc := 179) (ty := .boolean) rfl (z_narB (by omega)) ⟨by omega, by omega⟩ hf_N2_ (show ((1 = 1 ∧ (∃ q nm, zRg (zls b_ n_ F_ K_) (0, (ze Mz 1 2).toNat, nm0_) (1, q, nm))) ∨ (1 = 0 ∧ zRg (zls b_ n_ F_ K_) (0, (ze Mz 1 2).toNat, nm0_) zLf)) from Or.inl (⟨(show 1 = 1 by first | rfl | exact ⟨_, _, hre_.tr (zRg.st (zls_e hl1_ (by omega)))⟩ | (exfalso; omega)), (show (∃ q nm, zRg (zls b_ n_ F_ K_) (0, (ze Mz 1 2).toNat, nm0_) (1, q, nm)) by first | rfl | exact ⟨_, _, hre_.tr (zRg.st (zls_e hl1_ (by omega)))⟩ | (exfalso; omega))⟩)) (zdal_p dlA_Reader_readLets_106 (i := 16) rfl)
            · skip
              refine zw_aload_n (pc := 166) (n := 0) (x := 4) rfl (zdal_p dlA_Reader_readLets_106 (i := 9) rfl) ?_
              refine zw_iconst (pc := 167) (v := Int32.ofInt 2) (by decide) (zdal_p dlA_Reader_readLets_106 (i := 10) rfl) ?_
              refine zk_callV hf_N2_.x (pc := 168) [.int (Int32.ofInt 2)] [] l_Reader_41 (u_Reader_refuse l d_ N2_ (hf_N2_.w hW) 2 (by decide) (by decide)) rfl rfl ((hf_N2_.w hW).ka (o := 4) (by decide)) (by decide) (by decide) (Nat.le_of_ble_eq_true rfl) (zdal_p dlA_Reader_readLets_106 (i := 11) rfl) ?_
              rintro _ N77_ ⟨v78_, rfl, ⟨hv78_a, hv78_b⟩, hsN77_, hp0_N77_⟩
              replace hp0_N77_ : ((v78_ = 0)) := hp0_N77_
              have hf_N77_ : zFc d_ [(1, 2), (1, 3), (1, 4), (1, 5), (4, 1), (4, 2), (4, 3)] [] [(0, 6), (33, 2), (33, 3), (33, 4), (33, 5), (33, 6)] [25, 27, 35, 37] Mz N77_ := hf_N2_.tr hsN77_ (by decide) (by decide) (by decide) (by decide)
              have eA1_2_N77_ : ze N77_ 1 2 = ze N2_ 1 2 := hsN77_.ea (hf_N2_.w hW) (by decide)
              have eA1_3_N77_ : ze N77_ 1 3 = ze N2_ 1 3 := hsN77_.ea (hf_N2_.w hW) (by decide)
              have eA1_4_N77_ : ze N77_ 1 4 = ze N2_ 1 4 := hsN77_.ea (hf_N2_.w hW) (by decide)
              have eA1_5_N77_ : ze N77_ 1 5 = ze N2_ 1 5 := hsN77_.ea (hf_N2_.w hW) (by decide)
              have eD0_6_N77_ : ze N77_ (d_ + 0) 6 = ze N2_ (d_ + 0) 6 := hsN77_.e (by decide)
              have eD33_2_N77_ : ze N77_ (d_ + 33) 2 = ze N2_ (d_ + 33) 2 := hsN77_.e (by decide)
              have eD33_3_N77_ : ze N77_ (d_ + 33) 3 = ze N2_ (d_ + 33) 3 := hsN77_.e (by decide)
              have eD33_4_N77_ : ze N77_ (d_ + 33) 4 = ze N2_ (d_ + 33) 4 := hsN77_.e (by decide)
              have eD33_5_N77_ : ze N77_ (d_ + 33) 5 = ze N2_ (d_ + 33) 5 := hsN77_.e (by decide)
              have eD33_6_N77_ : ze N77_ (d_ + 33) 6 = ze N2_ (d_ + 33) 6 := hsN77_.e (by decide)
              have qzkS_N77_ : zkS d_ N77_ = zkS d_ N2_ := zkS_q hsN77_ (by decide)
              have qzkG_N77_ : zkG d_ N77_ = zkG d_ N2_ := zkG_q hsN77_ (by decide)
              have qzkW_N77_ : zkW F_ d_ N77_ = zkW F_ d_ N2_ := zkW_q hsN77_ (by decide)
              have c79_ : zYb b_ n_ N77_ := zYb.fr (hf_N2_.w hW) hsN77_ c8_ (by decide)
              have c80_ : zKm F_ K_ d_ N77_ := zKm.fr (hf_N2_.w hW) hsN77_ c9_ (by decide)
              have c81_ : zYt b_ n_ N77_ := zYt.fr (hf_N2_.w hW) hsN77_ i6_ (by decide)
              have c82_ : zNm nm_ F_ K_ d_ N77_ := zNm.fr (hf_N2_.w hW) hsN77_ hnm_ (by decide)
              rcases hp0_N77_ with rfl
              · skip
                show zW l m_Reader_readLets (zn Mz + 0, zw Mz + 0) N77_ 171 [some (.ref 4), some (.ref (d_ + 0)), some (.int (Int32.ofInt u1_)), none, none] [.int (Int32.ofInt 0)] _
                refine zr_if_eq (pc := 171) (tgt := 178) ⟨(by decide), (by decide)⟩ (by decide) (zdal_p dlA_Reader_readLets_106 (i := 12) rfl) (fun hc_171 => ?_) (fun hc_171 => ?_)
                · skip
                  refine zw_iconst (pc := 178) (v := Int32.ofInt 0) (by decide) (zdal_p dlA_Reader_readLets_106 (i := 15) rfl) ?_
                  exact zk_iret (pc := 179) (ty := .boolean) rfl (z_narB (by omega)) ⟨by omega, by omega⟩ hf_N77_ (show ((0 = 1 ∧ (∃ q nm, zRg (zls b_ n_ F_ K_) (0, (ze Mz 1 2).toNat, nm0_) (1, q, nm))) ∨ (0 = 0 ∧ zRg (zls b_ n_ F_ K_) (0, (ze Mz 1 2).toNat, nm0_) zLf)) from Or.inr (⟨(show 0 = 0 by first | rfl | exact hrt_ | exact hre_.tr (zRg.st (zls_f (F := F_) (K := K_) hl0_ (fun q_ => by have := q_.1; omega))) | exact hre_.tr (zRg.st (zls_ef (F := F_) (K := K_) hl1_ (by omega))) | exact hre_.tr (zRg.st (hsm_.trans (by rcases j3_ with ⟨g_, e_⟩ | ⟨g_, e_⟩; exfalso; omega; rw [e_]; exact zle_b))) | (exfalso; omega)), (show zRg (zls b_ n_ F_ K_) (0, (ze Mz 1 2).toNat, nm0_) zLf by first | rfl | exact hrt_ | exact hre_.tr (zRg.st (zls_f (F := F_) (K := K_) hl0_ (fun q_ => by have := q_.1; omega))) | exact hre_.tr (zRg.st (zls_ef (F := F_) (K := K_) hl1_ (by omega))) | exact hre_.tr (zRg.st (hsm_.trans (by rcases j3_ with ⟨g_, e_⟩ | ⟨g_, e_⟩; exfalso; omega; rw [e_]; exact zle_b))) | (exfalso; omega))⟩)) (zdal_p dlA_Reader_readLets_106 (i := 16) rfl)
                · skip
                  exact absurd hc_171 (by decide)
          · skip
            exact absurd hc_17 (by decide)
  exact lp_2 _ 0 (by decide) (by decide) Mz zFc.rf (show 0 ≤ (0 : Int) by first | assumption | omega) (show (0 : Int) ≤ ze Mz (d_ + 0) 6 by first | assumption | omega) p1_ (show ∃ nm, zNm nm F_ K_ d_ Mz ∧ zRg (zls b_ n_ F_ K_) (0, (ze Mz 1 2).toNat, nm0_) (0, (ze Mz 1 2).toNat, nm) by exact ⟨nm0_, p3_, zRg.rf⟩) (Nat.lt_succ_self _)
