set_option maxHeartbeats 4000000 in
theorem u_Troupe_addName (l : Launch) (d_ : Nat) (Mz : zMem) (hW : zKW d_ Mz) (a0_ : Int) (ha0_a : -2147483648 ≤ a0_) (ha0_b : a0_ < 2147483648) (F_ : Nat) (K_ : Nat → Nat → Int) (hA_ : zTA F_ K_) (nm_ : List (Int × (Nat → Int))) (p0_ : zKm F_ K_ d_ Mz) (p1_ : zNm nm_ F_ K_ d_ Mz) (p2_ : ze Mz (d_ + 0) 6 ≤ 7) (p3_ : zfit F_ K_ (zvc F_ d_ Mz 21)) : zC l m_Troupe_addName 0 0 [.ref (d_ + 0), .int (Int32.ofInt a0_)] Mz (zqcV d_ [] [] [(0, 6)] [25, 37] Mz (fun N => zNm (nm_ ++ [(a0_, zvc F_ d_ Mz 21)]) F_ K_ d_ N ∧ ze N (d_ + 0) 6 = ze Mz (d_ + 0) 6 + 1 ∧ zS0 d_ Mz N)) := by
  refine zC_of (L0 := [some (.ref (d_ + 0)), some (.int (Int32.ofInt a0_))]) md_Troupe_addName (Nat.le_of_ble_eq_true rfl) rfl ?_ zQ0
  have hf : zFc d_ [] [] [(0, 6)] [25, 37] Mz Mz := zFc.rf
  have r_D0_6 := ze_r Mz (d_ + 0) 6
  obtain ⟨⟨hF1_, hF27_⟩, hAr_⟩ := id hA_
  obtain ⟨w1_, w2_, w3_⟩ := id p1_
  have dv0 : zS0 d_ Mz Mz := zS0.rf
  refine zw_aload_n (pc := 0) (n := 0) (x := (d_ + 0)) rfl d_Troupe_addName_0 ?_
  refine zk_getI (pc := 1) f_Troupe_64 rfl ((hf.w hW).kr (o := 0) (by decide)) d_Troupe_addName_1 ?_
  refine zw_bipush (pc := 4) (v := Int32.ofInt 8) (by decide) d_Troupe_addName_4 ?_
  refine zr_icmp_ge (pc := 6) (tgt := 46) ⟨(ze_r Mz (d_ + 0) 6).1, (ze_r Mz (d_ + 0) 6).2⟩ ⟨(by decide), (by decide)⟩ (by decide) d_Troupe_addName_6 (fun hc_6 => ?_) (fun hc_6 => ?_)
  · skip
    exact zk_vret (pc := 46) rfl hf ⟨(show zNm (nm_ ++ [(a0_, zvc F_ d_ Mz 21)]) F_ K_ d_ Mz by first | exact hfin_ | (exfalso; omega)), (show ze Mz (d_ + 0) 6 = ze Mz (d_ + 0) 6 + 1 by first | assumption | omega), (show zS0 d_ Mz Mz by exact dv0)⟩ d_Troupe_addName_46
  · skip
    refine zw_aload_n (pc := 9) (n := 0) (x := (d_ + 0)) rfl d_Troupe_addName_9 ?_
    refine zw_getF (pc := 10) f_Troupe_57 rfl ((hf.w hW).kr (o := 0) (by decide)) ((hf.w hW).lr (o := 0) (s := 5) (r := 36) (by decide)) d_Troupe_addName_10 ?_
    refine zw_aload_n (pc := 13) (n := 0) (x := (d_ + 0)) rfl d_Troupe_addName_13 ?_
    refine zk_getI (pc := 14) f_Troupe_64 rfl ((hf.w hW).kr (o := 0) (by decide)) d_Troupe_addName_14 ?_
    refine zw_iload_n (pc := 17) (n := 1) (x := Int32.ofInt a0_) rfl d_Troupe_addName_17 ?_
    refine zk_st hf.x (pc := 18) (o := 37) (by decide) l_Troupe_89 ((hf.w hW).kr (o := 36) (by decide)) ((hf.w hW).lr (o := 36) (s := 0) (r := 37) (by decide)) ((hf.w hW).rr (o := 37) (t := 1) (n := 8) (by decide)) (by decide) (by omega) (by omega) (by decide) (Nat.le_of_ble_eq_true rfl) d_Troupe_addName_18 (fun N1_ hN1_ hsN1_ => ?_)
    have hf_N1_ : zFc d_ [] [] [(0, 6)] [25, 37] Mz N1_ := hf.tr hsN1_ (by decide) (by decide) (by decide) (by decide)
    have eD0_6_N1_ : ze N1_ (d_ + 0) 6 = ze Mz (d_ + 0) 6 := hsN1_.e (by decide)
    have c2_ : zKm F_ K_ d_ N1_ := zKm.fr (hf.w hW) hsN1_ p0_ (by decide)
    have c3_ : zS0 d_ Mz N1_ := zS0.fr (hf.w hW) hsN1_ dv0 (by decide)
    have hg_ := zs_get hN1_ ⟨by omega, by omega⟩
    have ho_ := fun (i : Nat) (hi : (i : Int) < ze Mz (d_ + 0) 6) => zs_oth hN1_ (j := i) (by omega)
    refine zw_aload_n (pc := 21) (n := 0) (x := (d_ + 0)) rfl d_Troupe_addName_21 ?_
    refine zw_getF (pc := 22) f_Troupe_32 rfl ((hf_N1_.w hW).kr (o := 0) (by decide)) ((hf_N1_.w hW).lr (o := 0) (s := 2) (r := 23) (by decide)) d_Troupe_addName_22 ?_
    refine zw_bipush (pc := 25) (v := Int32.ofInt 21) (by decide) d_Troupe_addName_25 ?_
    refine zw_iconst (pc := 27) (v := Int32.ofInt 1) (by decide) d_Troupe_addName_27 ?_
    refine zw_aload_n (pc := 28) (n := 0) (x := (d_ + 0)) rfl d_Troupe_addName_28 ?_
    refine zk_getI (pc := 29) f_Troupe_64 rfl ((hf_N1_.w hW).kr (o := 0) (by decide)) d_Troupe_addName_29 ?_
    refine zr_iadd (pc := 32) d_Troupe_addName_32 ?_
    have hz0c_ := c3_
    refine zk_callV hf_N1_.x (pc := 33) [.int (Int32.ofInt 21), .int (Int32.ofInt (1 + (ze N1_ (d_ + 0) 6)))] [] l_Troupe_93 (u_Sums_copy l d_ N1_ (hf_N1_.w hW) 21 (by decide) (by decide) (1 + (ze N1_ (d_ + 0) 6)) (by omega) (by omega) F_ K_ hA_ c2_ (show 0 ≤ 21 by first | assumption | omega) (show 21 ≤ 39 by first | assumption | omega) (show 0 ≤ (1 + (ze N1_ (d_ + 0) 6)) by first | assumption | omega) (show (1 + (ze N1_ (d_ + 0) 6)) ≤ 39 by first | assumption | omega)) rfl rfl ((hf_N1_.w hW).kr (o := 23) (by decide)) (by decide) (by decide) (Nat.le_of_ble_eq_true rfl) d_Troupe_addName_33 ?_
    rintro _ N4_ ⟨rfl, hsN4_, hp0_N4_⟩
    replace hp0_N4_ : zSh F_ d_ N1_ N4_ (1 + (ze N1_ (d_ + 0) 6)) (zvc F_ d_ N1_ 21) := hp0_N4_
    have hf_N4_ : zFc d_ [] [] [(0, 6)] [25, 37] Mz N4_ := hf_N1_.tr hsN4_ (by decide) (by decide) (by decide) (by decide)
    have eD0_6_N4_ : ze N4_ (d_ + 0) 6 = ze N1_ (d_ + 0) 6 := hsN4_.e (by decide)
    have c6_ : zKm F_ K_ d_ N4_ := zKm.fr (hf_N1_.w hW) hsN4_ c2_ (by decide)
    show zW l m_Troupe_addName (zn Mz + 0, zw Mz + 0) N4_ 36 [some (.ref (d_ + 0)), some (.int (Int32.ofInt a0_))] [] (zqcV d_ [] [] [(0, 6)] [25, 37] Mz (fun N => zNm (nm_ ++ [(a0_, zvc F_ d_ Mz 21)]) F_ K_ d_ N ∧ ze N (d_ + 0) 6 = ze Mz (d_ + 0) 6 + 1 ∧ zS0 d_ Mz N))
    have hc_ := hp0_N4_
    rw [zvc_f (F := F_) hsN1_ (by decide) 21] at hc_
    have hcv_ := (zSh_n (F := F_) (by omega) hc_).trans (zvc_i _)
    have hco_ := fun (k : Nat) (hk : (k : Int) < ze Mz (d_ + 0) 6) => (zSh_o (t := 1 + k) hF27_ (by omega) (by omega) (by omega) hc_).trans (zvc_f hsN1_ (by decide) _)
    have hg2_ := (hsN4_.r (by decide) _).trans hg_
    have ho2_ := fun (i : Nat) (hi : (i : Int) < ze Mz (d_ + 0) 6) => (hsN4_.r (by decide) i).trans (ho_ i hi)
    have hz0d_ := hz0c_.tr (zS0.sh hp0_N4_ (by omega))
    refine zw_aload_n (pc := 36) (n := 0) (x := (d_ + 0)) rfl d_Troupe_addName_36 ?_
    refine zw_dup (pc := 37) rfl d_Troupe_addName_37 ?_
    refine zk_getI (pc := 38) f_Troupe_64 rfl ((hf_N4_.w hW).kr (o := 0) (by decide)) d_Troupe_addName_38 ?_
    refine zw_iconst (pc := 41) (v := Int32.ofInt 1) (by decide) d_Troupe_addName_41 ?_
    refine zr_iadd (pc := 42) d_Troupe_addName_42 ?_
    refine zk_putR (pc := 43) (o := 0) (by decide) f_Troupe_64 rfl rfl ((hf_N4_.w hW).kr (o := 0) (by decide)) ⟨by omega, by omega⟩ rfl rfl d_Troupe_addName_43 (fun N7_ hsN7_ hvN7_ => ?_)
    have hf_N7_ : zFc d_ [] [] [(0, 6)] [25, 37] Mz N7_ := hf_N4_.tr hsN7_ (by decide) (by decide) (by decide) (by decide)
    have rD0_6_N7_ := ze_r N7_ (d_ + 0) 6
    have c8_ : zKm F_ K_ d_ N7_ := zKm.fr (hf_N4_.w hW) hsN7_ c6_ (by decide)
    have c9_ : zS0 d_ Mz N7_ := zS0.fr (hf_N4_.w hW) hsN7_ hz0d_ (by decide)
    have hfin_ := p1_.u (Nz := N7_) (w := a0_) (by omega) (by omega) ((hsN7_.r (by decide) _).trans hg2_) (fun k hk => (hsN7_.r (by decide) k).trans (ho2_ k hk)) ((zvc_f hsN7_ (by decide) _).trans (by rw [show (1 : Int) + ze Mz (d_ + 0) 6 = 1 + ze N1_ (d_ + 0) 6 by omega]; exact hcv_)) (fun k hk => (zvc_f hsN7_ (by decide) _).trans (hco_ k hk)) p3_
    exact zk_vret (pc := 46) rfl hf_N7_ ⟨(show zNm (nm_ ++ [(a0_, zvc F_ d_ Mz 21)]) F_ K_ d_ N7_ by first | exact hfin_ | (exfalso; omega)), (show ze N7_ (d_ + 0) 6 = ze Mz (d_ + 0) 6 + 1 by first | assumption | omega), (show zS0 d_ Mz N7_ by exact c9_)⟩ d_Troupe_addName_46
set_option maxHeartbeats 4000000 in
theorem u_Reader_readLets (l : Launch) (d_ : Nat) (Mz : zMem) (hW : zKW d_ Mz) (b_ : Nat → Int) (n_ : Nat) (F_ : Nat) (K_ : Nat → Nat → Int) (hA_ : zTA F_ K_) (nm0_ : List (Int × (Nat → Int))) (p0_ : zYb b_ n_ Mz) (p1_ : zYt b_ n_ Mz) (p2_ : zKm F_ K_ d_ Mz) (p3_ : zNm nm0_ F_ K_ d_ Mz) : zC l m_Reader_readLets 0 0 [.ref 4, .ref (d_ + 0)] Mz (zqcI d_ [(1, 2), (1, 3), (1, 4), (1, 5), (4, 1), (4, 2), (4, 3)] [] [(0, 6), (33, 2), (33, 3), (33, 4), (33, 5), (33, 6)] [25, 27, 35, 37] Mz (fun v N => (((v = 1 ∧ (∃ q nm, zRg (zls b_ n_ F_ K_) (0, (ze Mz 1 2).toNat, nm0_) (1, q, nm) ∧ zNm nm F_ K_ d_ N) ∧ zS0 d_ Mz N) ∨ (v = 0 ∧ zRg (zls b_ n_ F_ K_) (0, (ze Mz 1 2).toNat, nm0_) zLf))))) := by
  refine zC_of (L0 := [some (.ref 4), some (.ref (d_ + 0)), none, none, none]) md_Reader_readLets (Nat.le_of_ble_eq_true rfl) rfl ?_ zQ0
  have hf : zFc d_ [(1, 2), (1, 3), (1, 4), (1, 5), (4, 1), (4, 2), (4, 3)] [] [(0, 6), (33, 2), (33, 3), (33, 4), (33, 5), (33, 6)] [25, 27, 35, 37] Mz Mz := zFc.rf
  have r_A1_2 := ze_r Mz 1 2
  have r_A1_3 := ze_r Mz 1 3
  have r_A1_4 := ze_r Mz 1 4
  have r_A1_5 := ze_r Mz 1 5
  have r_D0_6 := ze_r Mz (d_ + 0) 6
  have r_D33_2 := ze_r Mz (d_ + 33) 2
  have r_D33_3 := ze_r Mz (d_ + 33) 3
  have r_D33_4 := ze_r Mz (d_ + 33) 4
  have r_D33_5 := ze_r Mz (d_ + 33) 5
  have r_D33_6 := ze_r Mz (d_ + 33) 6
  obtain ⟨⟨hF1_, hF27_⟩, hAr_⟩ := id hA_
  obtain ⟨y1_, y2_, y3_⟩ := id p3_
  have dv0 : zS0 d_ Mz Mz := zS0.rf
  refine zw_iconst (pc := 0) (v := Int32.ofInt 0) (by decide) d_Reader_readLets_0 ?_
  refine zw_istore_n (pc := 1) (i := 2) (L2 := [some (.ref 4), some (.ref (d_ + 0)), some (.int (Int32.ofInt 0)), none, none]) rfl (by decide) rfl d_Reader_readLets_1 ?_
  have lp_2 : ∀ (n : Nat) (u1_ : Int) (hu1_a : -2147483648 ≤ u1_) (hu1_b : u1_ < 2147483648) (N2_ : zMem) (hs3_ : zFc d_ [(1, 2), (1, 3), (1, 4), (1, 5), (4, 1), (4, 2), (4, 3)] [] [(0, 6), (33, 2), (33, 3), (33, 4), (33, 5), (33, 6)] [25, 27, 35, 37] Mz N2_) (i4_ : 0 ≤ u1_) (i5_ : u1_ ≤ ze N2_ (d_ + 0) 6) (i6_ : zYt b_ n_ N2_) (i7_ : ∃ nm, zNm nm F_ K_ d_ N2_ ∧ zRg (zls b_ n_ F_ K_) (0, (ze Mz 1 2).toNat, nm0_) (0, (ze N2_ 1 2).toNat, nm)) (i8_ : zS0 d_ Mz N2_), (9 - u1_).toNat < n → zW l m_Reader_readLets (zn Mz + 0, zw Mz + 0) N2_ 2 [some (.ref 4), some (.ref (d_ + 0)), some (.int (Int32.ofInt u1_)), none, none] [] (zqcI d_ [(1, 2), (1, 3), (1, 4), (1, 5), (4, 1), (4, 2), (4, 3)] [] [(0, 6), (33, 2), (33, 3), (33, 4), (33, 5), (33, 6)] [25, 27, 35, 37] Mz (fun v N => (((v = 1 ∧ (∃ q nm, zRg (zls b_ n_ F_ K_) (0, (ze Mz 1 2).toNat, nm0_) (1, q, nm) ∧ zNm nm F_ K_ d_ N) ∧ zS0 d_ Mz N) ∨ (v = 0 ∧ zRg (zls b_ n_ F_ K_) (0, (ze Mz 1 2).toNat, nm0_) zLf))))) := by
    intro n
    induction n with
    | zero =>
      intro u1_ hu1_a hu1_b N2_ hs3_ i4_ i5_ i6_ i7_ i8_ h0
      exact absurd h0 (Nat.not_lt_zero _)
    | succ n ih_2 =>
      intro u1_ hu1_a hu1_b N2_ hs3_ i4_ i5_ i6_ i7_ i8_ hlt_2
      have hf_N2_ : zFc d_ [(1, 2), (1, 3), (1, 4), (1, 5), (4, 1), (4, 2), (4, 3)] [] [(0, 6), (33, 2), (33, 3), (33, 4), (33, 5), (33, 6)] [25, 27, 35, 37] Mz N2_ := hf.tr hs3_ (by decide) (by decide) (by decide) (by decide)
      have rA1_2_N2_ := ze_r N2_ 1 2
      have rA1_3_N2_ := ze_r N2_ 1 3
      have rA1_4_N2_ := ze_r N2_ 1 4
      have rA1_5_N2_ := ze_r N2_ 1 5
      have rD0_6_N2_ := ze_r N2_ (d_ + 0) 6
      have rD33_2_N2_ := ze_r N2_ (d_ + 33) 2
      have rD33_3_N2_ := ze_r N2_ (d_ + 33) 3
      have rD33_4_N2_ := ze_r N2_ (d_ + 33) 4
      have rD33_5_N2_ := ze_r N2_ (d_ + 33) 5
      have rD33_6_N2_ := ze_r N2_ (d_ + 33) 6
      have c9_ : zYb b_ n_ N2_ := zYb.fr (hf.w hW) hs3_ p0_ (by decide)
      have c10_ : zKm F_ K_ d_ N2_ := zKm.fr (hf.w hW) hs3_ p2_ (by decide)
      obtain ⟨nm_, hnm_, hre_⟩ := (show ∃ nm, zNm nm F_ K_ d_ N2_ ∧ zRg (zls b_ n_ F_ K_) (0, (ze Mz 1 2).toNat, nm0_) (0, (ze N2_ 1 2).toNat, nm) by assumption)
      have hlen_ := hnm_.len
      obtain ⟨w1_, w2_, w3_⟩ := id hnm_
      refine zw_iload_n (pc := 2) (n := 2) (x := Int32.ofInt u1_) rfl d_Reader_readLets_2 ?_
      refine zw_bipush (pc := 3) (v := Int32.ofInt 8) (by decide) d_Reader_readLets_3 ?_
      refine zr_icmp_gt (pc := 5) (tgt := 156) ⟨hu1_a, hu1_b⟩ ⟨(by decide), (by decide)⟩ (by decide) d_Reader_readLets_5 (fun hc_5 => ?_) (fun hc_5 => ?_)
      · skip
        first | (have ht4_ : ze N2_ 1 4 = zkd b_ n_ (ze N2_ 1 2).toNat := i6_.2.2.1) | skip
        refine zw_aload_n (pc := 156) (n := 0) (x := 4) rfl d_Reader_readLets_156 ?_
        refine zw_getF (pc := 157) f_Reader_15 rfl ((hf_N2_.w hW).ka (o := 4) (by decide)) ((hf_N2_.w hW).la (o := 4) (s := 0) (r := 1) (by decide)) d_Reader_readLets_157 ?_
        refine zk_getI (pc := 160) f_Reader_27 rfl ((hf_N2_.w hW).ka (o := 1) (by decide)) d_Reader_readLets_160 ?_
        refine zr_if_eq (pc := 163) (tgt := 174) ⟨(ze_r N2_ 1 4).1, (ze_r N2_ 1 4).2⟩ (by decide) d_Reader_readLets_163 (fun hc_163 => ?_) (fun hc_163 => ?_)
        · skip
          refine zw_iconst (pc := 174) (v := Int32.ofInt 1) (by decide) d_Reader_readLets_174 ?_
          refine zw_goto (pc := 175) (tgt := 179) (by decide) d_Reader_readLets_175 ?_
          exact zk_iret (pc := 179) (ty := .boolean) rfl (z_narB (by omega)) ⟨by omega, by omega⟩ hf_N2_ (show ((1 = 1 ∧ (∃ q nm, zRg (zls b_ n_ F_ K_) (0, (ze Mz 1 2).toNat, nm0_) (1, q, nm) ∧ zNm nm F_ K_ d_ N2_) ∧ zS0 d_ Mz N2_) ∨ (1 = 0 ∧ zRg (zls b_ n_ F_ K_) (0, (ze Mz 1 2).toNat, nm0_) zLf)) from Or.inl (⟨(show 1 = 1 by first | rfl | exact ⟨_, _, hre_.tr (zRg.st (zls_e hl1_ (by omega))), hnm_⟩ | exact i8_ | (exfalso; omega)), (show (∃ q nm, zRg (zls b_ n_ F_ K_) (0, (ze Mz 1 2).toNat, nm0_) (1, q, nm) ∧ zNm nm F_ K_ d_ N2_) by first | rfl | exact ⟨_, _, hre_.tr (zRg.st (zls_e hl1_ (by omega))), hnm_⟩ | exact i8_ | (exfalso; omega)), (show zS0 d_ Mz N2_ by first | rfl | exact ⟨_, _, hre_.tr (zRg.st (zls_e hl1_ (by omega))), hnm_⟩ | exact i8_ | (exfalso; omega))⟩)) d_Reader_readLets_179
        · skip
          refine zw_aload_n (pc := 166) (n := 0) (x := 4) rfl d_Reader_readLets_166 ?_
          refine zw_iconst (pc := 167) (v := Int32.ofInt 2) (by decide) d_Reader_readLets_167 ?_
          refine zk_callV hf_N2_.x (pc := 168) [.int (Int32.ofInt 2)] [] l_Reader_41 (u_Reader_refuse l d_ N2_ (hf_N2_.w hW) 2 (by decide) (by decide)) rfl rfl ((hf_N2_.w hW).ka (o := 4) (by decide)) (by decide) (by decide) (Nat.le_of_ble_eq_true rfl) d_Reader_readLets_168 ?_
          rintro _ N11_ ⟨v12_, rfl, ⟨hv12_a, hv12_b⟩, hsN11_, hp0_N11_⟩
          replace hp0_N11_ : ((v12_ = 0)) := hp0_N11_
          have hf_N11_ : zFc d_ [(1, 2), (1, 3), (1, 4), (1, 5), (4, 1), (4, 2), (4, 3)] [] [(0, 6), (33, 2), (33, 3), (33, 4), (33, 5), (33, 6)] [25, 27, 35, 37] Mz N11_ := hf_N2_.tr hsN11_ (by decide) (by decide) (by decide) (by decide)
          have eA1_2_N11_ : ze N11_ 1 2 = ze N2_ 1 2 := hsN11_.ea (hf_N2_.w hW) (by decide)
          have eA1_3_N11_ : ze N11_ 1 3 = ze N2_ 1 3 := hsN11_.ea (hf_N2_.w hW) (by decide)
          have eA1_4_N11_ : ze N11_ 1 4 = ze N2_ 1 4 := hsN11_.ea (hf_N2_.w hW) (by decide)
          have eA1_5_N11_ : ze N11_ 1 5 = ze N2_ 1 5 := hsN11_.ea (hf_N2_.w hW) (by decide)
          have eD0_6_N11_ : ze N11_ (d_ + 0) 6 = ze N2_ (d_ + 0) 6 := hsN11_.e (by decide)
          have eD33_2_N11_ : ze N11_ (d_ + 33) 2 = ze N2_ (d_ + 33) 2 := hsN11_.e (by decide)
          have eD33_3_N11_ : ze N11_ (d_ + 33) 3 = ze N2_ (d_ + 33) 3 := hsN11_.e (by decide)
          have eD33_4_N11_ : ze N11_ (d_ + 33) 4 = ze N2_ (d_ + 33) 4 := hsN11_.e (by decide)
          have eD33_5_N11_ : ze N11_ (d_ + 33) 5 = ze N2_ (d_ + 33) 5 := hsN11_.e (by decide)
          have eD33_6_N11_ : ze N11_ (d_ + 33) 6 = ze N2_ (d_ + 33) 6 := hsN11_.e (by decide)
          have qzkS_N11_ : zkS d_ N11_ = zkS d_ N2_ := zkS_q hsN11_ (by decide)
          have qzkG_N11_ : zkG d_ N11_ = zkG d_ N2_ := zkG_q hsN11_ (by decide)
          have qzkW_N11_ : zkW F_ d_ N11_ = zkW F_ d_ N2_ := zkW_q hsN11_ (by decide)
          have c13_ : zYb b_ n_ N11_ := zYb.fr (hf_N2_.w hW) hsN11_ c9_ (by decide)
          have c14_ : zKm F_ K_ d_ N11_ := zKm.fr (hf_N2_.w hW) hsN11_ c10_ (by decide)
          have c15_ : zYt b_ n_ N11_ := zYt.fr (hf_N2_.w hW) hsN11_ i6_ (by decide)
          have c16_ : zS0 d_ Mz N11_ := zS0.fr (hf_N2_.w hW) hsN11_ i8_ (by decide)
          have c17_ : zNm nm_ F_ K_ d_ N11_ := zNm.fr (hf_N2_.w hW) hsN11_ hnm_ (by decide)
          rcases hp0_N11_ with rfl
          · skip
            show zW l m_Reader_readLets (zn Mz + 0, zw Mz + 0) N11_ 171 [some (.ref 4), some (.ref (d_ + 0)), some (.int (Int32.ofInt u1_)), none, none] [.int (Int32.ofInt 0)] (zqcI d_ [(1, 2), (1, 3), (1, 4), (1, 5), (4, 1), (4, 2), (4, 3)] [] [(0, 6), (33, 2), (33, 3), (33, 4), (33, 5), (33, 6)] [25, 27, 35, 37] Mz (fun v N => (((v = 1 ∧ (∃ q nm, zRg (zls b_ n_ F_ K_) (0, (ze Mz 1 2).toNat, nm0_) (1, q, nm) ∧ zNm nm F_ K_ d_ N) ∧ zS0 d_ Mz N) ∨ (v = 0 ∧ zRg (zls b_ n_ F_ K_) (0, (ze Mz 1 2).toNat, nm0_) zLf)))))
            refine zr_if_eq (pc := 171) (tgt := 178) ⟨(by decide), (by decide)⟩ (by decide) d_Reader_readLets_171 (fun hc_171 => ?_) (fun hc_171 => ?_)
            · skip
              refine zw_iconst (pc := 178) (v := Int32.ofInt 0) (by decide) d_Reader_readLets_178 ?_
              exact zk_iret (pc := 179) (ty := .boolean) rfl (z_narB (by omega)) ⟨by omega, by omega⟩ hf_N11_ (show ((0 = 1 ∧ (∃ q nm, zRg (zls b_ n_ F_ K_) (0, (ze Mz 1 2).toNat, nm0_) (1, q, nm) ∧ zNm nm F_ K_ d_ N11_) ∧ zS0 d_ Mz N11_) ∨ (0 = 0 ∧ zRg (zls b_ n_ F_ K_) (0, (ze Mz 1 2).toNat, nm0_) zLf)) from Or.inr (⟨(show 0 = 0 by first | rfl | exact hrt_ | exact hre_.tr (zRg.st (zls_f (F := F_) (K := K_) hl0_ (fun q_ => by have := q_.1; omega))) | exact hre_.tr (zRg.st (zls_ef (F := F_) (K := K_) hl1_ (by omega))) | exact hre_.tr (zRg.st (hsm_.trans (by rcases j3_ with ⟨g_, e_⟩ | ⟨g_, e_⟩; exfalso; omega; rw [e_]; exact zle_b))) | (exfalso; omega)), (show zRg (zls b_ n_ F_ K_) (0, (ze Mz 1 2).toNat, nm0_) zLf by first | rfl | exact hrt_ | exact hre_.tr (zRg.st (zls_f (F := F_) (K := K_) hl0_ (fun q_ => by have := q_.1; omega))) | exact hre_.tr (zRg.st (zls_ef (F := F_) (K := K_) hl1_ (by omega))) | exact hre_.tr (zRg.st (hsm_.trans (by rcases j3_ with ⟨g_, e_⟩ | ⟨g_, e_⟩; exfalso; omega; rw [e_]; exact zle_b))) | (exfalso; omega))⟩)) d_Reader_readLets_179
            · skip
              exact absurd hc_171 (by decide)
      · skip
        refine zw_aload_n (pc := 8) (n := 0) (x := 4) rfl d_Reader_readLets_8 ?_
        refine zw_getF (pc := 9) f_Reader_15 rfl ((hf_N2_.w hW).ka (o := 4) (by decide)) ((hf_N2_.w hW).la (o := 4) (s := 0) (r := 1) (by decide)) d_Reader_readLets_9 ?_
        refine zw_ldcs (pc := 12) (i := 2) (List.mem_of_getElem? (i := 2) rfl) d_Reader_readLets_12 ?_
        refine zk_callV hf_N2_.x (pc := 14) [.ref (zK 2)] [] l_Reader_49 (u_Tokens_isWord l d_ N2_ (hf_N2_.w hW) 2 (by decide) b_ n_ c9_ i6_) rfl rfl ((hf_N2_.w hW).ka (o := 1) (by decide)) (by decide) (by decide) (Nat.le_of_ble_eq_true rfl) d_Reader_readLets_14 ?_
        rintro _ N18_ ⟨v19_, rfl, ⟨hv19_a, hv19_b⟩, hsN18_, hp0_N18_⟩
        obtain rfl := hsN18_.eq.symm
        replace hp0_N18_ : ((v19_ = 1 ∧ zkd b_ n_ (ze N2_ 1 2).toNat = 1 ∧ zkey b_ n_ (ze N2_ 1 2).toNat = zkw 2) ∨ (v19_ = 0 ∧ ¬ (zkd b_ n_ (ze N2_ 1 2).toNat = 1 ∧ zkey b_ n_ (ze N2_ 1 2).toNat = zkw 2))) := hp0_N18_
        rcases hp0_N18_ with ⟨rfl, ha14_0_hp0_N18_, ha14_1_hp0_N18_⟩ | ⟨rfl, ha14_0_hp0_N18_⟩
        · skip
          have hl0_ : zkd b_ n_ (ze N2_ 1 2).toNat = 1 ∧ zkey b_ n_ (ze N2_ 1 2).toNat = zkw 2 := ⟨ha14_0_hp0_N18_, ha14_1_hp0_N18_⟩
          show zW l m_Reader_readLets (zn Mz + 0, zw Mz + 0) N2_ 17 [some (.ref 4), some (.ref (d_ + 0)), some (.int (Int32.ofInt u1_)), none, none] [.int (Int32.ofInt 1)] (zqcI d_ [(1, 2), (1, 3), (1, 4), (1, 5), (4, 1), (4, 2), (4, 3)] [] [(0, 6), (33, 2), (33, 3), (33, 4), (33, 5), (33, 6)] [25, 27, 35, 37] Mz (fun v N => (((v = 1 ∧ (∃ q nm, zRg (zls b_ n_ F_ K_) (0, (ze Mz 1 2).toNat, nm0_) (1, q, nm) ∧ zNm nm F_ K_ d_ N) ∧ zS0 d_ Mz N) ∨ (v = 0 ∧ zRg (zls b_ n_ F_ K_) (0, (ze Mz 1 2).toNat, nm0_) zLf)))))
          refine zr_if_eq (pc := 17) (tgt := 156) ⟨(by decide), (by decide)⟩ (by decide) d_Reader_readLets_17 (fun hc_17 => ?_) (fun hc_17 => ?_)
          · skip
            exact absurd hc_17 (by decide)
          · skip
            refine zw_aload_n (pc := 20) (n := 0) (x := 4) rfl d_Reader_readLets_20 ?_
            refine zw_getF (pc := 21) f_Reader_15 rfl ((hf_N2_.w hW).ka (o := 4) (by decide)) ((hf_N2_.w hW).la (o := 4) (s := 0) (r := 1) (by decide)) d_Reader_readLets_21 ?_
            refine zk_getI (pc := 24) f_Reader_30 rfl ((hf_N2_.w hW).ka (o := 1) (by decide)) d_Reader_readLets_24 ?_
            refine zw_istore_n (pc := 27) (i := 3) (L2 := [some (.ref 4), some (.ref (d_ + 0)), some (.int (Int32.ofInt u1_)), some (.int (Int32.ofInt (ze N2_ 1 2))), none]) rfl (by decide) rfl d_Reader_readLets_27 ?_
            refine zw_aload_n (pc := 28) (n := 1) (x := (d_ + 0)) rfl d_Reader_readLets_28 ?_
            refine zk_getI (pc := 29) f_Reader_98 rfl ((hf_N2_.w hW).kr (o := 0) (by decide)) d_Reader_readLets_29 ?_
            refine zw_bipush (pc := 32) (v := Int32.ofInt 8) (by decide) d_Reader_readLets_32 ?_
            refine zr_icmp_lt (pc := 34) (tgt := 43) ⟨(ze_r N2_ (d_ + 0) 6).1, (ze_r N2_ (d_ + 0) 6).2⟩ ⟨(by decide), (by decide)⟩ (by decide) d_Reader_readLets_34 (fun hc_34 => ?_) (fun hc_34 => ?_)
            · skip
              have hyt_ := i6_
              have hyx_ := hyt_.x
              refine zw_aload_n (pc := 43) (n := 0) (x := 4) rfl d_Reader_readLets_43 ?_
              refine zw_getF (pc := 44) f_Reader_15 rfl ((hf_N2_.w hW).ka (o := 4) (by decide)) ((hf_N2_.w hW).la (o := 4) (s := 0) (r := 1) (by decide)) d_Reader_readLets_44 ?_
              refine zk_callV hf_N2_.x (pc := 47) [] [] l_Reader_44 (u_Tokens_step l d_ N2_ (hf_N2_.w hW) b_ n_ c9_ (show 0 ≤ ze N2_ 1 3 by first | assumption | omega) (show ze N2_ 1 3 ≤ n_ by first | assumption | omega)) rfl rfl ((hf_N2_.w hW).ka (o := 1) (by decide)) (by decide) (by decide) (Nat.le_of_ble_eq_true rfl) d_Reader_readLets_47 ?_
              rintro _ N20_ ⟨rfl, hsN20_, ⟨hp0_N20_, hp1_N20_⟩⟩
              have hf_N20_ : zFc d_ [(1, 2), (1, 3), (1, 4), (1, 5), (4, 1), (4, 2), (4, 3)] [] [(0, 6), (33, 2), (33, 3), (33, 4), (33, 5), (33, 6)] [25, 27, 35, 37] Mz N20_ := hf_N2_.tr hsN20_ (by decide) (by decide) (by decide) (by decide)
              have hb0_N20_ : zFc d_ [(1, 2), (1, 3), (1, 4), (1, 5), (4, 1), (4, 2), (4, 3)] [] [(0, 6), (33, 2), (33, 3), (33, 4), (33, 5), (33, 6)] [25, 27, 35, 37] Mz N20_ := hs3_.tr hsN20_ (by decide) (by decide) (by decide) (by decide)
              have rA1_2_N20_ := ze_r N20_ 1 2
              have rA1_3_N20_ := ze_r N20_ 1 3
              have rA1_4_N20_ := ze_r N20_ 1 4
              have rA1_5_N20_ := ze_r N20_ 1 5
              have eD0_6_N20_ : ze N20_ (d_ + 0) 6 = ze N2_ (d_ + 0) 6 := hsN20_.e (by decide)
              have eD33_2_N20_ : ze N20_ (d_ + 33) 2 = ze N2_ (d_ + 33) 2 := hsN20_.e (by decide)
              have eD33_3_N20_ : ze N20_ (d_ + 33) 3 = ze N2_ (d_ + 33) 3 := hsN20_.e (by decide)
              have eD33_4_N20_ : ze N20_ (d_ + 33) 4 = ze N2_ (d_ + 33) 4 := hsN20_.e (by decide)
              have eD33_5_N20_ : ze N20_ (d_ + 33) 5 = ze N2_ (d_ + 33) 5 := hsN20_.e (by decide)
              have eD33_6_N20_ : ze N20_ (d_ + 33) 6 = ze N2_ (d_ + 33) 6 := hsN20_.e (by decide)
              have qzkS_N20_ : zkS d_ N20_ = zkS d_ N2_ := zkS_q hsN20_ (by decide)
              have qzkG_N20_ : zkG d_ N20_ = zkG d_ N2_ := zkG_q hsN20_ (by decide)
              have qzkW_N20_ : zkW F_ d_ N20_ = zkW F_ d_ N2_ := zkW_q hsN20_ (by decide)
              have c22_ : zYb b_ n_ N20_ := zYb.fr (hf_N2_.w hW) hsN20_ c9_ (by decide)
              have c23_ : zKm F_ K_ d_ N20_ := zKm.fr (hf_N2_.w hW) hsN20_ c10_ (by decide)
              have c24_ : zS0 d_ Mz N20_ := zS0.fr (hf_N2_.w hW) hsN20_ i8_ (by decide)
              have c25_ : zNm nm_ F_ K_ d_ N20_ := zNm.fr (hf_N2_.w hW) hsN20_ hnm_ (by decide)
              show zW l m_Reader_readLets (zn Mz + 0, zw Mz + 0) N20_ 50 [some (.ref 4), some (.ref (d_ + 0)), some (.int (Int32.ofInt u1_)), some (.int (Int32.ofInt (ze N2_ 1 2))), none] [] (zqcI d_ [(1, 2), (1, 3), (1, 4), (1, 5), (4, 1), (4, 2), (4, 3)] [] [(0, 6), (33, 2), (33, 3), (33, 4), (33, 5), (33, 6)] [25, 27, 35, 37] Mz (fun v N => (((v = 1 ∧ (∃ q nm, zRg (zls b_ n_ F_ K_) (0, (ze Mz 1 2).toNat, nm0_) (1, q, nm) ∧ zNm nm F_ K_ d_ N) ∧ zS0 d_ Mz N) ∨ (v = 0 ∧ zRg (zls b_ n_ F_ K_) (0, (ze Mz 1 2).toNat, nm0_) zLf)))))
              have hnn_ := hyt_.n hp0_N20_
              have hx1_ : (ze N20_ 1 2).toNat = znx b_ n_ (ze N2_ 1 2).toNat := hnn_.2.trans (by rw [show ze N2_ 1 2 = ze N2_ 1 2 by omega])
              refine zw_aload_n (pc := 50) (n := 0) (x := 4) rfl d_Reader_readLets_50 ?_
              refine zw_getF (pc := 51) f_Reader_15 rfl ((hf_N20_.w hW).ka (o := 4) (by decide)) ((hf_N20_.w hW).la (o := 4) (s := 0) (r := 1) (by decide)) d_Reader_readLets_51 ?_
              refine zk_callV hf_N20_.x (pc := 54) [] [] l_Reader_101 (u_Tokens_isName l d_ N20_ (hf_N20_.w hW) b_ n_ c22_ hp1_N20_) rfl rfl ((hf_N20_.w hW).ka (o := 1) (by decide)) (by decide) (by decide) (Nat.le_of_ble_eq_true rfl) d_Reader_readLets_54 ?_
              rintro _ N26_ ⟨v27_, rfl, ⟨hv27_a, hv27_b⟩, hsN26_, hp0_N26_⟩
              obtain rfl := hsN26_.eq.symm
              replace hp0_N26_ : ((v27_ = 1 ∧ zisn b_ n_ (ze N20_ 1 2).toNat) ∨ (v27_ = 0 ∧ ¬ zisn b_ n_ (ze N20_ 1 2).toNat)) := hp0_N26_
              rcases hp0_N26_ with ⟨rfl, ha54_0_hp0_N26_⟩ | ⟨rfl, ha54_0_hp0_N26_⟩
              · skip
                have hn1_ := ha54_0_hp0_N26_
                have hky_ := hp1_N20_.v1 hn1_.1
                rw [hx1_] at hn1_ hky_
                show zW l m_Reader_readLets (zn Mz + 0, zw Mz + 0) N20_ 57 [some (.ref 4), some (.ref (d_ + 0)), some (.int (Int32.ofInt u1_)), some (.int (Int32.ofInt (ze N2_ 1 2))), none] [.int (Int32.ofInt 1)] (zqcI d_ [(1, 2), (1, 3), (1, 4), (1, 5), (4, 1), (4, 2), (4, 3)] [] [(0, 6), (33, 2), (33, 3), (33, 4), (33, 5), (33, 6)] [25, 27, 35, 37] Mz (fun v N => (((v = 1 ∧ (∃ q nm, zRg (zls b_ n_ F_ K_) (0, (ze Mz 1 2).toNat, nm0_) (1, q, nm) ∧ zNm nm F_ K_ d_ N) ∧ zS0 d_ Mz N) ∨ (v = 0 ∧ zRg (zls b_ n_ F_ K_) (0, (ze Mz 1 2).toNat, nm0_) zLf)))))
                refine zr_if_ne (pc := 57) (tgt := 66) ⟨(by decide), (by decide)⟩ (by decide) d_Reader_readLets_57 (fun hc_57 => ?_) (fun hc_57 => ?_)
                · skip
                  refine zw_aload_n (pc := 66) (n := 0) (x := 4) rfl d_Reader_readLets_66 ?_
                  refine zw_getF (pc := 67) f_Reader_15 rfl ((hf_N20_.w hW).ka (o := 4) (by decide)) ((hf_N20_.w hW).la (o := 4) (s := 0) (r := 1) (by decide)) d_Reader_readLets_67 ?_
                  refine zk_getI (pc := 70) f_Reader_57 rfl ((hf_N20_.w hW).ka (o := 1) (by decide)) d_Reader_readLets_70 ?_
                  refine zw_istore (pc := 73) (i := 4) (L2 := [some (.ref 4), some (.ref (d_ + 0)), some (.int (Int32.ofInt u1_)), some (.int (Int32.ofInt (ze N2_ 1 2))), some (.int (Int32.ofInt (ze N20_ 1 5)))]) (by decide) rfl d_Reader_readLets_73 ?_
                  refine zw_aload_n (pc := 75) (n := 1) (x := (d_ + 0)) rfl d_Reader_readLets_75 ?_
                  refine zw_iload (pc := 76) (i := 4) (x := Int32.ofInt (ze N20_ 1 5)) rfl d_Reader_readLets_76 ?_
                  refine zk_callV hf_N20_.x (pc := 78) [.int (Int32.ofInt (ze N20_ 1 5))] [] l_Reader_104 (u_Troupe_nameOf l d_ N20_ (hf_N20_.w hW) (ze N20_ 1 5) (ze_r N20_ 1 5).1 (ze_r N20_ 1 5).2 F_ K_ hA_ nm_ c25_) rfl rfl ((hf_N20_.w hW).kr (o := 0) (by decide)) (by decide) (by decide) (Nat.le_of_ble_eq_true rfl) d_Reader_readLets_78 ?_
                  rintro _ N28_ ⟨v29_, rfl, ⟨hv29_a, hv29_b⟩, hsN28_, hp0_N28_⟩
                  obtain rfl := hsN28_.eq.symm
                  replace hp0_N28_ : ((v29_ = -1 ∧ zfd nm_ (ze N20_ 1 5) = none) ∨ (0 ≤ v29_ ∧ v29_ ≤ 7 ∧ zfd nm_ (ze N20_ 1 5) = some (zvc F_ d_ N20_ (1 + v29_)) ∧ zfit F_ K_ (zvc F_ d_ N20_ (1 + v29_)))) := hp0_N28_
                  rcases hp0_N28_ with ⟨rfl, ha78_0_hp0_N28_⟩ | ⟨ha78_0_hp0_N28_, ha78_1_hp0_N28_, ha78_2_hp0_N28_, ha78_3_hp0_N28_⟩
                  · skip
                    have hf1_ := ha78_0_hp0_N28_
                    rw [show (ze N20_ 1 5) = zkey b_ n_ (znx b_ n_ (ze N2_ 1 2).toNat) from hky_] at hf1_
                    show zW l m_Reader_readLets (zn Mz + 0, zw Mz + 0) N20_ 81 [some (.ref 4), some (.ref (d_ + 0)), some (.int (Int32.ofInt u1_)), some (.int (Int32.ofInt (ze N2_ 1 2))), some (.int (Int32.ofInt (ze N20_ 1 5)))] [.int (Int32.ofInt ((-1)))] (zqcI d_ [(1, 2), (1, 3), (1, 4), (1, 5), (4, 1), (4, 2), (4, 3)] [] [(0, 6), (33, 2), (33, 3), (33, 4), (33, 5), (33, 6)] [25, 27, 35, 37] Mz (fun v N => (((v = 1 ∧ (∃ q nm, zRg (zls b_ n_ F_ K_) (0, (ze Mz 1 2).toNat, nm0_) (1, q, nm) ∧ zNm nm F_ K_ d_ N) ∧ zS0 d_ Mz N) ∨ (v = 0 ∧ zRg (zls b_ n_ F_ K_) (0, (ze Mz 1 2).toNat, nm0_) zLf)))))
                    refine zw_iconst (pc := 81) (v := Int32.ofInt (-1)) (by decide) d_Reader_readLets_81 ?_
                    refine zr_icmp_eq (pc := 82) (tgt := 91) ⟨(by decide), (by decide)⟩ ⟨(by decide), (by decide)⟩ (by decide) d_Reader_readLets_82 (fun hc_82 => ?_) (fun hc_82 => ?_)
                    · skip
                      have hyt_ := hp1_N20_
                      have hyx_ := hyt_.x
                      refine zw_aload_n (pc := 91) (n := 0) (x := 4) rfl d_Reader_readLets_91 ?_
                      refine zw_getF (pc := 92) f_Reader_15 rfl ((hf_N20_.w hW).ka (o := 4) (by decide)) ((hf_N20_.w hW).la (o := 4) (s := 0) (r := 1) (by decide)) d_Reader_readLets_92 ?_
                      refine zk_callV hf_N20_.x (pc := 95) [] [] l_Reader_44 (u_Tokens_step l d_ N20_ (hf_N20_.w hW) b_ n_ c22_ (show 0 ≤ ze N20_ 1 3 by first | assumption | omega) (show ze N20_ 1 3 ≤ n_ by first | assumption | omega)) rfl rfl ((hf_N20_.w hW).ka (o := 1) (by decide)) (by decide) (by decide) (Nat.le_of_ble_eq_true rfl) d_Reader_readLets_95 ?_
                      rintro _ N30_ ⟨rfl, hsN30_, ⟨hp0_N30_, hp1_N30_⟩⟩
                      have hf_N30_ : zFc d_ [(1, 2), (1, 3), (1, 4), (1, 5), (4, 1), (4, 2), (4, 3)] [] [(0, 6), (33, 2), (33, 3), (33, 4), (33, 5), (33, 6)] [25, 27, 35, 37] Mz N30_ := hf_N20_.tr hsN30_ (by decide) (by decide) (by decide) (by decide)
                      have hb0_N30_ : zFc d_ [(1, 2), (1, 3), (1, 4), (1, 5), (4, 1), (4, 2), (4, 3)] [] [(0, 6), (33, 2), (33, 3), (33, 4), (33, 5), (33, 6)] [25, 27, 35, 37] Mz N30_ := hb0_N20_.tr hsN30_ (by decide) (by decide) (by decide) (by decide)
                      have rA1_2_N30_ := ze_r N30_ 1 2
                      have rA1_3_N30_ := ze_r N30_ 1 3
                      have rA1_4_N30_ := ze_r N30_ 1 4
                      have rA1_5_N30_ := ze_r N30_ 1 5
                      have eD0_6_N30_ : ze N30_ (d_ + 0) 6 = ze N20_ (d_ + 0) 6 := hsN30_.e (by decide)
                      have eD33_2_N30_ : ze N30_ (d_ + 33) 2 = ze N20_ (d_ + 33) 2 := hsN30_.e (by decide)
                      have eD33_3_N30_ : ze N30_ (d_ + 33) 3 = ze N20_ (d_ + 33) 3 := hsN30_.e (by decide)
                      have eD33_4_N30_ : ze N30_ (d_ + 33) 4 = ze N20_ (d_ + 33) 4 := hsN30_.e (by decide)
                      have eD33_5_N30_ : ze N30_ (d_ + 33) 5 = ze N20_ (d_ + 33) 5 := hsN30_.e (by decide)
                      have eD33_6_N30_ : ze N30_ (d_ + 33) 6 = ze N20_ (d_ + 33) 6 := hsN30_.e (by decide)
                      have qzkS_N30_ : zkS d_ N30_ = zkS d_ N20_ := zkS_q hsN30_ (by decide)
                      have qzkG_N30_ : zkG d_ N30_ = zkG d_ N20_ := zkG_q hsN30_ (by decide)
                      have qzkW_N30_ : zkW F_ d_ N30_ = zkW F_ d_ N20_ := zkW_q hsN30_ (by decide)
                      have c32_ : zYb b_ n_ N30_ := zYb.fr (hf_N20_.w hW) hsN30_ c22_ (by decide)
                      have c33_ : zKm F_ K_ d_ N30_ := zKm.fr (hf_N20_.w hW) hsN30_ c23_ (by decide)
                      have c34_ : zS0 d_ Mz N30_ := zS0.fr (hf_N20_.w hW) hsN30_ c24_ (by decide)
                      have c35_ : zNm nm_ F_ K_ d_ N30_ := zNm.fr (hf_N20_.w hW) hsN30_ c25_ (by decide)
                      show zW l m_Reader_readLets (zn Mz + 0, zw Mz + 0) N30_ 98 [some (.ref 4), some (.ref (d_ + 0)), some (.int (Int32.ofInt u1_)), some (.int (Int32.ofInt (ze N2_ 1 2))), some (.int (Int32.ofInt (ze N20_ 1 5)))] [] (zqcI d_ [(1, 2), (1, 3), (1, 4), (1, 5), (4, 1), (4, 2), (4, 3)] [] [(0, 6), (33, 2), (33, 3), (33, 4), (33, 5), (33, 6)] [25, 27, 35, 37] Mz (fun v N => (((v = 1 ∧ (∃ q nm, zRg (zls b_ n_ F_ K_) (0, (ze Mz 1 2).toNat, nm0_) (1, q, nm) ∧ zNm nm F_ K_ d_ N) ∧ zS0 d_ Mz N) ∨ (v = 0 ∧ zRg (zls b_ n_ F_ K_) (0, (ze Mz 1 2).toNat, nm0_) zLf)))))
                      have hnn_ := hyt_.n hp0_N30_
                      have hx2_ : (ze N30_ 1 2).toNat = znx b_ n_ (znx b_ n_ (ze N2_ 1 2).toNat) := hnn_.2.trans (by rw [hx1_])
                      refine zw_aload_n (pc := 98) (n := 0) (x := 4) rfl d_Reader_readLets_98 ?_
                      refine zw_bipush (pc := 99) (v := Int32.ofInt 61) (by decide) d_Reader_readLets_99 ?_
                      refine zk_callV hf_N30_.x (pc := 101) [.int (Int32.ofInt 61)] [] l_Reader_66 (u_Reader_passSign l d_ N30_ (hf_N30_.w hW) 61 (by decide) (by decide) b_ n_ c32_ hp1_N30_) rfl rfl ((hf_N30_.w hW).ka (o := 4) (by decide)) (by decide) (by decide) (Nat.le_of_ble_eq_true rfl) d_Reader_readLets_101 ?_
                      rintro _ N36_ ⟨v37_, rfl, ⟨hv37_a, hv37_b⟩, hsN36_, ⟨hp0_N36_, hp1_N36_⟩⟩
                      have hf_N36_ : zFc d_ [(1, 2), (1, 3), (1, 4), (1, 5), (4, 1), (4, 2), (4, 3)] [] [(0, 6), (33, 2), (33, 3), (33, 4), (33, 5), (33, 6)] [25, 27, 35, 37] Mz N36_ := hf_N30_.tr hsN36_ (by decide) (by decide) (by decide) (by decide)
                      have hb0_N36_ : zFc d_ [(1, 2), (1, 3), (1, 4), (1, 5), (4, 1), (4, 2), (4, 3)] [] [(0, 6), (33, 2), (33, 3), (33, 4), (33, 5), (33, 6)] [25, 27, 35, 37] Mz N36_ := hb0_N30_.tr hsN36_ (by decide) (by decide) (by decide) (by decide)
                      have rA1_2_N36_ := ze_r N36_ 1 2
                      have rA1_3_N36_ := ze_r N36_ 1 3
                      have rA1_4_N36_ := ze_r N36_ 1 4
                      have rA1_5_N36_ := ze_r N36_ 1 5
                      have eD0_6_N36_ : ze N36_ (d_ + 0) 6 = ze N30_ (d_ + 0) 6 := hsN36_.e (by decide)
                      have eD33_2_N36_ : ze N36_ (d_ + 33) 2 = ze N30_ (d_ + 33) 2 := hsN36_.e (by decide)
                      have eD33_3_N36_ : ze N36_ (d_ + 33) 3 = ze N30_ (d_ + 33) 3 := hsN36_.e (by decide)
                      have eD33_4_N36_ : ze N36_ (d_ + 33) 4 = ze N30_ (d_ + 33) 4 := hsN36_.e (by decide)
                      have eD33_5_N36_ : ze N36_ (d_ + 33) 5 = ze N30_ (d_ + 33) 5 := hsN36_.e (by decide)
                      have eD33_6_N36_ : ze N36_ (d_ + 33) 6 = ze N30_ (d_ + 33) 6 := hsN36_.e (by decide)
                      have qzkS_N36_ : zkS d_ N36_ = zkS d_ N30_ := zkS_q hsN36_ (by decide)
                      have qzkG_N36_ : zkG d_ N36_ = zkG d_ N30_ := zkG_q hsN36_ (by decide)
                      have qzkW_N36_ : zkW F_ d_ N36_ = zkW F_ d_ N30_ := zkW_q hsN36_ (by decide)
                      have c38_ : zYb b_ n_ N36_ := zYb.fr (hf_N30_.w hW) hsN36_ c32_ (by decide)
                      have c39_ : zKm F_ K_ d_ N36_ := zKm.fr (hf_N30_.w hW) hsN36_ c33_ (by decide)
                      have c40_ : zS0 d_ Mz N36_ := zS0.fr (hf_N30_.w hW) hsN36_ c34_ (by decide)
                      have c41_ : zNm nm_ F_ K_ d_ N36_ := zNm.fr (hf_N30_.w hW) hsN36_ c35_ (by decide)
                      rcases hp1_N36_ with ⟨rfl, ha101_0_hp1_N36_, ha101_1_hp1_N36_⟩ | ⟨rfl, ha101_0_hp1_N36_⟩
                      · skip
                        have hs1_ := ha101_0_hp1_N36_
                        have hx3_ := ha101_1_hp1_N36_
                        rw [hx2_] at hs1_ hx3_
                        have hle_ : nm_.length < 8 := by omega
                        have hall_ := And.intro hle_ (And.intro hn1_ (And.intro hf1_ hs1_))
                        show zW l m_Reader_readLets (zn Mz + 0, zw Mz + 0) N36_ 104 [some (.ref 4), some (.ref (d_ + 0)), some (.int (Int32.ofInt u1_)), some (.int (Int32.ofInt (ze N2_ 1 2))), some (.int (Int32.ofInt (ze N20_ 1 5)))] [.int (Int32.ofInt 1)] (zqcI d_ [(1, 2), (1, 3), (1, 4), (1, 5), (4, 1), (4, 2), (4, 3)] [] [(0, 6), (33, 2), (33, 3), (33, 4), (33, 5), (33, 6)] [25, 27, 35, 37] Mz (fun v N => (((v = 1 ∧ (∃ q nm, zRg (zls b_ n_ F_ K_) (0, (ze Mz 1 2).toNat, nm0_) (1, q, nm) ∧ zNm nm F_ K_ d_ N) ∧ zS0 d_ Mz N) ∨ (v = 0 ∧ zRg (zls b_ n_ F_ K_) (0, (ze Mz 1 2).toNat, nm0_) zLf)))))
                        refine zr_if_eq (pc := 104) (tgt := 124) ⟨(by decide), (by decide)⟩ (by decide) d_Reader_readLets_104 (fun hc_104 => ?_) (fun hc_104 => ?_)
                        · skip
                          exact absurd hc_104 (by decide)
                        · skip
                          have hnmb_ := c41_
                          refine zw_aload_n (pc := 107) (n := 0) (x := 4) rfl d_Reader_readLets_107 ?_
                          refine zw_aload_n (pc := 108) (n := 1) (x := (d_ + 0)) rfl d_Reader_readLets_108 ?_
                          have hz0c_ := c40_
                          refine zk_callV hf_N36_.x (pc := 109) [.ref (d_ + 0)] [] l_Reader_107 (u_Reader_readSum l d_ N36_ (hf_N36_.w hW) b_ n_ F_ K_ hA_ nm_ c38_ hp0_N36_ c39_ c41_) rfl rfl ((hf_N36_.w hW).ka (o := 4) (by decide)) (by decide) (by decide) (Nat.le_of_ble_eq_true rfl) d_Reader_readLets_109 ?_
                          rintro _ N42_ ⟨v43_, rfl, ⟨hv43_a, hv43_b⟩, hsN42_, ⟨hp0_N42_, hp1_N42_⟩⟩
                          have hf_N42_ : zFc d_ [(1, 2), (1, 3), (1, 4), (1, 5), (4, 1), (4, 2), (4, 3)] [] [(0, 6), (33, 2), (33, 3), (33, 4), (33, 5), (33, 6)] [25, 27, 35, 37] Mz N42_ := hf_N36_.tr hsN42_ (by decide) (by decide) (by decide) (by decide)
                          have hb0_N42_ : zFc d_ [(1, 2), (1, 3), (1, 4), (1, 5), (4, 1), (4, 2), (4, 3)] [] [(0, 6), (33, 2), (33, 3), (33, 4), (33, 5), (33, 6)] [25, 27, 35, 37] Mz N42_ := hb0_N36_.tr hsN42_ (by decide) (by decide) (by decide) (by decide)
                          have rA1_2_N42_ := ze_r N42_ 1 2
                          have rA1_3_N42_ := ze_r N42_ 1 3
                          have rA1_4_N42_ := ze_r N42_ 1 4
                          have rA1_5_N42_ := ze_r N42_ 1 5
                          have eD0_6_N42_ : ze N42_ (d_ + 0) 6 = ze N36_ (d_ + 0) 6 := hsN42_.e (by decide)
                          have rD33_2_N42_ := ze_r N42_ (d_ + 33) 2
                          have rD33_3_N42_ := ze_r N42_ (d_ + 33) 3
                          have rD33_4_N42_ := ze_r N42_ (d_ + 33) 4
                          have rD33_5_N42_ := ze_r N42_ (d_ + 33) 5
                          have rD33_6_N42_ := ze_r N42_ (d_ + 33) 6
                          have c44_ : zYb b_ n_ N42_ := zYb.fr (hf_N36_.w hW) hsN42_ c38_ (by decide)
                          have c45_ : zKm F_ K_ d_ N42_ := zKm.fr (hf_N36_.w hW) hsN42_ c39_ (by decide)
                          rcases hp1_N42_ with ⟨rfl, ha109_0_hp1_N42_, ha109_1_hp1_N42_, ha109_2_hp1_N42_, ha109_3_hp1_N42_⟩ | ⟨rfl, ha109_0_hp1_N42_, ha109_1_hp1_N42_⟩
                          · skip
                            have hm0_ := ha109_0_hp1_N42_
                            have hm1_ := ha109_1_hp1_N42_
                            have hm2_ := ha109_2_hp1_N42_
                            have hm3_ := ha109_3_hp1_N42_
                            have hnm2_ := hnmb_.l hsN42_ hm2_ hF27_ (by decide)
                            rw [hx3_] at hm0_
                            obtain ⟨j1_, j2_, j3_⟩ := zKst_3 hm3_ hm1_
                            have hsm_ := zls_g hl0_ hall_ hm0_ (show zfs b_ n_ F_ K_ nm_ (zKst 3 F_ d_ N42_) = zKst 3 F_ d_ N42_ from rfl)
                            have hz0d_ := hz0c_.tr (zLow.s0 hm2_)
                            show zW l m_Reader_readLets (zn Mz + 0, zw Mz + 0) N42_ 112 [some (.ref 4), some (.ref (d_ + 0)), some (.int (Int32.ofInt u1_)), some (.int (Int32.ofInt (ze N2_ 1 2))), some (.int (Int32.ofInt (ze N20_ 1 5)))] [.int (Int32.ofInt 1)] (zqcI d_ [(1, 2), (1, 3), (1, 4), (1, 5), (4, 1), (4, 2), (4, 3)] [] [(0, 6), (33, 2), (33, 3), (33, 4), (33, 5), (33, 6)] [25, 27, 35, 37] Mz (fun v N => (((v = 1 ∧ (∃ q nm, zRg (zls b_ n_ F_ K_) (0, (ze Mz 1 2).toNat, nm0_) (1, q, nm) ∧ zNm nm F_ K_ d_ N) ∧ zS0 d_ Mz N) ∨ (v = 0 ∧ zRg (zls b_ n_ F_ K_) (0, (ze Mz 1 2).toNat, nm0_) zLf)))))
                            refine zr_if_eq (pc := 112) (tgt := 124) ⟨(by decide), (by decide)⟩ (by decide) d_Reader_readLets_112 (fun hc_112 => ?_) (fun hc_112 => ?_)
                            · skip
                              exact absurd hc_112 (by decide)
                            · skip
                              refine zw_aload_n (pc := 115) (n := 0) (x := 4) rfl d_Reader_readLets_115 ?_
                              refine zw_bipush (pc := 116) (v := Int32.ofInt 59) (by decide) d_Reader_readLets_116 ?_
                              refine zk_callV hf_N42_.x (pc := 118) [.int (Int32.ofInt 59)] [] l_Reader_66 (u_Reader_passSign l d_ N42_ (hf_N42_.w hW) 59 (by decide) (by decide) b_ n_ c44_ hp0_N42_) rfl rfl ((hf_N42_.w hW).ka (o := 4) (by decide)) (by decide) (by decide) (Nat.le_of_ble_eq_true rfl) d_Reader_readLets_118 ?_
                              rintro _ N46_ ⟨v47_, rfl, ⟨hv47_a, hv47_b⟩, hsN46_, ⟨hp0_N46_, hp1_N46_⟩⟩
                              have hf_N46_ : zFc d_ [(1, 2), (1, 3), (1, 4), (1, 5), (4, 1), (4, 2), (4, 3)] [] [(0, 6), (33, 2), (33, 3), (33, 4), (33, 5), (33, 6)] [25, 27, 35, 37] Mz N46_ := hf_N42_.tr hsN46_ (by decide) (by decide) (by decide) (by decide)
                              have hb0_N46_ : zFc d_ [(1, 2), (1, 3), (1, 4), (1, 5), (4, 1), (4, 2), (4, 3)] [] [(0, 6), (33, 2), (33, 3), (33, 4), (33, 5), (33, 6)] [25, 27, 35, 37] Mz N46_ := hb0_N42_.tr hsN46_ (by decide) (by decide) (by decide) (by decide)
                              have rA1_2_N46_ := ze_r N46_ 1 2
                              have rA1_3_N46_ := ze_r N46_ 1 3
                              have rA1_4_N46_ := ze_r N46_ 1 4
                              have rA1_5_N46_ := ze_r N46_ 1 5
                              have eD0_6_N46_ : ze N46_ (d_ + 0) 6 = ze N42_ (d_ + 0) 6 := hsN46_.e (by decide)
                              have eD33_2_N46_ : ze N46_ (d_ + 33) 2 = ze N42_ (d_ + 33) 2 := hsN46_.e (by decide)
                              have eD33_3_N46_ : ze N46_ (d_ + 33) 3 = ze N42_ (d_ + 33) 3 := hsN46_.e (by decide)
                              have eD33_4_N46_ : ze N46_ (d_ + 33) 4 = ze N42_ (d_ + 33) 4 := hsN46_.e (by decide)
                              have eD33_5_N46_ : ze N46_ (d_ + 33) 5 = ze N42_ (d_ + 33) 5 := hsN46_.e (by decide)
                              have eD33_6_N46_ : ze N46_ (d_ + 33) 6 = ze N42_ (d_ + 33) 6 := hsN46_.e (by decide)
                              have qzkS_N46_ : zkS d_ N46_ = zkS d_ N42_ := zkS_q hsN46_ (by decide)
                              have qzkG_N46_ : zkG d_ N46_ = zkG d_ N42_ := zkG_q hsN46_ (by decide)
                              have qzkW_N46_ : zkW F_ d_ N46_ = zkW F_ d_ N42_ := zkW_q hsN46_ (by decide)
                              have c48_ : zYb b_ n_ N46_ := zYb.fr (hf_N42_.w hW) hsN46_ c44_ (by decide)
                              have c49_ : zKm F_ K_ d_ N46_ := zKm.fr (hf_N42_.w hW) hsN46_ c45_ (by decide)
                              have c50_ : zCI F_ K_ d_ 1 N46_ := zCI.fr (hf_N42_.w hW) hsN46_ hm1_ (by decide)
                              have c51_ : zNm nm_ F_ K_ d_ N46_ := zNm.fr (hf_N42_.w hW) hsN46_ hnm2_ (by decide)
                              have c52_ : zS0 d_ Mz N46_ := zS0.fr (hf_N42_.w hW) hsN46_ hz0d_ (by decide)
                              rcases hp1_N46_ with ⟨rfl, ha118_0_hp1_N46_, ha118_1_hp1_N46_⟩ | ⟨rfl, ha118_0_hp1_N46_⟩
                              · skip
                                have hs4_ := ha118_0_hp1_N46_
                                have hx4_ := ha118_1_hp1_N46_
                                have hv21_ := zvc_f (F := F_) hsN46_ (by decide) 21
                                show zW l m_Reader_readLets (zn Mz + 0, zw Mz + 0) N46_ 121 [some (.ref 4), some (.ref (d_ + 0)), some (.int (Int32.ofInt u1_)), some (.int (Int32.ofInt (ze N2_ 1 2))), some (.int (Int32.ofInt (ze N20_ 1 5)))] [.int (Int32.ofInt 1)] (zqcI d_ [(1, 2), (1, 3), (1, 4), (1, 5), (4, 1), (4, 2), (4, 3)] [] [(0, 6), (33, 2), (33, 3), (33, 4), (33, 5), (33, 6)] [25, 27, 35, 37] Mz (fun v N => (((v = 1 ∧ (∃ q nm, zRg (zls b_ n_ F_ K_) (0, (ze Mz 1 2).toNat, nm0_) (1, q, nm) ∧ zNm nm F_ K_ d_ N) ∧ zS0 d_ Mz N) ∨ (v = 0 ∧ zRg (zls b_ n_ F_ K_) (0, (ze Mz 1 2).toNat, nm0_) zLf)))))
                                refine zr_if_ne (pc := 121) (tgt := 126) ⟨(by decide), (by decide)⟩ (by decide) d_Reader_readLets_121 (fun hc_121 => ?_) (fun hc_121 => ?_)
                                · skip
                                  refine zw_aload_n (pc := 126) (n := 1) (x := (d_ + 0)) rfl d_Reader_readLets_126 ?_
                                  refine zw_getF (pc := 127) f_Reader_111 rfl ((hf_N46_.w hW).kr (o := 0) (by decide)) ((hf_N46_.w hW).lr (o := 0) (s := 4) (r := 33) (by decide)) d_Reader_readLets_127 ?_
                                  refine zk_getI (pc := 130) f_Reader_115 rfl ((hf_N46_.w hW).kr (o := 33) (by decide)) d_Reader_readLets_130 ?_
                                  refine zr_if_eq (pc := 133) (tgt := 144) ⟨(ze_r N46_ (d_ + 33) 6).1, (ze_r N46_ (d_ + 33) 6).2⟩ (by decide) d_Reader_readLets_133 (fun hc_133 => ?_) (fun hc_133 => ?_)
                                  · skip
                                    refine zw_aload_n (pc := 144) (n := 1) (x := (d_ + 0)) rfl d_Reader_readLets_144 ?_
                                    refine zw_iload (pc := 145) (i := 4) (x := Int32.ofInt (ze N20_ 1 5)) rfl d_Reader_readLets_145 ?_
                                    have hz0e_ := c52_
                                    refine zk_callV hf_N46_.x (pc := 147) [.int (Int32.ofInt (ze N20_ 1 5))] [] l_Reader_121 (u_Troupe_addName l d_ N46_ (hf_N46_.w hW) (ze N20_ 1 5) (ze_r N20_ 1 5).1 (ze_r N20_ 1 5).2 F_ K_ hA_ nm_ c49_ c51_ (show ze N46_ (d_ + 0) 6 ≤ 7 by first | assumption | omega) (show zfit F_ K_ (zvc F_ d_ N46_ 21) by rw [hv21_]; exact j2_)) rfl rfl ((hf_N46_.w hW).kr (o := 0) (by decide)) (by decide) (by decide) (Nat.le_of_ble_eq_true rfl) d_Reader_readLets_147 ?_
                                    rintro _ N53_ ⟨rfl, hsN53_, ⟨hp0_N53_, hp1_N53_, hp2_N53_⟩⟩
                                    have hf_N53_ : zFc d_ [(1, 2), (1, 3), (1, 4), (1, 5), (4, 1), (4, 2), (4, 3)] [] [(0, 6), (33, 2), (33, 3), (33, 4), (33, 5), (33, 6)] [25, 27, 35, 37] Mz N53_ := hf_N46_.tr hsN53_ (by decide) (by decide) (by decide) (by decide)
                                    have hb0_N53_ : zFc d_ [(1, 2), (1, 3), (1, 4), (1, 5), (4, 1), (4, 2), (4, 3)] [] [(0, 6), (33, 2), (33, 3), (33, 4), (33, 5), (33, 6)] [25, 27, 35, 37] Mz N53_ := hb0_N46_.tr hsN53_ (by decide) (by decide) (by decide) (by decide)
                                    have eA1_2_N53_ : ze N53_ 1 2 = ze N46_ 1 2 := hsN53_.ea (hf_N46_.w hW) (by decide)
                                    have eA1_3_N53_ : ze N53_ 1 3 = ze N46_ 1 3 := hsN53_.ea (hf_N46_.w hW) (by decide)
                                    have eA1_4_N53_ : ze N53_ 1 4 = ze N46_ 1 4 := hsN53_.ea (hf_N46_.w hW) (by decide)
                                    have eA1_5_N53_ : ze N53_ 1 5 = ze N46_ 1 5 := hsN53_.ea (hf_N46_.w hW) (by decide)
                                    have rD0_6_N53_ := ze_r N53_ (d_ + 0) 6
                                    have eD33_2_N53_ : ze N53_ (d_ + 33) 2 = ze N46_ (d_ + 33) 2 := hsN53_.e (by decide)
                                    have eD33_3_N53_ : ze N53_ (d_ + 33) 3 = ze N46_ (d_ + 33) 3 := hsN53_.e (by decide)
                                    have eD33_4_N53_ : ze N53_ (d_ + 33) 4 = ze N46_ (d_ + 33) 4 := hsN53_.e (by decide)
                                    have eD33_5_N53_ : ze N53_ (d_ + 33) 5 = ze N46_ (d_ + 33) 5 := hsN53_.e (by decide)
                                    have eD33_6_N53_ : ze N53_ (d_ + 33) 6 = ze N46_ (d_ + 33) 6 := hsN53_.e (by decide)
                                    have qzkS_N53_ : zkS d_ N53_ = zkS d_ N46_ := zkS_q hsN53_ (by decide)
                                    have qzkG_N53_ : zkG d_ N53_ = zkG d_ N46_ := zkG_q hsN53_ (by decide)
                                    have c55_ : zYb b_ n_ N53_ := zYb.fr (hf_N46_.w hW) hsN53_ c48_ (by decide)
                                    have c56_ : zKm F_ K_ d_ N53_ := zKm.fr (hf_N46_.w hW) hsN53_ c49_ (by decide)
                                    have c57_ : zYt b_ n_ N53_ := zYt.fr (hf_N46_.w hW) hsN53_ hp0_N46_ (by decide)
                                    show zW l m_Reader_readLets (zn Mz + 0, zw Mz + 0) N53_ 150 [some (.ref 4), some (.ref (d_ + 0)), some (.int (Int32.ofInt u1_)), some (.int (Int32.ofInt (ze N2_ 1 2))), some (.int (Int32.ofInt (ze N20_ 1 5)))] [] (zqcI d_ [(1, 2), (1, 3), (1, 4), (1, 5), (4, 1), (4, 2), (4, 3)] [] [(0, 6), (33, 2), (33, 3), (33, 4), (33, 5), (33, 6)] [25, 27, 35, 37] Mz (fun v N => (((v = 1 ∧ (∃ q nm, zRg (zls b_ n_ F_ K_) (0, (ze Mz 1 2).toNat, nm0_) (1, q, nm) ∧ zNm nm F_ K_ d_ N) ∧ zS0 d_ Mz N) ∨ (v = 0 ∧ zRg (zls b_ n_ F_ K_) (0, (ze Mz 1 2).toNat, nm0_) zLf)))))
                                    have ha_ := hp0_N53_
                                    rw [hv21_, show (ze N20_ 1 5) = zkey b_ n_ (znx b_ n_ (ze N2_ 1 2).toNat) from hky_] at ha_
                                    have hz0f_ := hz0e_.tr hp2_N53_
                                    refine zr_iinc (pc := 150) (i := 2) (a := u1_) (n := 1) (L2 := [some (.ref 4), some (.ref (d_ + 0)), some (.int (Int32.ofInt (u1_ + 1))), some (.int (Int32.ofInt (ze N2_ 1 2))), some (.int (Int32.ofInt (ze N20_ 1 5)))]) rfl (by decide) rfl d_Reader_readLets_150 ?_
                                    refine zw_goto (pc := 153) (tgt := 2) (by decide) d_Reader_readLets_153 ?_
                                    have hst_ : zRg (zls b_ n_ F_ K_) (0, (ze Mz 1 2).toNat, nm0_) (0, (ze N53_ 1 2).toNat, nm_ ++ [(zkey b_ n_ (znx b_ n_ (ze N2_ 1 2).toNat), zvc F_ d_ N42_ 21)]) := hre_.tr (zRg.st (hsm_.trans (by rcases j3_ with ⟨g_, e_⟩ | ⟨g_, e_⟩; rw [e_, zle_t hs4_, show (ze N53_ 1 2).toNat = znx b_ n_ (ze N42_ 1 2).toNat by rw [show ze N53_ 1 2 = ze N46_ 1 2 by omega, hx4_]]; exfalso; omega)))
                                    refine zW_le [some (.ref 4), some (.ref (d_ + 0)), some (.int (Int32.ofInt (u1_ + 1))), none, none] (⟨rfl, rfl, rfl, trivial⟩) ?_
                                    exact ih_2 (u1_ + 1) (by omega) (by omega) N53_ hb0_N53_ (show 0 ≤ (u1_ + 1) by first | assumption | omega) (show (u1_ + 1) ≤ ze N53_ (d_ + 0) 6 by first | assumption | omega) c57_ (show ∃ nm, zNm nm F_ K_ d_ N53_ ∧ zRg (zls b_ n_ F_ K_) (0, (ze Mz 1 2).toNat, nm0_) (0, (ze N53_ 1 2).toNat, nm) by exact ⟨_, ha_, hst_⟩) hz0f_ (by omega)
                                  · skip
                                    refine zw_aload_n (pc := 136) (n := 0) (x := 4) rfl d_Reader_readLets_136 ?_
                                    refine zw_bipush (pc := 137) (v := Int32.ofInt 6) (by decide) d_Reader_readLets_137 ?_
                                    refine zw_iload_n (pc := 139) (n := 3) (x := Int32.ofInt (ze N2_ 1 2)) rfl d_Reader_readLets_139 ?_
                                    refine zk_callV hf_N46_.x (pc := 140) [.int (Int32.ofInt 6), .int (Int32.ofInt (ze N2_ 1 2))] [] l_Reader_33 (u_Reader_refuseAt l d_ N46_ (hf_N46_.w hW) 6 (by decide) (by decide) (ze N2_ 1 2) (ze_r N2_ 1 2).1 (ze_r N2_ 1 2).2) rfl rfl ((hf_N46_.w hW).ka (o := 4) (by decide)) (by decide) (by decide) (Nat.le_of_ble_eq_true rfl) d_Reader_readLets_140 ?_
                                    rintro _ N58_ ⟨v59_, rfl, ⟨hv59_a, hv59_b⟩, hsN58_, hp0_N58_⟩
                                    replace hp0_N58_ : ((v59_ = 0)) := hp0_N58_
                                    have hf_N58_ : zFc d_ [(1, 2), (1, 3), (1, 4), (1, 5), (4, 1), (4, 2), (4, 3)] [] [(0, 6), (33, 2), (33, 3), (33, 4), (33, 5), (33, 6)] [25, 27, 35, 37] Mz N58_ := hf_N46_.tr hsN58_ (by decide) (by decide) (by decide) (by decide)
                                    have eA1_2_N58_ : ze N58_ 1 2 = ze N46_ 1 2 := hsN58_.ea (hf_N46_.w hW) (by decide)
                                    have eA1_3_N58_ : ze N58_ 1 3 = ze N46_ 1 3 := hsN58_.ea (hf_N46_.w hW) (by decide)
                                    have eA1_4_N58_ : ze N58_ 1 4 = ze N46_ 1 4 := hsN58_.ea (hf_N46_.w hW) (by decide)
                                    have eA1_5_N58_ : ze N58_ 1 5 = ze N46_ 1 5 := hsN58_.ea (hf_N46_.w hW) (by decide)
                                    have eD0_6_N58_ : ze N58_ (d_ + 0) 6 = ze N46_ (d_ + 0) 6 := hsN58_.e (by decide)
                                    have eD33_2_N58_ : ze N58_ (d_ + 33) 2 = ze N46_ (d_ + 33) 2 := hsN58_.e (by decide)
                                    have eD33_3_N58_ : ze N58_ (d_ + 33) 3 = ze N46_ (d_ + 33) 3 := hsN58_.e (by decide)
                                    have eD33_4_N58_ : ze N58_ (d_ + 33) 4 = ze N46_ (d_ + 33) 4 := hsN58_.e (by decide)
                                    have eD33_5_N58_ : ze N58_ (d_ + 33) 5 = ze N46_ (d_ + 33) 5 := hsN58_.e (by decide)
                                    have eD33_6_N58_ : ze N58_ (d_ + 33) 6 = ze N46_ (d_ + 33) 6 := hsN58_.e (by decide)
                                    have qzkS_N58_ : zkS d_ N58_ = zkS d_ N46_ := zkS_q hsN58_ (by decide)
                                    have qzkG_N58_ : zkG d_ N58_ = zkG d_ N46_ := zkG_q hsN58_ (by decide)
                                    have qzkW_N58_ : zkW F_ d_ N58_ = zkW F_ d_ N46_ := zkW_q hsN58_ (by decide)
                                    have c60_ : zYb b_ n_ N58_ := zYb.fr (hf_N46_.w hW) hsN58_ c48_ (by decide)
                                    have c61_ : zKm F_ K_ d_ N58_ := zKm.fr (hf_N46_.w hW) hsN58_ c49_ (by decide)
                                    have c62_ : zCI F_ K_ d_ 1 N58_ := zCI.fr (hf_N46_.w hW) hsN58_ c50_ (by decide)
                                    have c63_ : zNm nm_ F_ K_ d_ N58_ := zNm.fr (hf_N46_.w hW) hsN58_ c51_ (by decide)
                                    have c64_ : zS0 d_ Mz N58_ := zS0.fr (hf_N46_.w hW) hsN58_ c52_ (by decide)
                                    have c65_ : zYt b_ n_ N58_ := zYt.fr (hf_N46_.w hW) hsN58_ hp0_N46_ (by decide)
                                    rcases hp0_N58_ with rfl
                                    · skip
                                      show zW l m_Reader_readLets (zn Mz + 0, zw Mz + 0) N58_ 143 [some (.ref 4), some (.ref (d_ + 0)), some (.int (Int32.ofInt u1_)), some (.int (Int32.ofInt (ze N2_ 1 2))), some (.int (Int32.ofInt (ze N20_ 1 5)))] [.int (Int32.ofInt 0)] (zqcI d_ [(1, 2), (1, 3), (1, 4), (1, 5), (4, 1), (4, 2), (4, 3)] [] [(0, 6), (33, 2), (33, 3), (33, 4), (33, 5), (33, 6)] [25, 27, 35, 37] Mz (fun v N => (((v = 1 ∧ (∃ q nm, zRg (zls b_ n_ F_ K_) (0, (ze Mz 1 2).toNat, nm0_) (1, q, nm) ∧ zNm nm F_ K_ d_ N) ∧ zS0 d_ Mz N) ∨ (v = 0 ∧ zRg (zls b_ n_ F_ K_) (0, (ze Mz 1 2).toNat, nm0_) zLf)))))
                                      exact zk_iret (pc := 143) (ty := .boolean) rfl (z_narB (by omega)) ⟨by omega, by omega⟩ hf_N58_ (show ((0 = 1 ∧ (∃ q nm, zRg (zls b_ n_ F_ K_) (0, (ze Mz 1 2).toNat, nm0_) (1, q, nm) ∧ zNm nm F_ K_ d_ N58_) ∧ zS0 d_ Mz N58_) ∨ (0 = 0 ∧ zRg (zls b_ n_ F_ K_) (0, (ze Mz 1 2).toNat, nm0_) zLf)) from Or.inr (⟨(show 0 = 0 by first | rfl | exact hrt_ | exact hre_.tr (zRg.st (zls_f (F := F_) (K := K_) hl0_ (fun q_ => by have := q_.1; omega))) | exact hre_.tr (zRg.st (zls_ef (F := F_) (K := K_) hl1_ (by omega))) | exact hre_.tr (zRg.st (hsm_.trans (by rcases j3_ with ⟨g_, e_⟩ | ⟨g_, e_⟩; exfalso; omega; rw [e_]; exact zle_b))) | (exfalso; omega)), (show zRg (zls b_ n_ F_ K_) (0, (ze Mz 1 2).toNat, nm0_) zLf by first | rfl | exact hrt_ | exact hre_.tr (zRg.st (zls_f (F := F_) (K := K_) hl0_ (fun q_ => by have := q_.1; omega))) | exact hre_.tr (zRg.st (zls_ef (F := F_) (K := K_) hl1_ (by omega))) | exact hre_.tr (zRg.st (hsm_.trans (by rcases j3_ with ⟨g_, e_⟩ | ⟨g_, e_⟩; exfalso; omega; rw [e_]; exact zle_b))) | (exfalso; omega))⟩)) d_Reader_readLets_143
                                · skip
                                  exact absurd hc_121 (by decide)
                              · skip
                                have hrt_ := hre_.tr (zRg.st (hsm_.trans (zle_n ha118_0_hp1_N46_)))
                                show zW l m_Reader_readLets (zn Mz + 0, zw Mz + 0) N46_ 121 [some (.ref 4), some (.ref (d_ + 0)), some (.int (Int32.ofInt u1_)), some (.int (Int32.ofInt (ze N2_ 1 2))), some (.int (Int32.ofInt (ze N20_ 1 5)))] [.int (Int32.ofInt 0)] (zqcI d_ [(1, 2), (1, 3), (1, 4), (1, 5), (4, 1), (4, 2), (4, 3)] [] [(0, 6), (33, 2), (33, 3), (33, 4), (33, 5), (33, 6)] [25, 27, 35, 37] Mz (fun v N => (((v = 1 ∧ (∃ q nm, zRg (zls b_ n_ F_ K_) (0, (ze Mz 1 2).toNat, nm0_) (1, q, nm) ∧ zNm nm F_ K_ d_ N) ∧ zS0 d_ Mz N) ∨ (v = 0 ∧ zRg (zls b_ n_ F_ K_) (0, (ze Mz 1 2).toNat, nm0_) zLf)))))
                                refine zr_if_ne (pc := 121) (tgt := 126) ⟨(by decide), (by decide)⟩ (by decide) d_Reader_readLets_121 (fun hc_121 => ?_) (fun hc_121 => ?_)
                                · skip
                                  exact absurd hc_121 (by decide)
                                · skip
                                  refine zw_iconst (pc := 124) (v := Int32.ofInt 0) (by decide) d_Reader_readLets_124 ?_
                                  exact zk_iret (pc := 125) (ty := .boolean) rfl (z_narB (by omega)) ⟨by omega, by omega⟩ hf_N46_ (show ((0 = 1 ∧ (∃ q nm, zRg (zls b_ n_ F_ K_) (0, (ze Mz 1 2).toNat, nm0_) (1, q, nm) ∧ zNm nm F_ K_ d_ N46_) ∧ zS0 d_ Mz N46_) ∨ (0 = 0 ∧ zRg (zls b_ n_ F_ K_) (0, (ze Mz 1 2).toNat, nm0_) zLf)) from Or.inr (⟨(show 0 = 0 by first | rfl | exact hrt_ | exact hre_.tr (zRg.st (zls_f (F := F_) (K := K_) hl0_ (fun q_ => by have := q_.1; omega))) | exact hre_.tr (zRg.st (zls_ef (F := F_) (K := K_) hl1_ (by omega))) | exact hre_.tr (zRg.st (hsm_.trans (by rcases j3_ with ⟨g_, e_⟩ | ⟨g_, e_⟩; exfalso; omega; rw [e_]; exact zle_b))) | (exfalso; omega)), (show zRg (zls b_ n_ F_ K_) (0, (ze Mz 1 2).toNat, nm0_) zLf by first | rfl | exact hrt_ | exact hre_.tr (zRg.st (zls_f (F := F_) (K := K_) hl0_ (fun q_ => by have := q_.1; omega))) | exact hre_.tr (zRg.st (zls_ef (F := F_) (K := K_) hl1_ (by omega))) | exact hre_.tr (zRg.st (hsm_.trans (by rcases j3_ with ⟨g_, e_⟩ | ⟨g_, e_⟩; exfalso; omega; rw [e_]; exact zle_b))) | (exfalso; omega))⟩)) d_Reader_readLets_125
                          · skip
                            have hm0_ := ha109_0_hp1_N42_
                            rw [hx3_] at hm0_
                            have hrt_ := hre_.tr (zRg.st ((zls_g hl0_ hall_ hm0_ zfs_F).trans zle_f))
                            show zW l m_Reader_readLets (zn Mz + 0, zw Mz + 0) N42_ 112 [some (.ref 4), some (.ref (d_ + 0)), some (.int (Int32.ofInt u1_)), some (.int (Int32.ofInt (ze N2_ 1 2))), some (.int (Int32.ofInt (ze N20_ 1 5)))] [.int (Int32.ofInt 0)] (zqcI d_ [(1, 2), (1, 3), (1, 4), (1, 5), (4, 1), (4, 2), (4, 3)] [] [(0, 6), (33, 2), (33, 3), (33, 4), (33, 5), (33, 6)] [25, 27, 35, 37] Mz (fun v N => (((v = 1 ∧ (∃ q nm, zRg (zls b_ n_ F_ K_) (0, (ze Mz 1 2).toNat, nm0_) (1, q, nm) ∧ zNm nm F_ K_ d_ N) ∧ zS0 d_ Mz N) ∨ (v = 0 ∧ zRg (zls b_ n_ F_ K_) (0, (ze Mz 1 2).toNat, nm0_) zLf)))))
                            refine zr_if_eq (pc := 112) (tgt := 124) ⟨(by decide), (by decide)⟩ (by decide) d_Reader_readLets_112 (fun hc_112 => ?_) (fun hc_112 => ?_)
                            · skip
                              refine zw_iconst (pc := 124) (v := Int32.ofInt 0) (by decide) d_Reader_readLets_124 ?_
                              exact zk_iret (pc := 125) (ty := .boolean) rfl (z_narB (by omega)) ⟨by omega, by omega⟩ hf_N42_ (show ((0 = 1 ∧ (∃ q nm, zRg (zls b_ n_ F_ K_) (0, (ze Mz 1 2).toNat, nm0_) (1, q, nm) ∧ zNm nm F_ K_ d_ N42_) ∧ zS0 d_ Mz N42_) ∨ (0 = 0 ∧ zRg (zls b_ n_ F_ K_) (0, (ze Mz 1 2).toNat, nm0_) zLf)) from Or.inr (⟨(show 0 = 0 by first | rfl | exact hrt_ | exact hre_.tr (zRg.st (zls_f (F := F_) (K := K_) hl0_ (fun q_ => by have := q_.1; omega))) | exact hre_.tr (zRg.st (zls_ef (F := F_) (K := K_) hl1_ (by omega))) | exact hre_.tr (zRg.st (hsm_.trans (by rcases j3_ with ⟨g_, e_⟩ | ⟨g_, e_⟩; exfalso; omega; rw [e_]; exact zle_b))) | (exfalso; omega)), (show zRg (zls b_ n_ F_ K_) (0, (ze Mz 1 2).toNat, nm0_) zLf by first | rfl | exact hrt_ | exact hre_.tr (zRg.st (zls_f (F := F_) (K := K_) hl0_ (fun q_ => by have := q_.1; omega))) | exact hre_.tr (zRg.st (zls_ef (F := F_) (K := K_) hl1_ (by omega))) | exact hre_.tr (zRg.st (hsm_.trans (by rcases j3_ with ⟨g_, e_⟩ | ⟨g_, e_⟩; exfalso; omega; rw [e_]; exact zle_b))) | (exfalso; omega))⟩)) d_Reader_readLets_125
                            · skip
                              exact absurd hc_112 (by decide)
                      · skip
                        have hs1_ := ha101_0_hp1_N36_
                        rw [hx2_] at hs1_
                        have hrt_ := hre_.tr (zRg.st (zls_f (F := F_) (K := K_) hl0_ (fun q_ => hs1_ q_.2.2.2)))
                        show zW l m_Reader_readLets (zn Mz + 0, zw Mz + 0) N36_ 104 [some (.ref 4), some (.ref (d_ + 0)), some (.int (Int32.ofInt u1_)), some (.int (Int32.ofInt (ze N2_ 1 2))), some (.int (Int32.ofInt (ze N20_ 1 5)))] [.int (Int32.ofInt 0)] (zqcI d_ [(1, 2), (1, 3), (1, 4), (1, 5), (4, 1), (4, 2), (4, 3)] [] [(0, 6), (33, 2), (33, 3), (33, 4), (33, 5), (33, 6)] [25, 27, 35, 37] Mz (fun v N => (((v = 1 ∧ (∃ q nm, zRg (zls b_ n_ F_ K_) (0, (ze Mz 1 2).toNat, nm0_) (1, q, nm) ∧ zNm nm F_ K_ d_ N) ∧ zS0 d_ Mz N) ∨ (v = 0 ∧ zRg (zls b_ n_ F_ K_) (0, (ze Mz 1 2).toNat, nm0_) zLf)))))
                        refine zr_if_eq (pc := 104) (tgt := 124) ⟨(by decide), (by decide)⟩ (by decide) d_Reader_readLets_104 (fun hc_104 => ?_) (fun hc_104 => ?_)
                        · skip
                          refine zw_iconst (pc := 124) (v := Int32.ofInt 0) (by decide) d_Reader_readLets_124 ?_
                          exact zk_iret (pc := 125) (ty := .boolean) rfl (z_narB (by omega)) ⟨by omega, by omega⟩ hf_N36_ (show ((0 = 1 ∧ (∃ q nm, zRg (zls b_ n_ F_ K_) (0, (ze Mz 1 2).toNat, nm0_) (1, q, nm) ∧ zNm nm F_ K_ d_ N36_) ∧ zS0 d_ Mz N36_) ∨ (0 = 0 ∧ zRg (zls b_ n_ F_ K_) (0, (ze Mz 1 2).toNat, nm0_) zLf)) from Or.inr (⟨(show 0 = 0 by first | rfl | exact hrt_ | exact hre_.tr (zRg.st (zls_f (F := F_) (K := K_) hl0_ (fun q_ => by have := q_.1; omega))) | exact hre_.tr (zRg.st (zls_ef (F := F_) (K := K_) hl1_ (by omega))) | exact hre_.tr (zRg.st (hsm_.trans (by rcases j3_ with ⟨g_, e_⟩ | ⟨g_, e_⟩; exfalso; omega; rw [e_]; exact zle_b))) | (exfalso; omega)), (show zRg (zls b_ n_ F_ K_) (0, (ze Mz 1 2).toNat, nm0_) zLf by first | rfl | exact hrt_ | exact hre_.tr (zRg.st (zls_f (F := F_) (K := K_) hl0_ (fun q_ => by have := q_.1; omega))) | exact hre_.tr (zRg.st (zls_ef (F := F_) (K := K_) hl1_ (by omega))) | exact hre_.tr (zRg.st (hsm_.trans (by rcases j3_ with ⟨g_, e_⟩ | ⟨g_, e_⟩; exfalso; omega; rw [e_]; exact zle_b))) | (exfalso; omega))⟩)) d_Reader_readLets_125
                        · skip
                          exact absurd hc_104 (by decide)
                    · skip
                      exact absurd hc_82 (by decide)
                  · skip
                    have hf1_ := ha78_2_hp0_N28_
                    rw [show (ze N20_ 1 5) = zkey b_ n_ (znx b_ n_ (ze N2_ 1 2).toNat) from hky_] at hf1_
                    have hrt_ := hre_.tr (zRg.st (zls_f (F := F_) (K := K_) hl0_ (fun q_ => by rw [hf1_] at q_; exact absurd q_.2.2.1 (fun z => by cases z))))
                    show zW l m_Reader_readLets (zn Mz + 0, zw Mz + 0) N20_ 81 [some (.ref 4), some (.ref (d_ + 0)), some (.int (Int32.ofInt u1_)), some (.int (Int32.ofInt (ze N2_ 1 2))), some (.int (Int32.ofInt (ze N20_ 1 5)))] [.int (Int32.ofInt v29_)] (zqcI d_ [(1, 2), (1, 3), (1, 4), (1, 5), (4, 1), (4, 2), (4, 3)] [] [(0, 6), (33, 2), (33, 3), (33, 4), (33, 5), (33, 6)] [25, 27, 35, 37] Mz (fun v N => (((v = 1 ∧ (∃ q nm, zRg (zls b_ n_ F_ K_) (0, (ze Mz 1 2).toNat, nm0_) (1, q, nm) ∧ zNm nm F_ K_ d_ N) ∧ zS0 d_ Mz N) ∨ (v = 0 ∧ zRg (zls b_ n_ F_ K_) (0, (ze Mz 1 2).toNat, nm0_) zLf)))))
                    refine zw_iconst (pc := 81) (v := Int32.ofInt (-1)) (by decide) d_Reader_readLets_81 ?_
                    refine zr_icmp_eq (pc := 82) (tgt := 91) ⟨hv29_a, hv29_b⟩ ⟨(by decide), (by decide)⟩ (by decide) d_Reader_readLets_82 (fun hc_82 => ?_) (fun hc_82 => ?_)
                    · skip
                      exfalso; omega
                    · skip
                      refine zw_aload_n (pc := 85) (n := 0) (x := 4) rfl d_Reader_readLets_85 ?_
                      refine zw_iconst (pc := 86) (v := Int32.ofInt 3) (by decide) d_Reader_readLets_86 ?_
                      refine zk_callV hf_N20_.x (pc := 87) [.int (Int32.ofInt 3)] [] l_Reader_41 (u_Reader_refuse l d_ N20_ (hf_N20_.w hW) 3 (by decide) (by decide)) rfl rfl ((hf_N20_.w hW).ka (o := 4) (by decide)) (by decide) (by decide) (Nat.le_of_ble_eq_true rfl) d_Reader_readLets_87 ?_
                      rintro _ N66_ ⟨v67_, rfl, ⟨hv67_a, hv67_b⟩, hsN66_, hp0_N66_⟩
                      replace hp0_N66_ : ((v67_ = 0)) := hp0_N66_
                      have hf_N66_ : zFc d_ [(1, 2), (1, 3), (1, 4), (1, 5), (4, 1), (4, 2), (4, 3)] [] [(0, 6), (33, 2), (33, 3), (33, 4), (33, 5), (33, 6)] [25, 27, 35, 37] Mz N66_ := hf_N20_.tr hsN66_ (by decide) (by decide) (by decide) (by decide)
                      have eA1_2_N66_ : ze N66_ 1 2 = ze N20_ 1 2 := hsN66_.ea (hf_N20_.w hW) (by decide)
                      have eA1_3_N66_ : ze N66_ 1 3 = ze N20_ 1 3 := hsN66_.ea (hf_N20_.w hW) (by decide)
                      have eA1_4_N66_ : ze N66_ 1 4 = ze N20_ 1 4 := hsN66_.ea (hf_N20_.w hW) (by decide)
                      have eA1_5_N66_ : ze N66_ 1 5 = ze N20_ 1 5 := hsN66_.ea (hf_N20_.w hW) (by decide)
                      have eD0_6_N66_ : ze N66_ (d_ + 0) 6 = ze N20_ (d_ + 0) 6 := hsN66_.e (by decide)
                      have eD33_2_N66_ : ze N66_ (d_ + 33) 2 = ze N20_ (d_ + 33) 2 := hsN66_.e (by decide)
                      have eD33_3_N66_ : ze N66_ (d_ + 33) 3 = ze N20_ (d_ + 33) 3 := hsN66_.e (by decide)
                      have eD33_4_N66_ : ze N66_ (d_ + 33) 4 = ze N20_ (d_ + 33) 4 := hsN66_.e (by decide)
                      have eD33_5_N66_ : ze N66_ (d_ + 33) 5 = ze N20_ (d_ + 33) 5 := hsN66_.e (by decide)
                      have eD33_6_N66_ : ze N66_ (d_ + 33) 6 = ze N20_ (d_ + 33) 6 := hsN66_.e (by decide)
                      have qzkS_N66_ : zkS d_ N66_ = zkS d_ N20_ := zkS_q hsN66_ (by decide)
                      have qzkG_N66_ : zkG d_ N66_ = zkG d_ N20_ := zkG_q hsN66_ (by decide)
                      have qzkW_N66_ : zkW F_ d_ N66_ = zkW F_ d_ N20_ := zkW_q hsN66_ (by decide)
                      have c68_ : zYb b_ n_ N66_ := zYb.fr (hf_N20_.w hW) hsN66_ c22_ (by decide)
                      have c69_ : zKm F_ K_ d_ N66_ := zKm.fr (hf_N20_.w hW) hsN66_ c23_ (by decide)
                      have c70_ : zS0 d_ Mz N66_ := zS0.fr (hf_N20_.w hW) hsN66_ c24_ (by decide)
                      have c71_ : zNm nm_ F_ K_ d_ N66_ := zNm.fr (hf_N20_.w hW) hsN66_ c25_ (by decide)
                      have c72_ : zYt b_ n_ N66_ := zYt.fr (hf_N20_.w hW) hsN66_ hp1_N20_ (by decide)
                      rcases hp0_N66_ with rfl
                      · skip
                        show zW l m_Reader_readLets (zn Mz + 0, zw Mz + 0) N66_ 90 [some (.ref 4), some (.ref (d_ + 0)), some (.int (Int32.ofInt u1_)), some (.int (Int32.ofInt (ze N2_ 1 2))), some (.int (Int32.ofInt (ze N20_ 1 5)))] [.int (Int32.ofInt 0)] (zqcI d_ [(1, 2), (1, 3), (1, 4), (1, 5), (4, 1), (4, 2), (4, 3)] [] [(0, 6), (33, 2), (33, 3), (33, 4), (33, 5), (33, 6)] [25, 27, 35, 37] Mz (fun v N => (((v = 1 ∧ (∃ q nm, zRg (zls b_ n_ F_ K_) (0, (ze Mz 1 2).toNat, nm0_) (1, q, nm) ∧ zNm nm F_ K_ d_ N) ∧ zS0 d_ Mz N) ∨ (v = 0 ∧ zRg (zls b_ n_ F_ K_) (0, (ze Mz 1 2).toNat, nm0_) zLf)))))
                        exact zk_iret (pc := 90) (ty := .boolean) rfl (z_narB (by omega)) ⟨by omega, by omega⟩ hf_N66_ (show ((0 = 1 ∧ (∃ q nm, zRg (zls b_ n_ F_ K_) (0, (ze Mz 1 2).toNat, nm0_) (1, q, nm) ∧ zNm nm F_ K_ d_ N66_) ∧ zS0 d_ Mz N66_) ∨ (0 = 0 ∧ zRg (zls b_ n_ F_ K_) (0, (ze Mz 1 2).toNat, nm0_) zLf)) from Or.inr (⟨(show 0 = 0 by first | rfl | exact hrt_ | exact hre_.tr (zRg.st (zls_f (F := F_) (K := K_) hl0_ (fun q_ => by have := q_.1; omega))) | exact hre_.tr (zRg.st (zls_ef (F := F_) (K := K_) hl1_ (by omega))) | exact hre_.tr (zRg.st (hsm_.trans (by rcases j3_ with ⟨g_, e_⟩ | ⟨g_, e_⟩; exfalso; omega; rw [e_]; exact zle_b))) | (exfalso; omega)), (show zRg (zls b_ n_ F_ K_) (0, (ze Mz 1 2).toNat, nm0_) zLf by first | rfl | exact hrt_ | exact hre_.tr (zRg.st (zls_f (F := F_) (K := K_) hl0_ (fun q_ => by have := q_.1; omega))) | exact hre_.tr (zRg.st (zls_ef (F := F_) (K := K_) hl1_ (by omega))) | exact hre_.tr (zRg.st (hsm_.trans (by rcases j3_ with ⟨g_, e_⟩ | ⟨g_, e_⟩; exfalso; omega; rw [e_]; exact zle_b))) | (exfalso; omega))⟩)) d_Reader_readLets_90
                · skip
                  exact absurd hc_57 (by decide)
              · skip
                have hn1_ := ha54_0_hp0_N26_
                rw [hx1_] at hn1_
                have hrt_ := hre_.tr (zRg.st (zls_f (F := F_) (K := K_) hl0_ (fun q_ => hn1_ q_.2.1)))
                show zW l m_Reader_readLets (zn Mz + 0, zw Mz + 0) N20_ 57 [some (.ref 4), some (.ref (d_ + 0)), some (.int (Int32.ofInt u1_)), some (.int (Int32.ofInt (ze N2_ 1 2))), none] [.int (Int32.ofInt 0)] (zqcI d_ [(1, 2), (1, 3), (1, 4), (1, 5), (4, 1), (4, 2), (4, 3)] [] [(0, 6), (33, 2), (33, 3), (33, 4), (33, 5), (33, 6)] [25, 27, 35, 37] Mz (fun v N => (((v = 1 ∧ (∃ q nm, zRg (zls b_ n_ F_ K_) (0, (ze Mz 1 2).toNat, nm0_) (1, q, nm) ∧ zNm nm F_ K_ d_ N) ∧ zS0 d_ Mz N) ∨ (v = 0 ∧ zRg (zls b_ n_ F_ K_) (0, (ze Mz 1 2).toNat, nm0_) zLf)))))
                refine zr_if_ne (pc := 57) (tgt := 66) ⟨(by decide), (by decide)⟩ (by decide) d_Reader_readLets_57 (fun hc_57 => ?_) (fun hc_57 => ?_)
                · skip
                  exact absurd hc_57 (by decide)
                · skip
                  refine zw_aload_n (pc := 60) (n := 0) (x := 4) rfl d_Reader_readLets_60 ?_
                  refine zw_iconst (pc := 61) (v := Int32.ofInt 2) (by decide) d_Reader_readLets_61 ?_
                  refine zk_callV hf_N20_.x (pc := 62) [.int (Int32.ofInt 2)] [] l_Reader_41 (u_Reader_refuse l d_ N20_ (hf_N20_.w hW) 2 (by decide) (by decide)) rfl rfl ((hf_N20_.w hW).ka (o := 4) (by decide)) (by decide) (by decide) (Nat.le_of_ble_eq_true rfl) d_Reader_readLets_62 ?_
                  rintro _ N73_ ⟨v74_, rfl, ⟨hv74_a, hv74_b⟩, hsN73_, hp0_N73_⟩
                  replace hp0_N73_ : ((v74_ = 0)) := hp0_N73_
                  have hf_N73_ : zFc d_ [(1, 2), (1, 3), (1, 4), (1, 5), (4, 1), (4, 2), (4, 3)] [] [(0, 6), (33, 2), (33, 3), (33, 4), (33, 5), (33, 6)] [25, 27, 35, 37] Mz N73_ := hf_N20_.tr hsN73_ (by decide) (by decide) (by decide) (by decide)
                  have eA1_2_N73_ : ze N73_ 1 2 = ze N20_ 1 2 := hsN73_.ea (hf_N20_.w hW) (by decide)
                  have eA1_3_N73_ : ze N73_ 1 3 = ze N20_ 1 3 := hsN73_.ea (hf_N20_.w hW) (by decide)
                  have eA1_4_N73_ : ze N73_ 1 4 = ze N20_ 1 4 := hsN73_.ea (hf_N20_.w hW) (by decide)
                  have eA1_5_N73_ : ze N73_ 1 5 = ze N20_ 1 5 := hsN73_.ea (hf_N20_.w hW) (by decide)
                  have eD0_6_N73_ : ze N73_ (d_ + 0) 6 = ze N20_ (d_ + 0) 6 := hsN73_.e (by decide)
                  have eD33_2_N73_ : ze N73_ (d_ + 33) 2 = ze N20_ (d_ + 33) 2 := hsN73_.e (by decide)
                  have eD33_3_N73_ : ze N73_ (d_ + 33) 3 = ze N20_ (d_ + 33) 3 := hsN73_.e (by decide)
                  have eD33_4_N73_ : ze N73_ (d_ + 33) 4 = ze N20_ (d_ + 33) 4 := hsN73_.e (by decide)
                  have eD33_5_N73_ : ze N73_ (d_ + 33) 5 = ze N20_ (d_ + 33) 5 := hsN73_.e (by decide)
                  have eD33_6_N73_ : ze N73_ (d_ + 33) 6 = ze N20_ (d_ + 33) 6 := hsN73_.e (by decide)
                  have qzkS_N73_ : zkS d_ N73_ = zkS d_ N20_ := zkS_q hsN73_ (by decide)
                  have qzkG_N73_ : zkG d_ N73_ = zkG d_ N20_ := zkG_q hsN73_ (by decide)
                  have qzkW_N73_ : zkW F_ d_ N73_ = zkW F_ d_ N20_ := zkW_q hsN73_ (by decide)
                  have c75_ : zYb b_ n_ N73_ := zYb.fr (hf_N20_.w hW) hsN73_ c22_ (by decide)
                  have c76_ : zKm F_ K_ d_ N73_ := zKm.fr (hf_N20_.w hW) hsN73_ c23_ (by decide)
                  have c77_ : zS0 d_ Mz N73_ := zS0.fr (hf_N20_.w hW) hsN73_ c24_ (by decide)
                  have c78_ : zNm nm_ F_ K_ d_ N73_ := zNm.fr (hf_N20_.w hW) hsN73_ c25_ (by decide)
                  have c79_ : zYt b_ n_ N73_ := zYt.fr (hf_N20_.w hW) hsN73_ hp1_N20_ (by decide)
                  rcases hp0_N73_ with rfl
                  · skip
                    show zW l m_Reader_readLets (zn Mz + 0, zw Mz + 0) N73_ 65 [some (.ref 4), some (.ref (d_ + 0)), some (.int (Int32.ofInt u1_)), some (.int (Int32.ofInt (ze N2_ 1 2))), none] [.int (Int32.ofInt 0)] (zqcI d_ [(1, 2), (1, 3), (1, 4), (1, 5), (4, 1), (4, 2), (4, 3)] [] [(0, 6), (33, 2), (33, 3), (33, 4), (33, 5), (33, 6)] [25, 27, 35, 37] Mz (fun v N => (((v = 1 ∧ (∃ q nm, zRg (zls b_ n_ F_ K_) (0, (ze Mz 1 2).toNat, nm0_) (1, q, nm) ∧ zNm nm F_ K_ d_ N) ∧ zS0 d_ Mz N) ∨ (v = 0 ∧ zRg (zls b_ n_ F_ K_) (0, (ze Mz 1 2).toNat, nm0_) zLf)))))
                    exact zk_iret (pc := 65) (ty := .boolean) rfl (z_narB (by omega)) ⟨by omega, by omega⟩ hf_N73_ (show ((0 = 1 ∧ (∃ q nm, zRg (zls b_ n_ F_ K_) (0, (ze Mz 1 2).toNat, nm0_) (1, q, nm) ∧ zNm nm F_ K_ d_ N73_) ∧ zS0 d_ Mz N73_) ∨ (0 = 0 ∧ zRg (zls b_ n_ F_ K_) (0, (ze Mz 1 2).toNat, nm0_) zLf)) from Or.inr (⟨(show 0 = 0 by first | rfl | exact hrt_ | exact hre_.tr (zRg.st (zls_f (F := F_) (K := K_) hl0_ (fun q_ => by have := q_.1; omega))) | exact hre_.tr (zRg.st (zls_ef (F := F_) (K := K_) hl1_ (by omega))) | exact hre_.tr (zRg.st (hsm_.trans (by rcases j3_ with ⟨g_, e_⟩ | ⟨g_, e_⟩; exfalso; omega; rw [e_]; exact zle_b))) | (exfalso; omega)), (show zRg (zls b_ n_ F_ K_) (0, (ze Mz 1 2).toNat, nm0_) zLf by first | rfl | exact hrt_ | exact hre_.tr (zRg.st (zls_f (F := F_) (K := K_) hl0_ (fun q_ => by have := q_.1; omega))) | exact hre_.tr (zRg.st (zls_ef (F := F_) (K := K_) hl1_ (by omega))) | exact hre_.tr (zRg.st (hsm_.trans (by rcases j3_ with ⟨g_, e_⟩ | ⟨g_, e_⟩; exfalso; omega; rw [e_]; exact zle_b))) | (exfalso; omega))⟩)) d_Reader_readLets_65
            · skip
              refine zw_aload_n (pc := 37) (n := 0) (x := 4) rfl d_Reader_readLets_37 ?_
              refine zw_iconst (pc := 38) (v := Int32.ofInt 5) (by decide) d_Reader_readLets_38 ?_
              refine zk_callV hf_N2_.x (pc := 39) [.int (Int32.ofInt 5)] [] l_Reader_41 (u_Reader_refuse l d_ N2_ (hf_N2_.w hW) 5 (by decide) (by decide)) rfl rfl ((hf_N2_.w hW).ka (o := 4) (by decide)) (by decide) (by decide) (Nat.le_of_ble_eq_true rfl) d_Reader_readLets_39 ?_
              rintro _ N80_ ⟨v81_, rfl, ⟨hv81_a, hv81_b⟩, hsN80_, hp0_N80_⟩
              replace hp0_N80_ : ((v81_ = 0)) := hp0_N80_
              have hf_N80_ : zFc d_ [(1, 2), (1, 3), (1, 4), (1, 5), (4, 1), (4, 2), (4, 3)] [] [(0, 6), (33, 2), (33, 3), (33, 4), (33, 5), (33, 6)] [25, 27, 35, 37] Mz N80_ := hf_N2_.tr hsN80_ (by decide) (by decide) (by decide) (by decide)
              have eA1_2_N80_ : ze N80_ 1 2 = ze N2_ 1 2 := hsN80_.ea (hf_N2_.w hW) (by decide)
              have eA1_3_N80_ : ze N80_ 1 3 = ze N2_ 1 3 := hsN80_.ea (hf_N2_.w hW) (by decide)
              have eA1_4_N80_ : ze N80_ 1 4 = ze N2_ 1 4 := hsN80_.ea (hf_N2_.w hW) (by decide)
              have eA1_5_N80_ : ze N80_ 1 5 = ze N2_ 1 5 := hsN80_.ea (hf_N2_.w hW) (by decide)
              have eD0_6_N80_ : ze N80_ (d_ + 0) 6 = ze N2_ (d_ + 0) 6 := hsN80_.e (by decide)
              have eD33_2_N80_ : ze N80_ (d_ + 33) 2 = ze N2_ (d_ + 33) 2 := hsN80_.e (by decide)
              have eD33_3_N80_ : ze N80_ (d_ + 33) 3 = ze N2_ (d_ + 33) 3 := hsN80_.e (by decide)
              have eD33_4_N80_ : ze N80_ (d_ + 33) 4 = ze N2_ (d_ + 33) 4 := hsN80_.e (by decide)
              have eD33_5_N80_ : ze N80_ (d_ + 33) 5 = ze N2_ (d_ + 33) 5 := hsN80_.e (by decide)
              have eD33_6_N80_ : ze N80_ (d_ + 33) 6 = ze N2_ (d_ + 33) 6 := hsN80_.e (by decide)
              have qzkS_N80_ : zkS d_ N80_ = zkS d_ N2_ := zkS_q hsN80_ (by decide)
              have qzkG_N80_ : zkG d_ N80_ = zkG d_ N2_ := zkG_q hsN80_ (by decide)
              have qzkW_N80_ : zkW F_ d_ N80_ = zkW F_ d_ N2_ := zkW_q hsN80_ (by decide)
              have c82_ : zYb b_ n_ N80_ := zYb.fr (hf_N2_.w hW) hsN80_ c9_ (by decide)
              have c83_ : zKm F_ K_ d_ N80_ := zKm.fr (hf_N2_.w hW) hsN80_ c10_ (by decide)
              have c84_ : zYt b_ n_ N80_ := zYt.fr (hf_N2_.w hW) hsN80_ i6_ (by decide)
              have c85_ : zS0 d_ Mz N80_ := zS0.fr (hf_N2_.w hW) hsN80_ i8_ (by decide)
              have c86_ : zNm nm_ F_ K_ d_ N80_ := zNm.fr (hf_N2_.w hW) hsN80_ hnm_ (by decide)
              rcases hp0_N80_ with rfl
              · skip
                show zW l m_Reader_readLets (zn Mz + 0, zw Mz + 0) N80_ 42 [some (.ref 4), some (.ref (d_ + 0)), some (.int (Int32.ofInt u1_)), some (.int (Int32.ofInt (ze N2_ 1 2))), none] [.int (Int32.ofInt 0)] (zqcI d_ [(1, 2), (1, 3), (1, 4), (1, 5), (4, 1), (4, 2), (4, 3)] [] [(0, 6), (33, 2), (33, 3), (33, 4), (33, 5), (33, 6)] [25, 27, 35, 37] Mz (fun v N => (((v = 1 ∧ (∃ q nm, zRg (zls b_ n_ F_ K_) (0, (ze Mz 1 2).toNat, nm0_) (1, q, nm) ∧ zNm nm F_ K_ d_ N) ∧ zS0 d_ Mz N) ∨ (v = 0 ∧ zRg (zls b_ n_ F_ K_) (0, (ze Mz 1 2).toNat, nm0_) zLf)))))
                exact zk_iret (pc := 42) (ty := .boolean) rfl (z_narB (by omega)) ⟨by omega, by omega⟩ hf_N80_ (show ((0 = 1 ∧ (∃ q nm, zRg (zls b_ n_ F_ K_) (0, (ze Mz 1 2).toNat, nm0_) (1, q, nm) ∧ zNm nm F_ K_ d_ N80_) ∧ zS0 d_ Mz N80_) ∨ (0 = 0 ∧ zRg (zls b_ n_ F_ K_) (0, (ze Mz 1 2).toNat, nm0_) zLf)) from Or.inr (⟨(show 0 = 0 by first | rfl | exact hrt_ | exact hre_.tr (zRg.st (zls_f (F := F_) (K := K_) hl0_ (fun q_ => by have := q_.1; omega))) | exact hre_.tr (zRg.st (zls_ef (F := F_) (K := K_) hl1_ (by omega))) | exact hre_.tr (zRg.st (hsm_.trans (by rcases j3_ with ⟨g_, e_⟩ | ⟨g_, e_⟩; exfalso; omega; rw [e_]; exact zle_b))) | (exfalso; omega)), (show zRg (zls b_ n_ F_ K_) (0, (ze Mz 1 2).toNat, nm0_) zLf by first | rfl | exact hrt_ | exact hre_.tr (zRg.st (zls_f (F := F_) (K := K_) hl0_ (fun q_ => by have := q_.1; omega))) | exact hre_.tr (zRg.st (zls_ef (F := F_) (K := K_) hl1_ (by omega))) | exact hre_.tr (zRg.st (hsm_.trans (by rcases j3_ with ⟨g_, e_⟩ | ⟨g_, e_⟩; exfalso; omega; rw [e_]; exact zle_b))) | (exfalso; omega))⟩)) d_Reader_readLets_42
        · skip
          have hl1_ := ha14_0_hp0_N18_
          show zW l m_Reader_readLets (zn Mz + 0, zw Mz + 0) N2_ 17 [some (.ref 4), some (.ref (d_ + 0)), some (.int (Int32.ofInt u1_)), none, none] [.int (Int32.ofInt 0)] (zqcI d_ [(1, 2), (1, 3), (1, 4), (1, 5), (4, 1), (4, 2), (4, 3)] [] [(0, 6), (33, 2), (33, 3), (33, 4), (33, 5), (33, 6)] [25, 27, 35, 37] Mz (fun v N => (((v = 1 ∧ (∃ q nm, zRg (zls b_ n_ F_ K_) (0, (ze Mz 1 2).toNat, nm0_) (1, q, nm) ∧ zNm nm F_ K_ d_ N) ∧ zS0 d_ Mz N) ∨ (v = 0 ∧ zRg (zls b_ n_ F_ K_) (0, (ze Mz 1 2).toNat, nm0_) zLf)))))
          refine zr_if_eq (pc := 17) (tgt := 156) ⟨(by decide), (by decide)⟩ (by decide) d_Reader_readLets_17 (fun hc_17 => ?_) (fun hc_17 => ?_)
          · skip
            first | (have ht4_ : ze N2_ 1 4 = zkd b_ n_ (ze N2_ 1 2).toNat := i6_.2.2.1) | skip
            refine zw_aload_n (pc := 156) (n := 0) (x := 4) rfl d_Reader_readLets_156 ?_
            refine zw_getF (pc := 157) f_Reader_15 rfl ((hf_N2_.w hW).ka (o := 4) (by decide)) ((hf_N2_.w hW).la (o := 4) (s := 0) (r := 1) (by decide)) d_Reader_readLets_157 ?_
            refine zk_getI (pc := 160) f_Reader_27 rfl ((hf_N2_.w hW).ka (o := 1) (by decide)) d_Reader_readLets_160 ?_
            refine zr_if_eq (pc := 163) (tgt := 174) ⟨(ze_r N2_ 1 4).1, (ze_r N2_ 1 4).2⟩ (by decide) d_Reader_readLets_163 (fun hc_163 => ?_) (fun hc_163 => ?_)
            · skip
              refine zw_iconst (pc := 174) (v := Int32.ofInt 1) (by decide) d_Reader_readLets_174 ?_
              refine zw_goto (pc := 175) (tgt := 179) (by decide) d_Reader_readLets_175 ?_
              exact zk_iret (pc := 179) (ty := .boolean) rfl (z_narB (by omega)) ⟨by omega, by omega⟩ hf_N2_ (show ((1 = 1 ∧ (∃ q nm, zRg (zls b_ n_ F_ K_) (0, (ze Mz 1 2).toNat, nm0_) (1, q, nm) ∧ zNm nm F_ K_ d_ N2_) ∧ zS0 d_ Mz N2_) ∨ (1 = 0 ∧ zRg (zls b_ n_ F_ K_) (0, (ze Mz 1 2).toNat, nm0_) zLf)) from Or.inl (⟨(show 1 = 1 by first | rfl | exact ⟨_, _, hre_.tr (zRg.st (zls_e hl1_ (by omega))), hnm_⟩ | exact i8_ | (exfalso; omega)), (show (∃ q nm, zRg (zls b_ n_ F_ K_) (0, (ze Mz 1 2).toNat, nm0_) (1, q, nm) ∧ zNm nm F_ K_ d_ N2_) by first | rfl | exact ⟨_, _, hre_.tr (zRg.st (zls_e hl1_ (by omega))), hnm_⟩ | exact i8_ | (exfalso; omega)), (show zS0 d_ Mz N2_ by first | rfl | exact ⟨_, _, hre_.tr (zRg.st (zls_e hl1_ (by omega))), hnm_⟩ | exact i8_ | (exfalso; omega))⟩)) d_Reader_readLets_179
            · skip
              refine zw_aload_n (pc := 166) (n := 0) (x := 4) rfl d_Reader_readLets_166 ?_
              refine zw_iconst (pc := 167) (v := Int32.ofInt 2) (by decide) d_Reader_readLets_167 ?_
              refine zk_callV hf_N2_.x (pc := 168) [.int (Int32.ofInt 2)] [] l_Reader_41 (u_Reader_refuse l d_ N2_ (hf_N2_.w hW) 2 (by decide) (by decide)) rfl rfl ((hf_N2_.w hW).ka (o := 4) (by decide)) (by decide) (by decide) (Nat.le_of_ble_eq_true rfl) d_Reader_readLets_168 ?_
              rintro _ N87_ ⟨v88_, rfl, ⟨hv88_a, hv88_b⟩, hsN87_, hp0_N87_⟩
              replace hp0_N87_ : ((v88_ = 0)) := hp0_N87_
              have hf_N87_ : zFc d_ [(1, 2), (1, 3), (1, 4), (1, 5), (4, 1), (4, 2), (4, 3)] [] [(0, 6), (33, 2), (33, 3), (33, 4), (33, 5), (33, 6)] [25, 27, 35, 37] Mz N87_ := hf_N2_.tr hsN87_ (by decide) (by decide) (by decide) (by decide)
              have eA1_2_N87_ : ze N87_ 1 2 = ze N2_ 1 2 := hsN87_.ea (hf_N2_.w hW) (by decide)
              have eA1_3_N87_ : ze N87_ 1 3 = ze N2_ 1 3 := hsN87_.ea (hf_N2_.w hW) (by decide)
              have eA1_4_N87_ : ze N87_ 1 4 = ze N2_ 1 4 := hsN87_.ea (hf_N2_.w hW) (by decide)
              have eA1_5_N87_ : ze N87_ 1 5 = ze N2_ 1 5 := hsN87_.ea (hf_N2_.w hW) (by decide)
              have eD0_6_N87_ : ze N87_ (d_ + 0) 6 = ze N2_ (d_ + 0) 6 := hsN87_.e (by decide)
              have eD33_2_N87_ : ze N87_ (d_ + 33) 2 = ze N2_ (d_ + 33) 2 := hsN87_.e (by decide)
              have eD33_3_N87_ : ze N87_ (d_ + 33) 3 = ze N2_ (d_ + 33) 3 := hsN87_.e (by decide)
              have eD33_4_N87_ : ze N87_ (d_ + 33) 4 = ze N2_ (d_ + 33) 4 := hsN87_.e (by decide)
              have eD33_5_N87_ : ze N87_ (d_ + 33) 5 = ze N2_ (d_ + 33) 5 := hsN87_.e (by decide)
              have eD33_6_N87_ : ze N87_ (d_ + 33) 6 = ze N2_ (d_ + 33) 6 := hsN87_.e (by decide)
              have qzkS_N87_ : zkS d_ N87_ = zkS d_ N2_ := zkS_q hsN87_ (by decide)
              have qzkG_N87_ : zkG d_ N87_ = zkG d_ N2_ := zkG_q hsN87_ (by decide)
              have qzkW_N87_ : zkW F_ d_ N87_ = zkW F_ d_ N2_ := zkW_q hsN87_ (by decide)
              have c89_ : zYb b_ n_ N87_ := zYb.fr (hf_N2_.w hW) hsN87_ c9_ (by decide)
              have c90_ : zKm F_ K_ d_ N87_ := zKm.fr (hf_N2_.w hW) hsN87_ c10_ (by decide)
              have c91_ : zYt b_ n_ N87_ := zYt.fr (hf_N2_.w hW) hsN87_ i6_ (by decide)
              have c92_ : zS0 d_ Mz N87_ := zS0.fr (hf_N2_.w hW) hsN87_ i8_ (by decide)
              have c93_ : zNm nm_ F_ K_ d_ N87_ := zNm.fr (hf_N2_.w hW) hsN87_ hnm_ (by decide)
              rcases hp0_N87_ with rfl
              · skip
                show zW l m_Reader_readLets (zn Mz + 0, zw Mz + 0) N87_ 171 [some (.ref 4), some (.ref (d_ + 0)), some (.int (Int32.ofInt u1_)), none, none] [.int (Int32.ofInt 0)] (zqcI d_ [(1, 2), (1, 3), (1, 4), (1, 5), (4, 1), (4, 2), (4, 3)] [] [(0, 6), (33, 2), (33, 3), (33, 4), (33, 5), (33, 6)] [25, 27, 35, 37] Mz (fun v N => (((v = 1 ∧ (∃ q nm, zRg (zls b_ n_ F_ K_) (0, (ze Mz 1 2).toNat, nm0_) (1, q, nm) ∧ zNm nm F_ K_ d_ N) ∧ zS0 d_ Mz N) ∨ (v = 0 ∧ zRg (zls b_ n_ F_ K_) (0, (ze Mz 1 2).toNat, nm0_) zLf)))))
                refine zr_if_eq (pc := 171) (tgt := 178) ⟨(by decide), (by decide)⟩ (by decide) d_Reader_readLets_171 (fun hc_171 => ?_) (fun hc_171 => ?_)
                · skip
                  refine zw_iconst (pc := 178) (v := Int32.ofInt 0) (by decide) d_Reader_readLets_178 ?_
                  exact zk_iret (pc := 179) (ty := .boolean) rfl (z_narB (by omega)) ⟨by omega, by omega⟩ hf_N87_ (show ((0 = 1 ∧ (∃ q nm, zRg (zls b_ n_ F_ K_) (0, (ze Mz 1 2).toNat, nm0_) (1, q, nm) ∧ zNm nm F_ K_ d_ N87_) ∧ zS0 d_ Mz N87_) ∨ (0 = 0 ∧ zRg (zls b_ n_ F_ K_) (0, (ze Mz 1 2).toNat, nm0_) zLf)) from Or.inr (⟨(show 0 = 0 by first | rfl | exact hrt_ | exact hre_.tr (zRg.st (zls_f (F := F_) (K := K_) hl0_ (fun q_ => by have := q_.1; omega))) | exact hre_.tr (zRg.st (zls_ef (F := F_) (K := K_) hl1_ (by omega))) | exact hre_.tr (zRg.st (hsm_.trans (by rcases j3_ with ⟨g_, e_⟩ | ⟨g_, e_⟩; exfalso; omega; rw [e_]; exact zle_b))) | (exfalso; omega)), (show zRg (zls b_ n_ F_ K_) (0, (ze Mz 1 2).toNat, nm0_) zLf by first | rfl | exact hrt_ | exact hre_.tr (zRg.st (zls_f (F := F_) (K := K_) hl0_ (fun q_ => by have := q_.1; omega))) | exact hre_.tr (zRg.st (zls_ef (F := F_) (K := K_) hl1_ (by omega))) | exact hre_.tr (zRg.st (hsm_.trans (by rcases j3_ with ⟨g_, e_⟩ | ⟨g_, e_⟩; exfalso; omega; rw [e_]; exact zle_b))) | (exfalso; omega))⟩)) d_Reader_readLets_179
                · skip
                  exact absurd hc_171 (by decide)
          · skip
            exact absurd hc_17 (by decide)
  exact lp_2 _ 0 (by decide) (by decide) Mz zFc.rf (show 0 ≤ (0 : Int) by first | assumption | omega) (show (0 : Int) ≤ ze Mz (d_ + 0) 6 by first | assumption | omega) p1_ (show ∃ nm, zNm nm F_ K_ d_ Mz ∧ zRg (zls b_ n_ F_ K_) (0, (ze Mz 1 2).toNat, nm0_) (0, (ze Mz 1 2).toNat, nm) by exact ⟨nm0_, p3_, zRg.rf⟩) dv0 (Nat.lt_succ_self _)
