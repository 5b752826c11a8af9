def zr100 (M : zMem) : Nat → Int := fun k => ze M 100 k
theorem zr100_f {S C : List Nat} {M N : zMem} (h : zFr S C M N) (hc : 100 ∉ C) : zr100 N = zr100 M := funext fun k => h.ie (by decide) hc k
section ZRQ
variable {F n : Nat} {K : Nat → Nat → Int} {b : Nat → Int} {nm : List (Int × (Nat → Int))} {Mz Nz Xz : zMem}
theorem zRI_pn (hF : F ≤ 27) (hI : zRI F K 0 Xz) {k : Int} (h41 : ze Nz 81 41 = ze Xz 81 41) (hc : ∀ i : Nat, ze Nz 100 i = ze Xz 100 i) (h42 : ze Nz 81 42 = ze Xz 81 42) (h38 : ze Nz 81 38 = ze Xz 81 38 + 1) (h39 : ze Nz 81 39 = ze Xz 81 39) (hlo : ∀ x : Nat, (x : Int) < 64 * ze Xz 81 38 → zg Nz 95 x = zg Xz 95 x) (hv : ∀ j : Nat, j < F → zg Nz 95 ((64 * ze Xz 81 38).toNat + j) = zg Mz 102 ((64 * k).toNat + j)) (hf : zfit F K (zrw F Mz 102 (64 * k))) : zRI F K 1 Nz ∧ zrS Nz = zrS Xz ∧ zrW F Nz = zpu (zrG Xz) (zrw F Mz 102 (64 * k)) (zrW F Xz) ∧ zrG Nz = zrG Xz :=
  zRI_pv hF hI h41 hc h42 h38 h39 hlo (fun _ => ⟨zrw_c hv, hf⟩)
end ZRQ
set_option maxHeartbeats 40000000 in
theorem c_M_operandF (l : Launch) (Mz : zMem) (hW : zMt Mz) (F_ : Nat) (K_ : Nat → Nat → Int) (hA_ : zTA F_ K_) (b_ : Nat → Int) (n_ : Nat) (nm_ : List (Int × (Nat → Int))) (p0_ : zRmk F_ K_ Mz) (p1_ : zRb b_ n_ Mz) (p2_ : zRt b_ n_ Mz) (p3_ : zRNm nm_ F_ K_ b_ n_ Mz) (p4_ : zRI F_ K_ 0 Mz) (p5_ : ze Mz 81 7 = 0) (p6_ : 0 ≤ ze Mz 81 43) (p7_ : ze Mz 81 43 ≤ 30) : zC l m_M_operand 0 0 [.ref 81] Mz (zpI [3, 4, 5, 6, 7, 8, 11, 38, 39, 41, 42, 43] [95, 100] Mz (fun v N => zRt b_ n_ N ∧ (((v = 0 ∧ 1 ≤ ze N 81 7 ∧ zRea (zfs b_ n_ F_ K_ nm_) (zRst 0 F_ Mz) zFt) ∨ (v = 0 ∧ ze N 81 7 = 0 ∧ zRea (zfs b_ n_ F_ K_ nm_) (zRst 0 F_ Mz) (zRst 0 F_ N) ∧ zRI F_ K_ 0 N ∧ ze Mz 81 4 < ze N 81 4 ∧ 0 ≤ ze N 81 43 ∧ ze N 81 43 ≤ 30) ∨ (v = 1 ∧ 1 ≤ ze N 81 7 ∧ zRea (zfs b_ n_ F_ K_ nm_) (zRst 0 F_ Mz) zFt) ∨ (v = 1 ∧ ze N 81 7 = 0 ∧ zRea (zfs b_ n_ F_ K_ nm_) (zRst 0 F_ Mz) (zRst 1 F_ N) ∧ zRI F_ K_ 1 N ∧ ze Mz 81 4 < ze N 81 4 ∧ 0 ≤ ze N 81 43 ∧ ze N 81 43 ≤ 30))))) := by
  refine zC_of (L0 := [some (.ref 81), none, none]) md_M_operand (Nat.le_of_ble_eq_true rfl) rfl ?_ zQ0
  have hf : zFr [3, 4, 5, 6, 7, 8, 11, 38, 39, 41, 42, 43] [95, 100] Mz Mz := zFr.rf
  have r_3 := ze_r Mz 81 3
  have r_4 := ze_r Mz 81 4
  have r_5 := ze_r Mz 81 5
  have r_6 := ze_r Mz 81 6
  have r_7 := ze_r Mz 81 7
  have r_14 := ze_r Mz 81 14
  have r_26 := ze_r Mz 81 26
  have r_38 := ze_r Mz 81 38
  have r_39 := ze_r Mz 81 39
  have r_41 := ze_r Mz 81 41
  have r_42 := ze_r Mz 81 42
  have r_43 := ze_r Mz 81 43
  obtain ⟨⟨hF1_, hF27_⟩, hAr_⟩ := id hA_
  obtain ⟨hFc_, hKt_⟩ := id p0_
  obtain ⟨t1_, t2_, t3_, t4_, t5_, t6_⟩ := id p2_
  have hrb_ := p4_.bd
  have hr0_ := p4_.1
  have hr4_ := p4_.2.2.2.1
  have hr2_ := p4_.2.2.1
  refine zw_aload_n (pc := 0) (n := 0) (x := 81) rfl (zdal_p dlC_M_operand_99 (i := 0) rfl) ?_
  refine zw_bipush (pc := 1) (v := Int32.ofInt 45) (by decide) (zdal_p dlC_M_operand_99 (i := 1) rfl) ?_
  refine zr_callV (hf.w hW) hf.x (pc := 3) [.int (Int32.ofInt 45)] [] l_M_187 (c_M_isSignHereF l Mz (hf.w hW) 45 (by decide) (by decide) b_ n_ p2_) rfl rfl rfl (by decide) (Nat.le_of_ble_eq_true rfl) (zdal_p dlC_M_operand_99 (i := 2) rfl) ?_
  rintro _ N1_ ⟨v2_, rfl, ⟨hv2_a, hv2_b⟩, hsN1_, hp0_N1_⟩
  obtain rfl := hsN1_.eq.symm
  replace hp0_N1_ : ((v2_ = 1 ∧ ze Mz 81 7 = 0 ∧ zisg b_ n_ (ze Mz 81 4).toNat 45) ∨ (v2_ = 0 ∧ (ze Mz 81 7 = 0 → ¬ zisg b_ n_ (ze Mz 81 4).toNat 45))) := hp0_N1_
  rcases hp0_N1_ with ⟨rfl, ha3_0_hp0_N1_, ha3_1_hp0_N1_⟩ | ⟨rfl, ha3_0_hp0_N1_⟩
  · skip
    have hO_ : zisg b_ n_ (ze Mz 81 4).toNat 45 ∨ zisg b_ n_ (ze Mz 81 4).toNat 40 := Or.inl ha3_1_hp0_N1_
    have hkb_ : b_ (ze Mz 81 4).toNat = 45 := ha3_1_hp0_N1_.2
    have hk0_ : zkd b_ n_ (ze Mz 81 4).toNat = 3 := ha3_1_hp0_N1_.1
    have hv6_ := t6_ hk0_
    show zW l m_M_operand (zn Mz + 0, zw Mz + 0) Mz 6 [some (.ref 81), none, none] [.int (Int32.ofInt 1)] _
    refine zr_if_ne (pc := 6) (tgt := 18) ⟨(by decide), (by decide)⟩ (by decide) (zdal_p dlC_M_operand_99 (i := 3) rfl) (fun hc_6 => ?_) (fun hc_6 => ?_)
    · skip
      refine zw_aload_n (pc := 18) (n := 0) (x := 81) rfl (zdal_p dlC_M_operand_99 (i := 8) rfl) ?_
      refine zr_getI (hf.w hW) (pc := 19) f_M_152 rfl (zdal_p dlC_M_operand_99 (i := 9) rfl) ?_
      refine zw_bipush (pc := 22) (v := Int32.ofInt 40) (by decide) (zdal_p dlC_M_operand_99 (i := 10) rfl) ?_
      refine zr_icmp_ne (pc := 24) (tgt := 31) ⟨(ze_r Mz 81 6).1, (ze_r Mz 81 6).2⟩ ⟨(by decide), (by decide)⟩ (by decide) (zdal_p dlC_M_operand_99 (i := 11) rfl) (fun hc_24 => ?_) (fun hc_24 => ?_)
      · skip
        refine zw_iconst (pc := 31) (v := Int32.ofInt 0) (by decide) (zdal_p dlC_M_operand_99 (i := 14) rfl) ?_
        refine zw_istore_n (pc := 32) (i := 1) (L2 := [some (.ref 81), some (.int (Int32.ofInt 0)), none]) rfl (by decide) rfl (zdal_p dlC_M_operand_99 (i := 15) rfl) ?_
        refine zw_aload_n (pc := 33) (n := 0) (x := 81) rfl (zdal_p dlC_M_operand_99 (i := 16) rfl) ?_
        refine zr_callV (hf.w hW) hf.x (pc := 34) [] [] l_M_302 (c_M_countsUnitF l Mz (hf.w hW) F_ K_ p4_ (show 0 ≤ ze Mz 81 7 by first | with_reducible assumption | (exact zo_718 p5_) | assumption) (show 0 ≤ ze Mz 81 43 by first | with_reducible assumption | assumption | omega) (show ze Mz 81 43 ≤ 30 by first | with_reducible assumption | assumption | omega)) rfl rfl rfl (by decide) (Nat.le_of_ble_eq_true rfl) (zdal_p dlC_M_operand_99 (i := 17) rfl) ?_
        rintro _ N3_ ⟨rfl, hsN3_, ⟨hp0_N3_, hp1_N3_⟩⟩
        have hf_N3_ : zFr [3, 4, 5, 6, 7, 8, 11, 38, 39, 41, 42, 43] [95, 100] Mz N3_ := hf.tr hsN3_ (by decide) (by decide)
        have e3_N3_ : ze N3_ 81 3 = ze Mz 81 3 := hsN3_.e (by decide)
        have e4_N3_ : ze N3_ 81 4 = ze Mz 81 4 := hsN3_.e (by decide)
        have e5_N3_ : ze N3_ 81 5 = ze Mz 81 5 := hsN3_.e (by decide)
        have e6_N3_ : ze N3_ 81 6 = ze Mz 81 6 := hsN3_.e (by decide)
        have r7_N3_ := ze_r N3_ 81 7
        have e14_N3_ : ze N3_ 81 14 = ze Mz 81 14 := hsN3_.e (by decide)
        have e26_N3_ : ze N3_ 81 26 = ze Mz 81 26 := hsN3_.e (by decide)
        have e38_N3_ : ze N3_ 81 38 = ze Mz 81 38 := hsN3_.e (by decide)
        have e39_N3_ : ze N3_ 81 39 = ze Mz 81 39 := hsN3_.e (by decide)
        have e41_N3_ : ze N3_ 81 41 = ze Mz 81 41 := hsN3_.e (by decide)
        have e42_N3_ : ze N3_ 81 42 = ze Mz 81 42 := hsN3_.e (by decide)
        have r43_N3_ := ze_r N3_ 81 43
        have qzrS_N3_ : zrS N3_ = zrS Mz := zrS_q hsN3_ (by decide)
        have qzrG_N3_ : zrG N3_ = zrG Mz := zrG_q hsN3_ (by decide)
        have qzrW_N3_ : zrW F_ N3_ = zrW F_ Mz := zrW_q hsN3_ (by decide)
        have c6_ : zRb b_ n_ N3_ := zRb.fr hsN3_ p1_ (by decide) (by decide)
        have c7_ : zRt b_ n_ N3_ := zRt.fr hsN3_ p2_ (by decide) (by decide)
        have c9_ : zRI F_ K_ 0 N3_ := zRI.fr hsN3_ p4_ (by decide) (by decide)
        rcases hp1_N3_ with ⟨ha34_0_hp1_N3_, ha34_1_hp1_N3_⟩ | ⟨ha34_0_hp1_N3_, ha34_1_hp1_N3_, ha34_2_hp1_N3_⟩
        · skip
          have hnz_ := ha34_1_hp1_N3_ p5_
          have hri1_ := c9_
          have hd6_ : ze N3_ 81 7 = 0 → zdp (zrS Mz) ≤ 6 := fun q_ => by omega
          have hrt_ := zRea.st (zr0_of (F := F_) (K := K_) (nm := nm_) hO_ hnz_)
          show zW l m_M_operand (zn Mz + 0, zw Mz + 0) N3_ 37 [some (.ref 81), some (.int (Int32.ofInt 0)), none] [] _
          refine zw_aload_n (pc := 37) (n := 0) (x := 81) rfl d_M_operand_37 ?_
          refine zr_getF (r := 100) (hf_N3_.w hW) (pc := 38) f_M_72 rfl (zh_100 (hf_N3_.w hW)).1 d_M_operand_38 ?_
          refine zw_aload_n (pc := 41) (n := 0) (x := 81) rfl d_M_operand_41 ?_
          refine zr_getI (hf_N3_.w hW) (pc := 42) f_M_305 rfl d_M_operand_42 ?_
          refine zw_iload_n (pc := 45) (n := 1) (x := Int32.ofInt 0) rfl d_M_operand_45 ?_
          refine zr_if_eq (pc := 46) (tgt := 53) ⟨(by decide), (by decide)⟩ (by decide) d_M_operand_46 (fun hc_46 => ?_) (fun hc_46 => ?_)
          · skip
            refine zw_iconst (pc := 53) (v := Int32.ofInt 1) (by decide) (zdal_p dlC_M_operand_100 (i := 2) rfl) ?_
            obtain ⟨x_, hx_⟩ : ∃ x : Int, x = 1 := ⟨_, rfl⟩
            have hxb_ : (x_ = 0 ∧ b_ (ze Mz 81 4).toNat = 40) ∨ (x_ = 1 ∧ b_ (ze Mz 81 4).toNat ≠ 40) := by (exact zo_719 hkb_ hx_)
            refine zr_iast (pc := 54) (zh_100 (hf_N3_.w hW)).2 (by decide) (by decide) (by (exact zo_720 e41_N3_ hr0_)) (by (exact zo_721 e41_N3_ hrb_.1 hrb_.2.2.2 r_41.2)) d_M_operand_54 (fun N10_ hN10_ hsN10_ => ?_)
            have hf_N10_ : zFr [3, 4, 5, 6, 7, 8, 11, 38, 39, 41, 42, 43] [95, 100] Mz N10_ := hf_N3_.tr hsN10_ (by decide) (by decide)
            have e3_N10_ : ze N10_ 81 3 = ze N3_ 81 3 := hsN10_.e (by decide)
            have e4_N10_ : ze N10_ 81 4 = ze N3_ 81 4 := hsN10_.e (by decide)
            have e5_N10_ : ze N10_ 81 5 = ze N3_ 81 5 := hsN10_.e (by decide)
            have e6_N10_ : ze N10_ 81 6 = ze N3_ 81 6 := hsN10_.e (by decide)
            have e7_N10_ : ze N10_ 81 7 = ze N3_ 81 7 := hsN10_.e (by decide)
            have e14_N10_ : ze N10_ 81 14 = ze N3_ 81 14 := hsN10_.e (by decide)
            have e26_N10_ : ze N10_ 81 26 = ze N3_ 81 26 := hsN10_.e (by decide)
            have e38_N10_ : ze N10_ 81 38 = ze N3_ 81 38 := hsN10_.e (by decide)
            have e39_N10_ : ze N10_ 81 39 = ze N3_ 81 39 := hsN10_.e (by decide)
            have e41_N10_ : ze N10_ 81 41 = ze N3_ 81 41 := hsN10_.e (by decide)
            have e42_N10_ : ze N10_ 81 42 = ze N3_ 81 42 := hsN10_.e (by decide)
            have e43_N10_ : ze N10_ 81 43 = ze N3_ 81 43 := hsN10_.e (by decide)
            have c13_ : zRt b_ n_ N10_ := zRt.fr hsN10_ c7_ (by decide) (by decide)
            refine zw_aload_n (pc := 55) (n := 0) (x := 81) rfl d_M_operand_55 ?_
            refine zw_dup (pc := 56) rfl d_M_operand_56 ?_
            refine zr_getI (hf_N10_.w hW) (pc := 57) f_M_305 rfl d_M_operand_57 ?_
            refine zw_iconst (pc := 60) (v := Int32.ofInt 1) (by decide) d_M_operand_60 ?_
            refine zr_iadd (pc := 61) d_M_operand_61 ?_
            refine zr_putI (hf_N10_.w hW) (pc := 62) f_M_305 rfl rfl ⟨by (exact zo_722 e41_N10_ e41_N3_ hr0_), by (exact zo_723 e41_N10_ e41_N3_ hrb_.1 hrb_.2.2.2 r_41.2)⟩ rfl rfl d_M_operand_62 (fun N15_ hsN15_ hvN15_ => ?_)
            have hf_N15_ : zFr [3, 4, 5, 6, 7, 8, 11, 38, 39, 41, 42, 43] [95, 100] Mz N15_ := hf_N10_.tr hsN15_ (by decide) (by decide)
            have e3_N15_ : ze N15_ 81 3 = ze N10_ 81 3 := hsN15_.e (by decide)
            have e4_N15_ : ze N15_ 81 4 = ze N10_ 81 4 := hsN15_.e (by decide)
            have e5_N15_ : ze N15_ 81 5 = ze N10_ 81 5 := hsN15_.e (by decide)
            have e6_N15_ : ze N15_ 81 6 = ze N10_ 81 6 := hsN15_.e (by decide)
            have e7_N15_ : ze N15_ 81 7 = ze N10_ 81 7 := hsN15_.e (by decide)
            have e14_N15_ : ze N15_ 81 14 = ze N10_ 81 14 := hsN15_.e (by decide)
            have e26_N15_ : ze N15_ 81 26 = ze N10_ 81 26 := hsN15_.e (by decide)
            have e38_N15_ : ze N15_ 81 38 = ze N10_ 81 38 := hsN15_.e (by decide)
            have e39_N15_ : ze N15_ 81 39 = ze N10_ 81 39 := hsN15_.e (by decide)
            have r41_N15_ := ze_r N15_ 81 41
            have e42_N15_ : ze N15_ 81 42 = ze N10_ 81 42 := hsN15_.e (by decide)
            have e43_N15_ : ze N15_ 81 43 = ze N10_ 81 43 := hsN15_.e (by decide)
            have c18_ : zRt b_ n_ N15_ := zRt.fr hsN15_ c13_ (by decide) (by decide)
            refine zw_aload_n (pc := 65) (n := 0) (x := 81) rfl d_M_operand_65 ?_
            refine zw_dup (pc := 66) rfl d_M_operand_66 ?_
            refine zr_getI (hf_N15_.w hW) (pc := 67) f_M_296 rfl d_M_operand_67 ?_
            refine zw_iconst (pc := 70) (v := Int32.ofInt 1) (by decide) d_M_operand_70 ?_
            refine zr_iadd (pc := 71) d_M_operand_71 ?_
            refine zr_putI (hf_N15_.w hW) (pc := 72) f_M_296 rfl rfl ⟨by (exact zo_724 e42_N10_ e42_N15_ e42_N3_ r_42.1), by (exact zo_725 e42_N10_ e42_N15_ e42_N3_ hr2_ hrb_.2.2.1 hrb_.2.2.2 r_42.2)⟩ rfl rfl d_M_operand_72 (fun N20_ hsN20_ hvN20_ => ?_)
            have hf_N20_ : zFr [3, 4, 5, 6, 7, 8, 11, 38, 39, 41, 42, 43] [95, 100] Mz N20_ := hf_N15_.tr hsN20_ (by decide) (by decide)
            have e3_N20_ : ze N20_ 81 3 = ze N15_ 81 3 := hsN20_.e (by decide)
            have e4_N20_ : ze N20_ 81 4 = ze N15_ 81 4 := hsN20_.e (by decide)
            have e5_N20_ : ze N20_ 81 5 = ze N15_ 81 5 := hsN20_.e (by decide)
            have e6_N20_ : ze N20_ 81 6 = ze N15_ 81 6 := hsN20_.e (by decide)
            have e7_N20_ : ze N20_ 81 7 = ze N15_ 81 7 := hsN20_.e (by decide)
            have e14_N20_ : ze N20_ 81 14 = ze N15_ 81 14 := hsN20_.e (by decide)
            have e26_N20_ : ze N20_ 81 26 = ze N15_ 81 26 := hsN20_.e (by decide)
            have e38_N20_ : ze N20_ 81 38 = ze N15_ 81 38 := hsN20_.e (by decide)
            have e39_N20_ : ze N20_ 81 39 = ze N15_ 81 39 := hsN20_.e (by decide)
            have e41_N20_ : ze N20_ 81 41 = ze N15_ 81 41 := hsN20_.e (by decide)
            have r42_N20_ := ze_r N20_ 81 42
            have e43_N20_ : ze N20_ 81 43 = ze N15_ 81 43 := hsN20_.e (by decide)
            have c23_ : zRt b_ n_ N20_ := zRt.fr hsN20_ c18_ (by decide) (by decide)
            have hps_ := fun q_ : ze N20_ 81 7 = 0 => zRI_ps (Mz := N3_) (Nz := N20_) (x := x_) (e' := 0) hri1_ ⟨by (exact zo_711 hx_), by (exact zo_726 hx_)⟩ (by rw [if_neg (by (exact zo_727 hx_))]) (fun y_ _ => ⟨fun q2_ => absurd q2_ (by (exact zo_728 hx_)), fun q2_ => absurd q2_ (by (exact zo_729 hx_))⟩) (fun _ => by rw [qzrS_N3_]; exact hd6_ (by (exact zo_730 e7_N10_ e7_N15_ e7_N20_ ha34_0_hp1_N3_ q_ r7_N3_.2))) (by (exact zo_731 e41_N10_ e41_N20_ hvN15_)) (by rw [hsN20_.ie (by decide) (by decide), hsN15_.ie (by decide) (by decide)]; exact (zs_get hN10_ ⟨by decide, by decide⟩).trans hx_.symm) (fun i_ hi_ => by rw [hsN20_.ie (by decide) (by decide), hsN15_.ie (by decide) (by decide)]; exact zs_oth hN10_ (by (exact zo_732 hi_))) (by rw [if_pos (by (exact zo_733 hx_))]; (exact zo_734 e42_N10_ e42_N15_ e42_N3_ hr2_ hvN20_ r42_N20_.2)) (by (exact zo_19 e38_N10_ e38_N15_ e38_N20_)) (by (exact zo_19 e39_N10_ e39_N15_ e39_N20_)) (fun k_ => ((hsN20_.jg (by decide) (by decide) k_).trans (hsN15_.jg (by decide) (by decide) k_)).trans (hsN10_.jg (by decide) (by decide) k_))
            refine zw_aload_n (pc := 75) (n := 0) (x := 81) rfl d_M_operand_75 ?_
            refine zr_callV (hf_N20_.w hW) hf_N20_.x (pc := 76) [] [] l_M_183 (c_M_isGood l N20_ (hf_N20_.w hW) ) rfl rfl rfl (by decide) (Nat.le_of_ble_eq_true rfl) d_M_operand_76 ?_
            rintro _ N25_ ⟨v26_, rfl, ⟨hv26_a, hv26_b⟩, hsN25_, hp0_N25_⟩
            obtain rfl := hsN25_.eq.symm
            replace hp0_N25_ : ((v26_ = 1 ∧ ze N20_ 81 7 = 0) ∨ (v26_ = 0 ∧ ze N20_ 81 7 ≠ 0)) := hp0_N25_
            rcases hp0_N25_ with ⟨rfl, ha76_0_hp0_N25_⟩ | ⟨rfl, ha76_0_hp0_N25_⟩
            · skip
              exfalso; (exact zo_735 e7_N10_ e7_N15_ e7_N20_ ha34_0_hp1_N3_ ha76_0_hp0_N25_)
            · skip
              show zW l m_M_operand (zn Mz + 0, zw Mz + 0) N20_ 79 [some (.ref 81), some (.int (Int32.ofInt 0)), none] [.int (Int32.ofInt 0)] _
              refine zr_if_eq (pc := 79) (tgt := 86) ⟨(by decide), (by decide)⟩ (by decide) d_M_operand_79 (fun hc_79 => ?_) (fun hc_79 => ?_)
              · skip
                refine zw_iconst (pc := 86) (v := Int32.ofInt 0) (by decide) d_M_operand_86 ?_
                exact zr_iret (pc := 87) (ty := .boolean) rfl (z_narB (by (decide))) ⟨by (exact hv26_a), by (exact hv26_b)⟩ hf_N20_ ⟨c23_, (show ((0 = 0 ∧ 1 ≤ ze N20_ 81 7 ∧ zRea (zfs b_ n_ F_ K_ nm_) (zRst 0 F_ Mz) zFt) ∨ (0 = 0 ∧ ze N20_ 81 7 = 0 ∧ zRea (zfs b_ n_ F_ K_ nm_) (zRst 0 F_ Mz) (zRst 0 F_ N20_) ∧ zRI F_ K_ 0 N20_ ∧ ze Mz 81 4 < ze N20_ 81 4 ∧ 0 ≤ ze N20_ 81 43 ∧ ze N20_ 81 43 ≤ 30) ∨ (0 = 1 ∧ 1 ≤ ze N20_ 81 7 ∧ zRea (zfs b_ n_ F_ K_ nm_) (zRst 0 F_ Mz) zFt) ∨ (0 = 1 ∧ ze N20_ 81 7 = 0 ∧ zRea (zfs b_ n_ F_ K_ nm_) (zRst 0 F_ Mz) (zRst 1 F_ N20_) ∧ zRI F_ K_ 1 N20_ ∧ ze Mz 81 4 < ze N20_ 81 4 ∧ 0 ≤ ze N20_ 81 43 ∧ ze N20_ 81 43 ≤ 30)) from Or.inl (⟨(show 0 = 0 by first | rfl | exact hrt_ | omega), (show 1 ≤ ze N20_ 81 7 by first | rfl | exact hrt_ | (exact zo_662 e7_N10_ e7_N15_ e7_N20_ ha34_0_hp1_N3_)), (show zRea (zfs b_ n_ F_ K_ nm_) (zRst 0 F_ Mz) zFt by first | rfl | exact hrt_ | omega)⟩))⟩ d_M_operand_87
              · skip
                exact absurd hc_79 (by decide)
          · skip
            exact absurd hc_46 (by decide)
        · skip
          have hz_ := ha34_2_hp1_N3_
          have hz1_ : (ze Mz 81 43).toNat < 30 := hz_.1
          have hri1_ := c9_
          have hd6_ : ze N3_ 81 7 = 0 → zdp (zrS Mz) ≤ 6 := fun _ => hz_.2
          show zW l m_M_operand (zn Mz + 0, zw Mz + 0) N3_ 37 [some (.ref 81), some (.int (Int32.ofInt 0)), none] [] _
          refine zw_aload_n (pc := 37) (n := 0) (x := 81) rfl d_M_operand_37 ?_
          refine zr_getF (r := 100) (hf_N3_.w hW) (pc := 38) f_M_72 rfl (zh_100 (hf_N3_.w hW)).1 d_M_operand_38 ?_
          refine zw_aload_n (pc := 41) (n := 0) (x := 81) rfl d_M_operand_41 ?_
          refine zr_getI (hf_N3_.w hW) (pc := 42) f_M_305 rfl d_M_operand_42 ?_
          refine zw_iload_n (pc := 45) (n := 1) (x := Int32.ofInt 0) rfl d_M_operand_45 ?_
          refine zr_if_eq (pc := 46) (tgt := 53) ⟨(by decide), (by decide)⟩ (by decide) d_M_operand_46 (fun hc_46 => ?_) (fun hc_46 => ?_)
          · skip
            refine zw_iconst (pc := 53) (v := Int32.ofInt 1) (by decide) (zdal_p dlC_M_operand_100 (i := 2) rfl) ?_
            obtain ⟨x_, hx_⟩ : ∃ x : Int, x = 1 := ⟨_, rfl⟩
            have hxb_ : (x_ = 0 ∧ b_ (ze Mz 81 4).toNat = 40) ∨ (x_ = 1 ∧ b_ (ze Mz 81 4).toNat ≠ 40) := by (exact zo_719 hkb_ hx_)
            refine zr_iast (pc := 54) (zh_100 (hf_N3_.w hW)).2 (by decide) (by decide) (by (exact zo_720 e41_N3_ hr0_)) (by (exact zo_721 e41_N3_ hrb_.1 hrb_.2.2.2 r_41.2)) d_M_operand_54 (fun N27_ hN27_ hsN27_ => ?_)
            have hf_N27_ : zFr [3, 4, 5, 6, 7, 8, 11, 38, 39, 41, 42, 43] [95, 100] Mz N27_ := hf_N3_.tr hsN27_ (by decide) (by decide)
            have e3_N27_ : ze N27_ 81 3 = ze N3_ 81 3 := hsN27_.e (by decide)
            have e4_N27_ : ze N27_ 81 4 = ze N3_ 81 4 := hsN27_.e (by decide)
            have e5_N27_ : ze N27_ 81 5 = ze N3_ 81 5 := hsN27_.e (by decide)
            have e6_N27_ : ze N27_ 81 6 = ze N3_ 81 6 := hsN27_.e (by decide)
            have e7_N27_ : ze N27_ 81 7 = ze N3_ 81 7 := hsN27_.e (by decide)
            have e14_N27_ : ze N27_ 81 14 = ze N3_ 81 14 := hsN27_.e (by decide)
            have e26_N27_ : ze N27_ 81 26 = ze N3_ 81 26 := hsN27_.e (by decide)
            have e38_N27_ : ze N27_ 81 38 = ze N3_ 81 38 := hsN27_.e (by decide)
            have e39_N27_ : ze N27_ 81 39 = ze N3_ 81 39 := hsN27_.e (by decide)
            have e41_N27_ : ze N27_ 81 41 = ze N3_ 81 41 := hsN27_.e (by decide)
            have e42_N27_ : ze N27_ 81 42 = ze N3_ 81 42 := hsN27_.e (by decide)
            have e43_N27_ : ze N27_ 81 43 = ze N3_ 81 43 := hsN27_.e (by decide)
            have c29_ : zRb b_ n_ N27_ := zRb.fr hsN27_ c6_ (by decide) (by decide)
            have c30_ : zRt b_ n_ N27_ := zRt.fr hsN27_ c7_ (by decide) (by decide)
            refine zw_aload_n (pc := 55) (n := 0) (x := 81) rfl d_M_operand_55 ?_
            refine zw_dup (pc := 56) rfl d_M_operand_56 ?_
            refine zr_getI (hf_N27_.w hW) (pc := 57) f_M_305 rfl d_M_operand_57 ?_
            refine zw_iconst (pc := 60) (v := Int32.ofInt 1) (by decide) d_M_operand_60 ?_
            refine zr_iadd (pc := 61) d_M_operand_61 ?_
            refine zr_putI (hf_N27_.w hW) (pc := 62) f_M_305 rfl rfl ⟨by (exact zo_722 e41_N27_ e41_N3_ hr0_), by (exact zo_723 e41_N27_ e41_N3_ hrb_.1 hrb_.2.2.2 r_41.2)⟩ rfl rfl d_M_operand_62 (fun N32_ hsN32_ hvN32_ => ?_)
            have hf_N32_ : zFr [3, 4, 5, 6, 7, 8, 11, 38, 39, 41, 42, 43] [95, 100] Mz N32_ := hf_N27_.tr hsN32_ (by decide) (by decide)
            have e3_N32_ : ze N32_ 81 3 = ze N27_ 81 3 := hsN32_.e (by decide)
            have e4_N32_ : ze N32_ 81 4 = ze N27_ 81 4 := hsN32_.e (by decide)
            have e5_N32_ : ze N32_ 81 5 = ze N27_ 81 5 := hsN32_.e (by decide)
            have e6_N32_ : ze N32_ 81 6 = ze N27_ 81 6 := hsN32_.e (by decide)
            have e7_N32_ : ze N32_ 81 7 = ze N27_ 81 7 := hsN32_.e (by decide)
            have e14_N32_ : ze N32_ 81 14 = ze N27_ 81 14 := hsN32_.e (by decide)
            have e26_N32_ : ze N32_ 81 26 = ze N27_ 81 26 := hsN32_.e (by decide)
            have e38_N32_ : ze N32_ 81 38 = ze N27_ 81 38 := hsN32_.e (by decide)
            have e39_N32_ : ze N32_ 81 39 = ze N27_ 81 39 := hsN32_.e (by decide)
            have r41_N32_ := ze_r N32_ 81 41
            have e42_N32_ : ze N32_ 81 42 = ze N27_ 81 42 := hsN32_.e (by decide)
            have e43_N32_ : ze N32_ 81 43 = ze N27_ 81 43 := hsN32_.e (by decide)
            have c34_ : zRb b_ n_ N32_ := zRb.fr hsN32_ c29_ (by decide) (by decide)
            have c35_ : zRt b_ n_ N32_ := zRt.fr hsN32_ c30_ (by decide) (by decide)
            refine zw_aload_n (pc := 65) (n := 0) (x := 81) rfl d_M_operand_65 ?_
            refine zw_dup (pc := 66) rfl d_M_operand_66 ?_
            refine zr_getI (hf_N32_.w hW) (pc := 67) f_M_296 rfl d_M_operand_67 ?_
            refine zw_iconst (pc := 70) (v := Int32.ofInt 1) (by decide) d_M_operand_70 ?_
            refine zr_iadd (pc := 71) d_M_operand_71 ?_
            refine zr_putI (hf_N32_.w hW) (pc := 72) f_M_296 rfl rfl ⟨by (exact zo_724 e42_N27_ e42_N32_ e42_N3_ r_42.1), by (exact zo_725 e42_N27_ e42_N32_ e42_N3_ hr2_ hrb_.2.2.1 hrb_.2.2.2 r_42.2)⟩ rfl rfl d_M_operand_72 (fun N37_ hsN37_ hvN37_ => ?_)
            have hf_N37_ : zFr [3, 4, 5, 6, 7, 8, 11, 38, 39, 41, 42, 43] [95, 100] Mz N37_ := hf_N32_.tr hsN37_ (by decide) (by decide)
            have e3_N37_ : ze N37_ 81 3 = ze N32_ 81 3 := hsN37_.e (by decide)
            have e4_N37_ : ze N37_ 81 4 = ze N32_ 81 4 := hsN37_.e (by decide)
            have e5_N37_ : ze N37_ 81 5 = ze N32_ 81 5 := hsN37_.e (by decide)
            have e6_N37_ : ze N37_ 81 6 = ze N32_ 81 6 := hsN37_.e (by decide)
            have e7_N37_ : ze N37_ 81 7 = ze N32_ 81 7 := hsN37_.e (by decide)
            have e14_N37_ : ze N37_ 81 14 = ze N32_ 81 14 := hsN37_.e (by decide)
            have e26_N37_ : ze N37_ 81 26 = ze N32_ 81 26 := hsN37_.e (by decide)
            have e38_N37_ : ze N37_ 81 38 = ze N32_ 81 38 := hsN37_.e (by decide)
            have e39_N37_ : ze N37_ 81 39 = ze N32_ 81 39 := hsN37_.e (by decide)
            have e41_N37_ : ze N37_ 81 41 = ze N32_ 81 41 := hsN37_.e (by decide)
            have r42_N37_ := ze_r N37_ 81 42
            have e43_N37_ : ze N37_ 81 43 = ze N32_ 81 43 := hsN37_.e (by decide)
            have c39_ : zRb b_ n_ N37_ := zRb.fr hsN37_ c34_ (by decide) (by decide)
            have c40_ : zRt b_ n_ N37_ := zRt.fr hsN37_ c35_ (by decide) (by decide)
            have hps_ := fun q_ : ze N37_ 81 7 = 0 => zRI_ps (Mz := N3_) (Nz := N37_) (x := x_) (e' := 0) hri1_ ⟨by (exact zo_711 hx_), by (exact zo_726 hx_)⟩ (by rw [if_neg (by (exact zo_727 hx_))]) (fun y_ _ => ⟨fun q2_ => absurd q2_ (by (exact zo_728 hx_)), fun q2_ => absurd q2_ (by (exact zo_729 hx_))⟩) (fun _ => by rw [qzrS_N3_]; exact hd6_ (by (exact ha34_0_hp1_N3_))) (by (exact zo_731 e41_N27_ e41_N37_ hvN32_)) (by rw [hsN37_.ie (by decide) (by decide), hsN32_.ie (by decide) (by decide)]; exact (zs_get hN27_ ⟨by decide, by decide⟩).trans hx_.symm) (fun i_ hi_ => by rw [hsN37_.ie (by decide) (by decide), hsN32_.ie (by decide) (by decide)]; exact zs_oth hN27_ (by (exact zo_732 hi_))) (by rw [if_pos (by (exact zo_733 hx_))]; (exact zo_734 e42_N27_ e42_N32_ e42_N3_ hr2_ hvN37_ r42_N37_.2)) (by (exact zo_19 e38_N27_ e38_N32_ e38_N37_)) (by (exact zo_19 e39_N27_ e39_N32_ e39_N37_)) (fun k_ => ((hsN37_.jg (by decide) (by decide) k_).trans (hsN32_.jg (by decide) (by decide) k_)).trans (hsN27_.jg (by decide) (by decide) k_))
            refine zw_aload_n (pc := 75) (n := 0) (x := 81) rfl d_M_operand_75 ?_
            refine zr_callV (hf_N37_.w hW) hf_N37_.x (pc := 76) [] [] l_M_183 (c_M_isGood l N37_ (hf_N37_.w hW) ) rfl rfl rfl (by decide) (Nat.le_of_ble_eq_true rfl) d_M_operand_76 ?_
            rintro _ N42_ ⟨v43_, rfl, ⟨hv43_a, hv43_b⟩, hsN42_, hp0_N42_⟩
            obtain rfl := hsN42_.eq.symm
            replace hp0_N42_ : ((v43_ = 1 ∧ ze N37_ 81 7 = 0) ∨ (v43_ = 0 ∧ ze N37_ 81 7 ≠ 0)) := hp0_N42_
            rcases hp0_N42_ with ⟨rfl, ha76_0_hp0_N42_⟩ | ⟨rfl, ha76_0_hp0_N42_⟩
            · skip
              show zW l m_M_operand (zn Mz + 0, zw Mz + 0) N37_ 79 [some (.ref 81), some (.int (Int32.ofInt 0)), none] [.int (Int32.ofInt 1)] _
              refine zr_if_eq (pc := 79) (tgt := 86) ⟨(by decide), (by decide)⟩ (by decide) d_M_operand_79 (fun hc_79 => ?_) (fun hc_79 => ?_)
              · skip
                exact absurd hc_79 (by decide)
              · skip
                have hpz_ := hps_ (by (exact ha76_0_hp0_N42_))
                have hpz1_ := hpz_.1
                have hyt_ := c40_
                have hyx_ := hyt_.x
                refine zw_aload_n (pc := 82) (n := 0) (x := 81) rfl (zdal_p dlC_M_operand_100 (i := 19) rfl) ?_
                refine zr_callV (hf_N37_.w hW) hf_N37_.x (pc := 83) [] [] l_M_193 (c_M_goOnF l N37_ (hf_N37_.w hW) b_ n_ c39_ (show 0 ≤ ze N37_ 81 3 by first | with_reducible assumption | (exact zo_57 hyx_.2.1) | assumption) (show ze N37_ 81 3 ≤ n_ by first | with_reducible assumption | (exact zo_605 hyx_.2.2) | assumption)) rfl rfl rfl (by decide) (Nat.le_of_ble_eq_true rfl) (zdal_p dlC_M_operand_100 (i := 20) rfl) ?_
                rintro _ N44_ ⟨rfl, hsN44_, ⟨hp0_N44_, hp1_N44_⟩⟩
                have hf_N44_ : zFr [3, 4, 5, 6, 7, 8, 11, 38, 39, 41, 42, 43] [95, 100] Mz N44_ := hf_N37_.tr hsN44_ (by decide) (by decide)
                have r3_N44_ := ze_r N44_ 81 3
                have r4_N44_ := ze_r N44_ 81 4
                have r5_N44_ := ze_r N44_ 81 5
                have r6_N44_ := ze_r N44_ 81 6
                have e7_N44_ : ze N44_ 81 7 = ze N37_ 81 7 := hsN44_.e (by decide)
                have e14_N44_ : ze N44_ 81 14 = ze N37_ 81 14 := hsN44_.e (by decide)
                have e26_N44_ : ze N44_ 81 26 = ze N37_ 81 26 := hsN44_.e (by decide)
                have e38_N44_ : ze N44_ 81 38 = ze N37_ 81 38 := hsN44_.e (by decide)
                have e39_N44_ : ze N44_ 81 39 = ze N37_ 81 39 := hsN44_.e (by decide)
                have e41_N44_ : ze N44_ 81 41 = ze N37_ 81 41 := hsN44_.e (by decide)
                have e42_N44_ : ze N44_ 81 42 = ze N37_ 81 42 := hsN44_.e (by decide)
                have e43_N44_ : ze N44_ 81 43 = ze N37_ 81 43 := hsN44_.e (by decide)
                have qzrS_N44_ : zrS N44_ = zrS N37_ := zrS_q hsN44_ (by decide)
                have qzrG_N44_ : zrG N44_ = zrG N37_ := zrG_q hsN44_ (by decide)
                have qzrW_N44_ : zrW F_ N44_ = zrW F_ N37_ := zrW_q hsN44_ (by decide)
                have c49_ : zRI F_ K_ 0 N44_ := zRI.fr hsN44_ hpz1_ (by decide) (by decide)
                show zW l m_M_operand (zn Mz + 0, zw Mz + 0) N44_ 86 [some (.ref 81), some (.int (Int32.ofInt 0)), none] [] _
                have hnn_ := hyt_.nx hp0_N44_
                have hst_ := zRea.st (zr0_x (F := F_) (K := K_) (nm := nm_) hO_ hz_ hxb_ (by rw [qzrS_N44_, hpz_.2.1, qzrS_N3_]) (by rw [qzrW_N44_, hpz_.2.2.1, qzrW_N3_]) (by rw [qzrG_N44_, hpz_.2.2.2, qzrG_N3_]) (by (exact zo_736 e43_N27_ e43_N32_ e43_N37_ e43_N44_ hp0_N3_ p6_ r43_N3_.2)) (by (exact p6_)) (hnn_.2.trans (by rw [show ze N37_ 81 4 = ze Mz 81 4 by (exact zo_737 e4_N27_ e4_N32_ e4_N37_ e4_N3_ hyx_.1.1 r_4.2)])))
                have hrx_ := c49_
                have hnx_ := znx_g (b := b_) (n := n_) (s := (ze Mz 81 4).toNat) (by (exact zo_607 hk0_))
                have hpx_ : (ze N44_ 81 4).toNat = (znx b_ n_ (ze Mz 81 4).toNat) := (hnn_.2.trans (by rw [show ze N37_ 81 4 = ze Mz 81 4 by (exact zo_737 e4_N27_ e4_N32_ e4_N37_ e4_N3_ hyx_.1.1 r_4.2)]))
                refine zw_iconst (pc := 86) (v := Int32.ofInt 0) (by decide) d_M_operand_86 ?_
                exact zr_iret (pc := 87) (ty := .boolean) rfl (z_narB (by (decide))) ⟨by (decide), by (decide)⟩ hf_N44_ ⟨hp1_N44_, (show ((0 = 0 ∧ 1 ≤ ze N44_ 81 7 ∧ zRea (zfs b_ n_ F_ K_ nm_) (zRst 0 F_ Mz) zFt) ∨ (0 = 0 ∧ ze N44_ 81 7 = 0 ∧ zRea (zfs b_ n_ F_ K_ nm_) (zRst 0 F_ Mz) (zRst 0 F_ N44_) ∧ zRI F_ K_ 0 N44_ ∧ ze Mz 81 4 < ze N44_ 81 4 ∧ 0 ≤ ze N44_ 81 43 ∧ ze N44_ 81 43 ≤ 30) ∨ (0 = 1 ∧ 1 ≤ ze N44_ 81 7 ∧ zRea (zfs b_ n_ F_ K_ nm_) (zRst 0 F_ Mz) zFt) ∨ (0 = 1 ∧ ze N44_ 81 7 = 0 ∧ zRea (zfs b_ n_ F_ K_ nm_) (zRst 0 F_ Mz) (zRst 1 F_ N44_) ∧ zRI F_ K_ 1 N44_ ∧ ze Mz 81 4 < ze N44_ 81 4 ∧ 0 ≤ ze N44_ 81 43 ∧ ze N44_ 81 43 ≤ 30)) from Or.inr (Or.inl (⟨(show 0 = 0 by first | rfl | exact hst_ | exact hrx_ | omega), (show ze N44_ 81 7 = 0 by first | rfl | exact hst_ | exact hrx_ | (exact zo_610 e7_N44_ ha76_0_hp0_N42_)), (show zRea (zfs b_ n_ F_ K_ nm_) (zRst 0 F_ Mz) (zRst 0 F_ N44_) by first | rfl | exact hst_ | exact hrx_ | omega), (show zRI F_ K_ 0 N44_ by first | rfl | exact hst_ | exact hrx_ | omega), (show ze Mz 81 4 < ze N44_ 81 4 by first | rfl | exact hst_ | exact hrx_ | (exact zo_738 hnx_ hp0_N44_ hpx_ r4_N44_.1 r_4.2)), (show 0 ≤ ze N44_ 81 43 by first | rfl | exact hst_ | exact hrx_ | (exact zo_739 e43_N27_ e43_N32_ e43_N37_ e43_N44_ hp0_N3_ p6_ r43_N3_.1)), (show ze N44_ 81 43 ≤ 30 by first | rfl | exact hst_ | exact hrx_ | (exact zo_740 e43_N27_ e43_N32_ e43_N37_ e43_N44_ hp0_N3_ hz1_ r43_N3_.2))⟩)))⟩ d_M_operand_87
            · skip
              exfalso; (exact zo_741 e7_N27_ e7_N32_ e7_N37_ ha34_0_hp1_N3_ ha76_0_hp0_N42_)
          · skip
            exact absurd hc_46 (by decide)
      · skip
        refine zw_iconst (pc := 27) (v := Int32.ofInt 1) (by decide) (zdal_p dlC_M_operand_99 (i := 12) rfl) ?_
        refine zw_goto (pc := 28) (tgt := 32) (by decide) (zdal_p dlC_M_operand_99 (i := 13) rfl) ?_
        refine zw_istore_n (pc := 32) (i := 1) (L2 := [some (.ref 81), some (.int (Int32.ofInt 1)), none]) rfl (by decide) rfl (zdal_p dlC_M_operand_99 (i := 15) rfl) ?_
        refine zw_aload_n (pc := 33) (n := 0) (x := 81) rfl (zdal_p dlC_M_operand_99 (i := 16) rfl) ?_
        refine zr_callV (hf.w hW) hf.x (pc := 34) [] [] l_M_302 (c_M_countsUnitF l Mz (hf.w hW) F_ K_ p4_ (show 0 ≤ ze Mz 81 7 by first | with_reducible assumption | (exact zo_718 p5_) | assumption) (show 0 ≤ ze Mz 81 43 by first | with_reducible assumption | assumption | omega) (show ze Mz 81 43 ≤ 30 by first | with_reducible assumption | assumption | omega)) rfl rfl rfl (by decide) (Nat.le_of_ble_eq_true rfl) (zdal_p dlC_M_operand_99 (i := 17) rfl) ?_
        rintro _ N50_ ⟨rfl, hsN50_, ⟨hp0_N50_, hp1_N50_⟩⟩
        have hf_N50_ : zFr [3, 4, 5, 6, 7, 8, 11, 38, 39, 41, 42, 43] [95, 100] Mz N50_ := hf.tr hsN50_ (by decide) (by decide)
        have e3_N50_ : ze N50_ 81 3 = ze Mz 81 3 := hsN50_.e (by decide)
        have e4_N50_ : ze N50_ 81 4 = ze Mz 81 4 := hsN50_.e (by decide)
        have e5_N50_ : ze N50_ 81 5 = ze Mz 81 5 := hsN50_.e (by decide)
        have e6_N50_ : ze N50_ 81 6 = ze Mz 81 6 := hsN50_.e (by decide)
        have r7_N50_ := ze_r N50_ 81 7
        have e14_N50_ : ze N50_ 81 14 = ze Mz 81 14 := hsN50_.e (by decide)
        have e26_N50_ : ze N50_ 81 26 = ze Mz 81 26 := hsN50_.e (by decide)
        have e38_N50_ : ze N50_ 81 38 = ze Mz 81 38 := hsN50_.e (by decide)
        have e39_N50_ : ze N50_ 81 39 = ze Mz 81 39 := hsN50_.e (by decide)
        have e41_N50_ : ze N50_ 81 41 = ze Mz 81 41 := hsN50_.e (by decide)
        have e42_N50_ : ze N50_ 81 42 = ze Mz 81 42 := hsN50_.e (by decide)
        have r43_N50_ := ze_r N50_ 81 43
        have qzrS_N50_ : zrS N50_ = zrS Mz := zrS_q hsN50_ (by decide)
        have qzrG_N50_ : zrG N50_ = zrG Mz := zrG_q hsN50_ (by decide)
        have qzrW_N50_ : zrW F_ N50_ = zrW F_ Mz := zrW_q hsN50_ (by decide)
        have c53_ : zRb b_ n_ N50_ := zRb.fr hsN50_ p1_ (by decide) (by decide)
        have c54_ : zRt b_ n_ N50_ := zRt.fr hsN50_ p2_ (by decide) (by decide)
        have c56_ : zRI F_ K_ 0 N50_ := zRI.fr hsN50_ p4_ (by decide) (by decide)
        rcases hp1_N50_ with ⟨ha34_0_hp1_N50_, ha34_1_hp1_N50_⟩ | ⟨ha34_0_hp1_N50_, ha34_1_hp1_N50_, ha34_2_hp1_N50_⟩
        · skip
          have hnz_ := ha34_1_hp1_N50_ p5_
          have hri1_ := c56_
          have hd6_ : ze N50_ 81 7 = 0 → zdp (zrS Mz) ≤ 6 := fun q_ => by omega
          have hrt_ := zRea.st (zr0_of (F := F_) (K := K_) (nm := nm_) hO_ hnz_)
          show zW l m_M_operand (zn Mz + 0, zw Mz + 0) N50_ 37 [some (.ref 81), some (.int (Int32.ofInt 1)), none] [] _
          refine zw_aload_n (pc := 37) (n := 0) (x := 81) rfl d_M_operand_37 ?_
          refine zr_getF (r := 100) (hf_N50_.w hW) (pc := 38) f_M_72 rfl (zh_100 (hf_N50_.w hW)).1 d_M_operand_38 ?_
          refine zw_aload_n (pc := 41) (n := 0) (x := 81) rfl d_M_operand_41 ?_
          refine zr_getI (hf_N50_.w hW) (pc := 42) f_M_305 rfl d_M_operand_42 ?_
          refine zw_iload_n (pc := 45) (n := 1) (x := Int32.ofInt 1) rfl d_M_operand_45 ?_
          refine zr_if_eq (pc := 46) (tgt := 53) ⟨(by decide), (by decide)⟩ (by decide) d_M_operand_46 (fun hc_46 => ?_) (fun hc_46 => ?_)
          · skip
            exact absurd hc_46 (by decide)
          · skip
            refine zw_iconst (pc := 49) (v := Int32.ofInt 0) (by decide) (zdal_p dlC_M_operand_100 (i := 0) rfl) ?_
            refine zw_goto (pc := 50) (tgt := 54) (by decide) (zdal_p dlC_M_operand_100 (i := 1) rfl) ?_
            obtain ⟨x_, hx_⟩ : ∃ x : Int, x = 0 := ⟨_, rfl⟩
            have hxb_ : (x_ = 0 ∧ b_ (ze Mz 81 4).toNat = 40) ∨ (x_ = 1 ∧ b_ (ze Mz 81 4).toNat ≠ 40) := by (exact zo_742 hc_24 hkb_ hv6_ hx_)
            refine zr_iast (pc := 54) (zh_100 (hf_N50_.w hW)).2 (by decide) (by decide) (by (exact zo_720 e41_N50_ hr0_)) (by (exact zo_721 e41_N50_ hrb_.1 hrb_.2.2.2 r_41.2)) d_M_operand_54 (fun N57_ hN57_ hsN57_ => ?_)
            have hf_N57_ : zFr [3, 4, 5, 6, 7, 8, 11, 38, 39, 41, 42, 43] [95, 100] Mz N57_ := hf_N50_.tr hsN57_ (by decide) (by decide)
            have e3_N57_ : ze N57_ 81 3 = ze N50_ 81 3 := hsN57_.e (by decide)
            have e4_N57_ : ze N57_ 81 4 = ze N50_ 81 4 := hsN57_.e (by decide)
            have e5_N57_ : ze N57_ 81 5 = ze N50_ 81 5 := hsN57_.e (by decide)
            have e6_N57_ : ze N57_ 81 6 = ze N50_ 81 6 := hsN57_.e (by decide)
            have e7_N57_ : ze N57_ 81 7 = ze N50_ 81 7 := hsN57_.e (by decide)
            have e14_N57_ : ze N57_ 81 14 = ze N50_ 81 14 := hsN57_.e (by decide)
            have e26_N57_ : ze N57_ 81 26 = ze N50_ 81 26 := hsN57_.e (by decide)
            have e38_N57_ : ze N57_ 81 38 = ze N50_ 81 38 := hsN57_.e (by decide)
            have e39_N57_ : ze N57_ 81 39 = ze N50_ 81 39 := hsN57_.e (by decide)
            have e41_N57_ : ze N57_ 81 41 = ze N50_ 81 41 := hsN57_.e (by decide)
            have e42_N57_ : ze N57_ 81 42 = ze N50_ 81 42 := hsN57_.e (by decide)
            have e43_N57_ : ze N57_ 81 43 = ze N50_ 81 43 := hsN57_.e (by decide)
            have c60_ : zRt b_ n_ N57_ := zRt.fr hsN57_ c54_ (by decide) (by decide)
            refine zw_aload_n (pc := 55) (n := 0) (x := 81) rfl d_M_operand_55 ?_
            refine zw_dup (pc := 56) rfl d_M_operand_56 ?_
            refine zr_getI (hf_N57_.w hW) (pc := 57) f_M_305 rfl d_M_operand_57 ?_
            refine zw_iconst (pc := 60) (v := Int32.ofInt 1) (by decide) d_M_operand_60 ?_
            refine zr_iadd (pc := 61) d_M_operand_61 ?_
            refine zr_putI (hf_N57_.w hW) (pc := 62) f_M_305 rfl rfl ⟨by (exact zo_743 e41_N50_ e41_N57_ hr0_), by (exact zo_744 e41_N50_ e41_N57_ hrb_.1 hrb_.2.2.2 r_41.2)⟩ rfl rfl d_M_operand_62 (fun N62_ hsN62_ hvN62_ => ?_)
            have hf_N62_ : zFr [3, 4, 5, 6, 7, 8, 11, 38, 39, 41, 42, 43] [95, 100] Mz N62_ := hf_N57_.tr hsN62_ (by decide) (by decide)
            have e3_N62_ : ze N62_ 81 3 = ze N57_ 81 3 := hsN62_.e (by decide)
            have e4_N62_ : ze N62_ 81 4 = ze N57_ 81 4 := hsN62_.e (by decide)
            have e5_N62_ : ze N62_ 81 5 = ze N57_ 81 5 := hsN62_.e (by decide)
            have e6_N62_ : ze N62_ 81 6 = ze N57_ 81 6 := hsN62_.e (by decide)
            have e7_N62_ : ze N62_ 81 7 = ze N57_ 81 7 := hsN62_.e (by decide)
            have e14_N62_ : ze N62_ 81 14 = ze N57_ 81 14 := hsN62_.e (by decide)
            have e26_N62_ : ze N62_ 81 26 = ze N57_ 81 26 := hsN62_.e (by decide)
            have e38_N62_ : ze N62_ 81 38 = ze N57_ 81 38 := hsN62_.e (by decide)
            have e39_N62_ : ze N62_ 81 39 = ze N57_ 81 39 := hsN62_.e (by decide)
            have r41_N62_ := ze_r N62_ 81 41
            have e42_N62_ : ze N62_ 81 42 = ze N57_ 81 42 := hsN62_.e (by decide)
            have e43_N62_ : ze N62_ 81 43 = ze N57_ 81 43 := hsN62_.e (by decide)
            have c65_ : zRt b_ n_ N62_ := zRt.fr hsN62_ c60_ (by decide) (by decide)
            refine zw_aload_n (pc := 65) (n := 0) (x := 81) rfl d_M_operand_65 ?_
            refine zw_dup (pc := 66) rfl d_M_operand_66 ?_
            refine zr_getI (hf_N62_.w hW) (pc := 67) f_M_296 rfl d_M_operand_67 ?_
            refine zw_iconst (pc := 70) (v := Int32.ofInt 1) (by decide) d_M_operand_70 ?_
            refine zr_iadd (pc := 71) d_M_operand_71 ?_
            refine zr_putI (hf_N62_.w hW) (pc := 72) f_M_296 rfl rfl ⟨by (exact zo_745 e42_N50_ e42_N57_ e42_N62_ r_42.1), by (exact zo_746 e42_N50_ e42_N57_ e42_N62_ hr2_ hrb_.2.2.1 hrb_.2.2.2 r_42.2)⟩ rfl rfl d_M_operand_72 (fun N67_ hsN67_ hvN67_ => ?_)
            have hf_N67_ : zFr [3, 4, 5, 6, 7, 8, 11, 38, 39, 41, 42, 43] [95, 100] Mz N67_ := hf_N62_.tr hsN67_ (by decide) (by decide)
            have e3_N67_ : ze N67_ 81 3 = ze N62_ 81 3 := hsN67_.e (by decide)
            have e4_N67_ : ze N67_ 81 4 = ze N62_ 81 4 := hsN67_.e (by decide)
            have e5_N67_ : ze N67_ 81 5 = ze N62_ 81 5 := hsN67_.e (by decide)
            have e6_N67_ : ze N67_ 81 6 = ze N62_ 81 6 := hsN67_.e (by decide)
            have e7_N67_ : ze N67_ 81 7 = ze N62_ 81 7 := hsN67_.e (by decide)
            have e14_N67_ : ze N67_ 81 14 = ze N62_ 81 14 := hsN67_.e (by decide)
            have e26_N67_ : ze N67_ 81 26 = ze N62_ 81 26 := hsN67_.e (by decide)
            have e38_N67_ : ze N67_ 81 38 = ze N62_ 81 38 := hsN67_.e (by decide)
            have e39_N67_ : ze N67_ 81 39 = ze N62_ 81 39 := hsN67_.e (by decide)
            have e41_N67_ : ze N67_ 81 41 = ze N62_ 81 41 := hsN67_.e (by decide)
            have r42_N67_ := ze_r N67_ 81 42
            have e43_N67_ : ze N67_ 81 43 = ze N62_ 81 43 := hsN67_.e (by decide)
            have c70_ : zRt b_ n_ N67_ := zRt.fr hsN67_ c65_ (by decide) (by decide)
            have hps_ := fun q_ : ze N67_ 81 7 = 0 => zRI_ps (Mz := N50_) (Nz := N67_) (x := x_) (e' := 0) hri1_ ⟨by (exact zo_718 hx_), by (exact zo_747 hx_)⟩ (by rw [if_neg (by (exact zo_748 hx_))]) (fun y_ _ => ⟨fun q2_ => absurd q2_ (by (exact zo_749 hx_)), fun q2_ => absurd q2_ (by (exact zo_750 hx_))⟩) (fun _ => by rw [qzrS_N50_]; exact hd6_ (by (exact zo_730 e7_N57_ e7_N62_ e7_N67_ ha34_0_hp1_N50_ q_ r7_N50_.2))) (by (exact zo_731 e41_N57_ e41_N67_ hvN62_)) (by rw [hsN67_.ie (by decide) (by decide), hsN62_.ie (by decide) (by decide)]; exact (zs_get hN57_ ⟨by decide, by decide⟩).trans hx_.symm) (fun i_ hi_ => by rw [hsN67_.ie (by decide) (by decide), hsN62_.ie (by decide) (by decide)]; exact zs_oth hN57_ (by (exact zo_732 hi_))) (by rw [if_pos (by (exact zo_751 hx_))]; (exact zo_752 e42_N50_ e42_N57_ e42_N62_ hr2_ hvN67_ r42_N67_.2)) (by (exact zo_19 e38_N57_ e38_N62_ e38_N67_)) (by (exact zo_19 e39_N57_ e39_N62_ e39_N67_)) (fun k_ => ((hsN67_.jg (by decide) (by decide) k_).trans (hsN62_.jg (by decide) (by decide) k_)).trans (hsN57_.jg (by decide) (by decide) k_))
            refine zw_aload_n (pc := 75) (n := 0) (x := 81) rfl d_M_operand_75 ?_
            refine zr_callV (hf_N67_.w hW) hf_N67_.x (pc := 76) [] [] l_M_183 (c_M_isGood l N67_ (hf_N67_.w hW) ) rfl rfl rfl (by decide) (Nat.le_of_ble_eq_true rfl) d_M_operand_76 ?_
            rintro _ N72_ ⟨v73_, rfl, ⟨hv73_a, hv73_b⟩, hsN72_, hp0_N72_⟩
            obtain rfl := hsN72_.eq.symm
            replace hp0_N72_ : ((v73_ = 1 ∧ ze N67_ 81 7 = 0) ∨ (v73_ = 0 ∧ ze N67_ 81 7 ≠ 0)) := hp0_N72_
            rcases hp0_N72_ with ⟨rfl, ha76_0_hp0_N72_⟩ | ⟨rfl, ha76_0_hp0_N72_⟩
            · skip
              exfalso; (exact zo_753 hc_24 hkb_ hv6_)
            · skip
              show zW l m_M_operand (zn Mz + 0, zw Mz + 0) N67_ 79 [some (.ref 81), some (.int (Int32.ofInt 1)), none] [.int (Int32.ofInt 0)] _
              refine zr_if_eq (pc := 79) (tgt := 86) ⟨(by decide), (by decide)⟩ (by decide) d_M_operand_79 (fun hc_79 => ?_) (fun hc_79 => ?_)
              · skip
                refine zw_iconst (pc := 86) (v := Int32.ofInt 0) (by decide) d_M_operand_86 ?_
                exact zr_iret (pc := 87) (ty := .boolean) rfl (z_narB (by (decide))) ⟨by (exact hv73_a), by (exact hv73_b)⟩ hf_N67_ ⟨c70_, (show ((0 = 0 ∧ 1 ≤ ze N67_ 81 7 ∧ zRea (zfs b_ n_ F_ K_ nm_) (zRst 0 F_ Mz) zFt) ∨ (0 = 0 ∧ ze N67_ 81 7 = 0 ∧ zRea (zfs b_ n_ F_ K_ nm_) (zRst 0 F_ Mz) (zRst 0 F_ N67_) ∧ zRI F_ K_ 0 N67_ ∧ ze Mz 81 4 < ze N67_ 81 4 ∧ 0 ≤ ze N67_ 81 43 ∧ ze N67_ 81 43 ≤ 30) ∨ (0 = 1 ∧ 1 ≤ ze N67_ 81 7 ∧ zRea (zfs b_ n_ F_ K_ nm_) (zRst 0 F_ Mz) zFt) ∨ (0 = 1 ∧ ze N67_ 81 7 = 0 ∧ zRea (zfs b_ n_ F_ K_ nm_) (zRst 0 F_ Mz) (zRst 1 F_ N67_) ∧ zRI F_ K_ 1 N67_ ∧ ze Mz 81 4 < ze N67_ 81 4 ∧ 0 ≤ ze N67_ 81 43 ∧ ze N67_ 81 43 ≤ 30)) from Or.inl (⟨(show 0 = 0 by first | rfl | exact hrt_ | omega), (show 1 ≤ ze N67_ 81 7 by first | rfl | exact hrt_ | (exact zo_662 e7_N57_ e7_N62_ e7_N67_ ha34_0_hp1_N50_)), (show zRea (zfs b_ n_ F_ K_ nm_) (zRst 0 F_ Mz) zFt by first | rfl | exact hrt_ | omega)⟩))⟩ d_M_operand_87
              · skip
                exact absurd hc_79 (by decide)
        · skip
          have hz_ := ha34_2_hp1_N50_
          have hz1_ : (ze Mz 81 43).toNat < 30 := hz_.1
          have hri1_ := c56_
          have hd6_ : ze N50_ 81 7 = 0 → zdp (zrS Mz) ≤ 6 := fun _ => hz_.2
          show zW l m_M_operand (zn Mz + 0, zw Mz + 0) N50_ 37 [some (.ref 81), some (.int (Int32.ofInt 1)), none] [] _
          refine zw_aload_n (pc := 37) (n := 0) (x := 81) rfl d_M_operand_37 ?_
          refine zr_getF (r := 100) (hf_N50_.w hW) (pc := 38) f_M_72 rfl (zh_100 (hf_N50_.w hW)).1 d_M_operand_38 ?_
          refine zw_aload_n (pc := 41) (n := 0) (x := 81) rfl d_M_operand_41 ?_
          refine zr_getI (hf_N50_.w hW) (pc := 42) f_M_305 rfl d_M_operand_42 ?_
          refine zw_iload_n (pc := 45) (n := 1) (x := Int32.ofInt 1) rfl d_M_operand_45 ?_
          refine zr_if_eq (pc := 46) (tgt := 53) ⟨(by decide), (by decide)⟩ (by decide) d_M_operand_46 (fun hc_46 => ?_) (fun hc_46 => ?_)
          · skip
            exact absurd hc_46 (by decide)
          · skip
            refine zw_iconst (pc := 49) (v := Int32.ofInt 0) (by decide) (zdal_p dlC_M_operand_100 (i := 0) rfl) ?_
            refine zw_goto (pc := 50) (tgt := 54) (by decide) (zdal_p dlC_M_operand_100 (i := 1) rfl) ?_
            obtain ⟨x_, hx_⟩ : ∃ x : Int, x = 0 := ⟨_, rfl⟩
            have hxb_ : (x_ = 0 ∧ b_ (ze Mz 81 4).toNat = 40) ∨ (x_ = 1 ∧ b_ (ze Mz 81 4).toNat ≠ 40) := by (exact zo_742 hc_24 hkb_ hv6_ hx_)
            refine zr_iast (pc := 54) (zh_100 (hf_N50_.w hW)).2 (by decide) (by decide) (by (exact zo_720 e41_N50_ hr0_)) (by (exact zo_721 e41_N50_ hrb_.1 hrb_.2.2.2 r_41.2)) d_M_operand_54 (fun N74_ hN74_ hsN74_ => ?_)
            have hf_N74_ : zFr [3, 4, 5, 6, 7, 8, 11, 38, 39, 41, 42, 43] [95, 100] Mz N74_ := hf_N50_.tr hsN74_ (by decide) (by decide)
            have e3_N74_ : ze N74_ 81 3 = ze N50_ 81 3 := hsN74_.e (by decide)
            have e4_N74_ : ze N74_ 81 4 = ze N50_ 81 4 := hsN74_.e (by decide)
            have e5_N74_ : ze N74_ 81 5 = ze N50_ 81 5 := hsN74_.e (by decide)
            have e6_N74_ : ze N74_ 81 6 = ze N50_ 81 6 := hsN74_.e (by decide)
            have e7_N74_ : ze N74_ 81 7 = ze N50_ 81 7 := hsN74_.e (by decide)
            have e14_N74_ : ze N74_ 81 14 = ze N50_ 81 14 := hsN74_.e (by decide)
            have e26_N74_ : ze N74_ 81 26 = ze N50_ 81 26 := hsN74_.e (by decide)
            have e38_N74_ : ze N74_ 81 38 = ze N50_ 81 38 := hsN74_.e (by decide)
            have e39_N74_ : ze N74_ 81 39 = ze N50_ 81 39 := hsN74_.e (by decide)
            have e41_N74_ : ze N74_ 81 41 = ze N50_ 81 41 := hsN74_.e (by decide)
            have e42_N74_ : ze N74_ 81 42 = ze N50_ 81 42 := hsN74_.e (by decide)
            have e43_N74_ : ze N74_ 81 43 = ze N50_ 81 43 := hsN74_.e (by decide)
            have c76_ : zRb b_ n_ N74_ := zRb.fr hsN74_ c53_ (by decide) (by decide)
            have c77_ : zRt b_ n_ N74_ := zRt.fr hsN74_ c54_ (by decide) (by decide)
            refine zw_aload_n (pc := 55) (n := 0) (x := 81) rfl d_M_operand_55 ?_
            refine zw_dup (pc := 56) rfl d_M_operand_56 ?_
            refine zr_getI (hf_N74_.w hW) (pc := 57) f_M_305 rfl d_M_operand_57 ?_
            refine zw_iconst (pc := 60) (v := Int32.ofInt 1) (by decide) d_M_operand_60 ?_
            refine zr_iadd (pc := 61) d_M_operand_61 ?_
            refine zr_putI (hf_N74_.w hW) (pc := 62) f_M_305 rfl rfl ⟨by (exact zo_743 e41_N50_ e41_N74_ hr0_), by (exact zo_744 e41_N50_ e41_N74_ hrb_.1 hrb_.2.2.2 r_41.2)⟩ rfl rfl d_M_operand_62 (fun N79_ hsN79_ hvN79_ => ?_)
            have hf_N79_ : zFr [3, 4, 5, 6, 7, 8, 11, 38, 39, 41, 42, 43] [95, 100] Mz N79_ := hf_N74_.tr hsN79_ (by decide) (by decide)
            have e3_N79_ : ze N79_ 81 3 = ze N74_ 81 3 := hsN79_.e (by decide)
            have e4_N79_ : ze N79_ 81 4 = ze N74_ 81 4 := hsN79_.e (by decide)
            have e5_N79_ : ze N79_ 81 5 = ze N74_ 81 5 := hsN79_.e (by decide)
            have e6_N79_ : ze N79_ 81 6 = ze N74_ 81 6 := hsN79_.e (by decide)
            have e7_N79_ : ze N79_ 81 7 = ze N74_ 81 7 := hsN79_.e (by decide)
            have e14_N79_ : ze N79_ 81 14 = ze N74_ 81 14 := hsN79_.e (by decide)
            have e26_N79_ : ze N79_ 81 26 = ze N74_ 81 26 := hsN79_.e (by decide)
            have e38_N79_ : ze N79_ 81 38 = ze N74_ 81 38 := hsN79_.e (by decide)
            have e39_N79_ : ze N79_ 81 39 = ze N74_ 81 39 := hsN79_.e (by decide)
            have r41_N79_ := ze_r N79_ 81 41
            have e42_N79_ : ze N79_ 81 42 = ze N74_ 81 42 := hsN79_.e (by decide)
            have e43_N79_ : ze N79_ 81 43 = ze N74_ 81 43 := hsN79_.e (by decide)
            have c81_ : zRb b_ n_ N79_ := zRb.fr hsN79_ c76_ (by decide) (by decide)
            have c82_ : zRt b_ n_ N79_ := zRt.fr hsN79_ c77_ (by decide) (by decide)
            refine zw_aload_n (pc := 65) (n := 0) (x := 81) rfl d_M_operand_65 ?_
            refine zw_dup (pc := 66) rfl d_M_operand_66 ?_
            refine zr_getI (hf_N79_.w hW) (pc := 67) f_M_296 rfl d_M_operand_67 ?_
            refine zw_iconst (pc := 70) (v := Int32.ofInt 1) (by decide) d_M_operand_70 ?_
            refine zr_iadd (pc := 71) d_M_operand_71 ?_
            refine zr_putI (hf_N79_.w hW) (pc := 72) f_M_296 rfl rfl ⟨by (exact zo_745 e42_N50_ e42_N74_ e42_N79_ r_42.1), by (exact zo_746 e42_N50_ e42_N74_ e42_N79_ hr2_ hrb_.2.2.1 hrb_.2.2.2 r_42.2)⟩ rfl rfl d_M_operand_72 (fun N84_ hsN84_ hvN84_ => ?_)
            have hf_N84_ : zFr [3, 4, 5, 6, 7, 8, 11, 38, 39, 41, 42, 43] [95, 100] Mz N84_ := hf_N79_.tr hsN84_ (by decide) (by decide)
            have e3_N84_ : ze N84_ 81 3 = ze N79_ 81 3 := hsN84_.e (by decide)
            have e4_N84_ : ze N84_ 81 4 = ze N79_ 81 4 := hsN84_.e (by decide)
            have e5_N84_ : ze N84_ 81 5 = ze N79_ 81 5 := hsN84_.e (by decide)
            have e6_N84_ : ze N84_ 81 6 = ze N79_ 81 6 := hsN84_.e (by decide)
            have e7_N84_ : ze N84_ 81 7 = ze N79_ 81 7 := hsN84_.e (by decide)
            have e14_N84_ : ze N84_ 81 14 = ze N79_ 81 14 := hsN84_.e (by decide)
            have e26_N84_ : ze N84_ 81 26 = ze N79_ 81 26 := hsN84_.e (by decide)
            have e38_N84_ : ze N84_ 81 38 = ze N79_ 81 38 := hsN84_.e (by decide)
            have e39_N84_ : ze N84_ 81 39 = ze N79_ 81 39 := hsN84_.e (by decide)
            have e41_N84_ : ze N84_ 81 41 = ze N79_ 81 41 := hsN84_.e (by decide)
            have r42_N84_ := ze_r N84_ 81 42
            have e43_N84_ : ze N84_ 81 43 = ze N79_ 81 43 := hsN84_.e (by decide)
            have c86_ : zRb b_ n_ N84_ := zRb.fr hsN84_ c81_ (by decide) (by decide)
            have c87_ : zRt b_ n_ N84_ := zRt.fr hsN84_ c82_ (by decide) (by decide)
            have hps_ := fun q_ : ze N84_ 81 7 = 0 => zRI_ps (Mz := N50_) (Nz := N84_) (x := x_) (e' := 0) hri1_ ⟨by (exact zo_718 hx_), by (exact zo_747 hx_)⟩ (by rw [if_neg (by (exact zo_748 hx_))]) (fun y_ _ => ⟨fun q2_ => absurd q2_ (by (exact zo_749 hx_)), fun q2_ => absurd q2_ (by (exact zo_750 hx_))⟩) (fun _ => by rw [qzrS_N50_]; exact hd6_ (by (exact ha34_0_hp1_N50_))) (by (exact zo_731 e41_N74_ e41_N84_ hvN79_)) (by rw [hsN84_.ie (by decide) (by decide), hsN79_.ie (by decide) (by decide)]; exact (zs_get hN74_ ⟨by decide, by decide⟩).trans hx_.symm) (fun i_ hi_ => by rw [hsN84_.ie (by decide) (by decide), hsN79_.ie (by decide) (by decide)]; exact zs_oth hN74_ (by (exact zo_732 hi_))) (by rw [if_pos (by (exact zo_751 hx_))]; (exact zo_752 e42_N50_ e42_N74_ e42_N79_ hr2_ hvN84_ r42_N84_.2)) (by (exact zo_19 e38_N74_ e38_N79_ e38_N84_)) (by (exact zo_19 e39_N74_ e39_N79_ e39_N84_)) (fun k_ => ((hsN84_.jg (by decide) (by decide) k_).trans (hsN79_.jg (by decide) (by decide) k_)).trans (hsN74_.jg (by decide) (by decide) k_))
            refine zw_aload_n (pc := 75) (n := 0) (x := 81) rfl d_M_operand_75 ?_
            refine zr_callV (hf_N84_.w hW) hf_N84_.x (pc := 76) [] [] l_M_183 (c_M_isGood l N84_ (hf_N84_.w hW) ) rfl rfl rfl (by decide) (Nat.le_of_ble_eq_true rfl) d_M_operand_76 ?_
            rintro _ N89_ ⟨v90_, rfl, ⟨hv90_a, hv90_b⟩, hsN89_, hp0_N89_⟩
            obtain rfl := hsN89_.eq.symm
            replace hp0_N89_ : ((v90_ = 1 ∧ ze N84_ 81 7 = 0) ∨ (v90_ = 0 ∧ ze N84_ 81 7 ≠ 0)) := hp0_N89_
            rcases hp0_N89_ with ⟨rfl, ha76_0_hp0_N89_⟩ | ⟨rfl, ha76_0_hp0_N89_⟩
            · skip
              show zW l m_M_operand (zn Mz + 0, zw Mz + 0) N84_ 79 [some (.ref 81), some (.int (Int32.ofInt 1)), none] [.int (Int32.ofInt 1)] _
              refine zr_if_eq (pc := 79) (tgt := 86) ⟨(by decide), (by decide)⟩ (by decide) d_M_operand_79 (fun hc_79 => ?_) (fun hc_79 => ?_)
              · skip
                exact absurd hc_79 (by decide)
              · skip
                have hpz_ := hps_ (by (exact ha76_0_hp0_N89_))
                have hpz1_ := hpz_.1
                have hyt_ := c87_
                have hyx_ := hyt_.x
                refine zw_aload_n (pc := 82) (n := 0) (x := 81) rfl (zdal_p dlC_M_operand_100 (i := 19) rfl) ?_
                refine zr_callV (hf_N84_.w hW) hf_N84_.x (pc := 83) [] [] l_M_193 (c_M_goOnF l N84_ (hf_N84_.w hW) b_ n_ c86_ (show 0 ≤ ze N84_ 81 3 by first | with_reducible assumption | (exact zo_57 hyx_.2.1) | assumption) (show ze N84_ 81 3 ≤ n_ by first | with_reducible assumption | (exact zo_605 hyx_.2.2) | assumption)) rfl rfl rfl (by decide) (Nat.le_of_ble_eq_true rfl) (zdal_p dlC_M_operand_100 (i := 20) rfl) ?_
                rintro _ N91_ ⟨rfl, hsN91_, ⟨hp0_N91_, hp1_N91_⟩⟩
                have hf_N91_ : zFr [3, 4, 5, 6, 7, 8, 11, 38, 39, 41, 42, 43] [95, 100] Mz N91_ := hf_N84_.tr hsN91_ (by decide) (by decide)
                have r3_N91_ := ze_r N91_ 81 3
                have r4_N91_ := ze_r N91_ 81 4
                have r5_N91_ := ze_r N91_ 81 5
                have r6_N91_ := ze_r N91_ 81 6
                have e7_N91_ : ze N91_ 81 7 = ze N84_ 81 7 := hsN91_.e (by decide)
                have e14_N91_ : ze N91_ 81 14 = ze N84_ 81 14 := hsN91_.e (by decide)
                have e26_N91_ : ze N91_ 81 26 = ze N84_ 81 26 := hsN91_.e (by decide)
                have e38_N91_ : ze N91_ 81 38 = ze N84_ 81 38 := hsN91_.e (by decide)
                have e39_N91_ : ze N91_ 81 39 = ze N84_ 81 39 := hsN91_.e (by decide)
                have e41_N91_ : ze N91_ 81 41 = ze N84_ 81 41 := hsN91_.e (by decide)
                have e42_N91_ : ze N91_ 81 42 = ze N84_ 81 42 := hsN91_.e (by decide)
                have e43_N91_ : ze N91_ 81 43 = ze N84_ 81 43 := hsN91_.e (by decide)
                have qzrS_N91_ : zrS N91_ = zrS N84_ := zrS_q hsN91_ (by decide)
                have qzrG_N91_ : zrG N91_ = zrG N84_ := zrG_q hsN91_ (by decide)
                have qzrW_N91_ : zrW F_ N91_ = zrW F_ N84_ := zrW_q hsN91_ (by decide)
                have c96_ : zRI F_ K_ 0 N91_ := zRI.fr hsN91_ hpz1_ (by decide) (by decide)
                show zW l m_M_operand (zn Mz + 0, zw Mz + 0) N91_ 86 [some (.ref 81), some (.int (Int32.ofInt 1)), none] [] _
                have hnn_ := hyt_.nx hp0_N91_
                have hst_ := zRea.st (zr0_x (F := F_) (K := K_) (nm := nm_) hO_ hz_ hxb_ (by rw [qzrS_N91_, hpz_.2.1, qzrS_N50_]) (by rw [qzrW_N91_, hpz_.2.2.1, qzrW_N50_]) (by rw [qzrG_N91_, hpz_.2.2.2, qzrG_N50_]) (by (exact zo_736 e43_N74_ e43_N79_ e43_N84_ e43_N91_ hp0_N50_ p6_ r43_N50_.2)) (by (exact p6_)) (hnn_.2.trans (by rw [show ze N84_ 81 4 = ze Mz 81 4 by (exact zo_754 e4_N50_ e4_N74_ e4_N79_ e4_N84_ hyx_.1.1 r_4.2)])))
                have hrx_ := c96_
                have hnx_ := znx_g (b := b_) (n := n_) (s := (ze Mz 81 4).toNat) (by (exact zo_607 hk0_))
                have hpx_ : (ze N91_ 81 4).toNat = (znx b_ n_ (ze Mz 81 4).toNat) := (hnn_.2.trans (by rw [show ze N84_ 81 4 = ze Mz 81 4 by (exact zo_754 e4_N50_ e4_N74_ e4_N79_ e4_N84_ hyx_.1.1 r_4.2)]))
                refine zw_iconst (pc := 86) (v := Int32.ofInt 0) (by decide) d_M_operand_86 ?_
                exact zr_iret (pc := 87) (ty := .boolean) rfl (z_narB (by (decide))) ⟨by (decide), by (decide)⟩ hf_N91_ ⟨hp1_N91_, (show ((0 = 0 ∧ 1 ≤ ze N91_ 81 7 ∧ zRea (zfs b_ n_ F_ K_ nm_) (zRst 0 F_ Mz) zFt) ∨ (0 = 0 ∧ ze N91_ 81 7 = 0 ∧ zRea (zfs b_ n_ F_ K_ nm_) (zRst 0 F_ Mz) (zRst 0 F_ N91_) ∧ zRI F_ K_ 0 N91_ ∧ ze Mz 81 4 < ze N91_ 81 4 ∧ 0 ≤ ze N91_ 81 43 ∧ ze N91_ 81 43 ≤ 30) ∨ (0 = 1 ∧ 1 ≤ ze N91_ 81 7 ∧ zRea (zfs b_ n_ F_ K_ nm_) (zRst 0 F_ Mz) zFt) ∨ (0 = 1 ∧ ze N91_ 81 7 = 0 ∧ zRea (zfs b_ n_ F_ K_ nm_) (zRst 0 F_ Mz) (zRst 1 F_ N91_) ∧ zRI F_ K_ 1 N91_ ∧ ze Mz 81 4 < ze N91_ 81 4 ∧ 0 ≤ ze N91_ 81 43 ∧ ze N91_ 81 43 ≤ 30)) from Or.inr (Or.inl (⟨(show 0 = 0 by first | rfl | exact hst_ | exact hrx_ | omega), (show ze N91_ 81 7 = 0 by first | rfl | exact hst_ | exact hrx_ | (exact zo_610 e7_N91_ ha76_0_hp0_N89_)), (show zRea (zfs b_ n_ F_ K_ nm_) (zRst 0 F_ Mz) (zRst 0 F_ N91_) by first | rfl | exact hst_ | exact hrx_ | omega), (show zRI F_ K_ 0 N91_ by first | rfl | exact hst_ | exact hrx_ | omega), (show ze Mz 81 4 < ze N91_ 81 4 by first | rfl | exact hst_ | exact hrx_ | (exact zo_738 hnx_ hp0_N91_ hpx_ r4_N91_.1 r_4.2)), (show 0 ≤ ze N91_ 81 43 by first | rfl | exact hst_ | exact hrx_ | (exact zo_739 e43_N74_ e43_N79_ e43_N84_ e43_N91_ hp0_N50_ p6_ r43_N50_.1)), (show ze N91_ 81 43 ≤ 30 by first | rfl | exact hst_ | exact hrx_ | (exact zo_740 e43_N74_ e43_N79_ e43_N84_ e43_N91_ hp0_N50_ hz1_ r43_N50_.2))⟩)))⟩ d_M_operand_87
            · skip
              exfalso; (exact zo_753 hc_24 hkb_ hv6_)
    · skip
      exact absurd hc_6 (by decide)
  · skip
    have hn45_ := ha3_0_hp0_N1_ p5_
    show zW l m_M_operand (zn Mz + 0, zw Mz + 0) Mz 6 [some (.ref 81), none, none] [.int (Int32.ofInt 0)] _
    refine zr_if_ne (pc := 6) (tgt := 18) ⟨(by decide), (by decide)⟩ (by decide) (zdal_p dlC_M_operand_99 (i := 3) rfl) (fun hc_6 => ?_) (fun hc_6 => ?_)
    · skip
      exact absurd hc_6 (by decide)
    · skip
      refine zw_aload_n (pc := 9) (n := 0) (x := 81) rfl (zdal_p dlC_M_operand_99 (i := 4) rfl) ?_
      refine zw_bipush (pc := 10) (v := Int32.ofInt 40) (by decide) (zdal_p dlC_M_operand_99 (i := 5) rfl) ?_
      refine zr_callV (hf.w hW) hf.x (pc := 12) [.int (Int32.ofInt 40)] [] l_M_187 (c_M_isSignHereF l Mz (hf.w hW) 40 (by decide) (by decide) b_ n_ p2_) rfl rfl rfl (by decide) (Nat.le_of_ble_eq_true rfl) (zdal_p dlC_M_operand_99 (i := 6) rfl) ?_
      rintro _ N97_ ⟨v98_, rfl, ⟨hv98_a, hv98_b⟩, hsN97_, hp0_N97_⟩
      obtain rfl := hsN97_.eq.symm
      replace hp0_N97_ : ((v98_ = 1 ∧ ze Mz 81 7 = 0 ∧ zisg b_ n_ (ze Mz 81 4).toNat 40) ∨ (v98_ = 0 ∧ (ze Mz 81 7 = 0 → ¬ zisg b_ n_ (ze Mz 81 4).toNat 40))) := hp0_N97_
      rcases hp0_N97_ with ⟨rfl, ha12_0_hp0_N97_, ha12_1_hp0_N97_⟩ | ⟨rfl, ha12_0_hp0_N97_⟩
      · skip
        have hO_ : zisg b_ n_ (ze Mz 81 4).toNat 45 ∨ zisg b_ n_ (ze Mz 81 4).toNat 40 := Or.inr ha12_1_hp0_N97_
        have hkb_ : b_ (ze Mz 81 4).toNat = 40 := ha12_1_hp0_N97_.2
        have hk0_ : zkd b_ n_ (ze Mz 81 4).toNat = 3 := ha12_1_hp0_N97_.1
        have hv6_ := t6_ hk0_
        show zW l m_M_operand (zn Mz + 0, zw Mz + 0) Mz 15 [some (.ref 81), none, none] [.int (Int32.ofInt 1)] _
        refine zr_if_eq (pc := 15) (tgt := 88) ⟨(by decide), (by decide)⟩ (by decide) (zdal_p dlC_M_operand_99 (i := 7) rfl) (fun hc_15 => ?_) (fun hc_15 => ?_)
        · skip
          exact absurd hc_15 (by decide)
        · skip
          refine zw_aload_n (pc := 18) (n := 0) (x := 81) rfl (zdal_p dlC_M_operand_99 (i := 8) rfl) ?_
          refine zr_getI (hf.w hW) (pc := 19) f_M_152 rfl (zdal_p dlC_M_operand_99 (i := 9) rfl) ?_
          refine zw_bipush (pc := 22) (v := Int32.ofInt 40) (by decide) (zdal_p dlC_M_operand_99 (i := 10) rfl) ?_
          refine zr_icmp_ne (pc := 24) (tgt := 31) ⟨(ze_r Mz 81 6).1, (ze_r Mz 81 6).2⟩ ⟨(by decide), (by decide)⟩ (by decide) (zdal_p dlC_M_operand_99 (i := 11) rfl) (fun hc_24 => ?_) (fun hc_24 => ?_)
          · skip
            refine zw_iconst (pc := 31) (v := Int32.ofInt 0) (by decide) (zdal_p dlC_M_operand_99 (i := 14) rfl) ?_
            refine zw_istore_n (pc := 32) (i := 1) (L2 := [some (.ref 81), some (.int (Int32.ofInt 0)), none]) rfl (by decide) rfl (zdal_p dlC_M_operand_99 (i := 15) rfl) ?_
            refine zw_aload_n (pc := 33) (n := 0) (x := 81) rfl (zdal_p dlC_M_operand_99 (i := 16) rfl) ?_
            refine zr_callV (hf.w hW) hf.x (pc := 34) [] [] l_M_302 (c_M_countsUnitF l Mz (hf.w hW) F_ K_ p4_ (show 0 ≤ ze Mz 81 7 by first | with_reducible assumption | (exact zo_718 p5_) | assumption) (show 0 ≤ ze Mz 81 43 by first | with_reducible assumption | assumption | omega) (show ze Mz 81 43 ≤ 30 by first | with_reducible assumption | assumption | omega)) rfl rfl rfl (by decide) (Nat.le_of_ble_eq_true rfl) (zdal_p dlC_M_operand_99 (i := 17) rfl) ?_
            rintro _ N99_ ⟨rfl, hsN99_, ⟨hp0_N99_, hp1_N99_⟩⟩
            have hf_N99_ : zFr [3, 4, 5, 6, 7, 8, 11, 38, 39, 41, 42, 43] [95, 100] Mz N99_ := hf.tr hsN99_ (by decide) (by decide)
            have e3_N99_ : ze N99_ 81 3 = ze Mz 81 3 := hsN99_.e (by decide)
            have e4_N99_ : ze N99_ 81 4 = ze Mz 81 4 := hsN99_.e (by decide)
            have e5_N99_ : ze N99_ 81 5 = ze Mz 81 5 := hsN99_.e (by decide)
            have e6_N99_ : ze N99_ 81 6 = ze Mz 81 6 := hsN99_.e (by decide)
            have r7_N99_ := ze_r N99_ 81 7
            have e14_N99_ : ze N99_ 81 14 = ze Mz 81 14 := hsN99_.e (by decide)
            have e26_N99_ : ze N99_ 81 26 = ze Mz 81 26 := hsN99_.e (by decide)
            have e38_N99_ : ze N99_ 81 38 = ze Mz 81 38 := hsN99_.e (by decide)
            have e39_N99_ : ze N99_ 81 39 = ze Mz 81 39 := hsN99_.e (by decide)
            have e41_N99_ : ze N99_ 81 41 = ze Mz 81 41 := hsN99_.e (by decide)
            have e42_N99_ : ze N99_ 81 42 = ze Mz 81 42 := hsN99_.e (by decide)
            have r43_N99_ := ze_r N99_ 81 43
            have qzrS_N99_ : zrS N99_ = zrS Mz := zrS_q hsN99_ (by decide)
            have qzrG_N99_ : zrG N99_ = zrG Mz := zrG_q hsN99_ (by decide)
            have qzrW_N99_ : zrW F_ N99_ = zrW F_ Mz := zrW_q hsN99_ (by decide)
            have c102_ : zRb b_ n_ N99_ := zRb.fr hsN99_ p1_ (by decide) (by decide)
            have c103_ : zRt b_ n_ N99_ := zRt.fr hsN99_ p2_ (by decide) (by decide)
            have c105_ : zRI F_ K_ 0 N99_ := zRI.fr hsN99_ p4_ (by decide) (by decide)
            rcases hp1_N99_ with ⟨ha34_0_hp1_N99_, ha34_1_hp1_N99_⟩ | ⟨ha34_0_hp1_N99_, ha34_1_hp1_N99_, ha34_2_hp1_N99_⟩
            · skip
              have hnz_ := ha34_1_hp1_N99_ p5_
              have hri1_ := c105_
              have hd6_ : ze N99_ 81 7 = 0 → zdp (zrS Mz) ≤ 6 := fun q_ => by omega
              have hrt_ := zRea.st (zr0_of (F := F_) (K := K_) (nm := nm_) hO_ hnz_)
              show zW l m_M_operand (zn Mz + 0, zw Mz + 0) N99_ 37 [some (.ref 81), some (.int (Int32.ofInt 0)), none] [] _
              refine zw_aload_n (pc := 37) (n := 0) (x := 81) rfl d_M_operand_37 ?_
              refine zr_getF (r := 100) (hf_N99_.w hW) (pc := 38) f_M_72 rfl (zh_100 (hf_N99_.w hW)).1 d_M_operand_38 ?_
              refine zw_aload_n (pc := 41) (n := 0) (x := 81) rfl d_M_operand_41 ?_
              refine zr_getI (hf_N99_.w hW) (pc := 42) f_M_305 rfl d_M_operand_42 ?_
              refine zw_iload_n (pc := 45) (n := 1) (x := Int32.ofInt 0) rfl d_M_operand_45 ?_
              refine zr_if_eq (pc := 46) (tgt := 53) ⟨(by decide), (by decide)⟩ (by decide) d_M_operand_46 (fun hc_46 => ?_) (fun hc_46 => ?_)
              · skip
                refine zw_iconst (pc := 53) (v := Int32.ofInt 1) (by decide) (zdal_p dlC_M_operand_100 (i := 2) rfl) ?_
                obtain ⟨x_, hx_⟩ : ∃ x : Int, x = 1 := ⟨_, rfl⟩
                have hxb_ : (x_ = 0 ∧ b_ (ze Mz 81 4).toNat = 40) ∨ (x_ = 1 ∧ b_ (ze Mz 81 4).toNat ≠ 40) := by (exact zo_755 hkb_ hv6_ hx_ hc_24)
                refine zr_iast (pc := 54) (zh_100 (hf_N99_.w hW)).2 (by decide) (by decide) (by (exact zo_720 e41_N99_ hr0_)) (by (exact zo_721 e41_N99_ hrb_.1 hrb_.2.2.2 r_41.2)) d_M_operand_54 (fun N106_ hN106_ hsN106_ => ?_)
                have hf_N106_ : zFr [3, 4, 5, 6, 7, 8, 11, 38, 39, 41, 42, 43] [95, 100] Mz N106_ := hf_N99_.tr hsN106_ (by decide) (by decide)
                have e3_N106_ : ze N106_ 81 3 = ze N99_ 81 3 := hsN106_.e (by decide)
                have e4_N106_ : ze N106_ 81 4 = ze N99_ 81 4 := hsN106_.e (by decide)
                have e5_N106_ : ze N106_ 81 5 = ze N99_ 81 5 := hsN106_.e (by decide)
                have e6_N106_ : ze N106_ 81 6 = ze N99_ 81 6 := hsN106_.e (by decide)
                have e7_N106_ : ze N106_ 81 7 = ze N99_ 81 7 := hsN106_.e (by decide)
                have e14_N106_ : ze N106_ 81 14 = ze N99_ 81 14 := hsN106_.e (by decide)
                have e26_N106_ : ze N106_ 81 26 = ze N99_ 81 26 := hsN106_.e (by decide)
                have e38_N106_ : ze N106_ 81 38 = ze N99_ 81 38 := hsN106_.e (by decide)
                have e39_N106_ : ze N106_ 81 39 = ze N99_ 81 39 := hsN106_.e (by decide)
                have e41_N106_ : ze N106_ 81 41 = ze N99_ 81 41 := hsN106_.e (by decide)
                have e42_N106_ : ze N106_ 81 42 = ze N99_ 81 42 := hsN106_.e (by decide)
                have e43_N106_ : ze N106_ 81 43 = ze N99_ 81 43 := hsN106_.e (by decide)
                have c109_ : zRt b_ n_ N106_ := zRt.fr hsN106_ c103_ (by decide) (by decide)
                refine zw_aload_n (pc := 55) (n := 0) (x := 81) rfl d_M_operand_55 ?_
                refine zw_dup (pc := 56) rfl d_M_operand_56 ?_
                refine zr_getI (hf_N106_.w hW) (pc := 57) f_M_305 rfl d_M_operand_57 ?_
                refine zw_iconst (pc := 60) (v := Int32.ofInt 1) (by decide) d_M_operand_60 ?_
                refine zr_iadd (pc := 61) d_M_operand_61 ?_
                refine zr_putI (hf_N106_.w hW) (pc := 62) f_M_305 rfl rfl ⟨by (exact zo_722 e41_N106_ e41_N99_ hr0_), by (exact zo_723 e41_N106_ e41_N99_ hrb_.1 hrb_.2.2.2 r_41.2)⟩ rfl rfl d_M_operand_62 (fun N111_ hsN111_ hvN111_ => ?_)
                have hf_N111_ : zFr [3, 4, 5, 6, 7, 8, 11, 38, 39, 41, 42, 43] [95, 100] Mz N111_ := hf_N106_.tr hsN111_ (by decide) (by decide)
                have e3_N111_ : ze N111_ 81 3 = ze N106_ 81 3 := hsN111_.e (by decide)
                have e4_N111_ : ze N111_ 81 4 = ze N106_ 81 4 := hsN111_.e (by decide)
                have e5_N111_ : ze N111_ 81 5 = ze N106_ 81 5 := hsN111_.e (by decide)
                have e6_N111_ : ze N111_ 81 6 = ze N106_ 81 6 := hsN111_.e (by decide)
                have e7_N111_ : ze N111_ 81 7 = ze N106_ 81 7 := hsN111_.e (by decide)
                have e14_N111_ : ze N111_ 81 14 = ze N106_ 81 14 := hsN111_.e (by decide)
                have e26_N111_ : ze N111_ 81 26 = ze N106_ 81 26 := hsN111_.e (by decide)
                have e38_N111_ : ze N111_ 81 38 = ze N106_ 81 38 := hsN111_.e (by decide)
                have e39_N111_ : ze N111_ 81 39 = ze N106_ 81 39 := hsN111_.e (by decide)
                have r41_N111_ := ze_r N111_ 81 41
                have e42_N111_ : ze N111_ 81 42 = ze N106_ 81 42 := hsN111_.e (by decide)
                have e43_N111_ : ze N111_ 81 43 = ze N106_ 81 43 := hsN111_.e (by decide)
                have c114_ : zRt b_ n_ N111_ := zRt.fr hsN111_ c109_ (by decide) (by decide)
                refine zw_aload_n (pc := 65) (n := 0) (x := 81) rfl d_M_operand_65 ?_
                refine zw_dup (pc := 66) rfl d_M_operand_66 ?_
                refine zr_getI (hf_N111_.w hW) (pc := 67) f_M_296 rfl d_M_operand_67 ?_
                refine zw_iconst (pc := 70) (v := Int32.ofInt 1) (by decide) d_M_operand_70 ?_
                refine zr_iadd (pc := 71) d_M_operand_71 ?_
                refine zr_putI (hf_N111_.w hW) (pc := 72) f_M_296 rfl rfl ⟨by (exact zo_724 e42_N106_ e42_N111_ e42_N99_ r_42.1), by (exact zo_725 e42_N106_ e42_N111_ e42_N99_ hr2_ hrb_.2.2.1 hrb_.2.2.2 r_42.2)⟩ rfl rfl d_M_operand_72 (fun N116_ hsN116_ hvN116_ => ?_)
                have hf_N116_ : zFr [3, 4, 5, 6, 7, 8, 11, 38, 39, 41, 42, 43] [95, 100] Mz N116_ := hf_N111_.tr hsN116_ (by decide) (by decide)
                have e3_N116_ : ze N116_ 81 3 = ze N111_ 81 3 := hsN116_.e (by decide)
                have e4_N116_ : ze N116_ 81 4 = ze N111_ 81 4 := hsN116_.e (by decide)
                have e5_N116_ : ze N116_ 81 5 = ze N111_ 81 5 := hsN116_.e (by decide)
                have e6_N116_ : ze N116_ 81 6 = ze N111_ 81 6 := hsN116_.e (by decide)
                have e7_N116_ : ze N116_ 81 7 = ze N111_ 81 7 := hsN116_.e (by decide)
                have e14_N116_ : ze N116_ 81 14 = ze N111_ 81 14 := hsN116_.e (by decide)
                have e26_N116_ : ze N116_ 81 26 = ze N111_ 81 26 := hsN116_.e (by decide)
                have e38_N116_ : ze N116_ 81 38 = ze N111_ 81 38 := hsN116_.e (by decide)
                have e39_N116_ : ze N116_ 81 39 = ze N111_ 81 39 := hsN116_.e (by decide)
                have e41_N116_ : ze N116_ 81 41 = ze N111_ 81 41 := hsN116_.e (by decide)
                have r42_N116_ := ze_r N116_ 81 42
                have e43_N116_ : ze N116_ 81 43 = ze N111_ 81 43 := hsN116_.e (by decide)
                have c119_ : zRt b_ n_ N116_ := zRt.fr hsN116_ c114_ (by decide) (by decide)
                have hps_ := fun q_ : ze N116_ 81 7 = 0 => zRI_ps (Mz := N99_) (Nz := N116_) (x := x_) (e' := 0) hri1_ ⟨by (exact zo_711 hx_), by (exact zo_726 hx_)⟩ (by rw [if_neg (by (exact zo_727 hx_))]) (fun y_ _ => ⟨fun q2_ => absurd q2_ (by (exact zo_728 hx_)), fun q2_ => absurd q2_ (by (exact zo_729 hx_))⟩) (fun _ => by rw [qzrS_N99_]; exact hd6_ (by (exact zo_730 e7_N106_ e7_N111_ e7_N116_ ha34_0_hp1_N99_ q_ r7_N99_.2))) (by (exact zo_731 e41_N106_ e41_N116_ hvN111_)) (by rw [hsN116_.ie (by decide) (by decide), hsN111_.ie (by decide) (by decide)]; exact (zs_get hN106_ ⟨by decide, by decide⟩).trans hx_.symm) (fun i_ hi_ => by rw [hsN116_.ie (by decide) (by decide), hsN111_.ie (by decide) (by decide)]; exact zs_oth hN106_ (by (exact zo_732 hi_))) (by rw [if_pos (by (exact zo_733 hx_))]; (exact zo_734 e42_N106_ e42_N111_ e42_N99_ hr2_ hvN116_ r42_N116_.2)) (by (exact zo_19 e38_N106_ e38_N111_ e38_N116_)) (by (exact zo_19 e39_N106_ e39_N111_ e39_N116_)) (fun k_ => ((hsN116_.jg (by decide) (by decide) k_).trans (hsN111_.jg (by decide) (by decide) k_)).trans (hsN106_.jg (by decide) (by decide) k_))
                refine zw_aload_n (pc := 75) (n := 0) (x := 81) rfl d_M_operand_75 ?_
                refine zr_callV (hf_N116_.w hW) hf_N116_.x (pc := 76) [] [] l_M_183 (c_M_isGood l N116_ (hf_N116_.w hW) ) rfl rfl rfl (by decide) (Nat.le_of_ble_eq_true rfl) d_M_operand_76 ?_
                rintro _ N121_ ⟨v122_, rfl, ⟨hv122_a, hv122_b⟩, hsN121_, hp0_N121_⟩
                obtain rfl := hsN121_.eq.symm
                replace hp0_N121_ : ((v122_ = 1 ∧ ze N116_ 81 7 = 0) ∨ (v122_ = 0 ∧ ze N116_ 81 7 ≠ 0)) := hp0_N121_
                rcases hp0_N121_ with ⟨rfl, ha76_0_hp0_N121_⟩ | ⟨rfl, ha76_0_hp0_N121_⟩
                · skip
                  exfalso; (exact zo_735 e7_N106_ e7_N111_ e7_N116_ ha34_0_hp1_N99_ ha76_0_hp0_N121_)
                · skip
                  show zW l m_M_operand (zn Mz + 0, zw Mz + 0) N116_ 79 [some (.ref 81), some (.int (Int32.ofInt 0)), none] [.int (Int32.ofInt 0)] _
                  refine zr_if_eq (pc := 79) (tgt := 86) ⟨(by decide), (by decide)⟩ (by decide) d_M_operand_79 (fun hc_79 => ?_) (fun hc_79 => ?_)
                  · skip
                    refine zw_iconst (pc := 86) (v := Int32.ofInt 0) (by decide) d_M_operand_86 ?_
                    exact zr_iret (pc := 87) (ty := .boolean) rfl (z_narB (by (decide))) ⟨by (exact hv2_a), by (exact hv2_b)⟩ hf_N116_ ⟨c119_, (show ((0 = 0 ∧ 1 ≤ ze N116_ 81 7 ∧ zRea (zfs b_ n_ F_ K_ nm_) (zRst 0 F_ Mz) zFt) ∨ (0 = 0 ∧ ze N116_ 81 7 = 0 ∧ zRea (zfs b_ n_ F_ K_ nm_) (zRst 0 F_ Mz) (zRst 0 F_ N116_) ∧ zRI F_ K_ 0 N116_ ∧ ze Mz 81 4 < ze N116_ 81 4 ∧ 0 ≤ ze N116_ 81 43 ∧ ze N116_ 81 43 ≤ 30) ∨ (0 = 1 ∧ 1 ≤ ze N116_ 81 7 ∧ zRea (zfs b_ n_ F_ K_ nm_) (zRst 0 F_ Mz) zFt) ∨ (0 = 1 ∧ ze N116_ 81 7 = 0 ∧ zRea (zfs b_ n_ F_ K_ nm_) (zRst 0 F_ Mz) (zRst 1 F_ N116_) ∧ zRI F_ K_ 1 N116_ ∧ ze Mz 81 4 < ze N116_ 81 4 ∧ 0 ≤ ze N116_ 81 43 ∧ ze N116_ 81 43 ≤ 30)) from Or.inl (⟨(show 0 = 0 by first | rfl | exact hrt_ | omega), (show 1 ≤ ze N116_ 81 7 by first | rfl | exact hrt_ | (exact zo_662 e7_N106_ e7_N111_ e7_N116_ ha34_0_hp1_N99_)), (show zRea (zfs b_ n_ F_ K_ nm_) (zRst 0 F_ Mz) zFt by first | rfl | exact hrt_ | omega)⟩))⟩ d_M_operand_87
                  · skip
                    exact absurd hc_79 (by decide)
              · skip
                exact absurd hc_46 (by decide)
            · skip
              have hz_ := ha34_2_hp1_N99_
              have hz1_ : (ze Mz 81 43).toNat < 30 := hz_.1
              have hri1_ := c105_
              have hd6_ : ze N99_ 81 7 = 0 → zdp (zrS Mz) ≤ 6 := fun _ => hz_.2
              show zW l m_M_operand (zn Mz + 0, zw Mz + 0) N99_ 37 [some (.ref 81), some (.int (Int32.ofInt 0)), none] [] _
              refine zw_aload_n (pc := 37) (n := 0) (x := 81) rfl d_M_operand_37 ?_
              refine zr_getF (r := 100) (hf_N99_.w hW) (pc := 38) f_M_72 rfl (zh_100 (hf_N99_.w hW)).1 d_M_operand_38 ?_
              refine zw_aload_n (pc := 41) (n := 0) (x := 81) rfl d_M_operand_41 ?_
              refine zr_getI (hf_N99_.w hW) (pc := 42) f_M_305 rfl d_M_operand_42 ?_
              refine zw_iload_n (pc := 45) (n := 1) (x := Int32.ofInt 0) rfl d_M_operand_45 ?_
              refine zr_if_eq (pc := 46) (tgt := 53) ⟨(by decide), (by decide)⟩ (by decide) d_M_operand_46 (fun hc_46 => ?_) (fun hc_46 => ?_)
              · skip
                refine zw_iconst (pc := 53) (v := Int32.ofInt 1) (by decide) (zdal_p dlC_M_operand_100 (i := 2) rfl) ?_
                obtain ⟨x_, hx_⟩ : ∃ x : Int, x = 1 := ⟨_, rfl⟩
                have hxb_ : (x_ = 0 ∧ b_ (ze Mz 81 4).toNat = 40) ∨ (x_ = 1 ∧ b_ (ze Mz 81 4).toNat ≠ 40) := by (exact zo_755 hkb_ hv6_ hx_ hc_24)
                refine zr_iast (pc := 54) (zh_100 (hf_N99_.w hW)).2 (by decide) (by decide) (by (exact zo_720 e41_N99_ hr0_)) (by (exact zo_721 e41_N99_ hrb_.1 hrb_.2.2.2 r_41.2)) d_M_operand_54 (fun N123_ hN123_ hsN123_ => ?_)
                have hf_N123_ : zFr [3, 4, 5, 6, 7, 8, 11, 38, 39, 41, 42, 43] [95, 100] Mz N123_ := hf_N99_.tr hsN123_ (by decide) (by decide)
                have e3_N123_ : ze N123_ 81 3 = ze N99_ 81 3 := hsN123_.e (by decide)
                have e4_N123_ : ze N123_ 81 4 = ze N99_ 81 4 := hsN123_.e (by decide)
                have e5_N123_ : ze N123_ 81 5 = ze N99_ 81 5 := hsN123_.e (by decide)
                have e6_N123_ : ze N123_ 81 6 = ze N99_ 81 6 := hsN123_.e (by decide)
                have e7_N123_ : ze N123_ 81 7 = ze N99_ 81 7 := hsN123_.e (by decide)
                have e14_N123_ : ze N123_ 81 14 = ze N99_ 81 14 := hsN123_.e (by decide)
                have e26_N123_ : ze N123_ 81 26 = ze N99_ 81 26 := hsN123_.e (by decide)
                have e38_N123_ : ze N123_ 81 38 = ze N99_ 81 38 := hsN123_.e (by decide)
                have e39_N123_ : ze N123_ 81 39 = ze N99_ 81 39 := hsN123_.e (by decide)
                have e41_N123_ : ze N123_ 81 41 = ze N99_ 81 41 := hsN123_.e (by decide)
                have e42_N123_ : ze N123_ 81 42 = ze N99_ 81 42 := hsN123_.e (by decide)
                have e43_N123_ : ze N123_ 81 43 = ze N99_ 81 43 := hsN123_.e (by decide)
                have c125_ : zRb b_ n_ N123_ := zRb.fr hsN123_ c102_ (by decide) (by decide)
                have c126_ : zRt b_ n_ N123_ := zRt.fr hsN123_ c103_ (by decide) (by decide)
                refine zw_aload_n (pc := 55) (n := 0) (x := 81) rfl d_M_operand_55 ?_
                refine zw_dup (pc := 56) rfl d_M_operand_56 ?_
                refine zr_getI (hf_N123_.w hW) (pc := 57) f_M_305 rfl d_M_operand_57 ?_
                refine zw_iconst (pc := 60) (v := Int32.ofInt 1) (by decide) d_M_operand_60 ?_
                refine zr_iadd (pc := 61) d_M_operand_61 ?_
                refine zr_putI (hf_N123_.w hW) (pc := 62) f_M_305 rfl rfl ⟨by (exact zo_722 e41_N123_ e41_N99_ hr0_), by (exact zo_723 e41_N123_ e41_N99_ hrb_.1 hrb_.2.2.2 r_41.2)⟩ rfl rfl d_M_operand_62 (fun N128_ hsN128_ hvN128_ => ?_)
                have hf_N128_ : zFr [3, 4, 5, 6, 7, 8, 11, 38, 39, 41, 42, 43] [95, 100] Mz N128_ := hf_N123_.tr hsN128_ (by decide) (by decide)
                have e3_N128_ : ze N128_ 81 3 = ze N123_ 81 3 := hsN128_.e (by decide)
                have e4_N128_ : ze N128_ 81 4 = ze N123_ 81 4 := hsN128_.e (by decide)
                have e5_N128_ : ze N128_ 81 5 = ze N123_ 81 5 := hsN128_.e (by decide)
                have e6_N128_ : ze N128_ 81 6 = ze N123_ 81 6 := hsN128_.e (by decide)
                have e7_N128_ : ze N128_ 81 7 = ze N123_ 81 7 := hsN128_.e (by decide)
                have e14_N128_ : ze N128_ 81 14 = ze N123_ 81 14 := hsN128_.e (by decide)
                have e26_N128_ : ze N128_ 81 26 = ze N123_ 81 26 := hsN128_.e (by decide)
                have e38_N128_ : ze N128_ 81 38 = ze N123_ 81 38 := hsN128_.e (by decide)
                have e39_N128_ : ze N128_ 81 39 = ze N123_ 81 39 := hsN128_.e (by decide)
                have r41_N128_ := ze_r N128_ 81 41
                have e42_N128_ : ze N128_ 81 42 = ze N123_ 81 42 := hsN128_.e (by decide)
                have e43_N128_ : ze N128_ 81 43 = ze N123_ 81 43 := hsN128_.e (by decide)
                have c130_ : zRb b_ n_ N128_ := zRb.fr hsN128_ c125_ (by decide) (by decide)
                have c131_ : zRt b_ n_ N128_ := zRt.fr hsN128_ c126_ (by decide) (by decide)
                refine zw_aload_n (pc := 65) (n := 0) (x := 81) rfl d_M_operand_65 ?_
                refine zw_dup (pc := 66) rfl d_M_operand_66 ?_
                refine zr_getI (hf_N128_.w hW) (pc := 67) f_M_296 rfl d_M_operand_67 ?_
                refine zw_iconst (pc := 70) (v := Int32.ofInt 1) (by decide) d_M_operand_70 ?_
                refine zr_iadd (pc := 71) d_M_operand_71 ?_
                refine zr_putI (hf_N128_.w hW) (pc := 72) f_M_296 rfl rfl ⟨by (exact zo_724 e42_N123_ e42_N128_ e42_N99_ r_42.1), by (exact zo_725 e42_N123_ e42_N128_ e42_N99_ hr2_ hrb_.2.2.1 hrb_.2.2.2 r_42.2)⟩ rfl rfl d_M_operand_72 (fun N133_ hsN133_ hvN133_ => ?_)
                have hf_N133_ : zFr [3, 4, 5, 6, 7, 8, 11, 38, 39, 41, 42, 43] [95, 100] Mz N133_ := hf_N128_.tr hsN133_ (by decide) (by decide)
                have e3_N133_ : ze N133_ 81 3 = ze N128_ 81 3 := hsN133_.e (by decide)
                have e4_N133_ : ze N133_ 81 4 = ze N128_ 81 4 := hsN133_.e (by decide)
                have e5_N133_ : ze N133_ 81 5 = ze N128_ 81 5 := hsN133_.e (by decide)
                have e6_N133_ : ze N133_ 81 6 = ze N128_ 81 6 := hsN133_.e (by decide)
                have e7_N133_ : ze N133_ 81 7 = ze N128_ 81 7 := hsN133_.e (by decide)
                have e14_N133_ : ze N133_ 81 14 = ze N128_ 81 14 := hsN133_.e (by decide)
                have e26_N133_ : ze N133_ 81 26 = ze N128_ 81 26 := hsN133_.e (by decide)
                have e38_N133_ : ze N133_ 81 38 = ze N128_ 81 38 := hsN133_.e (by decide)
                have e39_N133_ : ze N133_ 81 39 = ze N128_ 81 39 := hsN133_.e (by decide)
                have e41_N133_ : ze N133_ 81 41 = ze N128_ 81 41 := hsN133_.e (by decide)
                have r42_N133_ := ze_r N133_ 81 42
                have e43_N133_ : ze N133_ 81 43 = ze N128_ 81 43 := hsN133_.e (by decide)
                have c135_ : zRb b_ n_ N133_ := zRb.fr hsN133_ c130_ (by decide) (by decide)
                have c136_ : zRt b_ n_ N133_ := zRt.fr hsN133_ c131_ (by decide) (by decide)
                have hps_ := fun q_ : ze N133_ 81 7 = 0 => zRI_ps (Mz := N99_) (Nz := N133_) (x := x_) (e' := 0) hri1_ ⟨by (exact zo_711 hx_), by (exact zo_726 hx_)⟩ (by rw [if_neg (by (exact zo_727 hx_))]) (fun y_ _ => ⟨fun q2_ => absurd q2_ (by (exact zo_728 hx_)), fun q2_ => absurd q2_ (by (exact zo_729 hx_))⟩) (fun _ => by rw [qzrS_N99_]; exact hd6_ (by (exact ha34_0_hp1_N99_))) (by (exact zo_731 e41_N123_ e41_N133_ hvN128_)) (by rw [hsN133_.ie (by decide) (by decide), hsN128_.ie (by decide) (by decide)]; exact (zs_get hN123_ ⟨by decide, by decide⟩).trans hx_.symm) (fun i_ hi_ => by rw [hsN133_.ie (by decide) (by decide), hsN128_.ie (by decide) (by decide)]; exact zs_oth hN123_ (by (exact zo_732 hi_))) (by rw [if_pos (by (exact zo_733 hx_))]; (exact zo_734 e42_N123_ e42_N128_ e42_N99_ hr2_ hvN133_ r42_N133_.2)) (by (exact zo_19 e38_N123_ e38_N128_ e38_N133_)) (by (exact zo_19 e39_N123_ e39_N128_ e39_N133_)) (fun k_ => ((hsN133_.jg (by decide) (by decide) k_).trans (hsN128_.jg (by decide) (by decide) k_)).trans (hsN123_.jg (by decide) (by decide) k_))
                refine zw_aload_n (pc := 75) (n := 0) (x := 81) rfl d_M_operand_75 ?_
                refine zr_callV (hf_N133_.w hW) hf_N133_.x (pc := 76) [] [] l_M_183 (c_M_isGood l N133_ (hf_N133_.w hW) ) rfl rfl rfl (by decide) (Nat.le_of_ble_eq_true rfl) d_M_operand_76 ?_
                rintro _ N138_ ⟨v139_, rfl, ⟨hv139_a, hv139_b⟩, hsN138_, hp0_N138_⟩
                obtain rfl := hsN138_.eq.symm
                replace hp0_N138_ : ((v139_ = 1 ∧ ze N133_ 81 7 = 0) ∨ (v139_ = 0 ∧ ze N133_ 81 7 ≠ 0)) := hp0_N138_
                rcases hp0_N138_ with ⟨rfl, ha76_0_hp0_N138_⟩ | ⟨rfl, ha76_0_hp0_N138_⟩
                · skip
                  show zW l m_M_operand (zn Mz + 0, zw Mz + 0) N133_ 79 [some (.ref 81), some (.int (Int32.ofInt 0)), none] [.int (Int32.ofInt 1)] _
                  refine zr_if_eq (pc := 79) (tgt := 86) ⟨(by decide), (by decide)⟩ (by decide) d_M_operand_79 (fun hc_79 => ?_) (fun hc_79 => ?_)
                  · skip
                    exact absurd hc_79 (by decide)
                  · skip
                    have hpz_ := hps_ (by (exact ha76_0_hp0_N138_))
                    have hpz1_ := hpz_.1
                    have hyt_ := c136_
                    have hyx_ := hyt_.x
                    refine zw_aload_n (pc := 82) (n := 0) (x := 81) rfl (zdal_p dlC_M_operand_100 (i := 19) rfl) ?_
                    refine zr_callV (hf_N133_.w hW) hf_N133_.x (pc := 83) [] [] l_M_193 (c_M_goOnF l N133_ (hf_N133_.w hW) b_ n_ c135_ (show 0 ≤ ze N133_ 81 3 by first | with_reducible assumption | (exact zo_57 hyx_.2.1) | assumption) (show ze N133_ 81 3 ≤ n_ by first | with_reducible assumption | (exact zo_605 hyx_.2.2) | assumption)) rfl rfl rfl (by decide) (Nat.le_of_ble_eq_true rfl) (zdal_p dlC_M_operand_100 (i := 20) rfl) ?_
                    rintro _ N140_ ⟨rfl, hsN140_, ⟨hp0_N140_, hp1_N140_⟩⟩
                    have hf_N140_ : zFr [3, 4, 5, 6, 7, 8, 11, 38, 39, 41, 42, 43] [95, 100] Mz N140_ := hf_N133_.tr hsN140_ (by decide) (by decide)
                    have r3_N140_ := ze_r N140_ 81 3
                    have r4_N140_ := ze_r N140_ 81 4
                    have r5_N140_ := ze_r N140_ 81 5
                    have r6_N140_ := ze_r N140_ 81 6
                    have e7_N140_ : ze N140_ 81 7 = ze N133_ 81 7 := hsN140_.e (by decide)
                    have e14_N140_ : ze N140_ 81 14 = ze N133_ 81 14 := hsN140_.e (by decide)
                    have e26_N140_ : ze N140_ 81 26 = ze N133_ 81 26 := hsN140_.e (by decide)
                    have e38_N140_ : ze N140_ 81 38 = ze N133_ 81 38 := hsN140_.e (by decide)
                    have e39_N140_ : ze N140_ 81 39 = ze N133_ 81 39 := hsN140_.e (by decide)
                    have e41_N140_ : ze N140_ 81 41 = ze N133_ 81 41 := hsN140_.e (by decide)
                    have e42_N140_ : ze N140_ 81 42 = ze N133_ 81 42 := hsN140_.e (by decide)
                    have e43_N140_ : ze N140_ 81 43 = ze N133_ 81 43 := hsN140_.e (by decide)
                    have qzrS_N140_ : zrS N140_ = zrS N133_ := zrS_q hsN140_ (by decide)
                    have qzrG_N140_ : zrG N140_ = zrG N133_ := zrG_q hsN140_ (by decide)
                    have qzrW_N140_ : zrW F_ N140_ = zrW F_ N133_ := zrW_q hsN140_ (by decide)
                    have c145_ : zRI F_ K_ 0 N140_ := zRI.fr hsN140_ hpz1_ (by decide) (by decide)
                    show zW l m_M_operand (zn Mz + 0, zw Mz + 0) N140_ 86 [some (.ref 81), some (.int (Int32.ofInt 0)), none] [] _
                    have hnn_ := hyt_.nx hp0_N140_
                    have hst_ := zRea.st (zr0_x (F := F_) (K := K_) (nm := nm_) hO_ hz_ hxb_ (by rw [qzrS_N140_, hpz_.2.1, qzrS_N99_]) (by rw [qzrW_N140_, hpz_.2.2.1, qzrW_N99_]) (by rw [qzrG_N140_, hpz_.2.2.2, qzrG_N99_]) (by (exact zo_736 e43_N123_ e43_N128_ e43_N133_ e43_N140_ hp0_N99_ p6_ r43_N99_.2)) (by (exact p6_)) (hnn_.2.trans (by rw [show ze N133_ 81 4 = ze Mz 81 4 by (exact zo_737 e4_N123_ e4_N128_ e4_N133_ e4_N99_ hyx_.1.1 r_4.2)])))
                    have hrx_ := c145_
                    have hnx_ := znx_g (b := b_) (n := n_) (s := (ze Mz 81 4).toNat) (by (exact zo_607 hk0_))
                    have hpx_ : (ze N140_ 81 4).toNat = (znx b_ n_ (ze Mz 81 4).toNat) := (hnn_.2.trans (by rw [show ze N133_ 81 4 = ze Mz 81 4 by (exact zo_737 e4_N123_ e4_N128_ e4_N133_ e4_N99_ hyx_.1.1 r_4.2)]))
                    refine zw_iconst (pc := 86) (v := Int32.ofInt 0) (by decide) d_M_operand_86 ?_
                    exact zr_iret (pc := 87) (ty := .boolean) rfl (z_narB (by (decide))) ⟨by (exact hv2_a), by (exact hv2_b)⟩ hf_N140_ ⟨hp1_N140_, (show ((0 = 0 ∧ 1 ≤ ze N140_ 81 7 ∧ zRea (zfs b_ n_ F_ K_ nm_) (zRst 0 F_ Mz) zFt) ∨ (0 = 0 ∧ ze N140_ 81 7 = 0 ∧ zRea (zfs b_ n_ F_ K_ nm_) (zRst 0 F_ Mz) (zRst 0 F_ N140_) ∧ zRI F_ K_ 0 N140_ ∧ ze Mz 81 4 < ze N140_ 81 4 ∧ 0 ≤ ze N140_ 81 43 ∧ ze N140_ 81 43 ≤ 30) ∨ (0 = 1 ∧ 1 ≤ ze N140_ 81 7 ∧ zRea (zfs b_ n_ F_ K_ nm_) (zRst 0 F_ Mz) zFt) ∨ (0 = 1 ∧ ze N140_ 81 7 = 0 ∧ zRea (zfs b_ n_ F_ K_ nm_) (zRst 0 F_ Mz) (zRst 1 F_ N140_) ∧ zRI F_ K_ 1 N140_ ∧ ze Mz 81 4 < ze N140_ 81 4 ∧ 0 ≤ ze N140_ 81 43 ∧ ze N140_ 81 43 ≤ 30)) from Or.inr (Or.inl (⟨(show 0 = 0 by first | rfl | exact hst_ | exact hrx_ | omega), (show ze N140_ 81 7 = 0 by first | rfl | exact hst_ | exact hrx_ | (exact zo_610 e7_N140_ ha76_0_hp0_N138_)), (show zRea (zfs b_ n_ F_ K_ nm_) (zRst 0 F_ Mz) (zRst 0 F_ N140_) by first | rfl | exact hst_ | exact hrx_ | omega), (show zRI F_ K_ 0 N140_ by first | rfl | exact hst_ | exact hrx_ | omega), (show ze Mz 81 4 < ze N140_ 81 4 by first | rfl | exact hst_ | exact hrx_ | (exact zo_738 hnx_ hp0_N140_ hpx_ r4_N140_.1 r_4.2)), (show 0 ≤ ze N140_ 81 43 by first | rfl | exact hst_ | exact hrx_ | (exact zo_739 e43_N123_ e43_N128_ e43_N133_ e43_N140_ hp0_N99_ p6_ r43_N99_.1)), (show ze N140_ 81 43 ≤ 30 by first | rfl | exact hst_ | exact hrx_ | (exact zo_740 e43_N123_ e43_N128_ e43_N133_ e43_N140_ hp0_N99_ hz1_ r43_N99_.2))⟩)))⟩ d_M_operand_87
                · skip
                  exfalso; (exact zo_756 hkb_ hv6_ r_6.1 r_6.2 hc_24)
              · skip
                exact absurd hc_46 (by decide)
          · skip
            refine zw_iconst (pc := 27) (v := Int32.ofInt 1) (by decide) (zdal_p dlC_M_operand_99 (i := 12) rfl) ?_
            refine zw_goto (pc := 28) (tgt := 32) (by decide) (zdal_p dlC_M_operand_99 (i := 13) rfl) ?_
            refine zw_istore_n (pc := 32) (i := 1) (L2 := [some (.ref 81), some (.int (Int32.ofInt 1)), none]) rfl (by decide) rfl (zdal_p dlC_M_operand_99 (i := 15) rfl) ?_
            refine zw_aload_n (pc := 33) (n := 0) (x := 81) rfl (zdal_p dlC_M_operand_99 (i := 16) rfl) ?_
            refine zr_callV (hf.w hW) hf.x (pc := 34) [] [] l_M_302 (c_M_countsUnitF l Mz (hf.w hW) F_ K_ p4_ (show 0 ≤ ze Mz 81 7 by first | with_reducible assumption | (exact zo_718 p5_) | assumption) (show 0 ≤ ze Mz 81 43 by first | with_reducible assumption | assumption | omega) (show ze Mz 81 43 ≤ 30 by first | with_reducible assumption | assumption | omega)) rfl rfl rfl (by decide) (Nat.le_of_ble_eq_true rfl) (zdal_p dlC_M_operand_99 (i := 17) rfl) ?_
            rintro _ N146_ ⟨rfl, hsN146_, ⟨hp0_N146_, hp1_N146_⟩⟩
            have hf_N146_ : zFr [3, 4, 5, 6, 7, 8, 11, 38, 39, 41, 42, 43] [95, 100] Mz N146_ := hf.tr hsN146_ (by decide) (by decide)
            have e3_N146_ : ze N146_ 81 3 = ze Mz 81 3 := hsN146_.e (by decide)
            have e4_N146_ : ze N146_ 81 4 = ze Mz 81 4 := hsN146_.e (by decide)
            have e5_N146_ : ze N146_ 81 5 = ze Mz 81 5 := hsN146_.e (by decide)
            have e6_N146_ : ze N146_ 81 6 = ze Mz 81 6 := hsN146_.e (by decide)
            have r7_N146_ := ze_r N146_ 81 7
            have e14_N146_ : ze N146_ 81 14 = ze Mz 81 14 := hsN146_.e (by decide)
            have e26_N146_ : ze N146_ 81 26 = ze Mz 81 26 := hsN146_.e (by decide)
            have e38_N146_ : ze N146_ 81 38 = ze Mz 81 38 := hsN146_.e (by decide)
            have e39_N146_ : ze N146_ 81 39 = ze Mz 81 39 := hsN146_.e (by decide)
            have e41_N146_ : ze N146_ 81 41 = ze Mz 81 41 := hsN146_.e (by decide)
            have e42_N146_ : ze N146_ 81 42 = ze Mz 81 42 := hsN146_.e (by decide)
            have r43_N146_ := ze_r N146_ 81 43
            have qzrS_N146_ : zrS N146_ = zrS Mz := zrS_q hsN146_ (by decide)
            have qzrG_N146_ : zrG N146_ = zrG Mz := zrG_q hsN146_ (by decide)
            have qzrW_N146_ : zrW F_ N146_ = zrW F_ Mz := zrW_q hsN146_ (by decide)
            have c149_ : zRb b_ n_ N146_ := zRb.fr hsN146_ p1_ (by decide) (by decide)
            have c150_ : zRt b_ n_ N146_ := zRt.fr hsN146_ p2_ (by decide) (by decide)
            have c152_ : zRI F_ K_ 0 N146_ := zRI.fr hsN146_ p4_ (by decide) (by decide)
            rcases hp1_N146_ with ⟨ha34_0_hp1_N146_, ha34_1_hp1_N146_⟩ | ⟨ha34_0_hp1_N146_, ha34_1_hp1_N146_, ha34_2_hp1_N146_⟩
            · skip
              have hnz_ := ha34_1_hp1_N146_ p5_
              have hri1_ := c152_
              have hd6_ : ze N146_ 81 7 = 0 → zdp (zrS Mz) ≤ 6 := fun q_ => by omega
              have hrt_ := zRea.st (zr0_of (F := F_) (K := K_) (nm := nm_) hO_ hnz_)
              show zW l m_M_operand (zn Mz + 0, zw Mz + 0) N146_ 37 [some (.ref 81), some (.int (Int32.ofInt 1)), none] [] _
              refine zw_aload_n (pc := 37) (n := 0) (x := 81) rfl d_M_operand_37 ?_
              refine zr_getF (r := 100) (hf_N146_.w hW) (pc := 38) f_M_72 rfl (zh_100 (hf_N146_.w hW)).1 d_M_operand_38 ?_
              refine zw_aload_n (pc := 41) (n := 0) (x := 81) rfl d_M_operand_41 ?_
              refine zr_getI (hf_N146_.w hW) (pc := 42) f_M_305 rfl d_M_operand_42 ?_
              refine zw_iload_n (pc := 45) (n := 1) (x := Int32.ofInt 1) rfl d_M_operand_45 ?_
              refine zr_if_eq (pc := 46) (tgt := 53) ⟨(by decide), (by decide)⟩ (by decide) d_M_operand_46 (fun hc_46 => ?_) (fun hc_46 => ?_)
              · skip
                exact absurd hc_46 (by decide)
              · skip
                refine zw_iconst (pc := 49) (v := Int32.ofInt 0) (by decide) (zdal_p dlC_M_operand_100 (i := 0) rfl) ?_
                refine zw_goto (pc := 50) (tgt := 54) (by decide) (zdal_p dlC_M_operand_100 (i := 1) rfl) ?_
                obtain ⟨x_, hx_⟩ : ∃ x : Int, x = 0 := ⟨_, rfl⟩
                have hxb_ : (x_ = 0 ∧ b_ (ze Mz 81 4).toNat = 40) ∨ (x_ = 1 ∧ b_ (ze Mz 81 4).toNat ≠ 40) := by (exact zo_757 hkb_ hx_)
                refine zr_iast (pc := 54) (zh_100 (hf_N146_.w hW)).2 (by decide) (by decide) (by (exact zo_720 e41_N146_ hr0_)) (by (exact zo_721 e41_N146_ hrb_.1 hrb_.2.2.2 r_41.2)) d_M_operand_54 (fun N153_ hN153_ hsN153_ => ?_)
                have hf_N153_ : zFr [3, 4, 5, 6, 7, 8, 11, 38, 39, 41, 42, 43] [95, 100] Mz N153_ := hf_N146_.tr hsN153_ (by decide) (by decide)
                have e3_N153_ : ze N153_ 81 3 = ze N146_ 81 3 := hsN153_.e (by decide)
                have e4_N153_ : ze N153_ 81 4 = ze N146_ 81 4 := hsN153_.e (by decide)
                have e5_N153_ : ze N153_ 81 5 = ze N146_ 81 5 := hsN153_.e (by decide)
                have e6_N153_ : ze N153_ 81 6 = ze N146_ 81 6 := hsN153_.e (by decide)
                have e7_N153_ : ze N153_ 81 7 = ze N146_ 81 7 := hsN153_.e (by decide)
                have e14_N153_ : ze N153_ 81 14 = ze N146_ 81 14 := hsN153_.e (by decide)
                have e26_N153_ : ze N153_ 81 26 = ze N146_ 81 26 := hsN153_.e (by decide)
                have e38_N153_ : ze N153_ 81 38 = ze N146_ 81 38 := hsN153_.e (by decide)
                have e39_N153_ : ze N153_ 81 39 = ze N146_ 81 39 := hsN153_.e (by decide)
                have e41_N153_ : ze N153_ 81 41 = ze N146_ 81 41 := hsN153_.e (by decide)
                have e42_N153_ : ze N153_ 81 42 = ze N146_ 81 42 := hsN153_.e (by decide)
                have e43_N153_ : ze N153_ 81 43 = ze N146_ 81 43 := hsN153_.e (by decide)
                have c156_ : zRt b_ n_ N153_ := zRt.fr hsN153_ c150_ (by decide) (by decide)
                refine zw_aload_n (pc := 55) (n := 0) (x := 81) rfl d_M_operand_55 ?_
                refine zw_dup (pc := 56) rfl d_M_operand_56 ?_
                refine zr_getI (hf_N153_.w hW) (pc := 57) f_M_305 rfl d_M_operand_57 ?_
                refine zw_iconst (pc := 60) (v := Int32.ofInt 1) (by decide) d_M_operand_60 ?_
                refine zr_iadd (pc := 61) d_M_operand_61 ?_
                refine zr_putI (hf_N153_.w hW) (pc := 62) f_M_305 rfl rfl ⟨by (exact zo_743 e41_N146_ e41_N153_ hr0_), by (exact zo_744 e41_N146_ e41_N153_ hrb_.1 hrb_.2.2.2 r_41.2)⟩ rfl rfl d_M_operand_62 (fun N158_ hsN158_ hvN158_ => ?_)
                have hf_N158_ : zFr [3, 4, 5, 6, 7, 8, 11, 38, 39, 41, 42, 43] [95, 100] Mz N158_ := hf_N153_.tr hsN158_ (by decide) (by decide)
                have e3_N158_ : ze N158_ 81 3 = ze N153_ 81 3 := hsN158_.e (by decide)
                have e4_N158_ : ze N158_ 81 4 = ze N153_ 81 4 := hsN158_.e (by decide)
                have e5_N158_ : ze N158_ 81 5 = ze N153_ 81 5 := hsN158_.e (by decide)
                have e6_N158_ : ze N158_ 81 6 = ze N153_ 81 6 := hsN158_.e (by decide)
                have e7_N158_ : ze N158_ 81 7 = ze N153_ 81 7 := hsN158_.e (by decide)
                have e14_N158_ : ze N158_ 81 14 = ze N153_ 81 14 := hsN158_.e (by decide)
                have e26_N158_ : ze N158_ 81 26 = ze N153_ 81 26 := hsN158_.e (by decide)
                have e38_N158_ : ze N158_ 81 38 = ze N153_ 81 38 := hsN158_.e (by decide)
                have e39_N158_ : ze N158_ 81 39 = ze N153_ 81 39 := hsN158_.e (by decide)
                have r41_N158_ := ze_r N158_ 81 41
                have e42_N158_ : ze N158_ 81 42 = ze N153_ 81 42 := hsN158_.e (by decide)
                have e43_N158_ : ze N158_ 81 43 = ze N153_ 81 43 := hsN158_.e (by decide)
                have c161_ : zRt b_ n_ N158_ := zRt.fr hsN158_ c156_ (by decide) (by decide)
                refine zw_aload_n (pc := 65) (n := 0) (x := 81) rfl d_M_operand_65 ?_
                refine zw_dup (pc := 66) rfl d_M_operand_66 ?_
                refine zr_getI (hf_N158_.w hW) (pc := 67) f_M_296 rfl d_M_operand_67 ?_
                refine zw_iconst (pc := 70) (v := Int32.ofInt 1) (by decide) d_M_operand_70 ?_
                refine zr_iadd (pc := 71) d_M_operand_71 ?_
                refine zr_putI (hf_N158_.w hW) (pc := 72) f_M_296 rfl rfl ⟨by (exact zo_745 e42_N146_ e42_N153_ e42_N158_ r_42.1), by (exact zo_746 e42_N146_ e42_N153_ e42_N158_ hr2_ hrb_.2.2.1 hrb_.2.2.2 r_42.2)⟩ rfl rfl d_M_operand_72 (fun N163_ hsN163_ hvN163_ => ?_)
                have hf_N163_ : zFr [3, 4, 5, 6, 7, 8, 11, 38, 39, 41, 42, 43] [95, 100] Mz N163_ := hf_N158_.tr hsN163_ (by decide) (by decide)
                have e3_N163_ : ze N163_ 81 3 = ze N158_ 81 3 := hsN163_.e (by decide)
                have e4_N163_ : ze N163_ 81 4 = ze N158_ 81 4 := hsN163_.e (by decide)
                have e5_N163_ : ze N163_ 81 5 = ze N158_ 81 5 := hsN163_.e (by decide)
                have e6_N163_ : ze N163_ 81 6 = ze N158_ 81 6 := hsN163_.e (by decide)
                have e7_N163_ : ze N163_ 81 7 = ze N158_ 81 7 := hsN163_.e (by decide)
                have e14_N163_ : ze N163_ 81 14 = ze N158_ 81 14 := hsN163_.e (by decide)
                have e26_N163_ : ze N163_ 81 26 = ze N158_ 81 26 := hsN163_.e (by decide)
                have e38_N163_ : ze N163_ 81 38 = ze N158_ 81 38 := hsN163_.e (by decide)
                have e39_N163_ : ze N163_ 81 39 = ze N158_ 81 39 := hsN163_.e (by decide)
                have e41_N163_ : ze N163_ 81 41 = ze N158_ 81 41 := hsN163_.e (by decide)
                have r42_N163_ := ze_r N163_ 81 42
                have e43_N163_ : ze N163_ 81 43 = ze N158_ 81 43 := hsN163_.e (by decide)
                have c166_ : zRt b_ n_ N163_ := zRt.fr hsN163_ c161_ (by decide) (by decide)
                have hps_ := fun q_ : ze N163_ 81 7 = 0 => zRI_ps (Mz := N146_) (Nz := N163_) (x := x_) (e' := 0) hri1_ ⟨by (exact zo_718 hx_), by (exact zo_747 hx_)⟩ (by rw [if_neg (by (exact zo_748 hx_))]) (fun y_ _ => ⟨fun q2_ => absurd q2_ (by (exact zo_749 hx_)), fun q2_ => absurd q2_ (by (exact zo_750 hx_))⟩) (fun _ => by rw [qzrS_N146_]; exact hd6_ (by (exact zo_730 e7_N153_ e7_N158_ e7_N163_ ha34_0_hp1_N146_ q_ r7_N146_.2))) (by (exact zo_731 e41_N153_ e41_N163_ hvN158_)) (by rw [hsN163_.ie (by decide) (by decide), hsN158_.ie (by decide) (by decide)]; exact (zs_get hN153_ ⟨by decide, by decide⟩).trans hx_.symm) (fun i_ hi_ => by rw [hsN163_.ie (by decide) (by decide), hsN158_.ie (by decide) (by decide)]; exact zs_oth hN153_ (by (exact zo_732 hi_))) (by rw [if_pos (by (exact zo_751 hx_))]; (exact zo_752 e42_N146_ e42_N153_ e42_N158_ hr2_ hvN163_ r42_N163_.2)) (by (exact zo_19 e38_N153_ e38_N158_ e38_N163_)) (by (exact zo_19 e39_N153_ e39_N158_ e39_N163_)) (fun k_ => ((hsN163_.jg (by decide) (by decide) k_).trans (hsN158_.jg (by decide) (by decide) k_)).trans (hsN153_.jg (by decide) (by decide) k_))
                refine zw_aload_n (pc := 75) (n := 0) (x := 81) rfl d_M_operand_75 ?_
                refine zr_callV (hf_N163_.w hW) hf_N163_.x (pc := 76) [] [] l_M_183 (c_M_isGood l N163_ (hf_N163_.w hW) ) rfl rfl rfl (by decide) (Nat.le_of_ble_eq_true rfl) d_M_operand_76 ?_
                rintro _ N168_ ⟨v169_, rfl, ⟨hv169_a, hv169_b⟩, hsN168_, hp0_N168_⟩
                obtain rfl := hsN168_.eq.symm
                replace hp0_N168_ : ((v169_ = 1 ∧ ze N163_ 81 7 = 0) ∨ (v169_ = 0 ∧ ze N163_ 81 7 ≠ 0)) := hp0_N168_
                rcases hp0_N168_ with ⟨rfl, ha76_0_hp0_N168_⟩ | ⟨rfl, ha76_0_hp0_N168_⟩
                · skip
                  exfalso; (exact zo_735 e7_N153_ e7_N158_ e7_N163_ ha34_0_hp1_N146_ ha76_0_hp0_N168_)
                · skip
                  show zW l m_M_operand (zn Mz + 0, zw Mz + 0) N163_ 79 [some (.ref 81), some (.int (Int32.ofInt 1)), none] [.int (Int32.ofInt 0)] _
                  refine zr_if_eq (pc := 79) (tgt := 86) ⟨(by decide), (by decide)⟩ (by decide) d_M_operand_79 (fun hc_79 => ?_) (fun hc_79 => ?_)
                  · skip
                    refine zw_iconst (pc := 86) (v := Int32.ofInt 0) (by decide) d_M_operand_86 ?_
                    exact zr_iret (pc := 87) (ty := .boolean) rfl (z_narB (by (decide))) ⟨by (exact hv2_a), by (exact hv2_b)⟩ hf_N163_ ⟨c166_, (show ((0 = 0 ∧ 1 ≤ ze N163_ 81 7 ∧ zRea (zfs b_ n_ F_ K_ nm_) (zRst 0 F_ Mz) zFt) ∨ (0 = 0 ∧ ze N163_ 81 7 = 0 ∧ zRea (zfs b_ n_ F_ K_ nm_) (zRst 0 F_ Mz) (zRst 0 F_ N163_) ∧ zRI F_ K_ 0 N163_ ∧ ze Mz 81 4 < ze N163_ 81 4 ∧ 0 ≤ ze N163_ 81 43 ∧ ze N163_ 81 43 ≤ 30) ∨ (0 = 1 ∧ 1 ≤ ze N163_ 81 7 ∧ zRea (zfs b_ n_ F_ K_ nm_) (zRst 0 F_ Mz) zFt) ∨ (0 = 1 ∧ ze N163_ 81 7 = 0 ∧ zRea (zfs b_ n_ F_ K_ nm_) (zRst 0 F_ Mz) (zRst 1 F_ N163_) ∧ zRI F_ K_ 1 N163_ ∧ ze Mz 81 4 < ze N163_ 81 4 ∧ 0 ≤ ze N163_ 81 43 ∧ ze N163_ 81 43 ≤ 30)) from Or.inl (⟨(show 0 = 0 by first | rfl | exact hrt_ | omega), (show 1 ≤ ze N163_ 81 7 by first | rfl | exact hrt_ | (exact zo_662 e7_N153_ e7_N158_ e7_N163_ ha34_0_hp1_N146_)), (show zRea (zfs b_ n_ F_ K_ nm_) (zRst 0 F_ Mz) zFt by first | rfl | exact hrt_ | omega)⟩))⟩ d_M_operand_87
                  · skip
                    exact absurd hc_79 (by decide)
            · skip
              have hz_ := ha34_2_hp1_N146_
              have hz1_ : (ze Mz 81 43).toNat < 30 := hz_.1
              have hri1_ := c152_
              have hd6_ : ze N146_ 81 7 = 0 → zdp (zrS Mz) ≤ 6 := fun _ => hz_.2
              show zW l m_M_operand (zn Mz + 0, zw Mz + 0) N146_ 37 [some (.ref 81), some (.int (Int32.ofInt 1)), none] [] _
              refine zw_aload_n (pc := 37) (n := 0) (x := 81) rfl d_M_operand_37 ?_
              refine zr_getF (r := 100) (hf_N146_.w hW) (pc := 38) f_M_72 rfl (zh_100 (hf_N146_.w hW)).1 d_M_operand_38 ?_
              refine zw_aload_n (pc := 41) (n := 0) (x := 81) rfl d_M_operand_41 ?_
              refine zr_getI (hf_N146_.w hW) (pc := 42) f_M_305 rfl d_M_operand_42 ?_
              refine zw_iload_n (pc := 45) (n := 1) (x := Int32.ofInt 1) rfl d_M_operand_45 ?_
              refine zr_if_eq (pc := 46) (tgt := 53) ⟨(by decide), (by decide)⟩ (by decide) d_M_operand_46 (fun hc_46 => ?_) (fun hc_46 => ?_)
              · skip
                exact absurd hc_46 (by decide)
              · skip
                refine zw_iconst (pc := 49) (v := Int32.ofInt 0) (by decide) (zdal_p dlC_M_operand_100 (i := 0) rfl) ?_
                refine zw_goto (pc := 50) (tgt := 54) (by decide) (zdal_p dlC_M_operand_100 (i := 1) rfl) ?_
                obtain ⟨x_, hx_⟩ : ∃ x : Int, x = 0 := ⟨_, rfl⟩
                have hxb_ : (x_ = 0 ∧ b_ (ze Mz 81 4).toNat = 40) ∨ (x_ = 1 ∧ b_ (ze Mz 81 4).toNat ≠ 40) := by (exact zo_757 hkb_ hx_)
                refine zr_iast (pc := 54) (zh_100 (hf_N146_.w hW)).2 (by decide) (by decide) (by (exact zo_720 e41_N146_ hr0_)) (by (exact zo_721 e41_N146_ hrb_.1 hrb_.2.2.2 r_41.2)) d_M_operand_54 (fun N170_ hN170_ hsN170_ => ?_)
                have hf_N170_ : zFr [3, 4, 5, 6, 7, 8, 11, 38, 39, 41, 42, 43] [95, 100] Mz N170_ := hf_N146_.tr hsN170_ (by decide) (by decide)
                have e3_N170_ : ze N170_ 81 3 = ze N146_ 81 3 := hsN170_.e (by decide)
                have e4_N170_ : ze N170_ 81 4 = ze N146_ 81 4 := hsN170_.e (by decide)
                have e5_N170_ : ze N170_ 81 5 = ze N146_ 81 5 := hsN170_.e (by decide)
                have e6_N170_ : ze N170_ 81 6 = ze N146_ 81 6 := hsN170_.e (by decide)
                have e7_N170_ : ze N170_ 81 7 = ze N146_ 81 7 := hsN170_.e (by decide)
                have e14_N170_ : ze N170_ 81 14 = ze N146_ 81 14 := hsN170_.e (by decide)
                have e26_N170_ : ze N170_ 81 26 = ze N146_ 81 26 := hsN170_.e (by decide)
                have e38_N170_ : ze N170_ 81 38 = ze N146_ 81 38 := hsN170_.e (by decide)
                have e39_N170_ : ze N170_ 81 39 = ze N146_ 81 39 := hsN170_.e (by decide)
                have e41_N170_ : ze N170_ 81 41 = ze N146_ 81 41 := hsN170_.e (by decide)
                have e42_N170_ : ze N170_ 81 42 = ze N146_ 81 42 := hsN170_.e (by decide)
                have e43_N170_ : ze N170_ 81 43 = ze N146_ 81 43 := hsN170_.e (by decide)
                have c172_ : zRb b_ n_ N170_ := zRb.fr hsN170_ c149_ (by decide) (by decide)
                have c173_ : zRt b_ n_ N170_ := zRt.fr hsN170_ c150_ (by decide) (by decide)
                refine zw_aload_n (pc := 55) (n := 0) (x := 81) rfl d_M_operand_55 ?_
                refine zw_dup (pc := 56) rfl d_M_operand_56 ?_
                refine zr_getI (hf_N170_.w hW) (pc := 57) f_M_305 rfl d_M_operand_57 ?_
                refine zw_iconst (pc := 60) (v := Int32.ofInt 1) (by decide) d_M_operand_60 ?_
                refine zr_iadd (pc := 61) d_M_operand_61 ?_
                refine zr_putI (hf_N170_.w hW) (pc := 62) f_M_305 rfl rfl ⟨by (exact zo_743 e41_N146_ e41_N170_ hr0_), by (exact zo_744 e41_N146_ e41_N170_ hrb_.1 hrb_.2.2.2 r_41.2)⟩ rfl rfl d_M_operand_62 (fun N175_ hsN175_ hvN175_ => ?_)
                have hf_N175_ : zFr [3, 4, 5, 6, 7, 8, 11, 38, 39, 41, 42, 43] [95, 100] Mz N175_ := hf_N170_.tr hsN175_ (by decide) (by decide)
                have e3_N175_ : ze N175_ 81 3 = ze N170_ 81 3 := hsN175_.e (by decide)
                have e4_N175_ : ze N175_ 81 4 = ze N170_ 81 4 := hsN175_.e (by decide)
                have e5_N175_ : ze N175_ 81 5 = ze N170_ 81 5 := hsN175_.e (by decide)
                have e6_N175_ : ze N175_ 81 6 = ze N170_ 81 6 := hsN175_.e (by decide)
                have e7_N175_ : ze N175_ 81 7 = ze N170_ 81 7 := hsN175_.e (by decide)
                have e14_N175_ : ze N175_ 81 14 = ze N170_ 81 14 := hsN175_.e (by decide)
                have e26_N175_ : ze N175_ 81 26 = ze N170_ 81 26 := hsN175_.e (by decide)
                have e38_N175_ : ze N175_ 81 38 = ze N170_ 81 38 := hsN175_.e (by decide)
                have e39_N175_ : ze N175_ 81 39 = ze N170_ 81 39 := hsN175_.e (by decide)
                have r41_N175_ := ze_r N175_ 81 41
                have e42_N175_ : ze N175_ 81 42 = ze N170_ 81 42 := hsN175_.e (by decide)
                have e43_N175_ : ze N175_ 81 43 = ze N170_ 81 43 := hsN175_.e (by decide)
                have c177_ : zRb b_ n_ N175_ := zRb.fr hsN175_ c172_ (by decide) (by decide)
                have c178_ : zRt b_ n_ N175_ := zRt.fr hsN175_ c173_ (by decide) (by decide)
                refine zw_aload_n (pc := 65) (n := 0) (x := 81) rfl d_M_operand_65 ?_
                refine zw_dup (pc := 66) rfl d_M_operand_66 ?_
                refine zr_getI (hf_N175_.w hW) (pc := 67) f_M_296 rfl d_M_operand_67 ?_
                refine zw_iconst (pc := 70) (v := Int32.ofInt 1) (by decide) d_M_operand_70 ?_
                refine zr_iadd (pc := 71) d_M_operand_71 ?_
                refine zr_putI (hf_N175_.w hW) (pc := 72) f_M_296 rfl rfl ⟨by (exact zo_745 e42_N146_ e42_N170_ e42_N175_ r_42.1), by (exact zo_746 e42_N146_ e42_N170_ e42_N175_ hr2_ hrb_.2.2.1 hrb_.2.2.2 r_42.2)⟩ rfl rfl d_M_operand_72 (fun N180_ hsN180_ hvN180_ => ?_)
                have hf_N180_ : zFr [3, 4, 5, 6, 7, 8, 11, 38, 39, 41, 42, 43] [95, 100] Mz N180_ := hf_N175_.tr hsN180_ (by decide) (by decide)
                have e3_N180_ : ze N180_ 81 3 = ze N175_ 81 3 := hsN180_.e (by decide)
                have e4_N180_ : ze N180_ 81 4 = ze N175_ 81 4 := hsN180_.e (by decide)
                have e5_N180_ : ze N180_ 81 5 = ze N175_ 81 5 := hsN180_.e (by decide)
                have e6_N180_ : ze N180_ 81 6 = ze N175_ 81 6 := hsN180_.e (by decide)
                have e7_N180_ : ze N180_ 81 7 = ze N175_ 81 7 := hsN180_.e (by decide)
                have e14_N180_ : ze N180_ 81 14 = ze N175_ 81 14 := hsN180_.e (by decide)
                have e26_N180_ : ze N180_ 81 26 = ze N175_ 81 26 := hsN180_.e (by decide)
                have e38_N180_ : ze N180_ 81 38 = ze N175_ 81 38 := hsN180_.e (by decide)
                have e39_N180_ : ze N180_ 81 39 = ze N175_ 81 39 := hsN180_.e (by decide)
                have e41_N180_ : ze N180_ 81 41 = ze N175_ 81 41 := hsN180_.e (by decide)
                have r42_N180_ := ze_r N180_ 81 42
                have e43_N180_ : ze N180_ 81 43 = ze N175_ 81 43 := hsN180_.e (by decide)
                have c182_ : zRb b_ n_ N180_ := zRb.fr hsN180_ c177_ (by decide) (by decide)
                have c183_ : zRt b_ n_ N180_ := zRt.fr hsN180_ c178_ (by decide) (by decide)
                have hps_ := fun q_ : ze N180_ 81 7 = 0 => zRI_ps (Mz := N146_) (Nz := N180_) (x := x_) (e' := 0) hri1_ ⟨by (exact zo_718 hx_), by (exact zo_747 hx_)⟩ (by rw [if_neg (by (exact zo_748 hx_))]) (fun y_ _ => ⟨fun q2_ => absurd q2_ (by (exact zo_749 hx_)), fun q2_ => absurd q2_ (by (exact zo_750 hx_))⟩) (fun _ => by rw [qzrS_N146_]; exact hd6_ (by (exact ha34_0_hp1_N146_))) (by (exact zo_731 e41_N170_ e41_N180_ hvN175_)) (by rw [hsN180_.ie (by decide) (by decide), hsN175_.ie (by decide) (by decide)]; exact (zs_get hN170_ ⟨by decide, by decide⟩).trans hx_.symm) (fun i_ hi_ => by rw [hsN180_.ie (by decide) (by decide), hsN175_.ie (by decide) (by decide)]; exact zs_oth hN170_ (by (exact zo_732 hi_))) (by rw [if_pos (by (exact zo_751 hx_))]; (exact zo_752 e42_N146_ e42_N170_ e42_N175_ hr2_ hvN180_ r42_N180_.2)) (by (exact zo_19 e38_N170_ e38_N175_ e38_N180_)) (by (exact zo_19 e39_N170_ e39_N175_ e39_N180_)) (fun k_ => ((hsN180_.jg (by decide) (by decide) k_).trans (hsN175_.jg (by decide) (by decide) k_)).trans (hsN170_.jg (by decide) (by decide) k_))
                refine zw_aload_n (pc := 75) (n := 0) (x := 81) rfl d_M_operand_75 ?_
                refine zr_callV (hf_N180_.w hW) hf_N180_.x (pc := 76) [] [] l_M_183 (c_M_isGood l N180_ (hf_N180_.w hW) ) rfl rfl rfl (by decide) (Nat.le_of_ble_eq_true rfl) d_M_operand_76 ?_
                rintro _ N185_ ⟨v186_, rfl, ⟨hv186_a, hv186_b⟩, hsN185_, hp0_N185_⟩
                obtain rfl := hsN185_.eq.symm
                replace hp0_N185_ : ((v186_ = 1 ∧ ze N180_ 81 7 = 0) ∨ (v186_ = 0 ∧ ze N180_ 81 7 ≠ 0)) := hp0_N185_
                rcases hp0_N185_ with ⟨rfl, ha76_0_hp0_N185_⟩ | ⟨rfl, ha76_0_hp0_N185_⟩
                · skip
                  show zW l m_M_operand (zn Mz + 0, zw Mz + 0) N180_ 79 [some (.ref 81), some (.int (Int32.ofInt 1)), none] [.int (Int32.ofInt 1)] _
                  refine zr_if_eq (pc := 79) (tgt := 86) ⟨(by decide), (by decide)⟩ (by decide) d_M_operand_79 (fun hc_79 => ?_) (fun hc_79 => ?_)
                  · skip
                    exact absurd hc_79 (by decide)
                  · skip
                    have hpz_ := hps_ (by (exact ha76_0_hp0_N185_))
                    have hpz1_ := hpz_.1
                    have hyt_ := c183_
                    have hyx_ := hyt_.x
                    refine zw_aload_n (pc := 82) (n := 0) (x := 81) rfl (zdal_p dlC_M_operand_100 (i := 19) rfl) ?_
                    refine zr_callV (hf_N180_.w hW) hf_N180_.x (pc := 83) [] [] l_M_193 (c_M_goOnF l N180_ (hf_N180_.w hW) b_ n_ c182_ (show 0 ≤ ze N180_ 81 3 by first | with_reducible assumption | (exact zo_57 hyx_.2.1) | assumption) (show ze N180_ 81 3 ≤ n_ by first | with_reducible assumption | (exact zo_605 hyx_.2.2) | assumption)) rfl rfl rfl (by decide) (Nat.le_of_ble_eq_true rfl) (zdal_p dlC_M_operand_100 (i := 20) rfl) ?_
                    rintro _ N187_ ⟨rfl, hsN187_, ⟨hp0_N187_, hp1_N187_⟩⟩
                    have hf_N187_ : zFr [3, 4, 5, 6, 7, 8, 11, 38, 39, 41, 42, 43] [95, 100] Mz N187_ := hf_N180_.tr hsN187_ (by decide) (by decide)
                    have r3_N187_ := ze_r N187_ 81 3
                    have r4_N187_ := ze_r N187_ 81 4
                    have r5_N187_ := ze_r N187_ 81 5
                    have r6_N187_ := ze_r N187_ 81 6
                    have e7_N187_ : ze N187_ 81 7 = ze N180_ 81 7 := hsN187_.e (by decide)
                    have e14_N187_ : ze N187_ 81 14 = ze N180_ 81 14 := hsN187_.e (by decide)
                    have e26_N187_ : ze N187_ 81 26 = ze N180_ 81 26 := hsN187_.e (by decide)
                    have e38_N187_ : ze N187_ 81 38 = ze N180_ 81 38 := hsN187_.e (by decide)
                    have e39_N187_ : ze N187_ 81 39 = ze N180_ 81 39 := hsN187_.e (by decide)
                    have e41_N187_ : ze N187_ 81 41 = ze N180_ 81 41 := hsN187_.e (by decide)
                    have e42_N187_ : ze N187_ 81 42 = ze N180_ 81 42 := hsN187_.e (by decide)
                    have e43_N187_ : ze N187_ 81 43 = ze N180_ 81 43 := hsN187_.e (by decide)
                    have qzrS_N187_ : zrS N187_ = zrS N180_ := zrS_q hsN187_ (by decide)
                    have qzrG_N187_ : zrG N187_ = zrG N180_ := zrG_q hsN187_ (by decide)
                    have qzrW_N187_ : zrW F_ N187_ = zrW F_ N180_ := zrW_q hsN187_ (by decide)
                    have c192_ : zRI F_ K_ 0 N187_ := zRI.fr hsN187_ hpz1_ (by decide) (by decide)
                    show zW l m_M_operand (zn Mz + 0, zw Mz + 0) N187_ 86 [some (.ref 81), some (.int (Int32.ofInt 1)), none] [] _
                    have hnn_ := hyt_.nx hp0_N187_
                    have hst_ := zRea.st (zr0_x (F := F_) (K := K_) (nm := nm_) hO_ hz_ hxb_ (by rw [qzrS_N187_, hpz_.2.1, qzrS_N146_]) (by rw [qzrW_N187_, hpz_.2.2.1, qzrW_N146_]) (by rw [qzrG_N187_, hpz_.2.2.2, qzrG_N146_]) (by (exact zo_736 e43_N170_ e43_N175_ e43_N180_ e43_N187_ hp0_N146_ p6_ r43_N146_.2)) (by (exact p6_)) (hnn_.2.trans (by rw [show ze N180_ 81 4 = ze Mz 81 4 by (exact zo_754 e4_N146_ e4_N170_ e4_N175_ e4_N180_ hyx_.1.1 r_4.2)])))
                    have hrx_ := c192_
                    have hnx_ := znx_g (b := b_) (n := n_) (s := (ze Mz 81 4).toNat) (by (exact zo_607 hk0_))
                    have hpx_ : (ze N187_ 81 4).toNat = (znx b_ n_ (ze Mz 81 4).toNat) := (hnn_.2.trans (by rw [show ze N180_ 81 4 = ze Mz 81 4 by (exact zo_754 e4_N146_ e4_N170_ e4_N175_ e4_N180_ hyx_.1.1 r_4.2)]))
                    refine zw_iconst (pc := 86) (v := Int32.ofInt 0) (by decide) d_M_operand_86 ?_
                    exact zr_iret (pc := 87) (ty := .boolean) rfl (z_narB (by (decide))) ⟨by (exact hv2_a), by (exact hv2_b)⟩ hf_N187_ ⟨hp1_N187_, (show ((0 = 0 ∧ 1 ≤ ze N187_ 81 7 ∧ zRea (zfs b_ n_ F_ K_ nm_) (zRst 0 F_ Mz) zFt) ∨ (0 = 0 ∧ ze N187_ 81 7 = 0 ∧ zRea (zfs b_ n_ F_ K_ nm_) (zRst 0 F_ Mz) (zRst 0 F_ N187_) ∧ zRI F_ K_ 0 N187_ ∧ ze Mz 81 4 < ze N187_ 81 4 ∧ 0 ≤ ze N187_ 81 43 ∧ ze N187_ 81 43 ≤ 30) ∨ (0 = 1 ∧ 1 ≤ ze N187_ 81 7 ∧ zRea (zfs b_ n_ F_ K_ nm_) (zRst 0 F_ Mz) zFt) ∨ (0 = 1 ∧ ze N187_ 81 7 = 0 ∧ zRea (zfs b_ n_ F_ K_ nm_) (zRst 0 F_ Mz) (zRst 1 F_ N187_) ∧ zRI F_ K_ 1 N187_ ∧ ze Mz 81 4 < ze N187_ 81 4 ∧ 0 ≤ ze N187_ 81 43 ∧ ze N187_ 81 43 ≤ 30)) from Or.inr (Or.inl (⟨(show 0 = 0 by first | rfl | exact hst_ | exact hrx_ | omega), (show ze N187_ 81 7 = 0 by first | rfl | exact hst_ | exact hrx_ | (exact zo_610 e7_N187_ ha76_0_hp0_N185_)), (show zRea (zfs b_ n_ F_ K_ nm_) (zRst 0 F_ Mz) (zRst 0 F_ N187_) by first | rfl | exact hst_ | exact hrx_ | omega), (show zRI F_ K_ 0 N187_ by first | rfl | exact hst_ | exact hrx_ | omega), (show ze Mz 81 4 < ze N187_ 81 4 by first | rfl | exact hst_ | exact hrx_ | (exact zo_738 hnx_ hp0_N187_ hpx_ r4_N187_.1 r_4.2)), (show 0 ≤ ze N187_ 81 43 by first | rfl | exact hst_ | exact hrx_ | (exact zo_739 e43_N170_ e43_N175_ e43_N180_ e43_N187_ hp0_N146_ p6_ r43_N146_.1)), (show ze N187_ 81 43 ≤ 30 by first | rfl | exact hst_ | exact hrx_ | (exact zo_740 e43_N170_ e43_N175_ e43_N180_ e43_N187_ hp0_N146_ hz1_ r43_N146_.2))⟩)))⟩ d_M_operand_87
                · skip
                  exfalso; (exact zo_741 e7_N170_ e7_N175_ e7_N180_ ha34_0_hp1_N146_ ha76_0_hp0_N185_)
      · skip
        have hNO_ : ¬ (zisg b_ n_ (ze Mz 81 4).toNat 45 ∨ zisg b_ n_ (ze Mz 81 4).toNat 40) := fun q_ => q_.elim hn45_ (ha12_0_hp0_N97_ p5_)
        show zW l m_M_operand (zn Mz + 0, zw Mz + 0) Mz 15 [some (.ref 81), none, none] [.int (Int32.ofInt 0)] _
        refine zr_if_eq (pc := 15) (tgt := 88) ⟨(by decide), (by decide)⟩ (by decide) (zdal_p dlC_M_operand_99 (i := 7) rfl) (fun hc_15 => ?_) (fun hc_15 => ?_)
        · skip
          refine zw_aload_n (pc := 88) (n := 0) (x := 81) rfl (zdal_p dlC_M_operand_100 (i := 23) rfl) ?_
          refine zr_callV (hf.w hW) hf.x (pc := 89) [] [] l_M_183 (c_M_isGood l Mz (hf.w hW) ) rfl rfl rfl (by decide) (Nat.le_of_ble_eq_true rfl) (zdal_p dlC_M_operand_101 (i := 0) rfl) ?_
          rintro _ N193_ ⟨v194_, rfl, ⟨hv194_a, hv194_b⟩, hsN193_, hp0_N193_⟩
          obtain rfl := hsN193_.eq.symm
          replace hp0_N193_ : ((v194_ = 1 ∧ ze Mz 81 7 = 0) ∨ (v194_ = 0 ∧ ze Mz 81 7 ≠ 0)) := hp0_N193_
          rcases hp0_N193_ with ⟨rfl, ha89_0_hp0_N193_⟩ | ⟨rfl, ha89_0_hp0_N193_⟩
          · skip
            show zW l m_M_operand (zn Mz + 0, zw Mz + 0) Mz 92 [some (.ref 81), none, none] [.int (Int32.ofInt 1)] _
            refine zr_if_eq (pc := 92) (tgt := 125) ⟨(by decide), (by decide)⟩ (by decide) (zdal_p dlC_M_operand_101 (i := 1) rfl) (fun hc_92 => ?_) (fun hc_92 => ?_)
            · skip
              exact absurd hc_92 (by decide)
            · skip
              refine zw_aload_n (pc := 95) (n := 0) (x := 81) rfl (zdal_p dlC_M_operand_101 (i := 2) rfl) ?_
              refine zr_getI (hf.w hW) (pc := 96) f_M_155 rfl (zdal_p dlC_M_operand_101 (i := 3) rfl) ?_
              refine zw_iconst (pc := 99) (v := Int32.ofInt 2) (by decide) (zdal_p dlC_M_operand_101 (i := 4) rfl) ?_
              refine zr_icmp_ne (pc := 100) (tgt := 125) ⟨(ze_r Mz 81 5).1, (ze_r Mz 81 5).2⟩ ⟨(by decide), (by decide)⟩ (by decide) (zdal_p dlC_M_operand_101 (i := 5) rfl) (fun hc_100 => ?_) (fun hc_100 => ?_)
              · skip
                have hk2n_ : zkd b_ n_ (ze Mz 81 4).toNat ≠ 2 := by (exact zo_758 t3_ hc_100)
                refine zw_aload_n (pc := 125) (n := 0) (x := 81) rfl (zdal_p dlC_M_operand_101 (i := 18) rfl) ?_
                refine zr_ldc2 (pc := 126) (n := 1936683636) (by decide) k_M_181 (zdal_p dlC_M_operand_101 (i := 19) rfl) ?_
                refine zr_callV (hf.w hW) hf.x (pc := 129) [.long (Int64.ofInt 1936683636)] [] l_M_312 (c_M_isWordF l Mz (hf.w hW) 1936683636 (by decide) (by decide) b_ n_ p2_) rfl rfl rfl (by decide) (Nat.le_of_ble_eq_true rfl) (zdal_p dlC_M_operand_101 (i := 20) rfl) ?_
                rintro _ N195_ ⟨v196_, rfl, ⟨hv196_a, hv196_b⟩, hsN195_, hp0_N195_⟩
                obtain rfl := hsN195_.eq.symm
                replace hp0_N195_ : ((v196_ = 1 ∧ ze Mz 81 7 = 0 ∧ zkd b_ n_ (ze Mz 81 4).toNat = 1 ∧ zke8 b_ n_ (ze Mz 81 4).toNat = 1936683636) ∨ (v196_ = 0 ∧ (ze Mz 81 7 = 0 → ¬ (zkd b_ n_ (ze Mz 81 4).toNat = 1 ∧ zke8 b_ n_ (ze Mz 81 4).toNat = 1936683636)))) := hp0_N195_
                rcases hp0_N195_ with ⟨rfl, ha129_0_hp0_N195_, ha129_1_hp0_N195_, ha129_2_hp0_N195_⟩ | ⟨rfl, ha129_0_hp0_N195_⟩
                · skip
                  have hk1_ := ha129_1_hp0_N195_
                  have hks_ := (zke8_w hk1_ (i := 3) (by decide)).mp ha129_2_hp0_N195_
                  show zW l m_M_operand (zn Mz + 0, zw Mz + 0) Mz 132 [some (.ref 81), none, none] [.int (Int32.ofInt 1)] _
                  refine zr_if_eq (pc := 132) (tgt := 212) ⟨(by decide), (by decide)⟩ (by decide) (zdal_p dlC_M_operand_101 (i := 21) rfl) (fun hc_132 => ?_) (fun hc_132 => ?_)
                  · skip
                    exact absurd hc_132 (by decide)
                  · skip
                    refine zw_aload_n (pc := 135) (n := 0) (x := 81) rfl (zdal_p dlC_M_operand_101 (i := 22) rfl) ?_
                    refine zr_callV (hf.w hW) hf.x (pc := 136) [] [] l_M_302 (c_M_countsUnitF l Mz (hf.w hW) F_ K_ p4_ (show 0 ≤ ze Mz 81 7 by first | with_reducible assumption | (exact zo_718 p5_) | assumption) (show 0 ≤ ze Mz 81 43 by first | with_reducible assumption | assumption | omega) (show ze Mz 81 43 ≤ 30 by first | with_reducible assumption | assumption | omega)) rfl rfl rfl (by decide) (Nat.le_of_ble_eq_true rfl) (zdal_p dlC_M_operand_101 (i := 23) rfl) ?_
                    rintro _ N197_ ⟨rfl, hsN197_, ⟨hp0_N197_, hp1_N197_⟩⟩
                    have hf_N197_ : zFr [3, 4, 5, 6, 7, 8, 11, 38, 39, 41, 42, 43] [95, 100] Mz N197_ := hf.tr hsN197_ (by decide) (by decide)
                    have e3_N197_ : ze N197_ 81 3 = ze Mz 81 3 := hsN197_.e (by decide)
                    have e4_N197_ : ze N197_ 81 4 = ze Mz 81 4 := hsN197_.e (by decide)
                    have e5_N197_ : ze N197_ 81 5 = ze Mz 81 5 := hsN197_.e (by decide)
                    have e6_N197_ : ze N197_ 81 6 = ze Mz 81 6 := hsN197_.e (by decide)
                    have r7_N197_ := ze_r N197_ 81 7
                    have e14_N197_ : ze N197_ 81 14 = ze Mz 81 14 := hsN197_.e (by decide)
                    have e26_N197_ : ze N197_ 81 26 = ze Mz 81 26 := hsN197_.e (by decide)
                    have e38_N197_ : ze N197_ 81 38 = ze Mz 81 38 := hsN197_.e (by decide)
                    have e39_N197_ : ze N197_ 81 39 = ze Mz 81 39 := hsN197_.e (by decide)
                    have e41_N197_ : ze N197_ 81 41 = ze Mz 81 41 := hsN197_.e (by decide)
                    have e42_N197_ : ze N197_ 81 42 = ze Mz 81 42 := hsN197_.e (by decide)
                    have r43_N197_ := ze_r N197_ 81 43
                    have qzrS_N197_ : zrS N197_ = zrS Mz := zrS_q hsN197_ (by decide)
                    have qzrG_N197_ : zrG N197_ = zrG Mz := zrG_q hsN197_ (by decide)
                    have qzrW_N197_ : zrW F_ N197_ = zrW F_ Mz := zrW_q hsN197_ (by decide)
                    have c199_ : zRmk F_ K_ N197_ := zRmk.fr hsN197_ p0_ (by decide) (by decide)
                    have c200_ : zRb b_ n_ N197_ := zRb.fr hsN197_ p1_ (by decide) (by decide)
                    have c201_ : zRt b_ n_ N197_ := zRt.fr hsN197_ p2_ (by decide) (by decide)
                    have c203_ : zRI F_ K_ 0 N197_ := zRI.fr hsN197_ p4_ (by decide) (by decide)
                    rcases hp1_N197_ with ⟨ha136_0_hp1_N197_, ha136_1_hp1_N197_⟩ | ⟨ha136_0_hp1_N197_, ha136_1_hp1_N197_, ha136_2_hp1_N197_⟩
                    · skip
                      have hnz_ := ha136_1_hp1_N197_ p5_
                      have hri1_ := c203_
                      have hrt_ := zRea.st (zr0_sf (F := F_) (K := K_) (nm := nm_) hNO_ hk2n_ ⟨hk1_, hks_⟩ (fun q_ => hnz_ q_.1))
                      show zW l m_M_operand (zn Mz + 0, zw Mz + 0) N197_ 139 [some (.ref 81), none, none] [] _
                      refine zw_aload_n (pc := 139) (n := 0) (x := 81) rfl (zdal_p dlC_M_operand_102 (i := 0) rfl) ?_
                      refine zr_callV (hf_N197_.w hW) hf_N197_.x (pc := 140) [] [] l_M_183 (c_M_isGood l N197_ (hf_N197_.w hW) ) rfl rfl rfl (by decide) (Nat.le_of_ble_eq_true rfl) (zdal_p dlC_M_operand_102 (i := 1) rfl) ?_
                      rintro _ N204_ ⟨v205_, rfl, ⟨hv205_a, hv205_b⟩, hsN204_, hp0_N204_⟩
                      obtain rfl := hsN204_.eq.symm
                      replace hp0_N204_ : ((v205_ = 1 ∧ ze N197_ 81 7 = 0) ∨ (v205_ = 0 ∧ ze N197_ 81 7 ≠ 0)) := hp0_N204_
                      rcases hp0_N204_ with ⟨rfl, ha140_0_hp0_N204_⟩ | ⟨rfl, ha140_0_hp0_N204_⟩
                      · skip
                        exfalso; (exact zo_609 ha136_0_hp1_N197_ ha140_0_hp0_N204_)
                      · skip
                        show zW l m_M_operand (zn Mz + 0, zw Mz + 0) N197_ 143 [some (.ref 81), none, none] [.int (Int32.ofInt 0)] _
                        refine zr_if_eq (pc := 143) (tgt := 150) ⟨(by decide), (by decide)⟩ (by decide) (zdal_p dlC_M_operand_102 (i := 2) rfl) (fun hc_143 => ?_) (fun hc_143 => ?_)
                        · skip
                          refine zw_aload_n (pc := 150) (n := 0) (x := 81) rfl (zdal_p dlC_M_operand_102 (i := 5) rfl) ?_
                          refine zr_callV (hf_N197_.w hW) hf_N197_.x (pc := 151) [] [] l_M_183 (c_M_isGood l N197_ (hf_N197_.w hW) ) rfl rfl rfl (by decide) (Nat.le_of_ble_eq_true rfl) (zdal_p dlC_M_operand_102 (i := 6) rfl) ?_
                          rintro _ N206_ ⟨v207_, rfl, ⟨hv207_a, hv207_b⟩, hsN206_, hp0_N206_⟩
                          obtain rfl := hsN206_.eq.symm
                          replace hp0_N206_ : ((v207_ = 1 ∧ ze N197_ 81 7 = 0) ∨ (v207_ = 0 ∧ ze N197_ 81 7 ≠ 0)) := hp0_N206_
                          rcases hp0_N206_ with ⟨rfl, ha151_0_hp0_N206_⟩ | ⟨rfl, ha151_0_hp0_N206_⟩
                          · skip
                            exfalso; (exact zo_609 ha136_0_hp1_N197_ ha151_0_hp0_N206_)
                          · skip
                            show zW l m_M_operand (zn Mz + 0, zw Mz + 0) N197_ 154 [some (.ref 81), none, none] [.int (Int32.ofInt 0)] _
                            refine zr_if_eq (pc := 154) (tgt := 170) ⟨(by decide), (by decide)⟩ (by decide) (zdal_p dlC_M_operand_102 (i := 7) rfl) (fun hc_154 => ?_) (fun hc_154 => ?_)
                            · skip
                              refine zw_aload_n (pc := 170) (n := 0) (x := 81) rfl (zdal_p dlC_M_operand_102 (i := 15) rfl) ?_
                              refine zr_callV (hf_N197_.w hW) hf_N197_.x (pc := 171) [] [] l_M_183 (c_M_isGood l N197_ (hf_N197_.w hW) ) rfl rfl rfl (by decide) (Nat.le_of_ble_eq_true rfl) (zdal_p dlC_M_operand_102 (i := 16) rfl) ?_
                              rintro _ N208_ ⟨v209_, rfl, ⟨hv209_a, hv209_b⟩, hsN208_, hp0_N208_⟩
                              obtain rfl := hsN208_.eq.symm
                              replace hp0_N208_ : ((v209_ = 1 ∧ ze N197_ 81 7 = 0) ∨ (v209_ = 0 ∧ ze N197_ 81 7 ≠ 0)) := hp0_N208_
                              rcases hp0_N208_ with ⟨rfl, ha171_0_hp0_N208_⟩ | ⟨rfl, ha171_0_hp0_N208_⟩
                              · skip
                                exfalso; (exact zo_609 ha136_0_hp1_N197_ ha171_0_hp0_N208_)
                              · skip
                                show zW l m_M_operand (zn Mz + 0, zw Mz + 0) N197_ 174 [some (.ref 81), none, none] [.int (Int32.ofInt 0)] _
                                refine zr_if_eq (pc := 174) (tgt := 193) ⟨(by decide), (by decide)⟩ (by decide) (zdal_p dlC_M_operand_102 (i := 17) rfl) (fun hc_174 => ?_) (fun hc_174 => ?_)
                                · skip
                                  refine zw_aload_n (pc := 193) (n := 0) (x := 81) rfl (zdal_p dlC_M_operand_103 (i := 2) rfl) ?_
                                  refine zr_callV (hf_N197_.w hW) hf_N197_.x (pc := 194) [] [] l_M_183 (c_M_isGood l N197_ (hf_N197_.w hW) ) rfl rfl rfl (by decide) (Nat.le_of_ble_eq_true rfl) (zdal_p dlC_M_operand_103 (i := 3) rfl) ?_
                                  rintro _ N210_ ⟨v211_, rfl, ⟨hv211_a, hv211_b⟩, hsN210_, hp0_N210_⟩
                                  obtain rfl := hsN210_.eq.symm
                                  replace hp0_N210_ : ((v211_ = 1 ∧ ze N197_ 81 7 = 0) ∨ (v211_ = 0 ∧ ze N197_ 81 7 ≠ 0)) := hp0_N210_
                                  rcases hp0_N210_ with ⟨rfl, ha194_0_hp0_N210_⟩ | ⟨rfl, ha194_0_hp0_N210_⟩
                                  · skip
                                    exfalso; (exact zo_609 ha136_0_hp1_N197_ ha194_0_hp0_N210_)
                                  · skip
                                    show zW l m_M_operand (zn Mz + 0, zw Mz + 0) N197_ 197 [some (.ref 81), none, none] [.int (Int32.ofInt 0)] _
                                    refine zr_if_eq (pc := 197) (tgt := 311) ⟨(by decide), (by decide)⟩ (by decide) (zdal_p dlC_M_operand_103 (i := 4) rfl) (fun hc_197 => ?_) (fun hc_197 => ?_)
                                    · skip
                                      refine zw_aload_n (pc := 311) (n := 0) (x := 81) rfl d_M_operand_311 ?_
                                      refine zr_callV (hf_N197_.w hW) hf_N197_.x (pc := 312) [] [] l_M_183 (c_M_isGood l N197_ (hf_N197_.w hW) ) rfl rfl rfl (by decide) (Nat.le_of_ble_eq_true rfl) d_M_operand_312 ?_
                                      rintro _ N212_ ⟨v213_, rfl, ⟨hv213_a, hv213_b⟩, hsN212_, hp0_N212_⟩
                                      obtain rfl := hsN212_.eq.symm
                                      replace hp0_N212_ : ((v213_ = 1 ∧ ze N197_ 81 7 = 0) ∨ (v213_ = 0 ∧ ze N197_ 81 7 ≠ 0)) := hp0_N212_
                                      rcases hp0_N212_ with ⟨rfl, ha312_0_hp0_N212_⟩ | ⟨rfl, ha312_0_hp0_N212_⟩
                                      · skip
                                        exfalso; (exact zo_609 ha136_0_hp1_N197_ ha312_0_hp0_N212_)
                                      · skip
                                        show zW l m_M_operand (zn Mz + 0, zw Mz + 0) N197_ 315 [some (.ref 81), none, none] [.int (Int32.ofInt 0)] _
                                        refine zr_if_eq (pc := 315) (tgt := 322) ⟨(by decide), (by decide)⟩ (by decide) d_M_operand_315 (fun hc_315 => ?_) (fun hc_315 => ?_)
                                        · skip
                                          refine zw_iconst (pc := 322) (v := Int32.ofInt 1) (by decide) d_M_operand_322 ?_
                                          exact zr_iret (pc := 323) (ty := .boolean) rfl (z_narB (by (decide))) ⟨by (exact hv194_a), by (exact hv194_b)⟩ hf_N197_ ⟨c201_, (show ((1 = 0 ∧ 1 ≤ ze N197_ 81 7 ∧ zRea (zfs b_ n_ F_ K_ nm_) (zRst 0 F_ Mz) zFt) ∨ (1 = 0 ∧ ze N197_ 81 7 = 0 ∧ zRea (zfs b_ n_ F_ K_ nm_) (zRst 0 F_ Mz) (zRst 0 F_ N197_) ∧ zRI F_ K_ 0 N197_ ∧ ze Mz 81 4 < ze N197_ 81 4 ∧ 0 ≤ ze N197_ 81 43 ∧ ze N197_ 81 43 ≤ 30) ∨ (1 = 1 ∧ 1 ≤ ze N197_ 81 7 ∧ zRea (zfs b_ n_ F_ K_ nm_) (zRst 0 F_ Mz) zFt) ∨ (1 = 1 ∧ ze N197_ 81 7 = 0 ∧ zRea (zfs b_ n_ F_ K_ nm_) (zRst 0 F_ Mz) (zRst 1 F_ N197_) ∧ zRI F_ K_ 1 N197_ ∧ ze Mz 81 4 < ze N197_ 81 4 ∧ 0 ≤ ze N197_ 81 43 ∧ ze N197_ 81 43 ≤ 30)) from Or.inr (Or.inr (Or.inl (⟨(show 1 = 1 by first | rfl | exact hrt_ | exact hrt2_ | omega), (show 1 ≤ ze N197_ 81 7 by first | rfl | exact hrt_ | exact hrt2_ | (exact ha136_0_hp1_N197_)), (show zRea (zfs b_ n_ F_ K_ nm_) (zRst 0 F_ Mz) zFt by first | rfl | exact hrt_ | exact hrt2_ | omega)⟩))))⟩ d_M_operand_323
                                        · skip
                                          exact absurd hc_315 (by decide)
                                    · skip
                                      exact absurd hc_197 (by decide)
                                · skip
                                  exact absurd hc_174 (by decide)
                            · skip
                              exact absurd hc_154 (by decide)
                        · skip
                          exact absurd hc_143 (by decide)
                    · skip
                      have hz_ := ha136_2_hp1_N197_
                      have hz1_ : (ze Mz 81 43).toNat < 30 := hz_.1
                      have hri1_ := c203_
                      show zW l m_M_operand (zn Mz + 0, zw Mz + 0) N197_ 139 [some (.ref 81), none, none] [] _
                      refine zw_aload_n (pc := 139) (n := 0) (x := 81) rfl (zdal_p dlC_M_operand_102 (i := 0) rfl) ?_
                      refine zr_callV (hf_N197_.w hW) hf_N197_.x (pc := 140) [] [] l_M_183 (c_M_isGood l N197_ (hf_N197_.w hW) ) rfl rfl rfl (by decide) (Nat.le_of_ble_eq_true rfl) (zdal_p dlC_M_operand_102 (i := 1) rfl) ?_
                      rintro _ N214_ ⟨v215_, rfl, ⟨hv215_a, hv215_b⟩, hsN214_, hp0_N214_⟩
                      obtain rfl := hsN214_.eq.symm
                      replace hp0_N214_ : ((v215_ = 1 ∧ ze N197_ 81 7 = 0) ∨ (v215_ = 0 ∧ ze N197_ 81 7 ≠ 0)) := hp0_N214_
                      rcases hp0_N214_ with ⟨rfl, ha140_0_hp0_N214_⟩ | ⟨rfl, ha140_0_hp0_N214_⟩
                      · skip
                        show zW l m_M_operand (zn Mz + 0, zw Mz + 0) N197_ 143 [some (.ref 81), none, none] [.int (Int32.ofInt 1)] _
                        refine zr_if_eq (pc := 143) (tgt := 150) ⟨(by decide), (by decide)⟩ (by decide) (zdal_p dlC_M_operand_102 (i := 2) rfl) (fun hc_143 => ?_) (fun hc_143 => ?_)
                        · skip
                          exact absurd hc_143 (by decide)
                        · skip
                          have hyt_ := c201_
                          have hyx_ := hyt_.x
                          refine zw_aload_n (pc := 146) (n := 0) (x := 81) rfl (zdal_p dlC_M_operand_102 (i := 3) rfl) ?_
                          refine zr_callV (hf_N197_.w hW) hf_N197_.x (pc := 147) [] [] l_M_193 (c_M_goOnF l N197_ (hf_N197_.w hW) b_ n_ c200_ (show 0 ≤ ze N197_ 81 3 by first | with_reducible assumption | (exact zo_57 hyx_.2.1) | assumption) (show ze N197_ 81 3 ≤ n_ by first | with_reducible assumption | (exact zo_605 hyx_.2.2) | assumption)) rfl rfl rfl (by decide) (Nat.le_of_ble_eq_true rfl) (zdal_p dlC_M_operand_102 (i := 4) rfl) ?_
                          rintro _ N216_ ⟨rfl, hsN216_, ⟨hp0_N216_, hp1_N216_⟩⟩
                          have hf_N216_ : zFr [3, 4, 5, 6, 7, 8, 11, 38, 39, 41, 42, 43] [95, 100] Mz N216_ := hf_N197_.tr hsN216_ (by decide) (by decide)
                          have r3_N216_ := ze_r N216_ 81 3
                          have r4_N216_ := ze_r N216_ 81 4
                          have r5_N216_ := ze_r N216_ 81 5
                          have r6_N216_ := ze_r N216_ 81 6
                          have e7_N216_ : ze N216_ 81 7 = ze N197_ 81 7 := hsN216_.e (by decide)
                          have e14_N216_ : ze N216_ 81 14 = ze N197_ 81 14 := hsN216_.e (by decide)
                          have e26_N216_ : ze N216_ 81 26 = ze N197_ 81 26 := hsN216_.e (by decide)
                          have e38_N216_ : ze N216_ 81 38 = ze N197_ 81 38 := hsN216_.e (by decide)
                          have e39_N216_ : ze N216_ 81 39 = ze N197_ 81 39 := hsN216_.e (by decide)
                          have e41_N216_ : ze N216_ 81 41 = ze N197_ 81 41 := hsN216_.e (by decide)
                          have e42_N216_ : ze N216_ 81 42 = ze N197_ 81 42 := hsN216_.e (by decide)
                          have e43_N216_ : ze N216_ 81 43 = ze N197_ 81 43 := hsN216_.e (by decide)
                          have qzrS_N216_ : zrS N216_ = zrS N197_ := zrS_q hsN216_ (by decide)
                          have qzrG_N216_ : zrG N216_ = zrG N197_ := zrG_q hsN216_ (by decide)
                          have qzrW_N216_ : zrW F_ N216_ = zrW F_ N197_ := zrW_q hsN216_ (by decide)
                          have c218_ : zRmk F_ K_ N216_ := zRmk.fr hsN216_ c199_ (by decide) (by decide)
                          have c219_ : zRb b_ n_ N216_ := zRb.fr hsN216_ c200_ (by decide) (by decide)
                          have c221_ : zRI F_ K_ 0 N216_ := zRI.fr hsN216_ c203_ (by decide) (by decide)
                          show zW l m_M_operand (zn Mz + 0, zw Mz + 0) N216_ 150 [some (.ref 81), none, none] [] _
                          have hnn_ := hyt_.nx hp0_N216_
                          have hx1_ : (ze N216_ 81 4).toNat = (znx b_ n_ (ze Mz 81 4).toNat) := (hnn_.2.trans (by rw [show ze N197_ 81 4 = ze Mz 81 4 by (exact e4_N197_)]))
                          have hyt2_ := hp1_N216_
                          have h5_ : ze N216_ 81 5 = zkd b_ n_ (znx b_ n_ (ze Mz 81 4).toNat) := by rw [← hx1_]; exact hyt2_.2.2.1
                          have hv7_ : zkd b_ n_ (znx b_ n_ (ze Mz 81 4).toNat) = 2 → ze N216_ 81 6 = znu b_ n_ (znx b_ n_ (ze Mz 81 4).toNat) ∧ 0 ≤ ze N216_ 81 6 ∧ ze N216_ 81 6 ≤ 999 := by rw [← hx1_]; exact fun q_ => hyt2_.v2 q_
                          refine zw_aload_n (pc := 150) (n := 0) (x := 81) rfl (zdal_p dlC_M_operand_102 (i := 5) rfl) ?_
                          refine zr_callV (hf_N216_.w hW) hf_N216_.x (pc := 151) [] [] l_M_183 (c_M_isGood l N216_ (hf_N216_.w hW) ) rfl rfl rfl (by decide) (Nat.le_of_ble_eq_true rfl) (zdal_p dlC_M_operand_102 (i := 6) rfl) ?_
                          rintro _ N222_ ⟨v223_, rfl, ⟨hv223_a, hv223_b⟩, hsN222_, hp0_N222_⟩
                          obtain rfl := hsN222_.eq.symm
                          replace hp0_N222_ : ((v223_ = 1 ∧ ze N216_ 81 7 = 0) ∨ (v223_ = 0 ∧ ze N216_ 81 7 ≠ 0)) := hp0_N222_
                          rcases hp0_N222_ with ⟨rfl, ha151_0_hp0_N222_⟩ | ⟨rfl, ha151_0_hp0_N222_⟩
                          · skip
                            show zW l m_M_operand (zn Mz + 0, zw Mz + 0) N216_ 154 [some (.ref 81), none, none] [.int (Int32.ofInt 1)] _
                            refine zr_if_eq (pc := 154) (tgt := 170) ⟨(by decide), (by decide)⟩ (by decide) (zdal_p dlC_M_operand_102 (i := 7) rfl) (fun hc_154 => ?_) (fun hc_154 => ?_)
                            · skip
                              exact absurd hc_154 (by decide)
                            · skip
                              refine zw_aload_n (pc := 157) (n := 0) (x := 81) rfl (zdal_p dlC_M_operand_102 (i := 8) rfl) ?_
                              refine zr_getI (hf_N216_.w hW) (pc := 158) f_M_155 rfl (zdal_p dlC_M_operand_102 (i := 9) rfl) ?_
                              refine zw_iconst (pc := 161) (v := Int32.ofInt 2) (by decide) (zdal_p dlC_M_operand_102 (i := 10) rfl) ?_
                              refine zr_icmp_eq (pc := 162) (tgt := 170) ⟨(ze_r N216_ 81 5).1, (ze_r N216_ 81 5).2⟩ ⟨(by decide), (by decide)⟩ (by decide) (zdal_p dlC_M_operand_102 (i := 11) rfl) (fun hc_162 => ?_) (fun hc_162 => ?_)
                              · skip
                                refine zw_aload_n (pc := 170) (n := 0) (x := 81) rfl (zdal_p dlC_M_operand_102 (i := 15) rfl) ?_
                                refine zr_callV (hf_N216_.w hW) hf_N216_.x (pc := 171) [] [] l_M_183 (c_M_isGood l N216_ (hf_N216_.w hW) ) rfl rfl rfl (by decide) (Nat.le_of_ble_eq_true rfl) (zdal_p dlC_M_operand_102 (i := 16) rfl) ?_
                                rintro _ N224_ ⟨v225_, rfl, ⟨hv225_a, hv225_b⟩, hsN224_, hp0_N224_⟩
                                obtain rfl := hsN224_.eq.symm
                                replace hp0_N224_ : ((v225_ = 1 ∧ ze N216_ 81 7 = 0) ∨ (v225_ = 0 ∧ ze N216_ 81 7 ≠ 0)) := hp0_N224_
                                rcases hp0_N224_ with ⟨rfl, ha171_0_hp0_N224_⟩ | ⟨rfl, ha171_0_hp0_N224_⟩
                                · skip
                                  show zW l m_M_operand (zn Mz + 0, zw Mz + 0) N216_ 174 [some (.ref 81), none, none] [.int (Int32.ofInt 1)] _
                                  refine zr_if_eq (pc := 174) (tgt := 193) ⟨(by decide), (by decide)⟩ (by decide) (zdal_p dlC_M_operand_102 (i := 17) rfl) (fun hc_174 => ?_) (fun hc_174 => ?_)
                                  · skip
                                    exact absurd hc_174 (by decide)
                                  · skip
                                    have hk3_ : zkd b_ n_ (znx b_ n_ (ze Mz 81 4).toNat) = 2 := by (exact zo_759 h5_ hc_162)
                                    refine zw_aload_n (pc := 177) (n := 0) (x := 81) rfl (zdal_p dlC_M_operand_102 (i := 18) rfl) ?_
                                    refine zr_getI (hf_N216_.w hW) (pc := 178) f_M_152 rfl (zdal_p dlC_M_operand_102 (i := 19) rfl) ?_
                                    refine zw_aload_n (pc := 181) (n := 0) (x := 81) rfl (zdal_p dlC_M_operand_102 (i := 20) rfl) ?_
                                    refine zr_getI0 hf_N216_ hW (pc := 182) (by decide) f_M_235 rfl (zdal_p dlC_M_operand_102 (i := 21) rfl) ?_
                                    refine zr_icmp_lt (pc := 185) (tgt := 193) ⟨(ze_r N216_ 81 6).1, (ze_r N216_ 81 6).2⟩ ⟨(ze_r Mz 81 26).1, (ze_r Mz 81 26).2⟩ (by decide) (zdal_p dlC_M_operand_102 (i := 22) rfl) (fun hc_185 => ?_) (fun hc_185 => ?_)
                                    · skip
                                      refine zw_aload_n (pc := 193) (n := 0) (x := 81) rfl (zdal_p dlC_M_operand_103 (i := 2) rfl) ?_
                                      refine zr_callV (hf_N216_.w hW) hf_N216_.x (pc := 194) [] [] l_M_183 (c_M_isGood l N216_ (hf_N216_.w hW) ) rfl rfl rfl (by decide) (Nat.le_of_ble_eq_true rfl) (zdal_p dlC_M_operand_103 (i := 3) rfl) ?_
                                      rintro _ N226_ ⟨v227_, rfl, ⟨hv227_a, hv227_b⟩, hsN226_, hp0_N226_⟩
                                      obtain rfl := hsN226_.eq.symm
                                      replace hp0_N226_ : ((v227_ = 1 ∧ ze N216_ 81 7 = 0) ∨ (v227_ = 0 ∧ ze N216_ 81 7 ≠ 0)) := hp0_N226_
                                      rcases hp0_N226_ with ⟨rfl, ha194_0_hp0_N226_⟩ | ⟨rfl, ha194_0_hp0_N226_⟩
                                      · skip
                                        show zW l m_M_operand (zn Mz + 0, zw Mz + 0) N216_ 197 [some (.ref 81), none, none] [.int (Int32.ofInt 1)] _
                                        refine zr_if_eq (pc := 197) (tgt := 311) ⟨(by decide), (by decide)⟩ (by decide) (zdal_p dlC_M_operand_103 (i := 4) rfl) (fun hc_197 => ?_) (fun hc_197 => ?_)
                                        · skip
                                          exact absurd hc_197 (by decide)
                                        · skip
                                          refine zw_aload_n (pc := 200) (n := 0) (x := 81) rfl (zdal_p dlC_M_operand_103 (i := 5) rfl) ?_
                                          refine zw_aload_n (pc := 201) (n := 0) (x := 81) rfl (zdal_p dlC_M_operand_103 (i := 6) rfl) ?_
                                          refine zr_getI (hf_N216_.w hW) (pc := 202) f_M_152 rfl (zdal_p dlC_M_operand_103 (i := 7) rfl) ?_
                                          refine zw_lconst (pc := 205) (v := Int64.ofInt 1) (by decide) (zdal_p dlC_M_operand_103 (i := 8) rfl) ?_
                                          have hri1_ := c221_
                                          refine zr_callV (hf_N216_.w hW) hf_N216_.x (pc := 206) [.int (Int32.ofInt (ze N216_ 81 6)), .long (Int64.ofInt 1)] [] l_M_308 (c_M_laysF l N216_ (hf_N216_.w hW) (ze N216_ 81 6) (ze_r N216_ 81 6).1 (ze_r N216_ 81 6).2 1 (by decide) (by decide) F_ K_ hA_ c218_ (show 0 ≤ ze N216_ 81 38 by first | with_reducible assumption | (exact zo_760 e38_N197_ e38_N216_ hr4_ r_38.1) | assumption) (show ze N216_ 81 38 ≤ 39 by first | with_reducible assumption | (exact zo_761 e38_N197_ e38_N216_ hr4_ hrb_.2.2.1 hrb_.2.2.2 r_38.2) | assumption) (show 0 ≤ (ze N216_ 81 6) by first | with_reducible assumption | assumption | omega) (show (ze N216_ 81 6) < F_ by first | with_reducible assumption | (exact zo_762 hFc_ hc_185 r6_N216_.2) | assumption) (show 0 ≤ 1 by first | with_reducible assumption | (decide) | assumption) (show 1 ≤ 999 by first | with_reducible assumption | (decide) | assumption)) rfl rfl rfl (by decide) (Nat.le_of_ble_eq_true rfl) (zdal_p dlC_M_operand_103 (i := 9) rfl) ?_
                                          rintro _ N228_ ⟨rfl, hsN228_, ⟨hp0_N228_, hp1_N228_⟩⟩
                                          have hf_N228_ : zFr [3, 4, 5, 6, 7, 8, 11, 38, 39, 41, 42, 43] [95, 100] Mz N228_ := hf_N216_.tr hsN228_ (by decide) (by decide)
                                          have e3_N228_ : ze N228_ 81 3 = ze N216_ 81 3 := hsN228_.e (by decide)
                                          have e4_N228_ : ze N228_ 81 4 = ze N216_ 81 4 := hsN228_.e (by decide)
                                          have e5_N228_ : ze N228_ 81 5 = ze N216_ 81 5 := hsN228_.e (by decide)
                                          have e6_N228_ : ze N228_ 81 6 = ze N216_ 81 6 := hsN228_.e (by decide)
                                          have e7_N228_ : ze N228_ 81 7 = ze N216_ 81 7 := hsN228_.e (by decide)
                                          have e14_N228_ : ze N228_ 81 14 = ze N216_ 81 14 := hsN228_.e (by decide)
                                          have e26_N228_ : ze N228_ 81 26 = ze N216_ 81 26 := hsN228_.e (by decide)
                                          have r38_N228_ := ze_r N228_ 81 38
                                          have r39_N228_ := ze_r N228_ 81 39
                                          have e41_N228_ : ze N228_ 81 41 = ze N216_ 81 41 := hsN228_.e (by decide)
                                          have e42_N228_ : ze N228_ 81 42 = ze N216_ 81 42 := hsN228_.e (by decide)
                                          have e43_N228_ : ze N228_ 81 43 = ze N216_ 81 43 := hsN228_.e (by decide)
                                          have c231_ : zRb b_ n_ N228_ := zRb.fr hsN228_ c219_ (by decide) (by decide)
                                          have c233_ : zRt b_ n_ N228_ := zRt.fr hsN228_ hp1_N216_ (by decide) (by decide)
                                          show zW l m_M_operand (zn Mz + 0, zw Mz + 0) N228_ 209 [some (.ref 81), none, none] [] _
                                          have hac_ := hp1_N228_
                                          have hv8_ := hv7_ hk3_
                                          rw [show ze N216_ 81 6 = znu b_ n_ (znx b_ n_ (ze Mz 81 4).toNat) by (exact zo_763 hv8_.1)] at hac_
                                          have hpv_ := zRI_pz hF27_ hri1_ (zone_fit hA_ (by (exact zo_764 hv8_.1 hv8_.2.1)) (by (exact zo_765 hFc_ hc_185 hv8_.1 hv8_.2.2)) (by (decide)) (by (decide))) (by (exact e41_N228_)) (fun i_ => hsN228_.ie (by decide) (by decide) i_) (by (exact e42_N228_)) (by (exact hp0_N228_)) hac_
                                          have hpv1_ := hpv_.1
                                          have hS_ : zrS N228_ = zrS Mz := by rw [hpv_.2.1, qzrS_N216_, qzrS_N197_]
                                          have hW_ : zrW F_ N228_ = zpu (zrG Mz) (zone (znu b_ n_ (znx b_ n_ (ze Mz 81 4).toNat)) 1) (zrW F_ Mz) := by rw [hpv_.2.2.1, qzrG_N216_, qzrG_N197_, qzrW_N216_, qzrW_N197_]
                                          have hG_ : zrG N228_ = zrG Mz := by rw [hpv_.2.2.2, qzrG_N216_, qzrG_N197_]
                                          refine zw_goto (pc := 209) (tgt := 311) (by decide) (zdal_p dlC_M_operand_103 (i := 10) rfl) ?_
                                          refine zw_aload_n (pc := 311) (n := 0) (x := 81) rfl d_M_operand_311 ?_
                                          refine zr_callV (hf_N228_.w hW) hf_N228_.x (pc := 312) [] [] l_M_183 (c_M_isGood l N228_ (hf_N228_.w hW) ) rfl rfl rfl (by decide) (Nat.le_of_ble_eq_true rfl) d_M_operand_312 ?_
                                          rintro _ N234_ ⟨v235_, rfl, ⟨hv235_a, hv235_b⟩, hsN234_, hp0_N234_⟩
                                          obtain rfl := hsN234_.eq.symm
                                          replace hp0_N234_ : ((v235_ = 1 ∧ ze N228_ 81 7 = 0) ∨ (v235_ = 0 ∧ ze N228_ 81 7 ≠ 0)) := hp0_N234_
                                          rcases hp0_N234_ with ⟨rfl, ha312_0_hp0_N234_⟩ | ⟨rfl, ha312_0_hp0_N234_⟩
                                          · skip
                                            show zW l m_M_operand (zn Mz + 0, zw Mz + 0) N228_ 315 [some (.ref 81), none, none] [.int (Int32.ofInt 1)] _
                                            refine zr_if_eq (pc := 315) (tgt := 322) ⟨(by decide), (by decide)⟩ (by decide) d_M_operand_315 (fun hc_315 => ?_) (fun hc_315 => ?_)
                                            · skip
                                              exact absurd hc_315 (by decide)
                                            · skip
                                              have hyt_ := c233_
                                              have hyx_ := hyt_.x
                                              refine zw_aload_n (pc := 318) (n := 0) (x := 81) rfl (zdal_p dlC_M_operand_105 (i := 21) rfl) ?_
                                              refine zr_callV (hf_N228_.w hW) hf_N228_.x (pc := 319) [] [] l_M_193 (c_M_goOnF l N228_ (hf_N228_.w hW) b_ n_ c231_ (show 0 ≤ ze N228_ 81 3 by first | with_reducible assumption | (exact zo_57 hyx_.2.1) | assumption) (show ze N228_ 81 3 ≤ n_ by first | with_reducible assumption | (exact zo_605 hyx_.2.2) | assumption)) rfl rfl rfl (by decide) (Nat.le_of_ble_eq_true rfl) (zdal_p dlC_M_operand_105 (i := 22) rfl) ?_
                                              rintro _ N236_ ⟨rfl, hsN236_, ⟨hp0_N236_, hp1_N236_⟩⟩
                                              have hf_N236_ : zFr [3, 4, 5, 6, 7, 8, 11, 38, 39, 41, 42, 43] [95, 100] Mz N236_ := hf_N228_.tr hsN236_ (by decide) (by decide)
                                              have r3_N236_ := ze_r N236_ 81 3
                                              have r4_N236_ := ze_r N236_ 81 4
                                              have r5_N236_ := ze_r N236_ 81 5
                                              have r6_N236_ := ze_r N236_ 81 6
                                              have e7_N236_ : ze N236_ 81 7 = ze N228_ 81 7 := hsN236_.e (by decide)
                                              have e14_N236_ : ze N236_ 81 14 = ze N228_ 81 14 := hsN236_.e (by decide)
                                              have e26_N236_ : ze N236_ 81 26 = ze N228_ 81 26 := hsN236_.e (by decide)
                                              have e38_N236_ : ze N236_ 81 38 = ze N228_ 81 38 := hsN236_.e (by decide)
                                              have e39_N236_ : ze N236_ 81 39 = ze N228_ 81 39 := hsN236_.e (by decide)
                                              have e41_N236_ : ze N236_ 81 41 = ze N228_ 81 41 := hsN236_.e (by decide)
                                              have e42_N236_ : ze N236_ 81 42 = ze N228_ 81 42 := hsN236_.e (by decide)
                                              have e43_N236_ : ze N236_ 81 43 = ze N228_ 81 43 := hsN236_.e (by decide)
                                              have qzrS_N236_ : zrS N236_ = zrS N228_ := zrS_q hsN236_ (by decide)
                                              have qzrG_N236_ : zrG N236_ = zrG N228_ := zrG_q hsN236_ (by decide)
                                              have qzrW_N236_ : zrW F_ N236_ = zrW F_ N228_ := zrW_q hsN236_ (by decide)
                                              have c241_ : zRI F_ K_ 1 N236_ := zRI.fr hsN236_ hpv1_ (by decide) (by decide)
                                              show zW l m_M_operand (zn Mz + 0, zw Mz + 0) N236_ 322 [some (.ref 81), none, none] [] _
                                              have hnn_ := hyt_.nx hp0_N236_
                                              have hpx_ : (ze N236_ 81 4).toNat = (znx b_ n_ (ze Mz 81 4).toNat) ∨ (ze N236_ 81 4).toNat = znx b_ n_ (znx b_ n_ (ze Mz 81 4).toNat) := by first | exact Or.inl (hnn_.2.trans (by rw [show ze N228_ 81 4 = ze Mz 81 4 by omega])) | exact Or.inr (hnn_.2.trans (by rw [show ze N228_ 81 4 = ze N216_ 81 4 by (exact e4_N228_), hx1_]))
                                              have hrx_ := c241_
                                              have hnx_ := znx_g (b := b_) (n := n_) (s := (ze Mz 81 4).toNat) (by (exact zo_83 ha129_1_hp0_N195_))
                                              have hny_ := znx_ge (b := b_) (n := n_) (s := (znx b_ n_ (ze Mz 81 4).toNat))
                                              have hst_ : zRea (zfs b_ n_ F_ K_ nm_) (zRst 0 F_ Mz) (zRst 1 F_ N236_) := by first | exact zRea.st (zr0_n (F := F_) (K := K_) (nm := nm_) hNO_ hk2_ hz_ (qzrS_N236_.trans hS_) (qzrW_N236_.trans hW_) (qzrG_N236_.trans hG_) (by omega) (by omega) (hnn_.2.trans (by rw [show ze N228_ 81 4 = ze Mz 81 4 by omega]))) | exact zRea.st (zr0_s (F := F_) (K := K_) (nm := nm_) hNO_ hk2n_ ⟨hk1_, hks_⟩ hz_ ⟨hk3_, by (exact zo_765 hFc_ hc_185 hv8_.1 hv8_.2.2)⟩ (qzrS_N236_.trans hS_) (qzrW_N236_.trans hW_) (qzrG_N236_.trans hG_) (by (exact zo_766 e43_N216_ e43_N228_ e43_N236_ hp0_N197_ p6_ r43_N197_.2)) (by (exact p6_)) (hnn_.2.trans (by rw [show ze N228_ 81 4 = ze N216_ 81 4 by (exact e4_N228_), hx1_]))) | exact zRea.st (zr0_w (F := F_) (K := K_) (nm := nm_) hNO_ hk2n_ hns_ hz_ hna_ hfn_ (qzrS_N236_.trans hS_) (qzrW_N236_.trans hW_) (qzrG_N236_.trans hG_) (by omega) (by omega) (hnn_.2.trans (by rw [show ze N228_ 81 4 = ze Mz 81 4 by omega])))
                                              refine zw_iconst (pc := 322) (v := Int32.ofInt 1) (by decide) d_M_operand_322 ?_
                                              exact zr_iret (pc := 323) (ty := .boolean) rfl (z_narB (by (decide))) ⟨by (exact hv194_a), by (exact hv194_b)⟩ hf_N236_ ⟨hp1_N236_, (show ((1 = 0 ∧ 1 ≤ ze N236_ 81 7 ∧ zRea (zfs b_ n_ F_ K_ nm_) (zRst 0 F_ Mz) zFt) ∨ (1 = 0 ∧ ze N236_ 81 7 = 0 ∧ zRea (zfs b_ n_ F_ K_ nm_) (zRst 0 F_ Mz) (zRst 0 F_ N236_) ∧ zRI F_ K_ 0 N236_ ∧ ze Mz 81 4 < ze N236_ 81 4 ∧ 0 ≤ ze N236_ 81 43 ∧ ze N236_ 81 43 ≤ 30) ∨ (1 = 1 ∧ 1 ≤ ze N236_ 81 7 ∧ zRea (zfs b_ n_ F_ K_ nm_) (zRst 0 F_ Mz) zFt) ∨ (1 = 1 ∧ ze N236_ 81 7 = 0 ∧ zRea (zfs b_ n_ F_ K_ nm_) (zRst 0 F_ Mz) (zRst 1 F_ N236_) ∧ zRI F_ K_ 1 N236_ ∧ ze Mz 81 4 < ze N236_ 81 4 ∧ 0 ≤ ze N236_ 81 43 ∧ ze N236_ 81 43 ≤ 30)) from Or.inr (Or.inr (Or.inr (⟨(show 1 = 1 by first | rfl | exact hst_ | exact hrx_ | omega), (show ze N236_ 81 7 = 0 by first | rfl | exact hst_ | exact hrx_ | (exact zo_610 e7_N236_ ha312_0_hp0_N234_)), (show zRea (zfs b_ n_ F_ K_ nm_) (zRst 0 F_ Mz) (zRst 1 F_ N236_) by first | rfl | exact hst_ | exact hrx_ | omega), (show zRI F_ K_ 1 N236_ by first | rfl | exact hst_ | exact hrx_ | omega), (show ze Mz 81 4 < ze N236_ 81 4 by first | rfl | exact hst_ | exact hrx_ | (exact zo_767 hnx_ hny_ hp0_N236_ r4_N236_.1 r_4.2 hpx_)), (show 0 ≤ ze N236_ 81 43 by first | rfl | exact hst_ | exact hrx_ | (exact zo_768 e43_N216_ e43_N228_ e43_N236_ hp0_N197_ p6_ r43_N197_.1)), (show ze N236_ 81 43 ≤ 30 by first | rfl | exact hst_ | exact hrx_ | (exact zo_769 e43_N216_ e43_N228_ e43_N236_ hp0_N197_ hz1_ r43_N197_.2))⟩))))⟩ d_M_operand_323
                                          · skip
                                            exfalso; (exact zo_770 e7_N228_ ha151_0_hp0_N222_ ha312_0_hp0_N234_)
                                      · skip
                                        exfalso; (exact zo_260 ha151_0_hp0_N222_ ha194_0_hp0_N226_)
                                    · skip
                                      have hrt_ := zRea.st (zr0_sf (F := F_) (K := K_) (nm := nm_) hNO_ hk2n_ ⟨hk1_, hks_⟩ (fun q_ => by have h1_ := q_.2.2; have h2_ := hv7_ q_.2.1; (exact zo_771 h2_.1 hFc_ hc_185 q_.2.2)))
                                      refine zw_aload_n (pc := 188) (n := 0) (x := 81) rfl (zdal_p dlC_M_operand_102 (i := 23) rfl) ?_
                                      refine zw_iconst (pc := 189) (v := Int32.ofInt 4) (by decide) (zdal_p dlC_M_operand_103 (i := 0) rfl) ?_
                                      refine zr_callV (hf_N216_.w hW) hf_N216_.x (pc := 190) [.int (Int32.ofInt 4)] [] l_M_190 (c_M_wrongF l N216_ (hf_N216_.w hW) 4 (by decide) (by decide) (show 1 ≤ 4 by first | with_reducible assumption | (decide) | assumption)) rfl rfl rfl (by decide) (Nat.le_of_ble_eq_true rfl) (zdal_p dlC_M_operand_103 (i := 1) rfl) ?_
                                      rintro _ N242_ ⟨rfl, hsN242_, hp0_N242_⟩
                                      replace hp0_N242_ : 1 ≤ ze N242_ 81 7 := hp0_N242_
                                      have hf_N242_ : zFr [3, 4, 5, 6, 7, 8, 11, 38, 39, 41, 42, 43] [95, 100] Mz N242_ := hf_N216_.tr hsN242_ (by decide) (by decide)
                                      have e3_N242_ : ze N242_ 81 3 = ze N216_ 81 3 := hsN242_.e (by decide)
                                      have e4_N242_ : ze N242_ 81 4 = ze N216_ 81 4 := hsN242_.e (by decide)
                                      have e5_N242_ : ze N242_ 81 5 = ze N216_ 81 5 := hsN242_.e (by decide)
                                      have e6_N242_ : ze N242_ 81 6 = ze N216_ 81 6 := hsN242_.e (by decide)
                                      have r7_N242_ := ze_r N242_ 81 7
                                      have e14_N242_ : ze N242_ 81 14 = ze N216_ 81 14 := hsN242_.e (by decide)
                                      have e26_N242_ : ze N242_ 81 26 = ze N216_ 81 26 := hsN242_.e (by decide)
                                      have e38_N242_ : ze N242_ 81 38 = ze N216_ 81 38 := hsN242_.e (by decide)
                                      have e39_N242_ : ze N242_ 81 39 = ze N216_ 81 39 := hsN242_.e (by decide)
                                      have e41_N242_ : ze N242_ 81 41 = ze N216_ 81 41 := hsN242_.e (by decide)
                                      have e42_N242_ : ze N242_ 81 42 = ze N216_ 81 42 := hsN242_.e (by decide)
                                      have e43_N242_ : ze N242_ 81 43 = ze N216_ 81 43 := hsN242_.e (by decide)
                                      have c248_ : zRt b_ n_ N242_ := zRt.fr hsN242_ hp1_N216_ (by decide) (by decide)
                                      show zW l m_M_operand (zn Mz + 0, zw Mz + 0) N242_ 193 [some (.ref 81), none, none] [] _
                                      refine zw_aload_n (pc := 193) (n := 0) (x := 81) rfl (zdal_p dlC_M_operand_103 (i := 2) rfl) ?_
                                      refine zr_callV (hf_N242_.w hW) hf_N242_.x (pc := 194) [] [] l_M_183 (c_M_isGood l N242_ (hf_N242_.w hW) ) rfl rfl rfl (by decide) (Nat.le_of_ble_eq_true rfl) (zdal_p dlC_M_operand_103 (i := 3) rfl) ?_
                                      rintro _ N249_ ⟨v250_, rfl, ⟨hv250_a, hv250_b⟩, hsN249_, hp0_N249_⟩
                                      obtain rfl := hsN249_.eq.symm
                                      replace hp0_N249_ : ((v250_ = 1 ∧ ze N242_ 81 7 = 0) ∨ (v250_ = 0 ∧ ze N242_ 81 7 ≠ 0)) := hp0_N249_
                                      rcases hp0_N249_ with ⟨rfl, ha194_0_hp0_N249_⟩ | ⟨rfl, ha194_0_hp0_N249_⟩
                                      · skip
                                        exfalso; (exact zo_281 ha194_0_hp0_N249_ hp0_N242_)
                                      · skip
                                        show zW l m_M_operand (zn Mz + 0, zw Mz + 0) N242_ 197 [some (.ref 81), none, none] [.int (Int32.ofInt 0)] _
                                        refine zr_if_eq (pc := 197) (tgt := 311) ⟨(by decide), (by decide)⟩ (by decide) (zdal_p dlC_M_operand_103 (i := 4) rfl) (fun hc_197 => ?_) (fun hc_197 => ?_)
                                        · skip
                                          refine zw_aload_n (pc := 311) (n := 0) (x := 81) rfl d_M_operand_311 ?_
                                          refine zr_callV (hf_N242_.w hW) hf_N242_.x (pc := 312) [] [] l_M_183 (c_M_isGood l N242_ (hf_N242_.w hW) ) rfl rfl rfl (by decide) (Nat.le_of_ble_eq_true rfl) d_M_operand_312 ?_
                                          rintro _ N251_ ⟨v252_, rfl, ⟨hv252_a, hv252_b⟩, hsN251_, hp0_N251_⟩
                                          obtain rfl := hsN251_.eq.symm
                                          replace hp0_N251_ : ((v252_ = 1 ∧ ze N242_ 81 7 = 0) ∨ (v252_ = 0 ∧ ze N242_ 81 7 ≠ 0)) := hp0_N251_
                                          rcases hp0_N251_ with ⟨rfl, ha312_0_hp0_N251_⟩ | ⟨rfl, ha312_0_hp0_N251_⟩
                                          · skip
                                            exfalso; (exact zo_281 ha312_0_hp0_N251_ hp0_N242_)
                                          · skip
                                            show zW l m_M_operand (zn Mz + 0, zw Mz + 0) N242_ 315 [some (.ref 81), none, none] [.int (Int32.ofInt 0)] _
                                            refine zr_if_eq (pc := 315) (tgt := 322) ⟨(by decide), (by decide)⟩ (by decide) d_M_operand_315 (fun hc_315 => ?_) (fun hc_315 => ?_)
                                            · skip
                                              refine zw_iconst (pc := 322) (v := Int32.ofInt 1) (by decide) d_M_operand_322 ?_
                                              exact zr_iret (pc := 323) (ty := .boolean) rfl (z_narB (by (decide))) ⟨by (exact hv194_a), by (exact hv194_b)⟩ hf_N242_ ⟨c248_, (show ((1 = 0 ∧ 1 ≤ ze N242_ 81 7 ∧ zRea (zfs b_ n_ F_ K_ nm_) (zRst 0 F_ Mz) zFt) ∨ (1 = 0 ∧ ze N242_ 81 7 = 0 ∧ zRea (zfs b_ n_ F_ K_ nm_) (zRst 0 F_ Mz) (zRst 0 F_ N242_) ∧ zRI F_ K_ 0 N242_ ∧ ze Mz 81 4 < ze N242_ 81 4 ∧ 0 ≤ ze N242_ 81 43 ∧ ze N242_ 81 43 ≤ 30) ∨ (1 = 1 ∧ 1 ≤ ze N242_ 81 7 ∧ zRea (zfs b_ n_ F_ K_ nm_) (zRst 0 F_ Mz) zFt) ∨ (1 = 1 ∧ ze N242_ 81 7 = 0 ∧ zRea (zfs b_ n_ F_ K_ nm_) (zRst 0 F_ Mz) (zRst 1 F_ N242_) ∧ zRI F_ K_ 1 N242_ ∧ ze Mz 81 4 < ze N242_ 81 4 ∧ 0 ≤ ze N242_ 81 43 ∧ ze N242_ 81 43 ≤ 30)) from Or.inr (Or.inr (Or.inl (⟨(show 1 = 1 by first | rfl | exact hrt_ | exact hrt2_ | omega), (show 1 ≤ ze N242_ 81 7 by first | rfl | exact hrt_ | exact hrt2_ | (exact hp0_N242_)), (show zRea (zfs b_ n_ F_ K_ nm_) (zRst 0 F_ Mz) zFt by first | rfl | exact hrt_ | exact hrt2_ | omega)⟩))))⟩ d_M_operand_323
                                            · skip
                                              exact absurd hc_315 (by decide)
                                        · skip
                                          exact absurd hc_197 (by decide)
                                · skip
                                  exfalso; (exact zo_260 ha151_0_hp0_N222_ ha171_0_hp0_N224_)
                              · skip
                                have hrt_ := zRea.st (zr0_sf (F := F_) (K := K_) (nm := nm_) hNO_ hk2n_ ⟨hk1_, hks_⟩ (fun q_ => by have h1_ := q_.2.1; (exact zo_772 h5_ q_.2.1 r5_N216_.1 r5_N216_.2 hc_162)))
                                refine zw_aload_n (pc := 165) (n := 0) (x := 81) rfl (zdal_p dlC_M_operand_102 (i := 12) rfl) ?_
                                refine zw_iconst (pc := 166) (v := Int32.ofInt 2) (by decide) (zdal_p dlC_M_operand_102 (i := 13) rfl) ?_
                                refine zr_callV (hf_N216_.w hW) hf_N216_.x (pc := 167) [.int (Int32.ofInt 2)] [] l_M_190 (c_M_wrongF l N216_ (hf_N216_.w hW) 2 (by decide) (by decide) (show 1 ≤ 2 by first | with_reducible assumption | (decide) | assumption)) rfl rfl rfl (by decide) (Nat.le_of_ble_eq_true rfl) (zdal_p dlC_M_operand_102 (i := 14) rfl) ?_
                                rintro _ N253_ ⟨rfl, hsN253_, hp0_N253_⟩
                                replace hp0_N253_ : 1 ≤ ze N253_ 81 7 := hp0_N253_
                                have hf_N253_ : zFr [3, 4, 5, 6, 7, 8, 11, 38, 39, 41, 42, 43] [95, 100] Mz N253_ := hf_N216_.tr hsN253_ (by decide) (by decide)
                                have e3_N253_ : ze N253_ 81 3 = ze N216_ 81 3 := hsN253_.e (by decide)
                                have e4_N253_ : ze N253_ 81 4 = ze N216_ 81 4 := hsN253_.e (by decide)
                                have e5_N253_ : ze N253_ 81 5 = ze N216_ 81 5 := hsN253_.e (by decide)
                                have e6_N253_ : ze N253_ 81 6 = ze N216_ 81 6 := hsN253_.e (by decide)
                                have r7_N253_ := ze_r N253_ 81 7
                                have e14_N253_ : ze N253_ 81 14 = ze N216_ 81 14 := hsN253_.e (by decide)
                                have e26_N253_ : ze N253_ 81 26 = ze N216_ 81 26 := hsN253_.e (by decide)
                                have e38_N253_ : ze N253_ 81 38 = ze N216_ 81 38 := hsN253_.e (by decide)
                                have e39_N253_ : ze N253_ 81 39 = ze N216_ 81 39 := hsN253_.e (by decide)
                                have e41_N253_ : ze N253_ 81 41 = ze N216_ 81 41 := hsN253_.e (by decide)
                                have e42_N253_ : ze N253_ 81 42 = ze N216_ 81 42 := hsN253_.e (by decide)
                                have e43_N253_ : ze N253_ 81 43 = ze N216_ 81 43 := hsN253_.e (by decide)
                                have c259_ : zRt b_ n_ N253_ := zRt.fr hsN253_ hp1_N216_ (by decide) (by decide)
                                show zW l m_M_operand (zn Mz + 0, zw Mz + 0) N253_ 170 [some (.ref 81), none, none] [] _
                                refine zw_aload_n (pc := 170) (n := 0) (x := 81) rfl (zdal_p dlC_M_operand_102 (i := 15) rfl) ?_
                                refine zr_callV (hf_N253_.w hW) hf_N253_.x (pc := 171) [] [] l_M_183 (c_M_isGood l N253_ (hf_N253_.w hW) ) rfl rfl rfl (by decide) (Nat.le_of_ble_eq_true rfl) (zdal_p dlC_M_operand_102 (i := 16) rfl) ?_
                                rintro _ N260_ ⟨v261_, rfl, ⟨hv261_a, hv261_b⟩, hsN260_, hp0_N260_⟩
                                obtain rfl := hsN260_.eq.symm
                                replace hp0_N260_ : ((v261_ = 1 ∧ ze N253_ 81 7 = 0) ∨ (v261_ = 0 ∧ ze N253_ 81 7 ≠ 0)) := hp0_N260_
                                rcases hp0_N260_ with ⟨rfl, ha171_0_hp0_N260_⟩ | ⟨rfl, ha171_0_hp0_N260_⟩
                                · skip
                                  exfalso; (exact zo_281 ha171_0_hp0_N260_ hp0_N253_)
                                · skip
                                  show zW l m_M_operand (zn Mz + 0, zw Mz + 0) N253_ 174 [some (.ref 81), none, none] [.int (Int32.ofInt 0)] _
                                  refine zr_if_eq (pc := 174) (tgt := 193) ⟨(by decide), (by decide)⟩ (by decide) (zdal_p dlC_M_operand_102 (i := 17) rfl) (fun hc_174 => ?_) (fun hc_174 => ?_)
                                  · skip
                                    refine zw_aload_n (pc := 193) (n := 0) (x := 81) rfl (zdal_p dlC_M_operand_103 (i := 2) rfl) ?_
                                    refine zr_callV (hf_N253_.w hW) hf_N253_.x (pc := 194) [] [] l_M_183 (c_M_isGood l N253_ (hf_N253_.w hW) ) rfl rfl rfl (by decide) (Nat.le_of_ble_eq_true rfl) (zdal_p dlC_M_operand_103 (i := 3) rfl) ?_
                                    rintro _ N262_ ⟨v263_, rfl, ⟨hv263_a, hv263_b⟩, hsN262_, hp0_N262_⟩
                                    obtain rfl := hsN262_.eq.symm
                                    replace hp0_N262_ : ((v263_ = 1 ∧ ze N253_ 81 7 = 0) ∨ (v263_ = 0 ∧ ze N253_ 81 7 ≠ 0)) := hp0_N262_
                                    rcases hp0_N262_ with ⟨rfl, ha194_0_hp0_N262_⟩ | ⟨rfl, ha194_0_hp0_N262_⟩
                                    · skip
                                      exfalso; (exact zo_281 ha194_0_hp0_N262_ hp0_N253_)
                                    · skip
                                      show zW l m_M_operand (zn Mz + 0, zw Mz + 0) N253_ 197 [some (.ref 81), none, none] [.int (Int32.ofInt 0)] _
                                      refine zr_if_eq (pc := 197) (tgt := 311) ⟨(by decide), (by decide)⟩ (by decide) (zdal_p dlC_M_operand_103 (i := 4) rfl) (fun hc_197 => ?_) (fun hc_197 => ?_)
                                      · skip
                                        refine zw_aload_n (pc := 311) (n := 0) (x := 81) rfl d_M_operand_311 ?_
                                        refine zr_callV (hf_N253_.w hW) hf_N253_.x (pc := 312) [] [] l_M_183 (c_M_isGood l N253_ (hf_N253_.w hW) ) rfl rfl rfl (by decide) (Nat.le_of_ble_eq_true rfl) d_M_operand_312 ?_
                                        rintro _ N264_ ⟨v265_, rfl, ⟨hv265_a, hv265_b⟩, hsN264_, hp0_N264_⟩
                                        obtain rfl := hsN264_.eq.symm
                                        replace hp0_N264_ : ((v265_ = 1 ∧ ze N253_ 81 7 = 0) ∨ (v265_ = 0 ∧ ze N253_ 81 7 ≠ 0)) := hp0_N264_
                                        rcases hp0_N264_ with ⟨rfl, ha312_0_hp0_N264_⟩ | ⟨rfl, ha312_0_hp0_N264_⟩
                                        · skip
                                          exfalso; (exact zo_281 ha312_0_hp0_N264_ hp0_N253_)
                                        · skip
                                          show zW l m_M_operand (zn Mz + 0, zw Mz + 0) N253_ 315 [some (.ref 81), none, none] [.int (Int32.ofInt 0)] _
                                          refine zr_if_eq (pc := 315) (tgt := 322) ⟨(by decide), (by decide)⟩ (by decide) d_M_operand_315 (fun hc_315 => ?_) (fun hc_315 => ?_)
                                          · skip
                                            refine zw_iconst (pc := 322) (v := Int32.ofInt 1) (by decide) d_M_operand_322 ?_
                                            exact zr_iret (pc := 323) (ty := .boolean) rfl (z_narB (by (decide))) ⟨by (exact hv194_a), by (exact hv194_b)⟩ hf_N253_ ⟨c259_, (show ((1 = 0 ∧ 1 ≤ ze N253_ 81 7 ∧ zRea (zfs b_ n_ F_ K_ nm_) (zRst 0 F_ Mz) zFt) ∨ (1 = 0 ∧ ze N253_ 81 7 = 0 ∧ zRea (zfs b_ n_ F_ K_ nm_) (zRst 0 F_ Mz) (zRst 0 F_ N253_) ∧ zRI F_ K_ 0 N253_ ∧ ze Mz 81 4 < ze N253_ 81 4 ∧ 0 ≤ ze N253_ 81 43 ∧ ze N253_ 81 43 ≤ 30) ∨ (1 = 1 ∧ 1 ≤ ze N253_ 81 7 ∧ zRea (zfs b_ n_ F_ K_ nm_) (zRst 0 F_ Mz) zFt) ∨ (1 = 1 ∧ ze N253_ 81 7 = 0 ∧ zRea (zfs b_ n_ F_ K_ nm_) (zRst 0 F_ Mz) (zRst 1 F_ N253_) ∧ zRI F_ K_ 1 N253_ ∧ ze Mz 81 4 < ze N253_ 81 4 ∧ 0 ≤ ze N253_ 81 43 ∧ ze N253_ 81 43 ≤ 30)) from Or.inr (Or.inr (Or.inl (⟨(show 1 = 1 by first | rfl | exact hrt_ | exact hrt2_ | omega), (show 1 ≤ ze N253_ 81 7 by first | rfl | exact hrt_ | exact hrt2_ | (exact hp0_N253_)), (show zRea (zfs b_ n_ F_ K_ nm_) (zRst 0 F_ Mz) zFt by first | rfl | exact hrt_ | exact hrt2_ | omega)⟩))))⟩ d_M_operand_323
                                          · skip
                                            exact absurd hc_315 (by decide)
                                      · skip
                                        exact absurd hc_197 (by decide)
                                  · skip
                                    exact absurd hc_174 (by decide)
                          · skip
                            exfalso; (exact zo_770 e7_N216_ ha136_0_hp1_N197_ ha151_0_hp0_N222_)
                      · skip
                        exfalso; (exact zo_260 ha136_0_hp1_N197_ ha140_0_hp0_N214_)
                · skip
                  have hns_ : ¬ (zkd b_ n_ (ze Mz 81 4).toNat = 1 ∧ zkey b_ n_ (ze Mz 81 4).toNat = zkw 3) := fun q_ => ha129_0_hp0_N195_ p5_ ⟨q_.1, (zke8_w q_.1 (i := 3) (by decide)).mpr q_.2⟩
                  show zW l m_M_operand (zn Mz + 0, zw Mz + 0) Mz 132 [some (.ref 81), none, none] [.int (Int32.ofInt 0)] _
                  refine zr_if_eq (pc := 132) (tgt := 212) ⟨(by decide), (by decide)⟩ (by decide) (zdal_p dlC_M_operand_101 (i := 21) rfl) (fun hc_132 => ?_) (fun hc_132 => ?_)
                  · skip
                    refine zw_aload_n (pc := 212) (n := 0) (x := 81) rfl (zdal_p dlC_M_operand_103 (i := 11) rfl) ?_
                    refine zr_callV (hf.w hW) hf.x (pc := 213) [] [] l_M_183 (c_M_isGood l Mz (hf.w hW) ) rfl rfl rfl (by decide) (Nat.le_of_ble_eq_true rfl) (zdal_p dlC_M_operand_103 (i := 12) rfl) ?_
                    rintro _ N266_ ⟨v267_, rfl, ⟨hv267_a, hv267_b⟩, hsN266_, hp0_N266_⟩
                    obtain rfl := hsN266_.eq.symm
                    replace hp0_N266_ : ((v267_ = 1 ∧ ze Mz 81 7 = 0) ∨ (v267_ = 0 ∧ ze Mz 81 7 ≠ 0)) := hp0_N266_
                    rcases hp0_N266_ with ⟨rfl, ha213_0_hp0_N266_⟩ | ⟨rfl, ha213_0_hp0_N266_⟩
                    · skip
                      show zW l m_M_operand (zn Mz + 0, zw Mz + 0) Mz 216 [some (.ref 81), none, none] [.int (Int32.ofInt 1)] _
                      refine zr_if_eq (pc := 216) (tgt := 306) ⟨(by decide), (by decide)⟩ (by decide) (zdal_p dlC_M_operand_103 (i := 13) rfl) (fun hc_216 => ?_) (fun hc_216 => ?_)
                      · skip
                        exact absurd hc_216 (by decide)
                      · skip
                        refine zw_aload_n (pc := 219) (n := 0) (x := 81) rfl (zdal_p dlC_M_operand_103 (i := 14) rfl) ?_
                        refine zr_callV (hf.w hW) hf.x (pc := 220) [] [] l_M_316 (c_M_isNameF l Mz (hf.w hW) b_ n_ p2_) rfl rfl rfl (by decide) (Nat.le_of_ble_eq_true rfl) (zdal_p dlC_M_operand_103 (i := 15) rfl) ?_
                        rintro _ N268_ ⟨v269_, rfl, ⟨hv269_a, hv269_b⟩, hsN268_, hp0_N268_⟩
                        obtain rfl := hsN268_.eq.symm
                        replace hp0_N268_ : ((v269_ = 1 ∧ zisn b_ n_ (ze Mz 81 4).toNat) ∨ (v269_ = 0 ∧ ¬ zisn b_ n_ (ze Mz 81 4).toNat)) := hp0_N268_
                        rcases hp0_N268_ with ⟨rfl, ha220_0_hp0_N268_⟩ | ⟨rfl, ha220_0_hp0_N268_⟩
                        · skip
                          have hna_ := ha220_0_hp0_N268_
                          have hk1_ : zkd b_ n_ (ze Mz 81 4).toNat = 1 := hna_.1
                          show zW l m_M_operand (zn Mz + 0, zw Mz + 0) Mz 223 [some (.ref 81), none, none] [.int (Int32.ofInt 1)] _
                          refine zr_if_eq (pc := 223) (tgt := 306) ⟨(by decide), (by decide)⟩ (by decide) (zdal_p dlC_M_operand_103 (i := 16) rfl) (fun hc_223 => ?_) (fun hc_223 => ?_)
                          · skip
                            exact absurd hc_223 (by decide)
                          · skip
                            refine zw_aload_n (pc := 226) (n := 0) (x := 81) rfl (zdal_p dlC_M_operand_103 (i := 17) rfl) ?_
                            refine zr_callV (hf.w hW) hf.x (pc := 227) [] [] l_M_319 (c_M_nameAtF l Mz (hf.w hW) F_ K_ b_ n_ nm_ p3_ p2_ (show zkd b_ n_ (ze Mz 81 4).toNat = 1 by first | with_reducible assumption | assumption | omega)) rfl rfl rfl (by decide) (Nat.le_of_ble_eq_true rfl) (zdal_p dlC_M_operand_103 (i := 18) rfl) ?_
                            rintro _ N270_ ⟨v271_, rfl, ⟨hv271_a, hv271_b⟩, hsN270_, hp0_N270_⟩
                            obtain rfl := hsN270_.eq.symm
                            replace hp0_N270_ : ((v271_ = -1 ∧ zfd nm_ (zkey b_ n_ (ze Mz 81 4).toNat) = none) ∨ (0 ≤ v271_ ∧ v271_ ≤ 7 ∧ v271_ < ze Mz 81 14 ∧ zfd nm_ (zkey b_ n_ (ze Mz 81 4).toNat) = some (zrw F_ Mz 102 (64 * v271_)) ∧ zfit F_ K_ (zrw F_ Mz 102 (64 * v271_)))) := hp0_N270_
                            rcases hp0_N270_ with ⟨rfl, ha227_0_hp0_N270_⟩ | ⟨ha227_0_hp0_N270_, ha227_1_hp0_N270_, ha227_2_hp0_N270_, ha227_3_hp0_N270_, ha227_4_hp0_N270_⟩
                            · skip
                              have hfn_ := ha227_0_hp0_N270_
                              have hrt_ := zRea.st (zr0_wn (F := F_) (K := K_) (nm := nm_) hNO_ hk2n_ hns_ hfn_)
                              show zW l m_M_operand (zn Mz + 0, zw Mz + 0) Mz 230 [some (.ref 81), none, none] [.int (Int32.ofInt ((-1)))] _
                              refine zw_istore_n (pc := 230) (i := 1) (L2 := [some (.ref 81), some (.int (Int32.ofInt ((-1)))), none]) rfl (by decide) rfl (zdal_p dlC_M_operand_103 (i := 19) rfl) ?_
                              refine zw_iload_n (pc := 231) (n := 1) (x := Int32.ofInt ((-1))) rfl (zdal_p dlC_M_operand_103 (i := 20) rfl) ?_
                              refine zw_iconst (pc := 232) (v := Int32.ofInt (-1)) (by decide) (zdal_p dlC_M_operand_103 (i := 21) rfl) ?_
                              refine zr_icmp_ne (pc := 233) (tgt := 241) ⟨(by decide), (by decide)⟩ ⟨(by decide), (by decide)⟩ (by decide) (zdal_p dlC_M_operand_103 (i := 22) rfl) (fun hc_233 => ?_) (fun hc_233 => ?_)
                              · skip
                                exact absurd hc_233 (by decide)
                              · skip
                                refine zw_aload_n (pc := 236) (n := 0) (x := 81) rfl (zdal_p dlC_M_operand_103 (i := 23) rfl) ?_
                                refine zw_iconst (pc := 237) (v := Int32.ofInt 3) (by decide) (zdal_p dlC_M_operand_104 (i := 0) rfl) ?_
                                refine zr_callV (hf.w hW) hf.x (pc := 238) [.int (Int32.ofInt 3)] [] l_M_190 (c_M_wrongF l Mz (hf.w hW) 3 (by decide) (by decide) (show 1 ≤ 3 by first | with_reducible assumption | (decide) | assumption)) rfl rfl rfl (by decide) (Nat.le_of_ble_eq_true rfl) (zdal_p dlC_M_operand_104 (i := 1) rfl) ?_
                                rintro _ N272_ ⟨rfl, hsN272_, hp0_N272_⟩
                                replace hp0_N272_ : 1 ≤ ze N272_ 81 7 := hp0_N272_
                                have hf_N272_ : zFr [3, 4, 5, 6, 7, 8, 11, 38, 39, 41, 42, 43] [95, 100] Mz N272_ := hf.tr hsN272_ (by decide) (by decide)
                                have e3_N272_ : ze N272_ 81 3 = ze Mz 81 3 := hsN272_.e (by decide)
                                have e4_N272_ : ze N272_ 81 4 = ze Mz 81 4 := hsN272_.e (by decide)
                                have e5_N272_ : ze N272_ 81 5 = ze Mz 81 5 := hsN272_.e (by decide)
                                have e6_N272_ : ze N272_ 81 6 = ze Mz 81 6 := hsN272_.e (by decide)
                                have r7_N272_ := ze_r N272_ 81 7
                                have e14_N272_ : ze N272_ 81 14 = ze Mz 81 14 := hsN272_.e (by decide)
                                have e26_N272_ : ze N272_ 81 26 = ze Mz 81 26 := hsN272_.e (by decide)
                                have e38_N272_ : ze N272_ 81 38 = ze Mz 81 38 := hsN272_.e (by decide)
                                have e39_N272_ : ze N272_ 81 39 = ze Mz 81 39 := hsN272_.e (by decide)
                                have e41_N272_ : ze N272_ 81 41 = ze Mz 81 41 := hsN272_.e (by decide)
                                have e42_N272_ : ze N272_ 81 42 = ze Mz 81 42 := hsN272_.e (by decide)
                                have e43_N272_ : ze N272_ 81 43 = ze Mz 81 43 := hsN272_.e (by decide)
                                have c276_ : zRt b_ n_ N272_ := zRt.fr hsN272_ p2_ (by decide) (by decide)
                                have c278_ : zRI F_ K_ 0 N272_ := zRI.fr hsN272_ p4_ (by decide) (by decide)
                                show zW l m_M_operand (zn Mz + 0, zw Mz + 0) N272_ 241 [some (.ref 81), some (.int (Int32.ofInt ((-1)))), none] [] _
                                refine zw_aload_n (pc := 241) (n := 0) (x := 81) rfl (zdal_p dlC_M_operand_104 (i := 2) rfl) ?_
                                refine zr_callV (hf_N272_.w hW) hf_N272_.x (pc := 242) [] [] l_M_302 (c_M_countsUnitF l N272_ (hf_N272_.w hW) F_ K_ c278_ (show 0 ≤ ze N272_ 81 7 by first | with_reducible assumption | (exact zo_564 hp0_N272_) | assumption) (show 0 ≤ ze N272_ 81 43 by first | with_reducible assumption | (exact zo_720 e43_N272_ p6_) | assumption) (show ze N272_ 81 43 ≤ 30 by first | with_reducible assumption | (exact zo_773 e43_N272_ p7_) | assumption)) rfl rfl rfl (by decide) (Nat.le_of_ble_eq_true rfl) (zdal_p dlC_M_operand_104 (i := 3) rfl) ?_
                                rintro _ N279_ ⟨rfl, hsN279_, ⟨hp0_N279_, hp1_N279_⟩⟩
                                have hf_N279_ : zFr [3, 4, 5, 6, 7, 8, 11, 38, 39, 41, 42, 43] [95, 100] Mz N279_ := hf_N272_.tr hsN279_ (by decide) (by decide)
                                have e3_N279_ : ze N279_ 81 3 = ze N272_ 81 3 := hsN279_.e (by decide)
                                have e4_N279_ : ze N279_ 81 4 = ze N272_ 81 4 := hsN279_.e (by decide)
                                have e5_N279_ : ze N279_ 81 5 = ze N272_ 81 5 := hsN279_.e (by decide)
                                have e6_N279_ : ze N279_ 81 6 = ze N272_ 81 6 := hsN279_.e (by decide)
                                have r7_N279_ := ze_r N279_ 81 7
                                have e14_N279_ : ze N279_ 81 14 = ze N272_ 81 14 := hsN279_.e (by decide)
                                have e26_N279_ : ze N279_ 81 26 = ze N272_ 81 26 := hsN279_.e (by decide)
                                have e38_N279_ : ze N279_ 81 38 = ze N272_ 81 38 := hsN279_.e (by decide)
                                have e39_N279_ : ze N279_ 81 39 = ze N272_ 81 39 := hsN279_.e (by decide)
                                have e41_N279_ : ze N279_ 81 41 = ze N272_ 81 41 := hsN279_.e (by decide)
                                have e42_N279_ : ze N279_ 81 42 = ze N272_ 81 42 := hsN279_.e (by decide)
                                have r43_N279_ := ze_r N279_ 81 43
                                have c283_ : zRt b_ n_ N279_ := zRt.fr hsN279_ c276_ (by decide) (by decide)
                                have c285_ : zRI F_ K_ 0 N279_ := zRI.fr hsN279_ c278_ (by decide) (by decide)
                                rcases hp1_N279_ with ⟨ha242_0_hp1_N279_, ha242_1_hp1_N279_⟩ | ⟨ha242_0_hp1_N279_, ha242_1_hp1_N279_, ha242_2_hp1_N279_⟩
                                · skip
                                  have hri1_ := c285_
                                  have hrt2_ : zRea (zfs b_ n_ F_ K_ nm_) (zRst 0 F_ Mz) zFt := by first | exact hrt_ | exact zRea.st (zr0_wf (F := F_) (K := K_) (nm := nm_) hNO_ hk2n_ hns_ (fun q_ => ha242_1_hp1_N279_ p5_ q_.1))
                                  show zW l m_M_operand (zn Mz + 0, zw Mz + 0) N279_ 245 [some (.ref 81), some (.int (Int32.ofInt ((-1)))), none] [] _
                                  refine zw_aload_n (pc := 245) (n := 0) (x := 81) rfl (zdal_p dlC_M_operand_104 (i := 4) rfl) ?_
                                  refine zr_callV (hf_N279_.w hW) hf_N279_.x (pc := 246) [] [] l_M_183 (c_M_isGood l N279_ (hf_N279_.w hW) ) rfl rfl rfl (by decide) (Nat.le_of_ble_eq_true rfl) (zdal_p dlC_M_operand_104 (i := 5) rfl) ?_
                                  rintro _ N286_ ⟨v287_, rfl, ⟨hv287_a, hv287_b⟩, hsN286_, hp0_N286_⟩
                                  obtain rfl := hsN286_.eq.symm
                                  replace hp0_N286_ : ((v287_ = 1 ∧ ze N279_ 81 7 = 0) ∨ (v287_ = 0 ∧ ze N279_ 81 7 ≠ 0)) := hp0_N286_
                                  rcases hp0_N286_ with ⟨rfl, ha246_0_hp0_N286_⟩ | ⟨rfl, ha246_0_hp0_N286_⟩
                                  · skip
                                    exfalso; (exact zo_609 ha242_0_hp1_N279_ ha246_0_hp0_N286_)
                                  · skip
                                    show zW l m_M_operand (zn Mz + 0, zw Mz + 0) N279_ 249 [some (.ref 81), some (.int (Int32.ofInt ((-1)))), none] [.int (Int32.ofInt 0)] _
                                    refine zr_if_eq (pc := 249) (tgt := 303) ⟨(by decide), (by decide)⟩ (by decide) (zdal_p dlC_M_operand_104 (i := 6) rfl) (fun hc_249 => ?_) (fun hc_249 => ?_)
                                    · skip
                                      refine zw_goto (pc := 303) (tgt := 311) (by decide) (zdal_p dlC_M_operand_105 (i := 14) rfl) ?_
                                      refine zw_aload_n (pc := 311) (n := 0) (x := 81) rfl d_M_operand_311 ?_
                                      refine zr_callV (hf_N279_.w hW) hf_N279_.x (pc := 312) [] [] l_M_183 (c_M_isGood l N279_ (hf_N279_.w hW) ) rfl rfl rfl (by decide) (Nat.le_of_ble_eq_true rfl) d_M_operand_312 ?_
                                      rintro _ N288_ ⟨v289_, rfl, ⟨hv289_a, hv289_b⟩, hsN288_, hp0_N288_⟩
                                      obtain rfl := hsN288_.eq.symm
                                      replace hp0_N288_ : ((v289_ = 1 ∧ ze N279_ 81 7 = 0) ∨ (v289_ = 0 ∧ ze N279_ 81 7 ≠ 0)) := hp0_N288_
                                      rcases hp0_N288_ with ⟨rfl, ha312_0_hp0_N288_⟩ | ⟨rfl, ha312_0_hp0_N288_⟩
                                      · skip
                                        exfalso; (exact zo_609 ha242_0_hp1_N279_ ha312_0_hp0_N288_)
                                      · skip
                                        show zW l m_M_operand (zn Mz + 0, zw Mz + 0) N279_ 315 [some (.ref 81), some (.int (Int32.ofInt ((-1)))), none] [.int (Int32.ofInt 0)] _
                                        refine zr_if_eq (pc := 315) (tgt := 322) ⟨(by decide), (by decide)⟩ (by decide) d_M_operand_315 (fun hc_315 => ?_) (fun hc_315 => ?_)
                                        · skip
                                          refine zw_iconst (pc := 322) (v := Int32.ofInt 1) (by decide) d_M_operand_322 ?_
                                          exact zr_iret (pc := 323) (ty := .boolean) rfl (z_narB (by (decide))) ⟨by (exact hv194_a), by (exact hv194_b)⟩ hf_N279_ ⟨c283_, (show ((1 = 0 ∧ 1 ≤ ze N279_ 81 7 ∧ zRea (zfs b_ n_ F_ K_ nm_) (zRst 0 F_ Mz) zFt) ∨ (1 = 0 ∧ ze N279_ 81 7 = 0 ∧ zRea (zfs b_ n_ F_ K_ nm_) (zRst 0 F_ Mz) (zRst 0 F_ N279_) ∧ zRI F_ K_ 0 N279_ ∧ ze Mz 81 4 < ze N279_ 81 4 ∧ 0 ≤ ze N279_ 81 43 ∧ ze N279_ 81 43 ≤ 30) ∨ (1 = 1 ∧ 1 ≤ ze N279_ 81 7 ∧ zRea (zfs b_ n_ F_ K_ nm_) (zRst 0 F_ Mz) zFt) ∨ (1 = 1 ∧ ze N279_ 81 7 = 0 ∧ zRea (zfs b_ n_ F_ K_ nm_) (zRst 0 F_ Mz) (zRst 1 F_ N279_) ∧ zRI F_ K_ 1 N279_ ∧ ze Mz 81 4 < ze N279_ 81 4 ∧ 0 ≤ ze N279_ 81 43 ∧ ze N279_ 81 43 ≤ 30)) from Or.inr (Or.inr (Or.inl (⟨(show 1 = 1 by first | rfl | exact hrt_ | exact hrt2_ | omega), (show 1 ≤ ze N279_ 81 7 by first | rfl | exact hrt_ | exact hrt2_ | (exact ha242_0_hp1_N279_)), (show zRea (zfs b_ n_ F_ K_ nm_) (zRst 0 F_ Mz) zFt by first | rfl | exact hrt_ | exact hrt2_ | omega)⟩))))⟩ d_M_operand_323
                                        · skip
                                          exact absurd hc_315 (by decide)
                                    · skip
                                      exact absurd hc_249 (by decide)
                                · skip
                                  exfalso; (exact zo_281 ha242_1_hp1_N279_ hp0_N272_)
                            · skip
                              have hw0_ := ha227_0_hp0_N270_
                              have hw1_ := ha227_1_hp0_N270_
                              have hw2_ := ha227_2_hp0_N270_
                              have hfn_ := ha227_3_hp0_N270_
                              have hfi_ := ha227_4_hp0_N270_
                              show zW l m_M_operand (zn Mz + 0, zw Mz + 0) Mz 230 [some (.ref 81), none, none] [.int (Int32.ofInt v271_)] _
                              refine zw_istore_n (pc := 230) (i := 1) (L2 := [some (.ref 81), some (.int (Int32.ofInt v271_)), none]) rfl (by decide) rfl (zdal_p dlC_M_operand_103 (i := 19) rfl) ?_
                              refine zw_iload_n (pc := 231) (n := 1) (x := Int32.ofInt v271_) rfl (zdal_p dlC_M_operand_103 (i := 20) rfl) ?_
                              refine zw_iconst (pc := 232) (v := Int32.ofInt (-1)) (by decide) (zdal_p dlC_M_operand_103 (i := 21) rfl) ?_
                              refine zr_icmp_ne (pc := 233) (tgt := 241) ⟨hv271_a, hv271_b⟩ ⟨(by decide), (by decide)⟩ (by decide) (zdal_p dlC_M_operand_103 (i := 22) rfl) (fun hc_233 => ?_) (fun hc_233 => ?_)
                              · skip
                                refine zw_aload_n (pc := 241) (n := 0) (x := 81) rfl (zdal_p dlC_M_operand_104 (i := 2) rfl) ?_
                                refine zr_callV (hf.w hW) hf.x (pc := 242) [] [] l_M_302 (c_M_countsUnitF l Mz (hf.w hW) F_ K_ p4_ (show 0 ≤ ze Mz 81 7 by first | with_reducible assumption | (exact zo_718 p5_) | assumption) (show 0 ≤ ze Mz 81 43 by first | with_reducible assumption | assumption | omega) (show ze Mz 81 43 ≤ 30 by first | with_reducible assumption | assumption | omega)) rfl rfl rfl (by decide) (Nat.le_of_ble_eq_true rfl) (zdal_p dlC_M_operand_104 (i := 3) rfl) ?_
                                rintro _ N290_ ⟨rfl, hsN290_, ⟨hp0_N290_, hp1_N290_⟩⟩
                                have hf_N290_ : zFr [3, 4, 5, 6, 7, 8, 11, 38, 39, 41, 42, 43] [95, 100] Mz N290_ := hf.tr hsN290_ (by decide) (by decide)
                                have e3_N290_ : ze N290_ 81 3 = ze Mz 81 3 := hsN290_.e (by decide)
                                have e4_N290_ : ze N290_ 81 4 = ze Mz 81 4 := hsN290_.e (by decide)
                                have e5_N290_ : ze N290_ 81 5 = ze Mz 81 5 := hsN290_.e (by decide)
                                have e6_N290_ : ze N290_ 81 6 = ze Mz 81 6 := hsN290_.e (by decide)
                                have r7_N290_ := ze_r N290_ 81 7
                                have e14_N290_ : ze N290_ 81 14 = ze Mz 81 14 := hsN290_.e (by decide)
                                have e26_N290_ : ze N290_ 81 26 = ze Mz 81 26 := hsN290_.e (by decide)
                                have e38_N290_ : ze N290_ 81 38 = ze Mz 81 38 := hsN290_.e (by decide)
                                have e39_N290_ : ze N290_ 81 39 = ze Mz 81 39 := hsN290_.e (by decide)
                                have e41_N290_ : ze N290_ 81 41 = ze Mz 81 41 := hsN290_.e (by decide)
                                have e42_N290_ : ze N290_ 81 42 = ze Mz 81 42 := hsN290_.e (by decide)
                                have r43_N290_ := ze_r N290_ 81 43
                                have qzrS_N290_ : zrS N290_ = zrS Mz := zrS_q hsN290_ (by decide)
                                have qzrG_N290_ : zrG N290_ = zrG Mz := zrG_q hsN290_ (by decide)
                                have qzrW_N290_ : zrW F_ N290_ = zrW F_ Mz := zrW_q hsN290_ (by decide)
                                have c293_ : zRb b_ n_ N290_ := zRb.fr hsN290_ p1_ (by decide) (by decide)
                                have c294_ : zRt b_ n_ N290_ := zRt.fr hsN290_ p2_ (by decide) (by decide)
                                have c296_ : zRI F_ K_ 0 N290_ := zRI.fr hsN290_ p4_ (by decide) (by decide)
                                rcases hp1_N290_ with ⟨ha242_0_hp1_N290_, ha242_1_hp1_N290_⟩ | ⟨ha242_0_hp1_N290_, ha242_1_hp1_N290_, ha242_2_hp1_N290_⟩
                                · skip
                                  have hri1_ := c296_
                                  have hrt2_ : zRea (zfs b_ n_ F_ K_ nm_) (zRst 0 F_ Mz) zFt := by first | exact hrt_ | exact zRea.st (zr0_wf (F := F_) (K := K_) (nm := nm_) hNO_ hk2n_ hns_ (fun q_ => ha242_1_hp1_N290_ p5_ q_.1))
                                  show zW l m_M_operand (zn Mz + 0, zw Mz + 0) N290_ 245 [some (.ref 81), some (.int (Int32.ofInt v271_)), none] [] _
                                  refine zw_aload_n (pc := 245) (n := 0) (x := 81) rfl (zdal_p dlC_M_operand_104 (i := 4) rfl) ?_
                                  refine zr_callV (hf_N290_.w hW) hf_N290_.x (pc := 246) [] [] l_M_183 (c_M_isGood l N290_ (hf_N290_.w hW) ) rfl rfl rfl (by decide) (Nat.le_of_ble_eq_true rfl) (zdal_p dlC_M_operand_104 (i := 5) rfl) ?_
                                  rintro _ N297_ ⟨v298_, rfl, ⟨hv298_a, hv298_b⟩, hsN297_, hp0_N297_⟩
                                  obtain rfl := hsN297_.eq.symm
                                  replace hp0_N297_ : ((v298_ = 1 ∧ ze N290_ 81 7 = 0) ∨ (v298_ = 0 ∧ ze N290_ 81 7 ≠ 0)) := hp0_N297_
                                  rcases hp0_N297_ with ⟨rfl, ha246_0_hp0_N297_⟩ | ⟨rfl, ha246_0_hp0_N297_⟩
                                  · skip
                                    exfalso; (exact zo_609 ha242_0_hp1_N290_ ha246_0_hp0_N297_)
                                  · skip
                                    show zW l m_M_operand (zn Mz + 0, zw Mz + 0) N290_ 249 [some (.ref 81), some (.int (Int32.ofInt v271_)), none] [.int (Int32.ofInt 0)] _
                                    refine zr_if_eq (pc := 249) (tgt := 303) ⟨(by decide), (by decide)⟩ (by decide) (zdal_p dlC_M_operand_104 (i := 6) rfl) (fun hc_249 => ?_) (fun hc_249 => ?_)
                                    · skip
                                      refine zw_goto (pc := 303) (tgt := 311) (by decide) (zdal_p dlC_M_operand_105 (i := 14) rfl) ?_
                                      refine zw_aload_n (pc := 311) (n := 0) (x := 81) rfl d_M_operand_311 ?_
                                      refine zr_callV (hf_N290_.w hW) hf_N290_.x (pc := 312) [] [] l_M_183 (c_M_isGood l N290_ (hf_N290_.w hW) ) rfl rfl rfl (by decide) (Nat.le_of_ble_eq_true rfl) d_M_operand_312 ?_
                                      rintro _ N299_ ⟨v300_, rfl, ⟨hv300_a, hv300_b⟩, hsN299_, hp0_N299_⟩
                                      obtain rfl := hsN299_.eq.symm
                                      replace hp0_N299_ : ((v300_ = 1 ∧ ze N290_ 81 7 = 0) ∨ (v300_ = 0 ∧ ze N290_ 81 7 ≠ 0)) := hp0_N299_
                                      rcases hp0_N299_ with ⟨rfl, ha312_0_hp0_N299_⟩ | ⟨rfl, ha312_0_hp0_N299_⟩
                                      · skip
                                        exfalso; (exact zo_609 ha242_0_hp1_N290_ ha312_0_hp0_N299_)
                                      · skip
                                        show zW l m_M_operand (zn Mz + 0, zw Mz + 0) N290_ 315 [some (.ref 81), some (.int (Int32.ofInt v271_)), none] [.int (Int32.ofInt 0)] _
                                        refine zr_if_eq (pc := 315) (tgt := 322) ⟨(by decide), (by decide)⟩ (by decide) d_M_operand_315 (fun hc_315 => ?_) (fun hc_315 => ?_)
                                        · skip
                                          refine zw_iconst (pc := 322) (v := Int32.ofInt 1) (by decide) d_M_operand_322 ?_
                                          exact zr_iret (pc := 323) (ty := .boolean) rfl (z_narB (by (decide))) ⟨by (exact hv194_a), by (exact hv194_b)⟩ hf_N290_ ⟨c294_, (show ((1 = 0 ∧ 1 ≤ ze N290_ 81 7 ∧ zRea (zfs b_ n_ F_ K_ nm_) (zRst 0 F_ Mz) zFt) ∨ (1 = 0 ∧ ze N290_ 81 7 = 0 ∧ zRea (zfs b_ n_ F_ K_ nm_) (zRst 0 F_ Mz) (zRst 0 F_ N290_) ∧ zRI F_ K_ 0 N290_ ∧ ze Mz 81 4 < ze N290_ 81 4 ∧ 0 ≤ ze N290_ 81 43 ∧ ze N290_ 81 43 ≤ 30) ∨ (1 = 1 ∧ 1 ≤ ze N290_ 81 7 ∧ zRea (zfs b_ n_ F_ K_ nm_) (zRst 0 F_ Mz) zFt) ∨ (1 = 1 ∧ ze N290_ 81 7 = 0 ∧ zRea (zfs b_ n_ F_ K_ nm_) (zRst 0 F_ Mz) (zRst 1 F_ N290_) ∧ zRI F_ K_ 1 N290_ ∧ ze Mz 81 4 < ze N290_ 81 4 ∧ 0 ≤ ze N290_ 81 43 ∧ ze N290_ 81 43 ≤ 30)) from Or.inr (Or.inr (Or.inl (⟨(show 1 = 1 by first | rfl | exact hrt_ | exact hrt2_ | omega), (show 1 ≤ ze N290_ 81 7 by first | rfl | exact hrt_ | exact hrt2_ | (exact ha242_0_hp1_N290_)), (show zRea (zfs b_ n_ F_ K_ nm_) (zRst 0 F_ Mz) zFt by first | rfl | exact hrt_ | exact hrt2_ | omega)⟩))))⟩ d_M_operand_323
                                        · skip
                                          exact absurd hc_315 (by decide)
                                    · skip
                                      exact absurd hc_249 (by decide)
                                · skip
                                  have hz_ := ha242_2_hp1_N290_
                                  have hz1_ : (ze Mz 81 43).toNat < 30 := hz_.1
                                  have hri1_ := c296_
                                  show zW l m_M_operand (zn Mz + 0, zw Mz + 0) N290_ 245 [some (.ref 81), some (.int (Int32.ofInt v271_)), none] [] _
                                  refine zw_aload_n (pc := 245) (n := 0) (x := 81) rfl (zdal_p dlC_M_operand_104 (i := 4) rfl) ?_
                                  refine zr_callV (hf_N290_.w hW) hf_N290_.x (pc := 246) [] [] l_M_183 (c_M_isGood l N290_ (hf_N290_.w hW) ) rfl rfl rfl (by decide) (Nat.le_of_ble_eq_true rfl) (zdal_p dlC_M_operand_104 (i := 5) rfl) ?_
                                  rintro _ N301_ ⟨v302_, rfl, ⟨hv302_a, hv302_b⟩, hsN301_, hp0_N301_⟩
                                  obtain rfl := hsN301_.eq.symm
                                  replace hp0_N301_ : ((v302_ = 1 ∧ ze N290_ 81 7 = 0) ∨ (v302_ = 0 ∧ ze N290_ 81 7 ≠ 0)) := hp0_N301_
                                  rcases hp0_N301_ with ⟨rfl, ha246_0_hp0_N301_⟩ | ⟨rfl, ha246_0_hp0_N301_⟩
                                  · skip
                                    show zW l m_M_operand (zn Mz + 0, zw Mz + 0) N290_ 249 [some (.ref 81), some (.int (Int32.ofInt v271_)), none] [.int (Int32.ofInt 1)] _
                                    refine zr_if_eq (pc := 249) (tgt := 303) ⟨(by decide), (by decide)⟩ (by decide) (zdal_p dlC_M_operand_104 (i := 6) rfl) (fun hc_249 => ?_) (fun hc_249 => ?_)
                                    · skip
                                      exact absurd hc_249 (by decide)
                                    · skip
                                      refine zw_iconst (pc := 252) (v := Int32.ofInt 0) (by decide) (zdal_p dlC_M_operand_104 (i := 7) rfl) ?_
                                      refine zw_istore_n (pc := 253) (i := 2) (L2 := [some (.ref 81), some (.int (Int32.ofInt v271_)), some (.int (Int32.ofInt 0))]) rfl (by decide) rfl (zdal_p dlC_M_operand_104 (i := 8) rfl) ?_
                                      have lp_254 : ∀ (n : Nat) (u303_ : Int) (hu303_a : -2147483648 ≤ u303_) (hu303_b : u303_ < 2147483648) (N304_ : zMem) (hs305_ : zFr [] [95] N290_ N304_) (i306_ : 0 ≤ u303_) (i307_ : u303_ ≤ F_) (i308_ : (∀ x : Nat, (x : Int) < 64 * ze Mz 81 38 → zg N304_ 95 x = zg Mz 95 x)) (i309_ : (∀ k : Nat, (k : Int) < u303_ → zg N304_ 95 ((64 * ze Mz 81 38).toNat + k) = zg Mz 102 ((64 * v271_).toNat + k))), (F_ - u303_).toNat < n → zW l m_M_operand (zn Mz + 0, zw Mz + 0) N304_ 254 [some (.ref 81), some (.int (Int32.ofInt v271_)), some (.int (Int32.ofInt u303_))] [] (zpI [3, 4, 5, 6, 7, 8, 11, 38, 39, 41, 42, 43] [95, 100] Mz (fun v N => zRt b_ n_ N ∧ (((v = 0 ∧ 1 ≤ ze N 81 7 ∧ zRea (zfs b_ n_ F_ K_ nm_) (zRst 0 F_ Mz) zFt) ∨ (v = 0 ∧ ze N 81 7 = 0 ∧ zRea (zfs b_ n_ F_ K_ nm_) (zRst 0 F_ Mz) (zRst 0 F_ N) ∧ zRI F_ K_ 0 N ∧ ze Mz 81 4 < ze N 81 4 ∧ 0 ≤ ze N 81 43 ∧ ze N 81 43 ≤ 30) ∨ (v = 1 ∧ 1 ≤ ze N 81 7 ∧ zRea (zfs b_ n_ F_ K_ nm_) (zRst 0 F_ Mz) zFt) ∨ (v = 1 ∧ ze N 81 7 = 0 ∧ zRea (zfs b_ n_ F_ K_ nm_) (zRst 0 F_ Mz) (zRst 1 F_ N) ∧ zRI F_ K_ 1 N ∧ ze Mz 81 4 < ze N 81 4 ∧ 0 ≤ ze N 81 43 ∧ ze N 81 43 ≤ 30))))) := by
                                        intro n
                                        induction n with
                                        | zero =>
                                          intro u303_ hu303_a hu303_b N304_ hs305_ i306_ i307_ i308_ i309_ h0
                                          exact absurd h0 (Nat.not_lt_zero _)
                                        | succ n ih_254 =>
                                          intro u303_ hu303_a hu303_b N304_ hs305_ i306_ i307_ i308_ i309_ hlt_254
                                          have hf_N304_ : zFr [3, 4, 5, 6, 7, 8, 11, 38, 39, 41, 42, 43] [95, 100] Mz N304_ := hf_N290_.tr hs305_ (by decide) (by decide)
                                          have e3_N304_ : ze N304_ 81 3 = ze N290_ 81 3 := hs305_.e (by decide)
                                          have e4_N304_ : ze N304_ 81 4 = ze N290_ 81 4 := hs305_.e (by decide)
                                          have e5_N304_ : ze N304_ 81 5 = ze N290_ 81 5 := hs305_.e (by decide)
                                          have e6_N304_ : ze N304_ 81 6 = ze N290_ 81 6 := hs305_.e (by decide)
                                          have e7_N304_ : ze N304_ 81 7 = ze N290_ 81 7 := hs305_.e (by decide)
                                          have e14_N304_ : ze N304_ 81 14 = ze N290_ 81 14 := hs305_.e (by decide)
                                          have e26_N304_ : ze N304_ 81 26 = ze N290_ 81 26 := hs305_.e (by decide)
                                          have e38_N304_ : ze N304_ 81 38 = ze N290_ 81 38 := hs305_.e (by decide)
                                          have e39_N304_ : ze N304_ 81 39 = ze N290_ 81 39 := hs305_.e (by decide)
                                          have e41_N304_ : ze N304_ 81 41 = ze N290_ 81 41 := hs305_.e (by decide)
                                          have e42_N304_ : ze N304_ 81 42 = ze N290_ 81 42 := hs305_.e (by decide)
                                          have e43_N304_ : ze N304_ 81 43 = ze N290_ 81 43 := hs305_.e (by decide)
                                          have qzr100_N304_ : zr100 N304_ = zr100 N290_ := zr100_f hs305_ (by decide)
                                          have c311_ : zRb b_ n_ N304_ := zRb.fr hs305_ c293_ (by decide) (by decide)
                                          have c312_ : zRt b_ n_ N304_ := zRt.fr hs305_ c294_ (by decide) (by decide)
                                          have hcl0_ := (show (∀ x : Nat, (x : Int) < 64 * ze Mz 81 38 → zg N304_ 95 x = zg Mz 95 x) by first | with_reducible assumption | assumption)
                                          have hcv0_ := (show (∀ k : Nat, (k : Int) < u303_ → zg N304_ 95 ((64 * ze Mz 81 38).toNat + k) = zg Mz 102 ((64 * v271_).toNat + k)) by first | with_reducible assumption | assumption)
                                          refine zw_iload_n (pc := 254) (n := 2) (x := Int32.ofInt u303_) rfl (zdal_p dlC_M_operand_104 (i := 9) rfl) ?_
                                          refine zw_aload_n (pc := 255) (n := 0) (x := 81) rfl (zdal_p dlC_M_operand_104 (i := 10) rfl) ?_
                                          refine zr_getI0 hf_N304_ hW (pc := 256) (by decide) f_M_235 rfl (zdal_p dlC_M_operand_104 (i := 11) rfl) ?_
                                          refine zr_icmp_ge (pc := 259) (tgt := 293) ⟨hu303_a, hu303_b⟩ ⟨(ze_r Mz 81 26).1, (ze_r Mz 81 26).2⟩ (by decide) (zdal_p dlC_M_operand_104 (i := 12) rfl) (fun hc_259 => ?_) (fun hc_259 => ?_)
                                          · skip
                                            refine zw_aload_n (pc := 293) (n := 0) (x := 81) rfl (zdal_p dlC_M_operand_105 (i := 8) rfl) ?_
                                            refine zw_dup (pc := 294) rfl (zdal_p dlC_M_operand_105 (i := 9) rfl) ?_
                                            refine zr_getI (hf_N304_.w hW) (pc := 295) f_M_268 rfl (zdal_p dlC_M_operand_105 (i := 10) rfl) ?_
                                            refine zw_iconst (pc := 298) (v := Int32.ofInt 1) (by decide) (zdal_p dlC_M_operand_105 (i := 11) rfl) ?_
                                            refine zr_iadd (pc := 299) (zdal_p dlC_M_operand_105 (i := 12) rfl) ?_
                                            refine zr_putI (hf_N304_.w hW) (pc := 300) f_M_268 rfl rfl ⟨by (exact zo_774 e38_N290_ e38_N304_ r_38.1), by (exact zo_775 e38_N290_ e38_N304_ hr4_ hrb_.2.2.1 hrb_.2.2.2 r_38.2)⟩ rfl rfl (zdal_p dlC_M_operand_105 (i := 13) rfl) (fun N314_ hsN314_ hvN314_ => ?_)
                                            have hf_N314_ : zFr [3, 4, 5, 6, 7, 8, 11, 38, 39, 41, 42, 43] [95, 100] Mz N314_ := hf_N304_.tr hsN314_ (by decide) (by decide)
                                            have e3_N314_ : ze N314_ 81 3 = ze N304_ 81 3 := hsN314_.e (by decide)
                                            have e4_N314_ : ze N314_ 81 4 = ze N304_ 81 4 := hsN314_.e (by decide)
                                            have e5_N314_ : ze N314_ 81 5 = ze N304_ 81 5 := hsN314_.e (by decide)
                                            have e6_N314_ : ze N314_ 81 6 = ze N304_ 81 6 := hsN314_.e (by decide)
                                            have e7_N314_ : ze N314_ 81 7 = ze N304_ 81 7 := hsN314_.e (by decide)
                                            have e14_N314_ : ze N314_ 81 14 = ze N304_ 81 14 := hsN314_.e (by decide)
                                            have e26_N314_ : ze N314_ 81 26 = ze N304_ 81 26 := hsN314_.e (by decide)
                                            have r38_N314_ := ze_r N314_ 81 38
                                            have e39_N314_ : ze N314_ 81 39 = ze N304_ 81 39 := hsN314_.e (by decide)
                                            have e41_N314_ : ze N314_ 81 41 = ze N304_ 81 41 := hsN314_.e (by decide)
                                            have e42_N314_ : ze N314_ 81 42 = ze N304_ 81 42 := hsN314_.e (by decide)
                                            have e43_N314_ : ze N314_ 81 43 = ze N304_ 81 43 := hsN314_.e (by decide)
                                            have qzr100_N314_ : zr100 N314_ = zr100 N304_ := zr100_f hsN314_ (by decide)
                                            have c316_ : zRb b_ n_ N314_ := zRb.fr hsN314_ c311_ (by decide) (by decide)
                                            have c317_ : zRt b_ n_ N314_ := zRt.fr hsN314_ c312_ (by decide) (by decide)
                                            have hpv_ := zRI_pn (Mz := Mz) (Nz := N314_) (Xz := N290_) (k := v271_) hF27_ hri1_ (by (exact zo_53 e41_N304_ e41_N314_)) (fun i_ => congrFun (qzr100_N314_.trans qzr100_N304_) i_) (by (exact zo_53 e42_N304_ e42_N314_)) (by (exact zo_776 e38_N304_ hvN314_)) (by (exact zo_53 e39_N304_ e39_N314_)) (fun x_ hx_ => ((hsN314_.jg (by decide) (by decide) x_).trans (hcl0_ x_ (by (exact zo_777 e38_N290_ hx_)))).trans (hsN290_.jg (by decide) (by decide) x_).symm) (fun k_ hk_ => by rw [show ze N290_ 81 38 = ze Mz 81 38 by (exact e38_N290_)]; exact (hsN314_.jg (by decide) (by decide) _).trans (hcv0_ k_ (by (exact zo_110 hF27_ hFc_ hc_259 hk_ i306_)))) hfi_
                                            have hpv1_ := hpv_.1
                                            have hS_ : zrS N314_ = zrS Mz := by rw [hpv_.2.1, qzrS_N290_]
                                            have hW_ : zrW F_ N314_ = zpu (zrG Mz) (zrw F_ Mz 102 (64 * v271_)) (zrW F_ Mz) := by rw [hpv_.2.2.1, qzrG_N290_, qzrW_N290_]
                                            have hG_ : zrG N314_ = zrG Mz := by rw [hpv_.2.2.2, qzrG_N290_]
                                            refine zw_goto (pc := 303) (tgt := 311) (by decide) (zdal_p dlC_M_operand_105 (i := 14) rfl) ?_
                                            refine zw_aload_n (pc := 311) (n := 0) (x := 81) rfl d_M_operand_311 ?_
                                            refine zr_callV (hf_N314_.w hW) hf_N314_.x (pc := 312) [] [] l_M_183 (c_M_isGood l N314_ (hf_N314_.w hW) ) rfl rfl rfl (by decide) (Nat.le_of_ble_eq_true rfl) d_M_operand_312 ?_
                                            rintro _ N319_ ⟨v320_, rfl, ⟨hv320_a, hv320_b⟩, hsN319_, hp0_N319_⟩
                                            obtain rfl := hsN319_.eq.symm
                                            replace hp0_N319_ : ((v320_ = 1 ∧ ze N314_ 81 7 = 0) ∨ (v320_ = 0 ∧ ze N314_ 81 7 ≠ 0)) := hp0_N319_
                                            rcases hp0_N319_ with ⟨rfl, ha312_0_hp0_N319_⟩ | ⟨rfl, ha312_0_hp0_N319_⟩
                                            · skip
                                              show zW l m_M_operand (zn Mz + 0, zw Mz + 0) N314_ 315 [some (.ref 81), some (.int (Int32.ofInt v271_)), some (.int (Int32.ofInt u303_))] [.int (Int32.ofInt 1)] _
                                              refine zr_if_eq (pc := 315) (tgt := 322) ⟨(by decide), (by decide)⟩ (by decide) d_M_operand_315 (fun hc_315 => ?_) (fun hc_315 => ?_)
                                              · skip
                                                exact absurd hc_315 (by decide)
                                              · skip
                                                have hyt_ := c317_
                                                have hyx_ := hyt_.x
                                                refine zw_aload_n (pc := 318) (n := 0) (x := 81) rfl (zdal_p dlC_M_operand_105 (i := 21) rfl) ?_
                                                refine zr_callV (hf_N314_.w hW) hf_N314_.x (pc := 319) [] [] l_M_193 (c_M_goOnF l N314_ (hf_N314_.w hW) b_ n_ c316_ (show 0 ≤ ze N314_ 81 3 by first | with_reducible assumption | (exact zo_57 hyx_.2.1) | assumption) (show ze N314_ 81 3 ≤ n_ by first | with_reducible assumption | (exact zo_605 hyx_.2.2) | assumption)) rfl rfl rfl (by decide) (Nat.le_of_ble_eq_true rfl) (zdal_p dlC_M_operand_105 (i := 22) rfl) ?_
                                                rintro _ N321_ ⟨rfl, hsN321_, ⟨hp0_N321_, hp1_N321_⟩⟩
                                                have hf_N321_ : zFr [3, 4, 5, 6, 7, 8, 11, 38, 39, 41, 42, 43] [95, 100] Mz N321_ := hf_N314_.tr hsN321_ (by decide) (by decide)
                                                have r3_N321_ := ze_r N321_ 81 3
                                                have r4_N321_ := ze_r N321_ 81 4
                                                have r5_N321_ := ze_r N321_ 81 5
                                                have r6_N321_ := ze_r N321_ 81 6
                                                have e7_N321_ : ze N321_ 81 7 = ze N314_ 81 7 := hsN321_.e (by decide)
                                                have e14_N321_ : ze N321_ 81 14 = ze N314_ 81 14 := hsN321_.e (by decide)
                                                have e26_N321_ : ze N321_ 81 26 = ze N314_ 81 26 := hsN321_.e (by decide)
                                                have e38_N321_ : ze N321_ 81 38 = ze N314_ 81 38 := hsN321_.e (by decide)
                                                have e39_N321_ : ze N321_ 81 39 = ze N314_ 81 39 := hsN321_.e (by decide)
                                                have e41_N321_ : ze N321_ 81 41 = ze N314_ 81 41 := hsN321_.e (by decide)
                                                have e42_N321_ : ze N321_ 81 42 = ze N314_ 81 42 := hsN321_.e (by decide)
                                                have e43_N321_ : ze N321_ 81 43 = ze N314_ 81 43 := hsN321_.e (by decide)
                                                have qzrS_N321_ : zrS N321_ = zrS N314_ := zrS_q hsN321_ (by decide)
                                                have qzrG_N321_ : zrG N321_ = zrG N314_ := zrG_q hsN321_ (by decide)
                                                have qzrW_N321_ : zrW F_ N321_ = zrW F_ N314_ := zrW_q hsN321_ (by decide)
                                                have c326_ : zRI F_ K_ 1 N321_ := zRI.fr hsN321_ hpv1_ (by decide) (by decide)
                                                show zW l m_M_operand (zn Mz + 0, zw Mz + 0) N321_ 322 [some (.ref 81), some (.int (Int32.ofInt v271_)), some (.int (Int32.ofInt u303_))] [] _
                                                have hnn_ := hyt_.nx hp0_N321_
                                                have hpx_ : (ze N321_ 81 4).toNat = (znx b_ n_ (ze Mz 81 4).toNat) ∨ (ze N321_ 81 4).toNat = znx b_ n_ (znx b_ n_ (ze Mz 81 4).toNat) := by first | exact Or.inl (hnn_.2.trans (by rw [show ze N314_ 81 4 = ze Mz 81 4 by (exact zo_606 e4_N290_ e4_N304_ e4_N314_ hyx_.1.1 r_4.2)])) | exact Or.inr (hnn_.2.trans (by rw [show ze N314_ 81 4 = ze N304_ 81 4 by omega, hx1_]))
                                                have hrx_ := c326_
                                                have hnx_ := znx_g (b := b_) (n := n_) (s := (ze Mz 81 4).toNat) (by (exact zo_83 hk1_))
                                                have hny_ := znx_ge (b := b_) (n := n_) (s := (znx b_ n_ (ze Mz 81 4).toNat))
                                                have hst_ : zRea (zfs b_ n_ F_ K_ nm_) (zRst 0 F_ Mz) (zRst 1 F_ N321_) := by first | exact zRea.st (zr0_n (F := F_) (K := K_) (nm := nm_) hNO_ hk2_ hz_ (qzrS_N321_.trans hS_) (qzrW_N321_.trans hW_) (qzrG_N321_.trans hG_) (by omega) (by omega) (hnn_.2.trans (by rw [show ze N314_ 81 4 = ze Mz 81 4 by omega]))) | exact zRea.st (zr0_s (F := F_) (K := K_) (nm := nm_) hNO_ hk2n_ ⟨hk1_, hks_⟩ hz_ ⟨hk3_, by omega⟩ (qzrS_N321_.trans hS_) (qzrW_N321_.trans hW_) (qzrG_N321_.trans hG_) (by omega) (by omega) (hnn_.2.trans (by rw [show ze N314_ 81 4 = ze N304_ 81 4 by omega, hx1_]))) | exact zRea.st (zr0_w (F := F_) (K := K_) (nm := nm_) hNO_ hk2n_ hns_ hz_ hna_ hfn_ (qzrS_N321_.trans hS_) (qzrW_N321_.trans hW_) (qzrG_N321_.trans hG_) (by (exact zo_766 e43_N304_ e43_N314_ e43_N321_ hp0_N290_ p6_ r43_N290_.2)) (by (exact p6_)) (hnn_.2.trans (by rw [show ze N314_ 81 4 = ze Mz 81 4 by (exact zo_606 e4_N290_ e4_N304_ e4_N314_ hyx_.1.1 r_4.2)])))
                                                refine zw_iconst (pc := 322) (v := Int32.ofInt 1) (by decide) d_M_operand_322 ?_
                                                exact zr_iret (pc := 323) (ty := .boolean) rfl (z_narB (by (decide))) ⟨by (exact hv194_a), by (exact hv194_b)⟩ hf_N321_ ⟨hp1_N321_, (show ((1 = 0 ∧ 1 ≤ ze N321_ 81 7 ∧ zRea (zfs b_ n_ F_ K_ nm_) (zRst 0 F_ Mz) zFt) ∨ (1 = 0 ∧ ze N321_ 81 7 = 0 ∧ zRea (zfs b_ n_ F_ K_ nm_) (zRst 0 F_ Mz) (zRst 0 F_ N321_) ∧ zRI F_ K_ 0 N321_ ∧ ze Mz 81 4 < ze N321_ 81 4 ∧ 0 ≤ ze N321_ 81 43 ∧ ze N321_ 81 43 ≤ 30) ∨ (1 = 1 ∧ 1 ≤ ze N321_ 81 7 ∧ zRea (zfs b_ n_ F_ K_ nm_) (zRst 0 F_ Mz) zFt) ∨ (1 = 1 ∧ ze N321_ 81 7 = 0 ∧ zRea (zfs b_ n_ F_ K_ nm_) (zRst 0 F_ Mz) (zRst 1 F_ N321_) ∧ zRI F_ K_ 1 N321_ ∧ ze Mz 81 4 < ze N321_ 81 4 ∧ 0 ≤ ze N321_ 81 43 ∧ ze N321_ 81 43 ≤ 30)) from Or.inr (Or.inr (Or.inr (⟨(show 1 = 1 by first | rfl | exact hst_ | exact hrx_ | omega), (show ze N321_ 81 7 = 0 by first | rfl | exact hst_ | exact hrx_ | (exact zo_610 e7_N321_ ha312_0_hp0_N319_)), (show zRea (zfs b_ n_ F_ K_ nm_) (zRst 0 F_ Mz) (zRst 1 F_ N321_) by first | rfl | exact hst_ | exact hrx_ | omega), (show zRI F_ K_ 1 N321_ by first | rfl | exact hst_ | exact hrx_ | omega), (show ze Mz 81 4 < ze N321_ 81 4 by first | rfl | exact hst_ | exact hrx_ | (exact zo_767 hnx_ hny_ hp0_N321_ r4_N321_.1 r_4.2 hpx_)), (show 0 ≤ ze N321_ 81 43 by first | rfl | exact hst_ | exact hrx_ | (exact zo_768 e43_N304_ e43_N314_ e43_N321_ hp0_N290_ p6_ r43_N290_.1)), (show ze N321_ 81 43 ≤ 30 by first | rfl | exact hst_ | exact hrx_ | (exact zo_769 e43_N304_ e43_N314_ e43_N321_ hp0_N290_ hz1_ r43_N290_.2))⟩))))⟩ d_M_operand_323
                                            · skip
                                              exfalso; (exact zo_778 e7_N304_ e7_N314_ ha242_0_hp1_N290_ ha312_0_hp0_N319_)
                                          · skip
                                            refine zw_aload_n (pc := 262) (n := 0) (x := 81) rfl (zdal_p dlC_M_operand_104 (i := 13) rfl) ?_
                                            refine zr_getF (r := 95) (hf_N304_.w hW) (pc := 263) f_M_56 rfl (zh_95 (hf_N304_.w hW)).1 (zdal_p dlC_M_operand_104 (i := 14) rfl) ?_
                                            refine zw_bipush (pc := 266) (v := Int32.ofInt 64) (by decide) (zdal_p dlC_M_operand_104 (i := 15) rfl) ?_
                                            refine zw_aload_n (pc := 268) (n := 0) (x := 81) rfl (zdal_p dlC_M_operand_104 (i := 16) rfl) ?_
                                            refine zr_getI (hf_N304_.w hW) (pc := 269) f_M_268 rfl (zdal_p dlC_M_operand_104 (i := 17) rfl) ?_
                                            refine zr_imul (pc := 272) (zdal_p dlC_M_operand_104 (i := 18) rfl) ?_
                                            refine zw_iload_n (pc := 273) (n := 2) (x := Int32.ofInt u303_) rfl (zdal_p dlC_M_operand_104 (i := 19) rfl) ?_
                                            refine zr_iadd (pc := 274) (zdal_p dlC_M_operand_104 (i := 20) rfl) ?_
                                            refine zw_aload_n (pc := 275) (n := 0) (x := 81) rfl (zdal_p dlC_M_operand_104 (i := 21) rfl) ?_
                                            refine zr_getF (r := 102) (hf_N304_.w hW) (pc := 276) f_M_78 rfl (zh_102 (hf_N304_.w hW)).1 (zdal_p dlC_M_operand_104 (i := 22) rfl) ?_
                                            refine zw_bipush (pc := 279) (v := Int32.ofInt 64) (by decide) (zdal_p dlC_M_operand_104 (i := 23) rfl) ?_
                                            refine zw_iload_n (pc := 281) (n := 1) (x := Int32.ofInt v271_) rfl (zdal_p dlC_M_operand_105 (i := 0) rfl) ?_
                                            refine zr_imul (pc := 282) (zdal_p dlC_M_operand_105 (i := 1) rfl) ?_
                                            refine zw_iload_n (pc := 283) (n := 2) (x := Int32.ofInt u303_) rfl (zdal_p dlC_M_operand_105 (i := 2) rfl) ?_
                                            refine zr_iadd (pc := 284) (zdal_p dlC_M_operand_105 (i := 3) rfl) ?_
                                            refine zr_laldn (pc := 285) (zh_102 (hf_N304_.w hW)).2 (by decide) (by (exact zo_529 ha227_0_hp0_N270_ i306_)) (by (exact zo_779 hF27_ ha227_1_hp0_N270_ hu303_b i307_)) (zdal_p dlC_M_operand_105 (i := 4) rfl) (fun v327_ hv327_ hv327_a hv327_b => ?_)
                                            rw [hf_N304_.jg (by decide) (by decide)] at hv327_
                                            have hx_ := hv327_
                                            refine zr_last (pc := 286) (zh_95 (hf_N304_.w hW)).2 (by decide) (by decide) (by (exact zo_780 e38_N290_ e38_N304_ hr4_ i306_ r_38.1)) (by (exact zo_781 e38_N290_ e38_N304_ hF27_ hr4_ hrb_.2.2.1 hrb_.2.2.2 hu303_b i307_ r_38.2)) (zdal_p dlC_M_operand_105 (i := 5) rfl) (fun N328_ hN328_ hsN328_ => ?_)
                                            have hf_N328_ : zFr [3, 4, 5, 6, 7, 8, 11, 38, 39, 41, 42, 43] [95, 100] Mz N328_ := hf_N304_.tr hsN328_ (by decide) (by decide)
                                            have hb0_N328_ : zFr [] [95] N290_ N328_ := hs305_.tr hsN328_ (by decide) (by decide)
                                            have e3_N328_ : ze N328_ 81 3 = ze N304_ 81 3 := hsN328_.e (by decide)
                                            have e4_N328_ : ze N328_ 81 4 = ze N304_ 81 4 := hsN328_.e (by decide)
                                            have e5_N328_ : ze N328_ 81 5 = ze N304_ 81 5 := hsN328_.e (by decide)
                                            have e6_N328_ : ze N328_ 81 6 = ze N304_ 81 6 := hsN328_.e (by decide)
                                            have e7_N328_ : ze N328_ 81 7 = ze N304_ 81 7 := hsN328_.e (by decide)
                                            have e14_N328_ : ze N328_ 81 14 = ze N304_ 81 14 := hsN328_.e (by decide)
                                            have e26_N328_ : ze N328_ 81 26 = ze N304_ 81 26 := hsN328_.e (by decide)
                                            have e38_N328_ : ze N328_ 81 38 = ze N304_ 81 38 := hsN328_.e (by decide)
                                            have e39_N328_ : ze N328_ 81 39 = ze N304_ 81 39 := hsN328_.e (by decide)
                                            have e41_N328_ : ze N328_ 81 41 = ze N304_ 81 41 := hsN328_.e (by decide)
                                            have e42_N328_ : ze N328_ 81 42 = ze N304_ 81 42 := hsN328_.e (by decide)
                                            have e43_N328_ : ze N328_ 81 43 = ze N304_ 81 43 := hsN328_.e (by decide)
                                            have hcl_ : (∀ x : Nat, (x : Int) < 64 * ze Mz 81 38 → zg N328_ 95 x = zg Mz 95 x) := fun x hx => by rw [zs_othJ hN328_ (by (exact zo_782 e38_N290_ e38_N304_ hx i306_))]; exact hcl0_ x hx
                                            have hcv_ : (∀ k : Nat, (k : Int) < u303_ + 1 → zg N328_ 95 ((64 * ze Mz 81 38).toNat + k) = zg Mz 102 ((64 * v271_).toNat + k)) := fun k hk => by by_cases g_ : (k : Int) = u303_; (rw [show (64 * ze Mz 81 38).toNat + k = (64 * ze N304_ 81 38 + u303_).toNat by (exact zo_783 e38_N290_ e38_N304_ g_ hF27_ hk hr4_ hu303_b i306_ i307_ r_38.1 r_38.2), zs_getJ hN328_ ⟨by (exact hv327_a), by (exact hv327_b)⟩, hx_, show (64 * v271_ + u303_).toNat = (64 * v271_).toNat + k by (exact zo_784 g_ hF27_ hFc_ ha227_0_hp0_N270_ hc_259 hk hu303_b i306_ i307_)]); (rw [zs_othJ hN328_ (by (exact zo_785 e38_N290_ e38_N304_ hk hr4_ r_38.1 g_))]; exact hcv0_ k (by (exact zo_130 hk g_)))
                                            refine zr_iinc (pc := 287) (i := 2) (a := u303_) (n := 1) (L2 := [some (.ref 81), some (.int (Int32.ofInt v271_)), some (.int (Int32.ofInt (u303_ + 1)))]) rfl (by decide) rfl (zdal_p dlC_M_operand_105 (i := 6) rfl) ?_
                                            refine zw_goto (pc := 290) (tgt := 254) (by decide) (zdal_p dlC_M_operand_105 (i := 7) rfl) ?_
                                            exact ih_254 (u303_ + 1) (by (exact zo_74 i306_)) (by (exact zo_75 hF27_ hu303_b i307_)) N328_ hb0_N328_ (show 0 ≤ (u303_ + 1) by first | with_reducible assumption | (exact zo_76 i306_) | assumption) (show (u303_ + 1) ≤ F_ by first | with_reducible assumption | (exact zo_77 hFc_ hc_259 hu303_b i307_) | assumption) (show (∀ x : Nat, (x : Int) < 64 * ze Mz 81 38 → zg N328_ 95 x = zg Mz 95 x) by exact hcl_) (show (∀ k : Nat, (k : Int) < (u303_ + 1) → zg N328_ 95 ((64 * ze Mz 81 38).toNat + k) = zg Mz 102 ((64 * v271_).toNat + k)) by exact hcv_) (by (exact zo_78 hFc_ hc_259 hlt_254 hu303_b i307_))
                                      exact lp_254 _ 0 (by decide) (by decide) N290_ zFr.rf (show 0 ≤ (0 : Int) by first | with_reducible assumption | (decide) | assumption) (show (0 : Int) ≤ F_ by first | with_reducible assumption | (exact zo_85) | assumption) (show (∀ x : Nat, (x : Int) < 64 * ze Mz 81 38 → zg N290_ 95 x = zg Mz 95 x) by exact fun x _ => hsN290_.jg (by decide) (by decide) x) (show (∀ k : Nat, (k : Int) < (0 : Int) → zg N290_ 95 ((64 * ze Mz 81 38).toNat + k) = zg Mz 102 ((64 * v271_).toNat + k)) by exact fun k hk => absurd hk (by (exact zo_131))) (Nat.lt_succ_self _)
                                  · skip
                                    exfalso; (exact zo_260 ha242_0_hp1_N290_ ha246_0_hp0_N301_)
                              · skip
                                exfalso; (exact zo_583 ha227_0_hp0_N270_ hc_233)
                        · skip
                          have hrt_ := zRea.st (zr0_wf (F := F_) (K := K_) (nm := nm_) hNO_ hk2n_ hns_ (fun q_ => ha220_0_hp0_N268_ q_.2))
                          show zW l m_M_operand (zn Mz + 0, zw Mz + 0) Mz 223 [some (.ref 81), none, none] [.int (Int32.ofInt 0)] _
                          refine zr_if_eq (pc := 223) (tgt := 306) ⟨(by decide), (by decide)⟩ (by decide) (zdal_p dlC_M_operand_103 (i := 16) rfl) (fun hc_223 => ?_) (fun hc_223 => ?_)
                          · skip
                            refine zw_aload_n (pc := 306) (n := 0) (x := 81) rfl (zdal_p dlC_M_operand_105 (i := 15) rfl) ?_
                            refine zw_iconst (pc := 307) (v := Int32.ofInt 2) (by decide) (zdal_p dlC_M_operand_105 (i := 16) rfl) ?_
                            refine zr_callV (hf.w hW) hf.x (pc := 308) [.int (Int32.ofInt 2)] [] l_M_190 (c_M_wrongF l Mz (hf.w hW) 2 (by decide) (by decide) (show 1 ≤ 2 by first | with_reducible assumption | (decide) | assumption)) rfl rfl rfl (by decide) (Nat.le_of_ble_eq_true rfl) (zdal_p dlC_M_operand_105 (i := 17) rfl) ?_
                            rintro _ N333_ ⟨rfl, hsN333_, hp0_N333_⟩
                            replace hp0_N333_ : 1 ≤ ze N333_ 81 7 := hp0_N333_
                            have hf_N333_ : zFr [3, 4, 5, 6, 7, 8, 11, 38, 39, 41, 42, 43] [95, 100] Mz N333_ := hf.tr hsN333_ (by decide) (by decide)
                            have e3_N333_ : ze N333_ 81 3 = ze Mz 81 3 := hsN333_.e (by decide)
                            have e4_N333_ : ze N333_ 81 4 = ze Mz 81 4 := hsN333_.e (by decide)
                            have e5_N333_ : ze N333_ 81 5 = ze Mz 81 5 := hsN333_.e (by decide)
                            have e6_N333_ : ze N333_ 81 6 = ze Mz 81 6 := hsN333_.e (by decide)
                            have r7_N333_ := ze_r N333_ 81 7
                            have e14_N333_ : ze N333_ 81 14 = ze Mz 81 14 := hsN333_.e (by decide)
                            have e26_N333_ : ze N333_ 81 26 = ze Mz 81 26 := hsN333_.e (by decide)
                            have e38_N333_ : ze N333_ 81 38 = ze Mz 81 38 := hsN333_.e (by decide)
                            have e39_N333_ : ze N333_ 81 39 = ze Mz 81 39 := hsN333_.e (by decide)
                            have e41_N333_ : ze N333_ 81 41 = ze Mz 81 41 := hsN333_.e (by decide)
                            have e42_N333_ : ze N333_ 81 42 = ze Mz 81 42 := hsN333_.e (by decide)
                            have e43_N333_ : ze N333_ 81 43 = ze Mz 81 43 := hsN333_.e (by decide)
                            have c337_ : zRt b_ n_ N333_ := zRt.fr hsN333_ p2_ (by decide) (by decide)
                            show zW l m_M_operand (zn Mz + 0, zw Mz + 0) N333_ 311 [some (.ref 81), none, none] [] _
                            refine zw_aload_n (pc := 311) (n := 0) (x := 81) rfl d_M_operand_311 ?_
                            refine zr_callV (hf_N333_.w hW) hf_N333_.x (pc := 312) [] [] l_M_183 (c_M_isGood l N333_ (hf_N333_.w hW) ) rfl rfl rfl (by decide) (Nat.le_of_ble_eq_true rfl) d_M_operand_312 ?_
                            rintro _ N340_ ⟨v341_, rfl, ⟨hv341_a, hv341_b⟩, hsN340_, hp0_N340_⟩
                            obtain rfl := hsN340_.eq.symm
                            replace hp0_N340_ : ((v341_ = 1 ∧ ze N333_ 81 7 = 0) ∨ (v341_ = 0 ∧ ze N333_ 81 7 ≠ 0)) := hp0_N340_
                            rcases hp0_N340_ with ⟨rfl, ha312_0_hp0_N340_⟩ | ⟨rfl, ha312_0_hp0_N340_⟩
                            · skip
                              exfalso; (exact zo_281 ha312_0_hp0_N340_ hp0_N333_)
                            · skip
                              show zW l m_M_operand (zn Mz + 0, zw Mz + 0) N333_ 315 [some (.ref 81), none, none] [.int (Int32.ofInt 0)] _
                              refine zr_if_eq (pc := 315) (tgt := 322) ⟨(by decide), (by decide)⟩ (by decide) d_M_operand_315 (fun hc_315 => ?_) (fun hc_315 => ?_)
                              · skip
                                refine zw_iconst (pc := 322) (v := Int32.ofInt 1) (by decide) d_M_operand_322 ?_
                                exact zr_iret (pc := 323) (ty := .boolean) rfl (z_narB (by (decide))) ⟨by (exact hv194_a), by (exact hv194_b)⟩ hf_N333_ ⟨c337_, (show ((1 = 0 ∧ 1 ≤ ze N333_ 81 7 ∧ zRea (zfs b_ n_ F_ K_ nm_) (zRst 0 F_ Mz) zFt) ∨ (1 = 0 ∧ ze N333_ 81 7 = 0 ∧ zRea (zfs b_ n_ F_ K_ nm_) (zRst 0 F_ Mz) (zRst 0 F_ N333_) ∧ zRI F_ K_ 0 N333_ ∧ ze Mz 81 4 < ze N333_ 81 4 ∧ 0 ≤ ze N333_ 81 43 ∧ ze N333_ 81 43 ≤ 30) ∨ (1 = 1 ∧ 1 ≤ ze N333_ 81 7 ∧ zRea (zfs b_ n_ F_ K_ nm_) (zRst 0 F_ Mz) zFt) ∨ (1 = 1 ∧ ze N333_ 81 7 = 0 ∧ zRea (zfs b_ n_ F_ K_ nm_) (zRst 0 F_ Mz) (zRst 1 F_ N333_) ∧ zRI F_ K_ 1 N333_ ∧ ze Mz 81 4 < ze N333_ 81 4 ∧ 0 ≤ ze N333_ 81 43 ∧ ze N333_ 81 43 ≤ 30)) from Or.inr (Or.inr (Or.inl (⟨(show 1 = 1 by first | rfl | exact hrt_ | exact hrt2_ | omega), (show 1 ≤ ze N333_ 81 7 by first | rfl | exact hrt_ | exact hrt2_ | (exact hp0_N333_)), (show zRea (zfs b_ n_ F_ K_ nm_) (zRst 0 F_ Mz) zFt by first | rfl | exact hrt_ | exact hrt2_ | omega)⟩))))⟩ d_M_operand_323
                              · skip
                                exact absurd hc_315 (by decide)
                          · skip
                            exact absurd hc_223 (by decide)
                    · skip
                      exfalso; (exact zo_260 p5_ ha213_0_hp0_N266_)
                  · skip
                    exact absurd hc_132 (by decide)
              · skip
                have hk2_ : zkd b_ n_ (ze Mz 81 4).toNat = 2 := by (exact zo_286 hc_100 t3_)
                have hv2_ := p2_.v2 hk2_
                refine zw_aload_n (pc := 103) (n := 0) (x := 81) rfl (zdal_p dlC_M_operand_101 (i := 6) rfl) ?_
                refine zr_callV (hf.w hW) hf.x (pc := 104) [] [] l_M_302 (c_M_countsUnitF l Mz (hf.w hW) F_ K_ p4_ (show 0 ≤ ze Mz 81 7 by first | with_reducible assumption | (exact zo_718 p5_) | assumption) (show 0 ≤ ze Mz 81 43 by first | with_reducible assumption | assumption | omega) (show ze Mz 81 43 ≤ 30 by first | with_reducible assumption | assumption | omega)) rfl rfl rfl (by decide) (Nat.le_of_ble_eq_true rfl) (zdal_p dlC_M_operand_101 (i := 7) rfl) ?_
                rintro _ N342_ ⟨rfl, hsN342_, ⟨hp0_N342_, hp1_N342_⟩⟩
                have hf_N342_ : zFr [3, 4, 5, 6, 7, 8, 11, 38, 39, 41, 42, 43] [95, 100] Mz N342_ := hf.tr hsN342_ (by decide) (by decide)
                have e3_N342_ : ze N342_ 81 3 = ze Mz 81 3 := hsN342_.e (by decide)
                have e4_N342_ : ze N342_ 81 4 = ze Mz 81 4 := hsN342_.e (by decide)
                have e5_N342_ : ze N342_ 81 5 = ze Mz 81 5 := hsN342_.e (by decide)
                have e6_N342_ : ze N342_ 81 6 = ze Mz 81 6 := hsN342_.e (by decide)
                have r7_N342_ := ze_r N342_ 81 7
                have e14_N342_ : ze N342_ 81 14 = ze Mz 81 14 := hsN342_.e (by decide)
                have e26_N342_ : ze N342_ 81 26 = ze Mz 81 26 := hsN342_.e (by decide)
                have e38_N342_ : ze N342_ 81 38 = ze Mz 81 38 := hsN342_.e (by decide)
                have e39_N342_ : ze N342_ 81 39 = ze Mz 81 39 := hsN342_.e (by decide)
                have e41_N342_ : ze N342_ 81 41 = ze Mz 81 41 := hsN342_.e (by decide)
                have e42_N342_ : ze N342_ 81 42 = ze Mz 81 42 := hsN342_.e (by decide)
                have r43_N342_ := ze_r N342_ 81 43
                have qzrS_N342_ : zrS N342_ = zrS Mz := zrS_q hsN342_ (by decide)
                have qzrG_N342_ : zrG N342_ = zrG Mz := zrG_q hsN342_ (by decide)
                have qzrW_N342_ : zrW F_ N342_ = zrW F_ Mz := zrW_q hsN342_ (by decide)
                have c344_ : zRmk F_ K_ N342_ := zRmk.fr hsN342_ p0_ (by decide) (by decide)
                have c345_ : zRb b_ n_ N342_ := zRb.fr hsN342_ p1_ (by decide) (by decide)
                have c346_ : zRt b_ n_ N342_ := zRt.fr hsN342_ p2_ (by decide) (by decide)
                have c348_ : zRI F_ K_ 0 N342_ := zRI.fr hsN342_ p4_ (by decide) (by decide)
                rcases hp1_N342_ with ⟨ha104_0_hp1_N342_, ha104_1_hp1_N342_⟩ | ⟨ha104_0_hp1_N342_, ha104_1_hp1_N342_, ha104_2_hp1_N342_⟩
                · skip
                  have hnz_ := ha104_1_hp1_N342_ p5_
                  have hri1_ := c348_
                  have hrt_ := zRea.st (zr0_nf (F := F_) (K := K_) (nm := nm_) hNO_ hk2_ hnz_)
                  show zW l m_M_operand (zn Mz + 0, zw Mz + 0) N342_ 107 [some (.ref 81), none, none] [] _
                  refine zw_aload_n (pc := 107) (n := 0) (x := 81) rfl (zdal_p dlC_M_operand_101 (i := 8) rfl) ?_
                  refine zw_aload_n (pc := 108) (n := 0) (x := 81) rfl (zdal_p dlC_M_operand_101 (i := 9) rfl) ?_
                  refine zr_getI0 hf_N342_ hW (pc := 109) (by decide) f_M_235 rfl (zdal_p dlC_M_operand_101 (i := 10) rfl) ?_
                  refine zw_iconst (pc := 112) (v := Int32.ofInt 1) (by decide) (zdal_p dlC_M_operand_101 (i := 11) rfl) ?_
                  refine zr_isub (pc := 113) (zdal_p dlC_M_operand_101 (i := 12) rfl) ?_
                  refine zw_aload_n (pc := 114) (n := 0) (x := 81) rfl (zdal_p dlC_M_operand_101 (i := 13) rfl) ?_
                  refine zr_getI (hf_N342_.w hW) (pc := 115) f_M_152 rfl (zdal_p dlC_M_operand_101 (i := 14) rfl) ?_
                  refine zr_i2l (pc := 118) ⟨(ze_r N342_ 81 6).1, (ze_r N342_ 81 6).2⟩ (zdal_p dlC_M_operand_101 (i := 15) rfl) ?_
                  refine zr_callV (hf_N342_.w hW) hf_N342_.x (pc := 119) [.int (Int32.ofInt ((ze Mz 81 26) - 1)), .long (Int64.ofInt (ze N342_ 81 6))] [] l_M_308 (c_M_laysF l N342_ (hf_N342_.w hW) ((ze Mz 81 26) - 1) (by (exact zo_786 hFc_ r_26.1)) (by (exact zo_601 r_26.2)) (ze N342_ 81 6) (by (exact zo_787 e6_N342_ hv2_.2.1)) (by (exact zo_788 e6_N342_ hv2_.2.2)) F_ K_ hA_ c344_ (show 0 ≤ ze N342_ 81 38 by first | with_reducible assumption | (exact zo_789 e38_N342_ hr4_ r_38.1) | assumption) (show ze N342_ 81 38 ≤ 39 by first | with_reducible assumption | (exact zo_790 e38_N342_ hr4_ hrb_.2.2.1 hrb_.2.2.2 r_38.2) | assumption) (show 0 ≤ ((ze Mz 81 26) - 1) by first | with_reducible assumption | (exact zo_791 hF1_ hFc_) | assumption) (show ((ze Mz 81 26) - 1) < F_ by first | with_reducible assumption | (exact zo_792 hFc_ r_26.2) | assumption) (show 0 ≤ (ze N342_ 81 6) by first | with_reducible assumption | (exact zo_720 e6_N342_ hv2_.2.1) | assumption) (show (ze N342_ 81 6) ≤ 999 by first | with_reducible assumption | (exact zo_793 e6_N342_ hv2_.2.2) | assumption)) rfl rfl rfl (by decide) (Nat.le_of_ble_eq_true rfl) (zdal_p dlC_M_operand_101 (i := 16) rfl) ?_
                  rintro _ N349_ ⟨rfl, hsN349_, ⟨hp0_N349_, hp1_N349_⟩⟩
                  have hf_N349_ : zFr [3, 4, 5, 6, 7, 8, 11, 38, 39, 41, 42, 43] [95, 100] Mz N349_ := hf_N342_.tr hsN349_ (by decide) (by decide)
                  have e3_N349_ : ze N349_ 81 3 = ze N342_ 81 3 := hsN349_.e (by decide)
                  have e4_N349_ : ze N349_ 81 4 = ze N342_ 81 4 := hsN349_.e (by decide)
                  have e5_N349_ : ze N349_ 81 5 = ze N342_ 81 5 := hsN349_.e (by decide)
                  have e6_N349_ : ze N349_ 81 6 = ze N342_ 81 6 := hsN349_.e (by decide)
                  have e7_N349_ : ze N349_ 81 7 = ze N342_ 81 7 := hsN349_.e (by decide)
                  have e14_N349_ : ze N349_ 81 14 = ze N342_ 81 14 := hsN349_.e (by decide)
                  have e26_N349_ : ze N349_ 81 26 = ze N342_ 81 26 := hsN349_.e (by decide)
                  have r38_N349_ := ze_r N349_ 81 38
                  have r39_N349_ := ze_r N349_ 81 39
                  have e41_N349_ : ze N349_ 81 41 = ze N342_ 81 41 := hsN349_.e (by decide)
                  have e42_N349_ : ze N349_ 81 42 = ze N342_ 81 42 := hsN349_.e (by decide)
                  have e43_N349_ : ze N349_ 81 43 = ze N342_ 81 43 := hsN349_.e (by decide)
                  have c353_ : zRt b_ n_ N349_ := zRt.fr hsN349_ c346_ (by decide) (by decide)
                  show zW l m_M_operand (zn Mz + 0, zw Mz + 0) N349_ 122 [some (.ref 81), none, none] [] _
                  have hac_ := hp1_N349_
                  rw [show ze N342_ 81 6 = znu b_ n_ (ze Mz 81 4).toNat by (exact zo_794 e6_N342_ hv2_.1), show ze Mz 81 26 - 1 = (F_ : Int) - 1 by (exact zo_795 hFc_ r_26.2)] at hac_
                  have hpv_ := zRI_pz hF27_ hri1_ (zone_fit hA_ (by (exact zo_796 hF1_)) (by (exact zo_797)) (by (exact zo_764 hv2_.1 hv2_.2.1)) (by (exact zo_798 hv2_.1 hv2_.2.2))) (by (exact e41_N349_)) (fun i_ => hsN349_.ie (by decide) (by decide) i_) (by (exact e42_N349_)) (by (exact hp0_N349_)) hac_
                  have hpv1_ := hpv_.1
                  have hS_ : zrS N349_ = zrS Mz := by rw [hpv_.2.1, qzrS_N342_]
                  have hW_ : zrW F_ N349_ = zpu (zrG Mz) (zone ((F_ : Int) - 1) (znu b_ n_ (ze Mz 81 4).toNat)) (zrW F_ Mz) := by rw [hpv_.2.2.1, qzrG_N342_, qzrW_N342_]
                  have hG_ : zrG N349_ = zrG Mz := by rw [hpv_.2.2.2, qzrG_N342_]
                  refine zw_goto (pc := 122) (tgt := 311) (by decide) (zdal_p dlC_M_operand_101 (i := 17) rfl) ?_
                  refine zw_aload_n (pc := 311) (n := 0) (x := 81) rfl d_M_operand_311 ?_
                  refine zr_callV (hf_N349_.w hW) hf_N349_.x (pc := 312) [] [] l_M_183 (c_M_isGood l N349_ (hf_N349_.w hW) ) rfl rfl rfl (by decide) (Nat.le_of_ble_eq_true rfl) d_M_operand_312 ?_
                  rintro _ N355_ ⟨v356_, rfl, ⟨hv356_a, hv356_b⟩, hsN355_, hp0_N355_⟩
                  obtain rfl := hsN355_.eq.symm
                  replace hp0_N355_ : ((v356_ = 1 ∧ ze N349_ 81 7 = 0) ∨ (v356_ = 0 ∧ ze N349_ 81 7 ≠ 0)) := hp0_N355_
                  rcases hp0_N355_ with ⟨rfl, ha312_0_hp0_N355_⟩ | ⟨rfl, ha312_0_hp0_N355_⟩
                  · skip
                    exfalso; (exact zo_799 e7_N349_ ha104_0_hp1_N342_ ha312_0_hp0_N355_)
                  · skip
                    show zW l m_M_operand (zn Mz + 0, zw Mz + 0) N349_ 315 [some (.ref 81), none, none] [.int (Int32.ofInt 0)] _
                    refine zr_if_eq (pc := 315) (tgt := 322) ⟨(by decide), (by decide)⟩ (by decide) d_M_operand_315 (fun hc_315 => ?_) (fun hc_315 => ?_)
                    · skip
                      refine zw_iconst (pc := 322) (v := Int32.ofInt 1) (by decide) d_M_operand_322 ?_
                      exact zr_iret (pc := 323) (ty := .boolean) rfl (z_narB (by (decide))) ⟨by (exact hv194_a), by (exact hv194_b)⟩ hf_N349_ ⟨c353_, (show ((1 = 0 ∧ 1 ≤ ze N349_ 81 7 ∧ zRea (zfs b_ n_ F_ K_ nm_) (zRst 0 F_ Mz) zFt) ∨ (1 = 0 ∧ ze N349_ 81 7 = 0 ∧ zRea (zfs b_ n_ F_ K_ nm_) (zRst 0 F_ Mz) (zRst 0 F_ N349_) ∧ zRI F_ K_ 0 N349_ ∧ ze Mz 81 4 < ze N349_ 81 4 ∧ 0 ≤ ze N349_ 81 43 ∧ ze N349_ 81 43 ≤ 30) ∨ (1 = 1 ∧ 1 ≤ ze N349_ 81 7 ∧ zRea (zfs b_ n_ F_ K_ nm_) (zRst 0 F_ Mz) zFt) ∨ (1 = 1 ∧ ze N349_ 81 7 = 0 ∧ zRea (zfs b_ n_ F_ K_ nm_) (zRst 0 F_ Mz) (zRst 1 F_ N349_) ∧ zRI F_ K_ 1 N349_ ∧ ze Mz 81 4 < ze N349_ 81 4 ∧ 0 ≤ ze N349_ 81 43 ∧ ze N349_ 81 43 ≤ 30)) from Or.inr (Or.inr (Or.inl (⟨(show 1 = 1 by first | rfl | exact hrt_ | exact hrt2_ | omega), (show 1 ≤ ze N349_ 81 7 by first | rfl | exact hrt_ | exact hrt2_ | (exact zo_533 e7_N349_ ha104_0_hp1_N342_)), (show zRea (zfs b_ n_ F_ K_ nm_) (zRst 0 F_ Mz) zFt by first | rfl | exact hrt_ | exact hrt2_ | omega)⟩))))⟩ d_M_operand_323
                    · skip
                      exact absurd hc_315 (by decide)
                · skip
                  have hz_ := ha104_2_hp1_N342_
                  have hz1_ : (ze Mz 81 43).toNat < 30 := hz_.1
                  have hri1_ := c348_
                  show zW l m_M_operand (zn Mz + 0, zw Mz + 0) N342_ 107 [some (.ref 81), none, none] [] _
                  refine zw_aload_n (pc := 107) (n := 0) (x := 81) rfl (zdal_p dlC_M_operand_101 (i := 8) rfl) ?_
                  refine zw_aload_n (pc := 108) (n := 0) (x := 81) rfl (zdal_p dlC_M_operand_101 (i := 9) rfl) ?_
                  refine zr_getI0 hf_N342_ hW (pc := 109) (by decide) f_M_235 rfl (zdal_p dlC_M_operand_101 (i := 10) rfl) ?_
                  refine zw_iconst (pc := 112) (v := Int32.ofInt 1) (by decide) (zdal_p dlC_M_operand_101 (i := 11) rfl) ?_
                  refine zr_isub (pc := 113) (zdal_p dlC_M_operand_101 (i := 12) rfl) ?_
                  refine zw_aload_n (pc := 114) (n := 0) (x := 81) rfl (zdal_p dlC_M_operand_101 (i := 13) rfl) ?_
                  refine zr_getI (hf_N342_.w hW) (pc := 115) f_M_152 rfl (zdal_p dlC_M_operand_101 (i := 14) rfl) ?_
                  refine zr_i2l (pc := 118) ⟨(ze_r N342_ 81 6).1, (ze_r N342_ 81 6).2⟩ (zdal_p dlC_M_operand_101 (i := 15) rfl) ?_
                  refine zr_callV (hf_N342_.w hW) hf_N342_.x (pc := 119) [.int (Int32.ofInt ((ze Mz 81 26) - 1)), .long (Int64.ofInt (ze N342_ 81 6))] [] l_M_308 (c_M_laysF l N342_ (hf_N342_.w hW) ((ze Mz 81 26) - 1) (by (exact zo_786 hFc_ r_26.1)) (by (exact zo_601 r_26.2)) (ze N342_ 81 6) (by (exact zo_787 e6_N342_ hv2_.2.1)) (by (exact zo_788 e6_N342_ hv2_.2.2)) F_ K_ hA_ c344_ (show 0 ≤ ze N342_ 81 38 by first | with_reducible assumption | (exact zo_789 e38_N342_ hr4_ r_38.1) | assumption) (show ze N342_ 81 38 ≤ 39 by first | with_reducible assumption | (exact zo_790 e38_N342_ hr4_ hrb_.2.2.1 hrb_.2.2.2 r_38.2) | assumption) (show 0 ≤ ((ze Mz 81 26) - 1) by first | with_reducible assumption | (exact zo_791 hF1_ hFc_) | assumption) (show ((ze Mz 81 26) - 1) < F_ by first | with_reducible assumption | (exact zo_792 hFc_ r_26.2) | assumption) (show 0 ≤ (ze N342_ 81 6) by first | with_reducible assumption | (exact zo_720 e6_N342_ hv2_.2.1) | assumption) (show (ze N342_ 81 6) ≤ 999 by first | with_reducible assumption | (exact zo_793 e6_N342_ hv2_.2.2) | assumption)) rfl rfl rfl (by decide) (Nat.le_of_ble_eq_true rfl) (zdal_p dlC_M_operand_101 (i := 16) rfl) ?_
                  rintro _ N357_ ⟨rfl, hsN357_, ⟨hp0_N357_, hp1_N357_⟩⟩
                  have hf_N357_ : zFr [3, 4, 5, 6, 7, 8, 11, 38, 39, 41, 42, 43] [95, 100] Mz N357_ := hf_N342_.tr hsN357_ (by decide) (by decide)
                  have e3_N357_ : ze N357_ 81 3 = ze N342_ 81 3 := hsN357_.e (by decide)
                  have e4_N357_ : ze N357_ 81 4 = ze N342_ 81 4 := hsN357_.e (by decide)
                  have e5_N357_ : ze N357_ 81 5 = ze N342_ 81 5 := hsN357_.e (by decide)
                  have e6_N357_ : ze N357_ 81 6 = ze N342_ 81 6 := hsN357_.e (by decide)
                  have e7_N357_ : ze N357_ 81 7 = ze N342_ 81 7 := hsN357_.e (by decide)
                  have e14_N357_ : ze N357_ 81 14 = ze N342_ 81 14 := hsN357_.e (by decide)
                  have e26_N357_ : ze N357_ 81 26 = ze N342_ 81 26 := hsN357_.e (by decide)
                  have r38_N357_ := ze_r N357_ 81 38
                  have r39_N357_ := ze_r N357_ 81 39
                  have e41_N357_ : ze N357_ 81 41 = ze N342_ 81 41 := hsN357_.e (by decide)
                  have e42_N357_ : ze N357_ 81 42 = ze N342_ 81 42 := hsN357_.e (by decide)
                  have e43_N357_ : ze N357_ 81 43 = ze N342_ 81 43 := hsN357_.e (by decide)
                  have c360_ : zRb b_ n_ N357_ := zRb.fr hsN357_ c345_ (by decide) (by decide)
                  have c361_ : zRt b_ n_ N357_ := zRt.fr hsN357_ c346_ (by decide) (by decide)
                  show zW l m_M_operand (zn Mz + 0, zw Mz + 0) N357_ 122 [some (.ref 81), none, none] [] _
                  have hac_ := hp1_N357_
                  rw [show ze N342_ 81 6 = znu b_ n_ (ze Mz 81 4).toNat by (exact zo_794 e6_N342_ hv2_.1), show ze Mz 81 26 - 1 = (F_ : Int) - 1 by (exact zo_795 hFc_ r_26.2)] at hac_
                  have hpv_ := zRI_pz hF27_ hri1_ (zone_fit hA_ (by (exact zo_796 hF1_)) (by (exact zo_797)) (by (exact zo_764 hv2_.1 hv2_.2.1)) (by (exact zo_798 hv2_.1 hv2_.2.2))) (by (exact e41_N357_)) (fun i_ => hsN357_.ie (by decide) (by decide) i_) (by (exact e42_N357_)) (by (exact hp0_N357_)) hac_
                  have hpv1_ := hpv_.1
                  have hS_ : zrS N357_ = zrS Mz := by rw [hpv_.2.1, qzrS_N342_]
                  have hW_ : zrW F_ N357_ = zpu (zrG Mz) (zone ((F_ : Int) - 1) (znu b_ n_ (ze Mz 81 4).toNat)) (zrW F_ Mz) := by rw [hpv_.2.2.1, qzrG_N342_, qzrW_N342_]
                  have hG_ : zrG N357_ = zrG Mz := by rw [hpv_.2.2.2, qzrG_N342_]
                  refine zw_goto (pc := 122) (tgt := 311) (by decide) (zdal_p dlC_M_operand_101 (i := 17) rfl) ?_
                  refine zw_aload_n (pc := 311) (n := 0) (x := 81) rfl d_M_operand_311 ?_
                  refine zr_callV (hf_N357_.w hW) hf_N357_.x (pc := 312) [] [] l_M_183 (c_M_isGood l N357_ (hf_N357_.w hW) ) rfl rfl rfl (by decide) (Nat.le_of_ble_eq_true rfl) d_M_operand_312 ?_
                  rintro _ N363_ ⟨v364_, rfl, ⟨hv364_a, hv364_b⟩, hsN363_, hp0_N363_⟩
                  obtain rfl := hsN363_.eq.symm
                  replace hp0_N363_ : ((v364_ = 1 ∧ ze N357_ 81 7 = 0) ∨ (v364_ = 0 ∧ ze N357_ 81 7 ≠ 0)) := hp0_N363_
                  rcases hp0_N363_ with ⟨rfl, ha312_0_hp0_N363_⟩ | ⟨rfl, ha312_0_hp0_N363_⟩
                  · skip
                    show zW l m_M_operand (zn Mz + 0, zw Mz + 0) N357_ 315 [some (.ref 81), none, none] [.int (Int32.ofInt 1)] _
                    refine zr_if_eq (pc := 315) (tgt := 322) ⟨(by decide), (by decide)⟩ (by decide) d_M_operand_315 (fun hc_315 => ?_) (fun hc_315 => ?_)
                    · skip
                      exact absurd hc_315 (by decide)
                    · skip
                      have hyt_ := c361_
                      have hyx_ := hyt_.x
                      refine zw_aload_n (pc := 318) (n := 0) (x := 81) rfl (zdal_p dlC_M_operand_105 (i := 21) rfl) ?_
                      refine zr_callV (hf_N357_.w hW) hf_N357_.x (pc := 319) [] [] l_M_193 (c_M_goOnF l N357_ (hf_N357_.w hW) b_ n_ c360_ (show 0 ≤ ze N357_ 81 3 by first | with_reducible assumption | (exact zo_57 hyx_.2.1) | assumption) (show ze N357_ 81 3 ≤ n_ by first | with_reducible assumption | (exact zo_605 hyx_.2.2) | assumption)) rfl rfl rfl (by decide) (Nat.le_of_ble_eq_true rfl) (zdal_p dlC_M_operand_105 (i := 22) rfl) ?_
                      rintro _ N365_ ⟨rfl, hsN365_, ⟨hp0_N365_, hp1_N365_⟩⟩
                      have hf_N365_ : zFr [3, 4, 5, 6, 7, 8, 11, 38, 39, 41, 42, 43] [95, 100] Mz N365_ := hf_N357_.tr hsN365_ (by decide) (by decide)
                      have r3_N365_ := ze_r N365_ 81 3
                      have r4_N365_ := ze_r N365_ 81 4
                      have r5_N365_ := ze_r N365_ 81 5
                      have r6_N365_ := ze_r N365_ 81 6
                      have e7_N365_ : ze N365_ 81 7 = ze N357_ 81 7 := hsN365_.e (by decide)
                      have e14_N365_ : ze N365_ 81 14 = ze N357_ 81 14 := hsN365_.e (by decide)
                      have e26_N365_ : ze N365_ 81 26 = ze N357_ 81 26 := hsN365_.e (by decide)
                      have e38_N365_ : ze N365_ 81 38 = ze N357_ 81 38 := hsN365_.e (by decide)
                      have e39_N365_ : ze N365_ 81 39 = ze N357_ 81 39 := hsN365_.e (by decide)
                      have e41_N365_ : ze N365_ 81 41 = ze N357_ 81 41 := hsN365_.e (by decide)
                      have e42_N365_ : ze N365_ 81 42 = ze N357_ 81 42 := hsN365_.e (by decide)
                      have e43_N365_ : ze N365_ 81 43 = ze N357_ 81 43 := hsN365_.e (by decide)
                      have qzrS_N365_ : zrS N365_ = zrS N357_ := zrS_q hsN365_ (by decide)
                      have qzrG_N365_ : zrG N365_ = zrG N357_ := zrG_q hsN365_ (by decide)
                      have qzrW_N365_ : zrW F_ N365_ = zrW F_ N357_ := zrW_q hsN365_ (by decide)
                      have c370_ : zRI F_ K_ 1 N365_ := zRI.fr hsN365_ hpv1_ (by decide) (by decide)
                      show zW l m_M_operand (zn Mz + 0, zw Mz + 0) N365_ 322 [some (.ref 81), none, none] [] _
                      have hnn_ := hyt_.nx hp0_N365_
                      have hpx_ : (ze N365_ 81 4).toNat = (znx b_ n_ (ze Mz 81 4).toNat) ∨ (ze N365_ 81 4).toNat = znx b_ n_ (znx b_ n_ (ze Mz 81 4).toNat) := by first | exact Or.inl (hnn_.2.trans (by rw [show ze N357_ 81 4 = ze Mz 81 4 by (exact zo_800 e4_N342_ e4_N357_ hyx_.1.1 r_4.2)])) | exact Or.inr (hnn_.2.trans (by rw [show ze N357_ 81 4 = ze N342_ 81 4 by omega, hx1_]))
                      have hrx_ := c370_
                      have hnx_ := znx_g (b := b_) (n := n_) (s := (ze Mz 81 4).toNat) (by (exact zo_801 hk2_))
                      have hny_ := znx_ge (b := b_) (n := n_) (s := (znx b_ n_ (ze Mz 81 4).toNat))
                      have hst_ : zRea (zfs b_ n_ F_ K_ nm_) (zRst 0 F_ Mz) (zRst 1 F_ N365_) := by first | exact zRea.st (zr0_n (F := F_) (K := K_) (nm := nm_) hNO_ hk2_ hz_ (qzrS_N365_.trans hS_) (qzrW_N365_.trans hW_) (qzrG_N365_.trans hG_) (by (exact zo_802 e43_N357_ e43_N365_ hp0_N342_ p6_ r43_N342_.2)) (by (exact p6_)) (hnn_.2.trans (by rw [show ze N357_ 81 4 = ze Mz 81 4 by (exact zo_800 e4_N342_ e4_N357_ hyx_.1.1 r_4.2)]))) | exact zRea.st (zr0_s (F := F_) (K := K_) (nm := nm_) hNO_ hk2n_ ⟨hk1_, hks_⟩ hz_ ⟨hk3_, by omega⟩ (qzrS_N365_.trans hS_) (qzrW_N365_.trans hW_) (qzrG_N365_.trans hG_) (by omega) (by omega) (hnn_.2.trans (by rw [show ze N357_ 81 4 = ze N342_ 81 4 by omega, hx1_]))) | exact zRea.st (zr0_w (F := F_) (K := K_) (nm := nm_) hNO_ hk2n_ hns_ hz_ hna_ hfn_ (qzrS_N365_.trans hS_) (qzrW_N365_.trans hW_) (qzrG_N365_.trans hG_) (by omega) (by omega) (hnn_.2.trans (by rw [show ze N357_ 81 4 = ze Mz 81 4 by omega])))
                      refine zw_iconst (pc := 322) (v := Int32.ofInt 1) (by decide) d_M_operand_322 ?_
                      exact zr_iret (pc := 323) (ty := .boolean) rfl (z_narB (by (decide))) ⟨by (exact hv194_a), by (exact hv194_b)⟩ hf_N365_ ⟨hp1_N365_, (show ((1 = 0 ∧ 1 ≤ ze N365_ 81 7 ∧ zRea (zfs b_ n_ F_ K_ nm_) (zRst 0 F_ Mz) zFt) ∨ (1 = 0 ∧ ze N365_ 81 7 = 0 ∧ zRea (zfs b_ n_ F_ K_ nm_) (zRst 0 F_ Mz) (zRst 0 F_ N365_) ∧ zRI F_ K_ 0 N365_ ∧ ze Mz 81 4 < ze N365_ 81 4 ∧ 0 ≤ ze N365_ 81 43 ∧ ze N365_ 81 43 ≤ 30) ∨ (1 = 1 ∧ 1 ≤ ze N365_ 81 7 ∧ zRea (zfs b_ n_ F_ K_ nm_) (zRst 0 F_ Mz) zFt) ∨ (1 = 1 ∧ ze N365_ 81 7 = 0 ∧ zRea (zfs b_ n_ F_ K_ nm_) (zRst 0 F_ Mz) (zRst 1 F_ N365_) ∧ zRI F_ K_ 1 N365_ ∧ ze Mz 81 4 < ze N365_ 81 4 ∧ 0 ≤ ze N365_ 81 43 ∧ ze N365_ 81 43 ≤ 30)) from Or.inr (Or.inr (Or.inr (⟨(show 1 = 1 by first | rfl | exact hst_ | exact hrx_ | omega), (show ze N365_ 81 7 = 0 by first | rfl | exact hst_ | exact hrx_ | (exact zo_610 e7_N365_ ha312_0_hp0_N363_)), (show zRea (zfs b_ n_ F_ K_ nm_) (zRst 0 F_ Mz) (zRst 1 F_ N365_) by first | rfl | exact hst_ | exact hrx_ | omega), (show zRI F_ K_ 1 N365_ by first | rfl | exact hst_ | exact hrx_ | omega), (show ze Mz 81 4 < ze N365_ 81 4 by first | rfl | exact hst_ | exact hrx_ | (exact zo_767 hnx_ hny_ hp0_N365_ r4_N365_.1 r_4.2 hpx_)), (show 0 ≤ ze N365_ 81 43 by first | rfl | exact hst_ | exact hrx_ | (exact zo_803 e43_N357_ e43_N365_ hp0_N342_ p6_ r43_N342_.1)), (show ze N365_ 81 43 ≤ 30 by first | rfl | exact hst_ | exact hrx_ | (exact zo_804 e43_N357_ e43_N365_ hp0_N342_ hz1_ r43_N342_.2))⟩))))⟩ d_M_operand_323
                  · skip
                    exfalso; (exact zo_770 e7_N357_ ha104_0_hp1_N342_ ha312_0_hp0_N363_)
          · skip
            exfalso; (exact zo_260 p5_ ha89_0_hp0_N193_)
        · skip
          exact absurd hc_15 (by decide)
